/-! 59g.enc -/
section
set_option maxHeartbeats 40000000 in
set_option maxRecDepth 100000 in
theorem f_X12_put (l : Launch) (dC : Nat → ClassId) (dI : Nat → Nat → Nat) (cI cS : ClassId) (sz : Nat) (oM : Nat) (mT : Nat) (mS : Nat) (mX : Nat) (mL : Nat) (mB : Nat) (mD : Nat) (m1 : Nat) (m2 : Nat) (mR : Nat) (x1 : Nat) (x2 : Nat) (x3 : Nat) (mH : Nat) (mY : Nat) (mE : Nat) (mW : Nat) (mO : Nat) (y1 : Nat) (y2 : Nat) (y3 : Nat) (y4 : Nat) (mZ : Nat) (zt : Int32) (zp : Int32) (zf : Int32) (zh : Int32) (zr : Int32) (zc : Int32) (zy : Int32) (za : Int32) (zb : Int32) (zs : Int32) (zq : Int32) (zw : Int32) (ze : Int32) (zn : Int32) (zm : Int32) (zl : Int32) (zk : Int32) (zd : Int32) (eY : Nat → Int32) (v : Int32) (g_zt : 0 ≤ zt.toInt ∧ zt.toInt ≤ 900) (g_zp : 0 ≤ zp.toInt ∧ zp.toInt ≤ 20) (g_zf : 0 ≤ zf.toInt ∧ zf.toInt ≤ 19) (g_zh : 0 ≤ zh.toInt ∧ zh.toInt ≤ 6) (g_zr : 0 ≤ zr.toInt ∧ zr.toInt ≤ 258) (g_zc : 0 ≤ zc.toInt ∧ zc.toInt ≤ 300) (g_zy : 0 ≤ zy.toInt ∧ zy.toInt ≤ 65536) (g_za : 0 ≤ za.toInt ∧ za.toInt ≤ 5) (g_zb : 0 ≤ zb.toInt ∧ zb.toInt ≤ 5) (g_zs : 0 ≤ zs.toInt ∧ zs.toInt ≤ 2000000) (g_zq : -1 ≤ zq.toInt ∧ zq.toInt ≤ 2000000) (g_zn : 0 ≤ zn.toInt ∧ zn.toInt ≤ 2600) (g_zm : 0 ≤ zm.toInt ∧ zm.toInt ≤ 2600) (g_zk : 0 ≤ zk.toInt ∧ zk.toInt ≤ 300) (g_eY : rg 0 255 eY) (g_v : 0 ≤ v.toInt ∧ v.toInt ≤ 255) (hzn : zn.toInt ≤ 2599) : kMv l yX12_put wsX12_put ({ frames := 0, cells := 0, slots := 0, locals := 0 } : Room) [.ref oM, .int v] sz (dC, dI) vwCl [(cI, .int), (cS, .short)] [(oM, .inr (12, [.ref mT, .int zt, .ref mS, .ref mX, .int zp, .int zf, .ref mL, .ref mB, .ref mD, .ref m1, .ref m2, .int zh, .ref mR, .int zr, .ref x1, .ref x2, .ref x3, .int zc, .ref mH, .int zy, .int za, .int zb, .int zs, .int zq, .int zw, .int ze, .ref mY, .int zn, .ref mE, .int zm, .int zl, .ref mW, .int zk, .ref mO, .int zd, .ref y1, .ref y2, .ref y3, .ref y4, .ref mZ])), (mY, .inl (cI, 2600, .inl eY))] (fun _ => True) 0 0 (fun (A : Nat → Prop) (hh9 : Heap) => ∀ PZ9 : Prop, (∀ (zn' : Int32) (eY' : Nat → Int32), kPD (dC, dI) vwCl A [(oM, .inr (12, [.ref mT, .int zt, .ref mS, .ref mX, .int zp, .int zf, .ref mL, .ref mB, .ref mD, .ref m1, .ref m2, .int zh, .ref mR, .int zr, .ref x1, .ref x2, .ref x3, .int zc, .ref mH, .int zy, .int za, .int zb, .int zs, .int zq, .int zw, .int ze, .ref mY, .int zn', .ref mE, .int zm, .int zl, .ref mW, .int zk, .ref mO, .int zd, .ref y1, .ref y2, .ref y3, .ref y4, .ref mZ])), (mY, .inl (cI, 2600, .inl eY'))] hh9 → (0 ≤ zn'.toInt ∧ zn'.toInt ≤ 2600) → (rg 0 255 eY') → (zn'.toInt = zn.toInt + 1) → (eY' = upd eY zn.toNatClampNeg v) → PZ9) → PZ9) := by
  refine kMv_of (cc := cX12_put) (maxL := 2) (ret := none) (lv := [(0, .ref oM), (1, .int v)]) (by decide +kernel) rfl rfl (Nat.le_of_ble_eq_true rfl) ?_
  intro p e s m below meth c A QQ ls hx hb hr hts hml hown hlocks hA hQQ hK hX hP hD hS hl
  have hown : s.vm.findClass RX12 = some m.cls := hown
  have hcf := k_cf hx hb hml hown hts
  have in_X12 : ∀ w ∈ wsX120, w ∈ wsX12_put := fun _ h => List.mem_cons_of_mem _ (List.mem_append_right _ (h))
  replace g_zt := hid g_zt
  replace g_zp := hid g_zp
  replace g_zf := hid g_zf
  replace g_zh := hid g_zh
  replace g_zr := hid g_zr
  replace g_zc := hid g_zc
  replace g_zy := hid g_zy
  replace g_za := hid g_za
  replace g_zb := hid g_zb
  replace g_zs := hid g_zs
  replace g_zq := hid g_zq
  replace g_zm := hid g_zm
  replace g_zk := hid g_zk
  refine lv_aload_n hx hb dX12_put_0 rfl (lv_at hl 0 rfl) ?_
  refine va_get (D := (dC, dI)) (ci := 12) (v := .ref mY) (C := RX12) (T := TX12) (N := 40) hx hb hts in_X12 hown hK hP 0 rfl rfl 26 (Nat.le_of_ble_eq_true rfl) (hts (.fieldLink RX12 58 "TextMenderModel" "bytes" "[I") (List.mem_of_getElem? (i := 1) rfl)) (fun _ h9 => h9) rfl dX12_put_1 ?_
  refine lv_aload_n hx hb dX12_put_4 rfl (lv_at hl 0 rfl) ?_
  refine va_get (D := (dC, dI)) (ci := 12) (v := .int zn) (C := RX12) (T := TX12) (N := 40) hx hb hts in_X12 hown hK hP 0 rfl rfl 27 (Nat.le_of_ble_eq_true rfl) (hts (.fieldLink RX12 91 "TextMenderModel" "byteMany" "I") (List.mem_of_getElem? (i := 2) rfl)) (fun _ h9 => h9) rfl dX12_put_5 ?_
  refine lv_iload_n hx hb dX12_put_8 rfl (lv_at hl 1 rfl) ?_
  obtain ⟨f_1, ef_1⟩ : ∃ g : Nat → Int32, g = upd eY (zn : Int32).toNatClampNeg v := ⟨_, rfl⟩
  refine va_iast hx hb hK hP hD hS 1 0 rfl rfl (v_in (by omega)) dX12_put_9 (kWf (g := f_1) (F := fun f_1 => [(oM, .inr (12, [.ref mT, .int zt, .ref mS, .ref mX, .int zp, .int zf, .ref mL, .ref mB, .ref mD, .ref m1, .ref m2, .int zh, .ref mR, .int zr, .ref x1, .ref x2, .ref x3, .int zc, .ref mH, .int zy, .int za, .int zb, .int zs, .int zq, .int zw, .int ze, .ref mY, .int zn, .ref mE, .int zm, .int zl, .ref mW, .int zk, .ref mO, .int zd, .ref y1, .ref y2, .ref y3, .ref y4, .ref mZ])), (mY, .inl (cI, 2600, .inl f_1))]) ef_1 rfl (fun H locs hPn hDn hSn => ?_))
  clear hP hD hS
  have hP := hPn
  have hD := hDn
  have hS := hSn
  clear hPn hDn hSn
  have g_f1 : rg 0 255 f_1 := rg_upd ef_1 g_eY (by omega)
  refine lv_aload_n hx hb dX12_put_10 rfl (lv_at hl 0 rfl) ?_
  refine lv_dup hx hb dX12_put_11 rfl ?_
  refine va_get (D := (dC, dI)) (ci := 12) (v := .int zn) (C := RX12) (T := TX12) (N := 40) hx hb hts in_X12 hown hK hP 0 rfl rfl 27 (Nat.le_of_ble_eq_true rfl) (hts (.fieldLink RX12 91 "TextMenderModel" "byteMany" "I") (List.mem_of_getElem? (i := 2) rfl)) (fun _ h9 => h9) rfl dX12_put_12 ?_
  refine lv_iconst (v := 1) hx hb dX12_put_15 (by decide) ?_
  refine lv_iadd hx hb dX12_put_16 ?_
  refine lv_topi (fun x_2 ex_2 => ?_)
  have tx_2 : x_2.toInt = zn.toInt + 1 := v_addR (l2 := 1) (h2 := 1) ex_2 g_zn (by decide) (by decide) (by decide)
  refine va_put (D := (dC, dI)) (ci := 12) (v := .int x_2) (ty := .int) (C := RX12) (T := TX12) (N := 40) hx hb hts in_X12 tyX12 tyX12_ok nmX12 hown hK hP hD hS 0 rfl rfl 27 (Nat.le_of_ble_eq_true rfl) (hts (.fieldLink RX12 91 "TextMenderModel" "byteMany" "I") (List.mem_of_getElem? (i := 2) rfl)) (fun _ h9 => h9) rfl (tyX12_ok 27 (Nat.le_of_ble_eq_true rfl)) rfl rfl (Nat.le_of_ble_eq_true rfl) dX12_put_17 (kW (wn := [(oM, .inr (12, [.ref mT, .int zt, .ref mS, .ref mX, .int zp, .int zf, .ref mL, .ref mB, .ref mD, .ref m1, .ref m2, .int zh, .ref mR, .int zr, .ref x1, .ref x2, .ref x3, .int zc, .ref mH, .int zy, .int za, .int zb, .int zs, .int zq, .int zw, .int ze, .ref mY, .int x_2, .ref mE, .int zm, .int zl, .ref mW, .int zk, .ref mO, .int zd, .ref y1, .ref y2, .ref y3, .ref y4, .ref mZ])), (mY, .inl (cI, 2600, .inl f_1))]) rfl (fun H locs hPn hDn hSn => ?_))
  clear hP hD hS
  have hP := hPn
  have hD := hDn
  have hS := hSn
  clear hPn hDn hSn
  exact kl_v hQQ hx hb hr hlocks hS dX12_put_20 (fun PZ9 kZ9 => kZ9 x_2 f_1 (⟨hP, hD⟩) (by omega) (g_f1) (by show x_2.toInt = zn.toInt + 1; omega) (ef_1))

set_option maxHeartbeats 40000000 in
set_option maxRecDepth 100000 in
theorem f_X12_writeLetter (l : Launch) (dC : Nat → ClassId) (dI : Nat → Nat → Nat) (cI cS : ClassId) (sz : Nat) (oM : Nat) (mT : Nat) (mS : Nat) (mX : Nat) (mL : Nat) (mB : Nat) (mD : Nat) (m1 : Nat) (m2 : Nat) (mR : Nat) (x1 : Nat) (x2 : Nat) (x3 : Nat) (mH : Nat) (mY : Nat) (mE : Nat) (mW : Nat) (mO : Nat) (y1 : Nat) (y2 : Nat) (y3 : Nat) (y4 : Nat) (mZ : Nat) (zt : Int32) (zp : Int32) (zf : Int32) (zh : Int32) (zr : Int32) (zc : Int32) (zy : Int32) (za : Int32) (zb : Int32) (zs : Int32) (zq : Int32) (zw : Int32) (ze : Int32) (zn : Int32) (zm : Int32) (zl : Int32) (zk : Int32) (zd : Int32) (eY : Nat → Int32) (eB : Nat → Int32) (cd : Int32) (x : Int32) (g_zt : 0 ≤ zt.toInt ∧ zt.toInt ≤ 900) (g_zp : 0 ≤ zp.toInt ∧ zp.toInt ≤ 20) (g_zf : 0 ≤ zf.toInt ∧ zf.toInt ≤ 19) (g_zh : 0 ≤ zh.toInt ∧ zh.toInt ≤ 6) (g_zr : 0 ≤ zr.toInt ∧ zr.toInt ≤ 258) (g_zc : 0 ≤ zc.toInt ∧ zc.toInt ≤ 300) (g_zy : 0 ≤ zy.toInt ∧ zy.toInt ≤ 65536) (g_za : 0 ≤ za.toInt ∧ za.toInt ≤ 5) (g_zb : 0 ≤ zb.toInt ∧ zb.toInt ≤ 5) (g_zs : 0 ≤ zs.toInt ∧ zs.toInt ≤ 2000000) (g_zq : -1 ≤ zq.toInt ∧ zq.toInt ≤ 2000000) (g_zn : 0 ≤ zn.toInt ∧ zn.toInt ≤ 2600) (g_zm : 0 ≤ zm.toInt ∧ zm.toInt ≤ 2600) (g_zk : 0 ≤ zk.toInt ∧ zk.toInt ≤ 300) (g_eY : rg 0 255 eY) (g_eB : rg (-1) 255 eB) (g_cd : 0 ≤ cd.toInt ∧ cd.toInt ≤ 5) (g_x : 0 ≤ x.toInt ∧ x.toInt ≤ 65535) (hzn : zn.toInt ≤ 2592) : kMi l yX12_writeLetter wsX12_writeLetter ({ frames := 1, cells := 0, slots := 0, locals := 21 } : Room) [.ref oM, .int cd, .int x] sz (dC, dI) vwCl [(cI, .int), (cS, .short)] [(oM, .inr (12, [.ref mT, .int zt, .ref mS, .ref mX, .int zp, .int zf, .ref mL, .ref mB, .ref mD, .ref m1, .ref m2, .int zh, .ref mR, .int zr, .ref x1, .ref x2, .ref x3, .int zc, .ref mH, .int zy, .int za, .int zb, .int zs, .int zq, .int zw, .int ze, .ref mY, .int zn, .ref mE, .int zm, .int zl, .ref mW, .int zk, .ref mO, .int zd, .ref y1, .ref y2, .ref y3, .ref y4, .ref mZ])), (mY, .inl (cI, 2600, .inl eY)), (mB, .inl (cS, 131072, .inl eB))] (fun _ => True) 0 0 (fun (A : Nat → Prop) (r : Int32) (hh9 : Heap) => ∀ PZ9 : Prop, (∀ (zn' : Int32) (eY' : Nat → Int32), kPD (dC, dI) vwCl A [(oM, .inr (12, [.ref mT, .int zt, .ref mS, .ref mX, .int zp, .int zf, .ref mL, .ref mB, .ref mD, .ref m1, .ref m2, .int zh, .ref mR, .int zr, .ref x1, .ref x2, .ref x3, .int zc, .ref mH, .int zy, .int za, .int zb, .int zs, .int zq, .int zw, .int ze, .ref mY, .int zn', .ref mE, .int zm, .int zl, .ref mW, .int zk, .ref mO, .int zd, .ref y1, .ref y2, .ref y3, .ref y4, .ref mZ])), (mY, .inl (cI, 2600, .inl eY')), (mB, .inl (cS, 131072, .inl eB))] hh9 → (0 ≤ zn'.toInt ∧ zn'.toInt ≤ 2600) → (rg 0 255 eY') → (0 ≤ r.toInt ∧ r.toInt ≤ 1) → (zn'.toInt ≤ zn.toInt + 8) → (F_en r cd x (Br cd eB x) zn zn' eY eY') → PZ9) → PZ9) := by
  refine kMi_of (cc := cX12_writeLetter) (maxL := 4) (ret := (some .boolean)) (lv := [(0, .ref oM), (1, .int cd), (2, .int x)]) (by decide +kernel) rfl rfl (Nat.le_of_ble_eq_true rfl) ?_
  intro p e s m below meth c A QQ ls hx hb hr hts hml hown hlocks hA hQQ hK hX hP hD hS hl
  have hown : s.vm.findClass RX12 = some m.cls := hown
  have hcf := k_cf hx hb hml hown hts
  have in_X12 : ∀ w ∈ wsX120, w ∈ wsX12_writeLetter := fun _ h => List.mem_cons_of_mem _ (List.mem_append_left _ (List.mem_append_right _ (h)))
  replace g_zt := hid g_zt
  replace g_zp := hid g_zp
  replace g_zf := hid g_zf
  replace g_zh := hid g_zh
  replace g_zr := hid g_zr
  replace g_zc := hid g_zc
  replace g_zy := hid g_zy
  replace g_za := hid g_za
  replace g_zb := hid g_zb
  replace g_zs := hid g_zs
  replace g_zq := hid g_zq
  replace g_zm := hid g_zm
  replace g_zk := hid g_zk
  have z2 : (2 : Int32).toInt = 2 := rfl
  have z3 : (3 : Int32).toInt = 3 := rfl
  have z35 : (35 : Int32).toInt = 35 := rfl
  have z38 : (38 : Int32).toInt = 38 := rfl
  have z59 : (59 : Int32).toInt = 59 := rfl
  have cx9 := v_clamp (x := x) (by omega)
  refine lv_iload_n hx hb dX12_writeLetter_0 rfl (lv_at hl 1 rfl) ?_
  refine lv_iconst (v := 2) hx hb dX12_writeLetter_1 (by decide) ?_
  refine lv_icmp_ge (tgt := 31) hx hb dX12_writeLetter_2 (by decide) (fun c_1 => ?_) (fun c_1 => ?_)
  · have tc_1 : 2 ≤ cd.toInt := v_le c_1
    refine lv_iload_n hx hb dX12_writeLetter_31 rfl (lv_at hl 1 rfl) ?_
    refine lv_iconst (v := 2) hx hb dX12_writeLetter_32 (by decide) ?_
    refine lv_icmp_ne (tgt := 128) hx hb dX12_writeLetter_33 (by decide) (fun c_2 => ?_) (fun c_2 => ?_)
    · have tc_2 : ¬ cd.toInt = 2 := v_ne c_2
      refine lv_iload_n hx hb dX12_writeLetter_128 rfl (lv_at hl 1 rfl) ?_
      refine lv_iconst (v := 3) hx hb dX12_writeLetter_129 (by decide) ?_
      refine lv_icmp_ne (tgt := 218) hx hb dX12_writeLetter_130 (by decide) (fun c_3 => ?_) (fun c_3 => ?_)
      · have tc_3 : ¬ cd.toInt = 3 := v_ne c_3
        refine lv_aload_n hx hb dX12_writeLetter_218 rfl (lv_at hl 0 rfl) ?_
        refine va_get (D := (dC, dI)) (ci := 12) (v := .ref mB) (C := RX12) (T := TX12) (N := 40) hx hb hts in_X12 hown hK hP 0 rfl rfl 7 (Nat.le_of_ble_eq_true rfl) (hts (.fieldLink RX12 23 "TextMenderModel" "byteOfLetter" "[S") (List.mem_of_getElem? (i := 1) rfl)) (fun _ h9 => h9) rfl dX12_writeLetter_219 ?_
        refine lv_ldc hx hb hown (hts (.constant RX12 88 (65536)) (List.mem_of_getElem? (i := 2) rfl)) dX12_writeLetter_222 ?_
        refine lv_iload_n hx hb dX12_writeLetter_224 rfl (lv_at hl 1 rfl) ?_
        refine lv_iconst (v := 4) hx hb dX12_writeLetter_225 (by decide) ?_
        refine lv_isub hx hb dX12_writeLetter_226 ?_
        refine lv_topi (fun x_4 ex_4 => ?_)
        have tx_4 : x_4.toInt = cd.toInt - 4 := v_subR (l2 := 4) (h2 := 4) ex_4 g_cd (by decide) (by decide) (by decide)
        refine lv_imul hx hb dX12_writeLetter_227 ?_
        refine lv_topi (fun x_5 ex_5 => ?_)
        have tx_5 : x_5.toInt = 65536 * x_4.toInt := v_mul ex_5 (by show -2147483648 ≤ 65536 * x_4.toInt; omega) (by show 65536 * x_4.toInt < 2147483648; omega)
        refine lv_iload_n hx hb dX12_writeLetter_228 rfl (lv_at hl 2 rfl) ?_
        refine lv_iadd hx hb dX12_writeLetter_229 ?_
        refine lv_topi (fun x_6 ex_6 => ?_)
        have tx_6 : x_6.toInt = x_5.toInt + x.toInt := v_add ex_6 (by show -2147483648 ≤ x_5.toInt + x.toInt; omega) (by show x_5.toInt + x.toInt < 2147483648; omega)
        refine va_sald hx hb hK hP 2 1 rfl rfl (v_in (by omega)) dX12_writeLetter_230 ?_
        refine lv_topi (fun x_7 ex_7 => ?_)
        have tx_7 : -1 ≤ x_7.toInt ∧ x_7.toInt ≤ 255 := rg_at g_eB ex_7
        refine lv_istore_n (lv' := [(3, .int x_7), (0, .ref oM), (1, .int cd), (2, .int x)]) hx hb dX12_writeLetter_231 rfl hl (by decide) rfl (fun ls hl => ?_)
        refine lv_iload_n hx hb dX12_writeLetter_232 rfl (lv_at hl 0 rfl) ?_
        refine lv_iconst (v := (-1)) hx hb dX12_writeLetter_233 (by decide) ?_
        refine lv_icmp_ne (tgt := 239) hx hb dX12_writeLetter_234 (by decide) (fun c_8 => ?_) (fun c_8 => ?_)
        · have tc_8 : ¬ x_7.toInt = (-1) := v_ne c_8
          refine lv_aload_n hx hb dX12_writeLetter_239 rfl (lv_at hl 1 rfl) ?_
          refine lv_iload_n hx hb dX12_writeLetter_240 rfl (lv_at hl 0 rfl) ?_
          refine kV_v (rest := []) (q0 := 0) (ci := 12) hcf (f_X12_put l dC dI cI cS s.heap.size oM mT mS mX mL mB mD m1 m2 mR x1 x2 x3 mH mY mE mW mO y1 y2 y3 y4 mZ zt zp zf zh zr zc zy za zb zs zq zw ze zn zm zl zk zd eY x_7 (g_zt) (g_zp) (g_zf) (g_zh) (g_zr) (g_zc) (g_zy) (g_za) (g_zb) (g_zs) (g_zq) (g_zn) (g_zm) (g_zk) (g_eY) (by omega) (by omega)) kc_X12_put gX12_writeLetter_X12_put rfl rfl rfl ⟨Nat.le_of_ble_eq_true rfl, Nat.le_of_ble_eq_true rfl⟩ kX_t hK hP hD hS hA [0, 1] [2] rfl (by decide +kernel) rfl rfl rfl hl rfl (Nat.le_of_ble_eq_true rfl) dX12_writeLetter_241 ⟨Nat.le_of_ble_eq_true rfl, Nat.le_of_ble_eq_true rfl⟩ (fun H locs hB hJ hSn => ?_)
          refine hB _ (fun zn_9 eY_9 hPD9 hf9_0 hf9_1 hf9_2 hf9_3 => ?_)
          clear hB
          obtain ⟨hPn, hDn⟩ := hJ _ hPD9.1 hPD9.2 [(mB, .inl (cS, 131072, .inl eB)), (oM, .inr (12, [.ref mT, .int zt, .ref mS, .ref mX, .int zp, .int zf, .ref mL, .ref mB, .ref mD, .ref m1, .ref m2, .int zh, .ref mR, .int zr, .ref x1, .ref x2, .ref x3, .int zc, .ref mH, .int zy, .int za, .int zb, .int zs, .int zq, .int zw, .int ze, .ref mY, .int zn_9, .ref mE, .int zm, .int zl, .ref mW, .int zk, .ref mO, .int zd, .ref y1, .ref y2, .ref y3, .ref y4, .ref mZ])), (mY, .inl (cI, 2600, .inl eY_9))] rfl
          clear hP hD hS hJ hPD9
          have hP := hPn
          have hD := hDn
          have hS := hSn
          clear hPn hDn hSn
          have hap9 : AP zn zn_9 eY eY_9 [(x_7 : Int32).toInt] := AP_u (AP_0 (l := zn) (f := eY)) (by omega) (by omega) hf9_3
          refine lv_iconst (v := 1) hx hb dX12_writeLetter_244 (by decide) ?_
          exact kl_z (v := 1) hQQ hx hb hr hlocks hS dX12_writeLetter_245 (rfl) (fun PZ9 kZ9 => kZ9 zn_9 eY_9 (kPD_sub hP hD [1, 2, 0] (by decide +kernel) rfl) (hf9_0) (hf9_1) (by decide) (by show zn_9.toInt ≤ zn.toInt + 8; omega) (F_en_y (by first | omega | rfl) hap9 (by rw [← (show x_7 = Br cd eB x from (by unfold Br; rw [ex_7, ix_eq (x := x_6) (N := 65536 * (cd.toInt - 4).toNat + x.toNatClampNeg) (by omega)]))]; unfold enc; (repeat (first | rw [if_neg (by omega)] | rw [if_pos (by omega)])) <;> rw [if_neg c_8])))
        · have tc_8 : x_7.toInt = (-1) := v_eq c_8
          refine lv_iconst (v := 0) hx hb dX12_writeLetter_237 (by decide) ?_
          exact kl_z (v := 0) hQQ hx hb hr hlocks hS dX12_writeLetter_238 (rfl) (fun PZ9 kZ9 => kZ9 zn eY (⟨hP, hD⟩) (g_zn) (g_eY) (by decide) (by show zn.toInt ≤ zn.toInt + 8; omega) (F_en_n (by first | omega | rfl) (by rw [← (show x_7 = Br cd eB x from (by unfold Br; rw [ex_7, ix_eq (x := x_6) (N := 65536 * (cd.toInt - 4).toNat + x.toNatClampNeg) (by omega)]))]; unfold enc; (repeat (first | rw [if_neg (by omega)] | rw [if_pos (by omega)])) <;> rw [if_pos c_8])))
      · have tc_3 : cd.toInt = 3 := v_eq c_3
        refine lv_iload_n hx hb dX12_writeLetter_133 rfl (lv_at hl 2 rfl) ?_
        refine lv_sipush (v := 128) hx hb dX12_writeLetter_134 (by decide) ?_
        refine lv_icmp_ge (tgt := 154) hx hb dX12_writeLetter_137 (by decide) (fun c_10 => ?_) (fun c_10 => ?_)
        · have tc_10 : 128 ≤ x.toInt := v_le c_10
          refine lv_aload_n hx hb dX12_writeLetter_154 rfl (lv_at hl 0 rfl) ?_
          refine lv_bipush (v := 38) hx hb dX12_writeLetter_155 (by decide) ?_
          refine kV_v (rest := []) (q0 := 0) (ci := 12) hcf (f_X12_put l dC dI cI cS s.heap.size oM mT mS mX mL mB mD m1 m2 mR x1 x2 x3 mH mY mE mW mO y1 y2 y3 y4 mZ zt zp zf zh zr zc zy za zb zs zq zw ze zn zm zl zk zd eY 38 (g_zt) (g_zp) (g_zf) (g_zh) (g_zr) (g_zc) (g_zy) (g_za) (g_zb) (g_zs) (g_zq) (g_zn) (g_zm) (g_zk) (g_eY) (by decide) (by omega)) kc_X12_put gX12_writeLetter_X12_put rfl rfl rfl ⟨Nat.le_of_ble_eq_true rfl, Nat.le_of_ble_eq_true rfl⟩ kX_t hK hP hD hS hA [0, 1] [2] rfl (by decide +kernel) rfl rfl rfl hl rfl (Nat.le_of_ble_eq_true rfl) dX12_writeLetter_157 ⟨Nat.le_of_ble_eq_true rfl, Nat.le_of_ble_eq_true rfl⟩ (fun H locs hB hJ hSn => ?_)
          refine hB _ (fun zn_11 eY_11 hPD9 hf11_0 hf11_1 hf11_2 hf11_3 => ?_)
          clear hB
          obtain ⟨hPn, hDn⟩ := hJ _ hPD9.1 hPD9.2 [(mB, .inl (cS, 131072, .inl eB)), (oM, .inr (12, [.ref mT, .int zt, .ref mS, .ref mX, .int zp, .int zf, .ref mL, .ref mB, .ref mD, .ref m1, .ref m2, .int zh, .ref mR, .int zr, .ref x1, .ref x2, .ref x3, .int zc, .ref mH, .int zy, .int za, .int zb, .int zs, .int zq, .int zw, .int ze, .ref mY, .int zn_11, .ref mE, .int zm, .int zl, .ref mW, .int zk, .ref mO, .int zd, .ref y1, .ref y2, .ref y3, .ref y4, .ref mZ])), (mY, .inl (cI, 2600, .inl eY_11))] rfl
          clear hP hD hS hJ hPD9
          have hP := hPn
          have hD := hDn
          have hS := hSn
          clear hPn hDn hSn
          have hap11 : AP zn zn_11 eY eY_11 [(38 : Int32).toInt] := AP_u (AP_0 (l := zn) (f := eY)) (by omega) (by omega) hf11_3
          refine lv_aload_n hx hb dX12_writeLetter_160 rfl (lv_at hl 0 rfl) ?_
          refine lv_bipush (v := 35) hx hb dX12_writeLetter_161 (by decide) ?_
          refine kV_v (rest := []) (q0 := 0) (ci := 12) hcf (f_X12_put l dC dI cI cS H.size oM mT mS mX mL mB mD m1 m2 mR x1 x2 x3 mH mY mE mW mO y1 y2 y3 y4 mZ zt zp zf zh zr zc zy za zb zs zq zw ze zn_11 zm zl zk zd eY_11 35 (g_zt) (g_zp) (g_zf) (g_zh) (g_zr) (g_zc) (g_zy) (g_za) (g_zb) (g_zs) (g_zq) (hf11_0) (g_zm) (g_zk) (hf11_1) (by decide) (by omega)) kc_X12_put gX12_writeLetter_X12_put rfl rfl rfl ⟨Nat.le_of_ble_eq_true rfl, Nat.le_of_ble_eq_true rfl⟩ kX_t hK hP hD hS hA [1, 2] [0] rfl (by decide +kernel) rfl rfl rfl hl rfl (Nat.le_of_ble_eq_true rfl) dX12_writeLetter_163 ⟨Nat.le_of_ble_eq_true rfl, Nat.le_of_ble_eq_true rfl⟩ (fun H locs hB hJ hSn => ?_)
          refine hB _ (fun zn_12 eY_12 hPD9 hf12_0 hf12_1 hf12_2 hf12_3 => ?_)
          clear hB
          obtain ⟨hPn, hDn⟩ := hJ _ hPD9.1 hPD9.2 [(mB, .inl (cS, 131072, .inl eB)), (oM, .inr (12, [.ref mT, .int zt, .ref mS, .ref mX, .int zp, .int zf, .ref mL, .ref mB, .ref mD, .ref m1, .ref m2, .int zh, .ref mR, .int zr, .ref x1, .ref x2, .ref x3, .int zc, .ref mH, .int zy, .int za, .int zb, .int zs, .int zq, .int zw, .int ze, .ref mY, .int zn_12, .ref mE, .int zm, .int zl, .ref mW, .int zk, .ref mO, .int zd, .ref y1, .ref y2, .ref y3, .ref y4, .ref mZ])), (mY, .inl (cI, 2600, .inl eY_12))] rfl
          clear hP hD hS hJ hPD9
          have hP := hPn
          have hD := hDn
          have hS := hSn
          clear hPn hDn hSn
          have hap12 : AP zn zn_12 eY eY_12 [(38 : Int32).toInt, (35 : Int32).toInt] := AP_u hap11 (by omega) (by omega) hf12_3
          refine lv_iconst (v := 1) hx hb dX12_writeLetter_166 (by decide) ?_
          refine lv_istore_n (lv' := [(3, .int 1), (0, .ref oM), (1, .int cd), (2, .int x)]) hx hb dX12_writeLetter_167 rfl hl (by decide) rfl (fun ls hl => ?_)
          refine lv_iload_n hx hb dX12_writeLetter_168 rfl (lv_at hl 3 rfl) ?_
          refine lv_iload_n hx hb dX12_writeLetter_169 rfl (lv_at hl 0 rfl) ?_
          refine lv_idiv hx hb dX12_writeLetter_170 (by decide) ?_
          refine lv_topi (fun x_13 ex_13 => ?_)
          have tx_13 : x_13.toInt = x.toInt / 1 := v_div ex_13 (by omega) (by decide)
          refine lv_bipush (v := 10) hx hb dX12_writeLetter_171 (by decide) ?_
          refine lv_icmp_lt (tgt := 184) hx hb dX12_writeLetter_173 (by decide) (fun c_14 => by exfalso; have tc_14 : x_13.toInt < 10 := v_lt c_14; omega) (fun c_14 => ?_)
          have tc_14 : 10 ≤ x_13.toInt := v_nlt c_14
          refine lv_iload_n hx hb dX12_writeLetter_176 rfl (lv_at hl 0 rfl) ?_
          refine lv_bipush (v := 10) hx hb dX12_writeLetter_177 (by decide) ?_
          refine lv_imul hx hb dX12_writeLetter_179 ?_
          refine k_i (y := 10) (by decide) ?_
          refine lv_istore_n (lv' := [(3, .int 10), (0, .ref oM), (1, .int cd), (2, .int x)]) hx hb dX12_writeLetter_180 rfl hl (by decide) rfl (fun ls hl => ?_)
          refine lv_goto (tgt := 168) hx hb dX12_writeLetter_181 (by decide) ?_
          refine lv_iload_n hx hb dX12_writeLetter_168 rfl (lv_at hl 3 rfl) ?_
          refine lv_iload_n hx hb dX12_writeLetter_169 rfl (lv_at hl 0 rfl) ?_
          refine lv_idiv hx hb dX12_writeLetter_170 (by decide) ?_
          refine lv_topi (fun x_15 ex_15 => ?_)
          have tx_15 : x_15.toInt = x.toInt / 10 := v_div ex_15 (by omega) (by decide)
          refine lv_bipush (v := 10) hx hb dX12_writeLetter_171 (by decide) ?_
          refine lv_icmp_lt (tgt := 184) hx hb dX12_writeLetter_173 (by decide) (fun c_16 => by exfalso; have tc_16 : x_15.toInt < 10 := v_lt c_16; omega) (fun c_16 => ?_)
          have tc_16 : 10 ≤ x_15.toInt := v_nlt c_16
          refine lv_iload_n hx hb dX12_writeLetter_176 rfl (lv_at hl 0 rfl) ?_
          refine lv_bipush (v := 10) hx hb dX12_writeLetter_177 (by decide) ?_
          refine lv_imul hx hb dX12_writeLetter_179 ?_
          refine k_i (y := 100) (by decide) ?_
          refine lv_istore_n (lv' := [(3, .int 100), (0, .ref oM), (1, .int cd), (2, .int x)]) hx hb dX12_writeLetter_180 rfl hl (by decide) rfl (fun ls hl => ?_)
          refine lv_goto (tgt := 168) hx hb dX12_writeLetter_181 (by decide) ?_
          refine lv_iload_n hx hb dX12_writeLetter_168 rfl (lv_at hl 3 rfl) ?_
          refine lv_iload_n hx hb dX12_writeLetter_169 rfl (lv_at hl 0 rfl) ?_
          refine lv_idiv hx hb dX12_writeLetter_170 (by decide) ?_
          refine lv_topi (fun x_17 ex_17 => ?_)
          have tx_17 : x_17.toInt = x.toInt / 100 := v_div ex_17 (by omega) (by decide)
          refine lv_bipush (v := 10) hx hb dX12_writeLetter_171 (by decide) ?_
          refine lv_icmp_lt (tgt := 184) hx hb dX12_writeLetter_173 (by decide) (fun c_18 => ?_) (fun c_18 => ?_)
          · have tc_18 : x_17.toInt < 10 := v_lt c_18
            refine lv_iload_n hx hb dX12_writeLetter_184 rfl (lv_at hl 0 rfl) ?_
            refine lv_if_le (tgt := 209) hx hb dX12_writeLetter_185 (by decide) (fun c_19 => absurd c_19 (by decide)) (fun c_19 => ?_)
            refine lv_aload_n hx hb dX12_writeLetter_188 rfl (lv_at hl 1 rfl) ?_
            refine lv_bipush (v := 48) hx hb dX12_writeLetter_189 (by decide) ?_
            refine lv_iload_n hx hb dX12_writeLetter_191 rfl (lv_at hl 3 rfl) ?_
            refine lv_iload_n hx hb dX12_writeLetter_192 rfl (lv_at hl 0 rfl) ?_
            refine lv_idiv hx hb dX12_writeLetter_193 (by decide) ?_
            refine lv_topi (fun x_20 ex_20 => ?_)
            have tx_20 : x_20.toInt = x.toInt / 100 := v_div ex_20 (by omega) (by decide)
            refine lv_bipush (v := 10) hx hb dX12_writeLetter_194 (by decide) ?_
            refine lv_irem hx hb dX12_writeLetter_196 (by decide) ?_
            refine lv_topi (fun x_21 ex_21 => ?_)
            have tx_21 : x_21.toInt = x_20.toInt % 10 := v_rem ex_21 (by omega) (by decide)
            refine lv_iadd hx hb dX12_writeLetter_197 ?_
            refine lv_topi (fun x_22 ex_22 => ?_)
            have tx_22 : x_22.toInt = 48 + x_21.toInt := v_add ex_22 (by show -2147483648 ≤ 48 + x_21.toInt; omega) (by show 48 + x_21.toInt < 2147483648; omega)
            refine kV_v (rest := []) (q0 := 0) (ci := 12) hcf (f_X12_put l dC dI cI cS H.size oM mT mS mX mL mB mD m1 m2 mR x1 x2 x3 mH mY mE mW mO y1 y2 y3 y4 mZ zt zp zf zh zr zc zy za zb zs zq zw ze zn_12 zm zl zk zd eY_12 x_22 (g_zt) (g_zp) (g_zf) (g_zh) (g_zr) (g_zc) (g_zy) (g_za) (g_zb) (g_zs) (g_zq) (hf12_0) (g_zm) (g_zk) (hf12_1) (by omega) (by omega)) kc_X12_put gX12_writeLetter_X12_put rfl rfl rfl ⟨Nat.le_of_ble_eq_true rfl, Nat.le_of_ble_eq_true rfl⟩ kX_t hK hP hD hS hA [1, 2] [0] rfl (by decide +kernel) rfl rfl rfl hl rfl (Nat.le_of_ble_eq_true rfl) dX12_writeLetter_198 ⟨Nat.le_of_ble_eq_true rfl, Nat.le_of_ble_eq_true rfl⟩ (fun H locs hB hJ hSn => ?_)
            refine hB _ (fun zn_23 eY_23 hPD9 hf23_0 hf23_1 hf23_2 hf23_3 => ?_)
            clear hB
            obtain ⟨hPn, hDn⟩ := hJ _ hPD9.1 hPD9.2 [(mB, .inl (cS, 131072, .inl eB)), (oM, .inr (12, [.ref mT, .int zt, .ref mS, .ref mX, .int zp, .int zf, .ref mL, .ref mB, .ref mD, .ref m1, .ref m2, .int zh, .ref mR, .int zr, .ref x1, .ref x2, .ref x3, .int zc, .ref mH, .int zy, .int za, .int zb, .int zs, .int zq, .int zw, .int ze, .ref mY, .int zn_23, .ref mE, .int zm, .int zl, .ref mW, .int zk, .ref mO, .int zd, .ref y1, .ref y2, .ref y3, .ref y4, .ref mZ])), (mY, .inl (cI, 2600, .inl eY_23))] rfl
            clear hP hD hS hJ hPD9
            have hP := hPn
            have hD := hDn
            have hS := hSn
            clear hPn hDn hSn
            have hap23 : AP zn zn_23 eY eY_23 [(38 : Int32).toInt, (35 : Int32).toInt, (x_22 : Int32).toInt] := AP_u hap12 (by omega) (by omega) hf23_3
            refine lv_iload_n hx hb dX12_writeLetter_201 rfl (lv_at hl 0 rfl) ?_
            refine lv_bipush (v := 10) hx hb dX12_writeLetter_202 (by decide) ?_
            refine lv_idiv hx hb dX12_writeLetter_204 (by decide) ?_
            refine k_i (y := 10) (by decide) ?_
            refine lv_istore_n (lv' := [(3, .int 10), (0, .ref oM), (1, .int cd), (2, .int x)]) hx hb dX12_writeLetter_205 rfl hl (by decide) rfl (fun ls hl => ?_)
            refine lv_goto (tgt := 184) hx hb dX12_writeLetter_206 (by decide) ?_
            refine lv_iload_n hx hb dX12_writeLetter_184 rfl (lv_at hl 0 rfl) ?_
            refine lv_if_le (tgt := 209) hx hb dX12_writeLetter_185 (by decide) (fun c_24 => absurd c_24 (by decide)) (fun c_24 => ?_)
            refine lv_aload_n hx hb dX12_writeLetter_188 rfl (lv_at hl 1 rfl) ?_
            refine lv_bipush (v := 48) hx hb dX12_writeLetter_189 (by decide) ?_
            refine lv_iload_n hx hb dX12_writeLetter_191 rfl (lv_at hl 3 rfl) ?_
            refine lv_iload_n hx hb dX12_writeLetter_192 rfl (lv_at hl 0 rfl) ?_
            refine lv_idiv hx hb dX12_writeLetter_193 (by decide) ?_
            refine lv_topi (fun x_25 ex_25 => ?_)
            have tx_25 : x_25.toInt = x.toInt / 10 := v_div ex_25 (by omega) (by decide)
            refine lv_bipush (v := 10) hx hb dX12_writeLetter_194 (by decide) ?_
            refine lv_irem hx hb dX12_writeLetter_196 (by decide) ?_
            refine lv_topi (fun x_26 ex_26 => ?_)
            have tx_26 : x_26.toInt = x_25.toInt % 10 := v_rem ex_26 (by omega) (by decide)
            refine lv_iadd hx hb dX12_writeLetter_197 ?_
            refine lv_topi (fun x_27 ex_27 => ?_)
            have tx_27 : x_27.toInt = 48 + x_26.toInt := v_add ex_27 (by show -2147483648 ≤ 48 + x_26.toInt; omega) (by show 48 + x_26.toInt < 2147483648; omega)
            refine kV_v (rest := []) (q0 := 0) (ci := 12) hcf (f_X12_put l dC dI cI cS H.size oM mT mS mX mL mB mD m1 m2 mR x1 x2 x3 mH mY mE mW mO y1 y2 y3 y4 mZ zt zp zf zh zr zc zy za zb zs zq zw ze zn_23 zm zl zk zd eY_23 x_27 (g_zt) (g_zp) (g_zf) (g_zh) (g_zr) (g_zc) (g_zy) (g_za) (g_zb) (g_zs) (g_zq) (hf23_0) (g_zm) (g_zk) (hf23_1) (by omega) (by omega)) kc_X12_put gX12_writeLetter_X12_put rfl rfl rfl ⟨Nat.le_of_ble_eq_true rfl, Nat.le_of_ble_eq_true rfl⟩ kX_t hK hP hD hS hA [1, 2] [0] rfl (by decide +kernel) rfl rfl rfl hl rfl (Nat.le_of_ble_eq_true rfl) dX12_writeLetter_198 ⟨Nat.le_of_ble_eq_true rfl, Nat.le_of_ble_eq_true rfl⟩ (fun H locs hB hJ hSn => ?_)
            refine hB _ (fun zn_28 eY_28 hPD9 hf28_0 hf28_1 hf28_2 hf28_3 => ?_)
            clear hB
            obtain ⟨hPn, hDn⟩ := hJ _ hPD9.1 hPD9.2 [(mB, .inl (cS, 131072, .inl eB)), (oM, .inr (12, [.ref mT, .int zt, .ref mS, .ref mX, .int zp, .int zf, .ref mL, .ref mB, .ref mD, .ref m1, .ref m2, .int zh, .ref mR, .int zr, .ref x1, .ref x2, .ref x3, .int zc, .ref mH, .int zy, .int za, .int zb, .int zs, .int zq, .int zw, .int ze, .ref mY, .int zn_28, .ref mE, .int zm, .int zl, .ref mW, .int zk, .ref mO, .int zd, .ref y1, .ref y2, .ref y3, .ref y4, .ref mZ])), (mY, .inl (cI, 2600, .inl eY_28))] rfl
            clear hP hD hS hJ hPD9
            have hP := hPn
            have hD := hDn
            have hS := hSn
            clear hPn hDn hSn
            have hap28 : AP zn zn_28 eY eY_28 [(38 : Int32).toInt, (35 : Int32).toInt, (x_22 : Int32).toInt, (x_27 : Int32).toInt] := AP_u hap23 (by omega) (by omega) hf28_3
            refine lv_iload_n hx hb dX12_writeLetter_201 rfl (lv_at hl 0 rfl) ?_
            refine lv_bipush (v := 10) hx hb dX12_writeLetter_202 (by decide) ?_
            refine lv_idiv hx hb dX12_writeLetter_204 (by decide) ?_
            refine k_i (y := 1) (by decide) ?_
            refine lv_istore_n (lv' := [(3, .int 1), (0, .ref oM), (1, .int cd), (2, .int x)]) hx hb dX12_writeLetter_205 rfl hl (by decide) rfl (fun ls hl => ?_)
            refine lv_goto (tgt := 184) hx hb dX12_writeLetter_206 (by decide) ?_
            refine lv_iload_n hx hb dX12_writeLetter_184 rfl (lv_at hl 0 rfl) ?_
            refine lv_if_le (tgt := 209) hx hb dX12_writeLetter_185 (by decide) (fun c_29 => absurd c_29 (by decide)) (fun c_29 => ?_)
            refine lv_aload_n hx hb dX12_writeLetter_188 rfl (lv_at hl 1 rfl) ?_
            refine lv_bipush (v := 48) hx hb dX12_writeLetter_189 (by decide) ?_
            refine lv_iload_n hx hb dX12_writeLetter_191 rfl (lv_at hl 3 rfl) ?_
            refine lv_iload_n hx hb dX12_writeLetter_192 rfl (lv_at hl 0 rfl) ?_
            refine lv_idiv hx hb dX12_writeLetter_193 (by decide) ?_
            refine lv_topi (fun x_30 ex_30 => ?_)
            have tx_30 : x_30.toInt = x.toInt / 1 := v_div ex_30 (by omega) (by decide)
            refine lv_bipush (v := 10) hx hb dX12_writeLetter_194 (by decide) ?_
            refine lv_irem hx hb dX12_writeLetter_196 (by decide) ?_
            refine lv_topi (fun x_31 ex_31 => ?_)
            have tx_31 : x_31.toInt = x_30.toInt % 10 := v_rem ex_31 (by omega) (by decide)
            refine lv_iadd hx hb dX12_writeLetter_197 ?_
            refine lv_topi (fun x_32 ex_32 => ?_)
            have tx_32 : x_32.toInt = 48 + x_31.toInt := v_add ex_32 (by show -2147483648 ≤ 48 + x_31.toInt; omega) (by show 48 + x_31.toInt < 2147483648; omega)
            refine kV_v (rest := []) (q0 := 0) (ci := 12) hcf (f_X12_put l dC dI cI cS H.size oM mT mS mX mL mB mD m1 m2 mR x1 x2 x3 mH mY mE mW mO y1 y2 y3 y4 mZ zt zp zf zh zr zc zy za zb zs zq zw ze zn_28 zm zl zk zd eY_28 x_32 (g_zt) (g_zp) (g_zf) (g_zh) (g_zr) (g_zc) (g_zy) (g_za) (g_zb) (g_zs) (g_zq) (hf28_0) (g_zm) (g_zk) (hf28_1) (by omega) (by omega)) kc_X12_put gX12_writeLetter_X12_put rfl rfl rfl ⟨Nat.le_of_ble_eq_true rfl, Nat.le_of_ble_eq_true rfl⟩ kX_t hK hP hD hS hA [1, 2] [0] rfl (by decide +kernel) rfl rfl rfl hl rfl (Nat.le_of_ble_eq_true rfl) dX12_writeLetter_198 ⟨Nat.le_of_ble_eq_true rfl, Nat.le_of_ble_eq_true rfl⟩ (fun H locs hB hJ hSn => ?_)
            refine hB _ (fun zn_33 eY_33 hPD9 hf33_0 hf33_1 hf33_2 hf33_3 => ?_)
            clear hB
            obtain ⟨hPn, hDn⟩ := hJ _ hPD9.1 hPD9.2 [(mB, .inl (cS, 131072, .inl eB)), (oM, .inr (12, [.ref mT, .int zt, .ref mS, .ref mX, .int zp, .int zf, .ref mL, .ref mB, .ref mD, .ref m1, .ref m2, .int zh, .ref mR, .int zr, .ref x1, .ref x2, .ref x3, .int zc, .ref mH, .int zy, .int za, .int zb, .int zs, .int zq, .int zw, .int ze, .ref mY, .int zn_33, .ref mE, .int zm, .int zl, .ref mW, .int zk, .ref mO, .int zd, .ref y1, .ref y2, .ref y3, .ref y4, .ref mZ])), (mY, .inl (cI, 2600, .inl eY_33))] rfl
            clear hP hD hS hJ hPD9
            have hP := hPn
            have hD := hDn
            have hS := hSn
            clear hPn hDn hSn
            have hap33 : AP zn zn_33 eY eY_33 [(38 : Int32).toInt, (35 : Int32).toInt, (x_22 : Int32).toInt, (x_27 : Int32).toInt, (x_32 : Int32).toInt] := AP_u hap28 (by omega) (by omega) hf33_3
            refine lv_iload_n hx hb dX12_writeLetter_201 rfl (lv_at hl 0 rfl) ?_
            refine lv_bipush (v := 10) hx hb dX12_writeLetter_202 (by decide) ?_
            refine lv_idiv hx hb dX12_writeLetter_204 (by decide) ?_
            refine k_i (y := 0) (by decide) ?_
            refine lv_istore_n (lv' := [(3, .int 0), (0, .ref oM), (1, .int cd), (2, .int x)]) hx hb dX12_writeLetter_205 rfl hl (by decide) rfl (fun ls hl => ?_)
            refine lv_goto (tgt := 184) hx hb dX12_writeLetter_206 (by decide) ?_
            refine lv_iload_n hx hb dX12_writeLetter_184 rfl (lv_at hl 0 rfl) ?_
            refine lv_if_le (tgt := 209) hx hb dX12_writeLetter_185 (by decide) (fun c_34 => ?_) (fun c_34 => absurd c_34 (by decide))
            refine lv_aload_n hx hb dX12_writeLetter_209 rfl (lv_at hl 1 rfl) ?_
            refine lv_bipush (v := 59) hx hb dX12_writeLetter_210 (by decide) ?_
            refine kV_v (rest := []) (q0 := 0) (ci := 12) hcf (f_X12_put l dC dI cI cS H.size oM mT mS mX mL mB mD m1 m2 mR x1 x2 x3 mH mY mE mW mO y1 y2 y3 y4 mZ zt zp zf zh zr zc zy za zb zs zq zw ze zn_33 zm zl zk zd eY_33 59 (g_zt) (g_zp) (g_zf) (g_zh) (g_zr) (g_zc) (g_zy) (g_za) (g_zb) (g_zs) (g_zq) (hf33_0) (g_zm) (g_zk) (hf33_1) (by decide) (by omega)) kc_X12_put gX12_writeLetter_X12_put rfl rfl rfl ⟨Nat.le_of_ble_eq_true rfl, Nat.le_of_ble_eq_true rfl⟩ kX_t hK hP hD hS hA [1, 2] [0] rfl (by decide +kernel) rfl rfl rfl hl rfl (Nat.le_of_ble_eq_true rfl) dX12_writeLetter_212 ⟨Nat.le_of_ble_eq_true rfl, Nat.le_of_ble_eq_true rfl⟩ (fun H locs hB hJ hSn => ?_)
            refine hB _ (fun zn_35 eY_35 hPD9 hf35_0 hf35_1 hf35_2 hf35_3 => ?_)
            clear hB
            obtain ⟨hPn, hDn⟩ := hJ _ hPD9.1 hPD9.2 [(mB, .inl (cS, 131072, .inl eB)), (oM, .inr (12, [.ref mT, .int zt, .ref mS, .ref mX, .int zp, .int zf, .ref mL, .ref mB, .ref mD, .ref m1, .ref m2, .int zh, .ref mR, .int zr, .ref x1, .ref x2, .ref x3, .int zc, .ref mH, .int zy, .int za, .int zb, .int zs, .int zq, .int zw, .int ze, .ref mY, .int zn_35, .ref mE, .int zm, .int zl, .ref mW, .int zk, .ref mO, .int zd, .ref y1, .ref y2, .ref y3, .ref y4, .ref mZ])), (mY, .inl (cI, 2600, .inl eY_35))] rfl
            clear hP hD hS hJ hPD9
            have hP := hPn
            have hD := hDn
            have hS := hSn
            clear hPn hDn hSn
            have hap35 : AP zn zn_35 eY eY_35 [(38 : Int32).toInt, (35 : Int32).toInt, (x_22 : Int32).toInt, (x_27 : Int32).toInt, (x_32 : Int32).toInt, (59 : Int32).toInt] := AP_u hap33 (by omega) (by omega) hf35_3
            refine lv_goto (tgt := 244) hx hb dX12_writeLetter_215 (by decide) ?_
            refine lv_iconst (v := 1) hx hb dX12_writeLetter_244 (by decide) ?_
            exact kl_z (v := 1) hQQ hx hb hr hlocks hS dX12_writeLetter_245 (rfl) (fun PZ9 kZ9 => kZ9 zn_35 eY_35 (kPD_sub hP hD [1, 2, 0] (by decide +kernel) rfl) (hf35_0) (hf35_1) (by decide) (by show zn_35.toInt ≤ zn.toInt + 8; omega) (F_en_y (by first | omega | rfl) hap35 (by first | (unfold enc; rw [if_neg (by omega), if_neg (by omega), if_neg (by omega), if_pos (by omega), if_neg (by omega)]; unfold encN; rw [if_neg (by omega), if_neg (by omega), if_pos (by omega)]; exact L6 rfl rfl (by first | (rw [tx_22, tx_21, tx_20]; done) | (rw [tx_22, tx_21, tx_20]; exact Int.add_comm _ _) | omega) (by first | (rw [tx_27, tx_26, tx_25]; done) | (rw [tx_27, tx_26, tx_25]; exact Int.add_comm _ _) | omega) (by first | (rw [tx_32, tx_31, tx_30]; done) | (rw [tx_32, tx_31, tx_30]; exact Int.add_comm _ _) | omega) rfl) | (exfalso; omega))))
          · have tc_18 : 10 ≤ x_17.toInt := v_nlt c_18
            refine lv_iload_n hx hb dX12_writeLetter_176 rfl (lv_at hl 0 rfl) ?_
            refine lv_bipush (v := 10) hx hb dX12_writeLetter_177 (by decide) ?_
            refine lv_imul hx hb dX12_writeLetter_179 ?_
            refine k_i (y := 1000) (by decide) ?_
            refine lv_istore_n (lv' := [(3, .int 1000), (0, .ref oM), (1, .int cd), (2, .int x)]) hx hb dX12_writeLetter_180 rfl hl (by decide) rfl (fun ls hl => ?_)
            refine lv_goto (tgt := 168) hx hb dX12_writeLetter_181 (by decide) ?_
            refine lv_iload_n hx hb dX12_writeLetter_168 rfl (lv_at hl 3 rfl) ?_
            refine lv_iload_n hx hb dX12_writeLetter_169 rfl (lv_at hl 0 rfl) ?_
            refine lv_idiv hx hb dX12_writeLetter_170 (by decide) ?_
            refine lv_topi (fun x_36 ex_36 => ?_)
            have tx_36 : x_36.toInt = x.toInt / 1000 := v_div ex_36 (by omega) (by decide)
            refine lv_bipush (v := 10) hx hb dX12_writeLetter_171 (by decide) ?_
            refine lv_icmp_lt (tgt := 184) hx hb dX12_writeLetter_173 (by decide) (fun c_37 => ?_) (fun c_37 => ?_)
            · have tc_37 : x_36.toInt < 10 := v_lt c_37
              refine lv_iload_n hx hb dX12_writeLetter_184 rfl (lv_at hl 0 rfl) ?_
              refine lv_if_le (tgt := 209) hx hb dX12_writeLetter_185 (by decide) (fun c_38 => absurd c_38 (by decide)) (fun c_38 => ?_)
              refine lv_aload_n hx hb dX12_writeLetter_188 rfl (lv_at hl 1 rfl) ?_
              refine lv_bipush (v := 48) hx hb dX12_writeLetter_189 (by decide) ?_
              refine lv_iload_n hx hb dX12_writeLetter_191 rfl (lv_at hl 3 rfl) ?_
              refine lv_iload_n hx hb dX12_writeLetter_192 rfl (lv_at hl 0 rfl) ?_
              refine lv_idiv hx hb dX12_writeLetter_193 (by decide) ?_
              refine lv_topi (fun x_39 ex_39 => ?_)
              have tx_39 : x_39.toInt = x.toInt / 1000 := v_div ex_39 (by omega) (by decide)
              refine lv_bipush (v := 10) hx hb dX12_writeLetter_194 (by decide) ?_
              refine lv_irem hx hb dX12_writeLetter_196 (by decide) ?_
              refine lv_topi (fun x_40 ex_40 => ?_)
              have tx_40 : x_40.toInt = x_39.toInt % 10 := v_rem ex_40 (by omega) (by decide)
              refine lv_iadd hx hb dX12_writeLetter_197 ?_
              refine lv_topi (fun x_41 ex_41 => ?_)
              have tx_41 : x_41.toInt = 48 + x_40.toInt := v_add ex_41 (by show -2147483648 ≤ 48 + x_40.toInt; omega) (by show 48 + x_40.toInt < 2147483648; omega)
              refine kV_v (rest := []) (q0 := 0) (ci := 12) hcf (f_X12_put l dC dI cI cS H.size oM mT mS mX mL mB mD m1 m2 mR x1 x2 x3 mH mY mE mW mO y1 y2 y3 y4 mZ zt zp zf zh zr zc zy za zb zs zq zw ze zn_12 zm zl zk zd eY_12 x_41 (g_zt) (g_zp) (g_zf) (g_zh) (g_zr) (g_zc) (g_zy) (g_za) (g_zb) (g_zs) (g_zq) (hf12_0) (g_zm) (g_zk) (hf12_1) (by omega) (by omega)) kc_X12_put gX12_writeLetter_X12_put rfl rfl rfl ⟨Nat.le_of_ble_eq_true rfl, Nat.le_of_ble_eq_true rfl⟩ kX_t hK hP hD hS hA [1, 2] [0] rfl (by decide +kernel) rfl rfl rfl hl rfl (Nat.le_of_ble_eq_true rfl) dX12_writeLetter_198 ⟨Nat.le_of_ble_eq_true rfl, Nat.le_of_ble_eq_true rfl⟩ (fun H locs hB hJ hSn => ?_)
              refine hB _ (fun zn_42 eY_42 hPD9 hf42_0 hf42_1 hf42_2 hf42_3 => ?_)
              clear hB
              obtain ⟨hPn, hDn⟩ := hJ _ hPD9.1 hPD9.2 [(mB, .inl (cS, 131072, .inl eB)), (oM, .inr (12, [.ref mT, .int zt, .ref mS, .ref mX, .int zp, .int zf, .ref mL, .ref mB, .ref mD, .ref m1, .ref m2, .int zh, .ref mR, .int zr, .ref x1, .ref x2, .ref x3, .int zc, .ref mH, .int zy, .int za, .int zb, .int zs, .int zq, .int zw, .int ze, .ref mY, .int zn_42, .ref mE, .int zm, .int zl, .ref mW, .int zk, .ref mO, .int zd, .ref y1, .ref y2, .ref y3, .ref y4, .ref mZ])), (mY, .inl (cI, 2600, .inl eY_42))] rfl
              clear hP hD hS hJ hPD9
              have hP := hPn
              have hD := hDn
              have hS := hSn
              clear hPn hDn hSn
              have hap42 : AP zn zn_42 eY eY_42 [(38 : Int32).toInt, (35 : Int32).toInt, (x_41 : Int32).toInt] := AP_u hap12 (by omega) (by omega) hf42_3
              refine lv_iload_n hx hb dX12_writeLetter_201 rfl (lv_at hl 0 rfl) ?_
              refine lv_bipush (v := 10) hx hb dX12_writeLetter_202 (by decide) ?_
              refine lv_idiv hx hb dX12_writeLetter_204 (by decide) ?_
              refine k_i (y := 100) (by decide) ?_
              refine lv_istore_n (lv' := [(3, .int 100), (0, .ref oM), (1, .int cd), (2, .int x)]) hx hb dX12_writeLetter_205 rfl hl (by decide) rfl (fun ls hl => ?_)
              refine lv_goto (tgt := 184) hx hb dX12_writeLetter_206 (by decide) ?_
              refine lv_iload_n hx hb dX12_writeLetter_184 rfl (lv_at hl 0 rfl) ?_
              refine lv_if_le (tgt := 209) hx hb dX12_writeLetter_185 (by decide) (fun c_43 => absurd c_43 (by decide)) (fun c_43 => ?_)
              refine lv_aload_n hx hb dX12_writeLetter_188 rfl (lv_at hl 1 rfl) ?_
              refine lv_bipush (v := 48) hx hb dX12_writeLetter_189 (by decide) ?_
              refine lv_iload_n hx hb dX12_writeLetter_191 rfl (lv_at hl 3 rfl) ?_
              refine lv_iload_n hx hb dX12_writeLetter_192 rfl (lv_at hl 0 rfl) ?_
              refine lv_idiv hx hb dX12_writeLetter_193 (by decide) ?_
              refine lv_topi (fun x_44 ex_44 => ?_)
              have tx_44 : x_44.toInt = x.toInt / 100 := v_div ex_44 (by omega) (by decide)
              refine lv_bipush (v := 10) hx hb dX12_writeLetter_194 (by decide) ?_
              refine lv_irem hx hb dX12_writeLetter_196 (by decide) ?_
              refine lv_topi (fun x_45 ex_45 => ?_)
              have tx_45 : x_45.toInt = x_44.toInt % 10 := v_rem ex_45 (by omega) (by decide)
              refine lv_iadd hx hb dX12_writeLetter_197 ?_
              refine lv_topi (fun x_46 ex_46 => ?_)
              have tx_46 : x_46.toInt = 48 + x_45.toInt := v_add ex_46 (by show -2147483648 ≤ 48 + x_45.toInt; omega) (by show 48 + x_45.toInt < 2147483648; omega)
              refine kV_v (rest := []) (q0 := 0) (ci := 12) hcf (f_X12_put l dC dI cI cS H.size oM mT mS mX mL mB mD m1 m2 mR x1 x2 x3 mH mY mE mW mO y1 y2 y3 y4 mZ zt zp zf zh zr zc zy za zb zs zq zw ze zn_42 zm zl zk zd eY_42 x_46 (g_zt) (g_zp) (g_zf) (g_zh) (g_zr) (g_zc) (g_zy) (g_za) (g_zb) (g_zs) (g_zq) (hf42_0) (g_zm) (g_zk) (hf42_1) (by omega) (by omega)) kc_X12_put gX12_writeLetter_X12_put rfl rfl rfl ⟨Nat.le_of_ble_eq_true rfl, Nat.le_of_ble_eq_true rfl⟩ kX_t hK hP hD hS hA [1, 2] [0] rfl (by decide +kernel) rfl rfl rfl hl rfl (Nat.le_of_ble_eq_true rfl) dX12_writeLetter_198 ⟨Nat.le_of_ble_eq_true rfl, Nat.le_of_ble_eq_true rfl⟩ (fun H locs hB hJ hSn => ?_)
              refine hB _ (fun zn_47 eY_47 hPD9 hf47_0 hf47_1 hf47_2 hf47_3 => ?_)
              clear hB
              obtain ⟨hPn, hDn⟩ := hJ _ hPD9.1 hPD9.2 [(mB, .inl (cS, 131072, .inl eB)), (oM, .inr (12, [.ref mT, .int zt, .ref mS, .ref mX, .int zp, .int zf, .ref mL, .ref mB, .ref mD, .ref m1, .ref m2, .int zh, .ref mR, .int zr, .ref x1, .ref x2, .ref x3, .int zc, .ref mH, .int zy, .int za, .int zb, .int zs, .int zq, .int zw, .int ze, .ref mY, .int zn_47, .ref mE, .int zm, .int zl, .ref mW, .int zk, .ref mO, .int zd, .ref y1, .ref y2, .ref y3, .ref y4, .ref mZ])), (mY, .inl (cI, 2600, .inl eY_47))] rfl
              clear hP hD hS hJ hPD9
              have hP := hPn
              have hD := hDn
              have hS := hSn
              clear hPn hDn hSn
              have hap47 : AP zn zn_47 eY eY_47 [(38 : Int32).toInt, (35 : Int32).toInt, (x_41 : Int32).toInt, (x_46 : Int32).toInt] := AP_u hap42 (by omega) (by omega) hf47_3
              refine lv_iload_n hx hb dX12_writeLetter_201 rfl (lv_at hl 0 rfl) ?_
              refine lv_bipush (v := 10) hx hb dX12_writeLetter_202 (by decide) ?_
              refine lv_idiv hx hb dX12_writeLetter_204 (by decide) ?_
              refine k_i (y := 10) (by decide) ?_
              refine lv_istore_n (lv' := [(3, .int 10), (0, .ref oM), (1, .int cd), (2, .int x)]) hx hb dX12_writeLetter_205 rfl hl (by decide) rfl (fun ls hl => ?_)
              refine lv_goto (tgt := 184) hx hb dX12_writeLetter_206 (by decide) ?_
              refine lv_iload_n hx hb dX12_writeLetter_184 rfl (lv_at hl 0 rfl) ?_
              refine lv_if_le (tgt := 209) hx hb dX12_writeLetter_185 (by decide) (fun c_48 => absurd c_48 (by decide)) (fun c_48 => ?_)
              refine lv_aload_n hx hb dX12_writeLetter_188 rfl (lv_at hl 1 rfl) ?_
              refine lv_bipush (v := 48) hx hb dX12_writeLetter_189 (by decide) ?_
              refine lv_iload_n hx hb dX12_writeLetter_191 rfl (lv_at hl 3 rfl) ?_
              refine lv_iload_n hx hb dX12_writeLetter_192 rfl (lv_at hl 0 rfl) ?_
              refine lv_idiv hx hb dX12_writeLetter_193 (by decide) ?_
              refine lv_topi (fun x_49 ex_49 => ?_)
              have tx_49 : x_49.toInt = x.toInt / 10 := v_div ex_49 (by omega) (by decide)
              refine lv_bipush (v := 10) hx hb dX12_writeLetter_194 (by decide) ?_
              refine lv_irem hx hb dX12_writeLetter_196 (by decide) ?_
              refine lv_topi (fun x_50 ex_50 => ?_)
              have tx_50 : x_50.toInt = x_49.toInt % 10 := v_rem ex_50 (by omega) (by decide)
              refine lv_iadd hx hb dX12_writeLetter_197 ?_
              refine lv_topi (fun x_51 ex_51 => ?_)
              have tx_51 : x_51.toInt = 48 + x_50.toInt := v_add ex_51 (by show -2147483648 ≤ 48 + x_50.toInt; omega) (by show 48 + x_50.toInt < 2147483648; omega)
              refine kV_v (rest := []) (q0 := 0) (ci := 12) hcf (f_X12_put l dC dI cI cS H.size oM mT mS mX mL mB mD m1 m2 mR x1 x2 x3 mH mY mE mW mO y1 y2 y3 y4 mZ zt zp zf zh zr zc zy za zb zs zq zw ze zn_47 zm zl zk zd eY_47 x_51 (g_zt) (g_zp) (g_zf) (g_zh) (g_zr) (g_zc) (g_zy) (g_za) (g_zb) (g_zs) (g_zq) (hf47_0) (g_zm) (g_zk) (hf47_1) (by omega) (by omega)) kc_X12_put gX12_writeLetter_X12_put rfl rfl rfl ⟨Nat.le_of_ble_eq_true rfl, Nat.le_of_ble_eq_true rfl⟩ kX_t hK hP hD hS hA [1, 2] [0] rfl (by decide +kernel) rfl rfl rfl hl rfl (Nat.le_of_ble_eq_true rfl) dX12_writeLetter_198 ⟨Nat.le_of_ble_eq_true rfl, Nat.le_of_ble_eq_true rfl⟩ (fun H locs hB hJ hSn => ?_)
              refine hB _ (fun zn_52 eY_52 hPD9 hf52_0 hf52_1 hf52_2 hf52_3 => ?_)
              clear hB
              obtain ⟨hPn, hDn⟩ := hJ _ hPD9.1 hPD9.2 [(mB, .inl (cS, 131072, .inl eB)), (oM, .inr (12, [.ref mT, .int zt, .ref mS, .ref mX, .int zp, .int zf, .ref mL, .ref mB, .ref mD, .ref m1, .ref m2, .int zh, .ref mR, .int zr, .ref x1, .ref x2, .ref x3, .int zc, .ref mH, .int zy, .int za, .int zb, .int zs, .int zq, .int zw, .int ze, .ref mY, .int zn_52, .ref mE, .int zm, .int zl, .ref mW, .int zk, .ref mO, .int zd, .ref y1, .ref y2, .ref y3, .ref y4, .ref mZ])), (mY, .inl (cI, 2600, .inl eY_52))] rfl
              clear hP hD hS hJ hPD9
              have hP := hPn
              have hD := hDn
              have hS := hSn
              clear hPn hDn hSn
              have hap52 : AP zn zn_52 eY eY_52 [(38 : Int32).toInt, (35 : Int32).toInt, (x_41 : Int32).toInt, (x_46 : Int32).toInt, (x_51 : Int32).toInt] := AP_u hap47 (by omega) (by omega) hf52_3
              refine lv_iload_n hx hb dX12_writeLetter_201 rfl (lv_at hl 0 rfl) ?_
              refine lv_bipush (v := 10) hx hb dX12_writeLetter_202 (by decide) ?_
              refine lv_idiv hx hb dX12_writeLetter_204 (by decide) ?_
              refine k_i (y := 1) (by decide) ?_
              refine lv_istore_n (lv' := [(3, .int 1), (0, .ref oM), (1, .int cd), (2, .int x)]) hx hb dX12_writeLetter_205 rfl hl (by decide) rfl (fun ls hl => ?_)
              refine lv_goto (tgt := 184) hx hb dX12_writeLetter_206 (by decide) ?_
              refine lv_iload_n hx hb dX12_writeLetter_184 rfl (lv_at hl 0 rfl) ?_
              refine lv_if_le (tgt := 209) hx hb dX12_writeLetter_185 (by decide) (fun c_53 => absurd c_53 (by decide)) (fun c_53 => ?_)
              refine lv_aload_n hx hb dX12_writeLetter_188 rfl (lv_at hl 1 rfl) ?_
              refine lv_bipush (v := 48) hx hb dX12_writeLetter_189 (by decide) ?_
              refine lv_iload_n hx hb dX12_writeLetter_191 rfl (lv_at hl 3 rfl) ?_
              refine lv_iload_n hx hb dX12_writeLetter_192 rfl (lv_at hl 0 rfl) ?_
              refine lv_idiv hx hb dX12_writeLetter_193 (by decide) ?_
              refine lv_topi (fun x_54 ex_54 => ?_)
              have tx_54 : x_54.toInt = x.toInt / 1 := v_div ex_54 (by omega) (by decide)
              refine lv_bipush (v := 10) hx hb dX12_writeLetter_194 (by decide) ?_
              refine lv_irem hx hb dX12_writeLetter_196 (by decide) ?_
              refine lv_topi (fun x_55 ex_55 => ?_)
              have tx_55 : x_55.toInt = x_54.toInt % 10 := v_rem ex_55 (by omega) (by decide)
              refine lv_iadd hx hb dX12_writeLetter_197 ?_
              refine lv_topi (fun x_56 ex_56 => ?_)
              have tx_56 : x_56.toInt = 48 + x_55.toInt := v_add ex_56 (by show -2147483648 ≤ 48 + x_55.toInt; omega) (by show 48 + x_55.toInt < 2147483648; omega)
              refine kV_v (rest := []) (q0 := 0) (ci := 12) hcf (f_X12_put l dC dI cI cS H.size oM mT mS mX mL mB mD m1 m2 mR x1 x2 x3 mH mY mE mW mO y1 y2 y3 y4 mZ zt zp zf zh zr zc zy za zb zs zq zw ze zn_52 zm zl zk zd eY_52 x_56 (g_zt) (g_zp) (g_zf) (g_zh) (g_zr) (g_zc) (g_zy) (g_za) (g_zb) (g_zs) (g_zq) (hf52_0) (g_zm) (g_zk) (hf52_1) (by omega) (by omega)) kc_X12_put gX12_writeLetter_X12_put rfl rfl rfl ⟨Nat.le_of_ble_eq_true rfl, Nat.le_of_ble_eq_true rfl⟩ kX_t hK hP hD hS hA [1, 2] [0] rfl (by decide +kernel) rfl rfl rfl hl rfl (Nat.le_of_ble_eq_true rfl) dX12_writeLetter_198 ⟨Nat.le_of_ble_eq_true rfl, Nat.le_of_ble_eq_true rfl⟩ (fun H locs hB hJ hSn => ?_)
              refine hB _ (fun zn_57 eY_57 hPD9 hf57_0 hf57_1 hf57_2 hf57_3 => ?_)
              clear hB
              obtain ⟨hPn, hDn⟩ := hJ _ hPD9.1 hPD9.2 [(mB, .inl (cS, 131072, .inl eB)), (oM, .inr (12, [.ref mT, .int zt, .ref mS, .ref mX, .int zp, .int zf, .ref mL, .ref mB, .ref mD, .ref m1, .ref m2, .int zh, .ref mR, .int zr, .ref x1, .ref x2, .ref x3, .int zc, .ref mH, .int zy, .int za, .int zb, .int zs, .int zq, .int zw, .int ze, .ref mY, .int zn_57, .ref mE, .int zm, .int zl, .ref mW, .int zk, .ref mO, .int zd, .ref y1, .ref y2, .ref y3, .ref y4, .ref mZ])), (mY, .inl (cI, 2600, .inl eY_57))] rfl
              clear hP hD hS hJ hPD9
              have hP := hPn
              have hD := hDn
              have hS := hSn
              clear hPn hDn hSn
              have hap57 : AP zn zn_57 eY eY_57 [(38 : Int32).toInt, (35 : Int32).toInt, (x_41 : Int32).toInt, (x_46 : Int32).toInt, (x_51 : Int32).toInt, (x_56 : Int32).toInt] := AP_u hap52 (by omega) (by omega) hf57_3
              refine lv_iload_n hx hb dX12_writeLetter_201 rfl (lv_at hl 0 rfl) ?_
              refine lv_bipush (v := 10) hx hb dX12_writeLetter_202 (by decide) ?_
              refine lv_idiv hx hb dX12_writeLetter_204 (by decide) ?_
              refine k_i (y := 0) (by decide) ?_
              refine lv_istore_n (lv' := [(3, .int 0), (0, .ref oM), (1, .int cd), (2, .int x)]) hx hb dX12_writeLetter_205 rfl hl (by decide) rfl (fun ls hl => ?_)
              refine lv_goto (tgt := 184) hx hb dX12_writeLetter_206 (by decide) ?_
              refine lv_iload_n hx hb dX12_writeLetter_184 rfl (lv_at hl 0 rfl) ?_
              refine lv_if_le (tgt := 209) hx hb dX12_writeLetter_185 (by decide) (fun c_58 => ?_) (fun c_58 => absurd c_58 (by decide))
              refine lv_aload_n hx hb dX12_writeLetter_209 rfl (lv_at hl 1 rfl) ?_
              refine lv_bipush (v := 59) hx hb dX12_writeLetter_210 (by decide) ?_
              refine kV_v (rest := []) (q0 := 0) (ci := 12) hcf (f_X12_put l dC dI cI cS H.size oM mT mS mX mL mB mD m1 m2 mR x1 x2 x3 mH mY mE mW mO y1 y2 y3 y4 mZ zt zp zf zh zr zc zy za zb zs zq zw ze zn_57 zm zl zk zd eY_57 59 (g_zt) (g_zp) (g_zf) (g_zh) (g_zr) (g_zc) (g_zy) (g_za) (g_zb) (g_zs) (g_zq) (hf57_0) (g_zm) (g_zk) (hf57_1) (by decide) (by omega)) kc_X12_put gX12_writeLetter_X12_put rfl rfl rfl ⟨Nat.le_of_ble_eq_true rfl, Nat.le_of_ble_eq_true rfl⟩ kX_t hK hP hD hS hA [1, 2] [0] rfl (by decide +kernel) rfl rfl rfl hl rfl (Nat.le_of_ble_eq_true rfl) dX12_writeLetter_212 ⟨Nat.le_of_ble_eq_true rfl, Nat.le_of_ble_eq_true rfl⟩ (fun H locs hB hJ hSn => ?_)
              refine hB _ (fun zn_59 eY_59 hPD9 hf59_0 hf59_1 hf59_2 hf59_3 => ?_)
              clear hB
              obtain ⟨hPn, hDn⟩ := hJ _ hPD9.1 hPD9.2 [(mB, .inl (cS, 131072, .inl eB)), (oM, .inr (12, [.ref mT, .int zt, .ref mS, .ref mX, .int zp, .int zf, .ref mL, .ref mB, .ref mD, .ref m1, .ref m2, .int zh, .ref mR, .int zr, .ref x1, .ref x2, .ref x3, .int zc, .ref mH, .int zy, .int za, .int zb, .int zs, .int zq, .int zw, .int ze, .ref mY, .int zn_59, .ref mE, .int zm, .int zl, .ref mW, .int zk, .ref mO, .int zd, .ref y1, .ref y2, .ref y3, .ref y4, .ref mZ])), (mY, .inl (cI, 2600, .inl eY_59))] rfl
              clear hP hD hS hJ hPD9
              have hP := hPn
              have hD := hDn
              have hS := hSn
              clear hPn hDn hSn
              have hap59 : AP zn zn_59 eY eY_59 [(38 : Int32).toInt, (35 : Int32).toInt, (x_41 : Int32).toInt, (x_46 : Int32).toInt, (x_51 : Int32).toInt, (x_56 : Int32).toInt, (59 : Int32).toInt] := AP_u hap57 (by omega) (by omega) hf59_3
              refine lv_goto (tgt := 244) hx hb dX12_writeLetter_215 (by decide) ?_
              refine lv_iconst (v := 1) hx hb dX12_writeLetter_244 (by decide) ?_
              exact kl_z (v := 1) hQQ hx hb hr hlocks hS dX12_writeLetter_245 (rfl) (fun PZ9 kZ9 => kZ9 zn_59 eY_59 (kPD_sub hP hD [1, 2, 0] (by decide +kernel) rfl) (hf59_0) (hf59_1) (by decide) (by show zn_59.toInt ≤ zn.toInt + 8; omega) (F_en_y (by first | omega | rfl) hap59 (by first | (unfold enc; rw [if_neg (by omega), if_neg (by omega), if_neg (by omega), if_pos (by omega), if_neg (by omega)]; unfold encN; rw [if_neg (by omega), if_neg (by omega), if_neg (by omega), if_pos (by omega)]; exact L7 rfl rfl (by first | (rw [tx_41, tx_40, tx_39]; done) | (rw [tx_41, tx_40, tx_39]; exact Int.add_comm _ _) | omega) (by first | (rw [tx_46, tx_45, tx_44]; done) | (rw [tx_46, tx_45, tx_44]; exact Int.add_comm _ _) | omega) (by first | (rw [tx_51, tx_50, tx_49]; done) | (rw [tx_51, tx_50, tx_49]; exact Int.add_comm _ _) | omega) (by first | (rw [tx_56, tx_55, tx_54]; done) | (rw [tx_56, tx_55, tx_54]; exact Int.add_comm _ _) | omega) rfl) | (exfalso; omega))))
            · have tc_37 : 10 ≤ x_36.toInt := v_nlt c_37
              refine lv_iload_n hx hb dX12_writeLetter_176 rfl (lv_at hl 0 rfl) ?_
              refine lv_bipush (v := 10) hx hb dX12_writeLetter_177 (by decide) ?_
              refine lv_imul hx hb dX12_writeLetter_179 ?_
              refine k_i (y := 10000) (by decide) ?_
              refine lv_istore_n (lv' := [(3, .int 10000), (0, .ref oM), (1, .int cd), (2, .int x)]) hx hb dX12_writeLetter_180 rfl hl (by decide) rfl (fun ls hl => ?_)
              refine lv_goto (tgt := 168) hx hb dX12_writeLetter_181 (by decide) ?_
              refine lv_iload_n hx hb dX12_writeLetter_168 rfl (lv_at hl 3 rfl) ?_
              refine lv_iload_n hx hb dX12_writeLetter_169 rfl (lv_at hl 0 rfl) ?_
              refine lv_idiv hx hb dX12_writeLetter_170 (by decide) ?_
              refine lv_topi (fun x_60 ex_60 => ?_)
              have tx_60 : x_60.toInt = x.toInt / 10000 := v_div ex_60 (by omega) (by decide)
              refine lv_bipush (v := 10) hx hb dX12_writeLetter_171 (by decide) ?_
              refine lv_icmp_lt (tgt := 184) hx hb dX12_writeLetter_173 (by decide) (fun c_61 => ?_) (fun c_61 => by exfalso; have tc_61 : 10 ≤ x_60.toInt := v_nlt c_61; omega)
              have tc_61 : x_60.toInt < 10 := v_lt c_61
              refine lv_iload_n hx hb dX12_writeLetter_184 rfl (lv_at hl 0 rfl) ?_
              refine lv_if_le (tgt := 209) hx hb dX12_writeLetter_185 (by decide) (fun c_62 => absurd c_62 (by decide)) (fun c_62 => ?_)
              refine lv_aload_n hx hb dX12_writeLetter_188 rfl (lv_at hl 1 rfl) ?_
              refine lv_bipush (v := 48) hx hb dX12_writeLetter_189 (by decide) ?_
              refine lv_iload_n hx hb dX12_writeLetter_191 rfl (lv_at hl 3 rfl) ?_
              refine lv_iload_n hx hb dX12_writeLetter_192 rfl (lv_at hl 0 rfl) ?_
              refine lv_idiv hx hb dX12_writeLetter_193 (by decide) ?_
              refine lv_topi (fun x_63 ex_63 => ?_)
              have tx_63 : x_63.toInt = x.toInt / 10000 := v_div ex_63 (by omega) (by decide)
              refine lv_bipush (v := 10) hx hb dX12_writeLetter_194 (by decide) ?_
              refine lv_irem hx hb dX12_writeLetter_196 (by decide) ?_
              refine lv_topi (fun x_64 ex_64 => ?_)
              have tx_64 : x_64.toInt = x_63.toInt % 10 := v_rem ex_64 (by omega) (by decide)
              refine lv_iadd hx hb dX12_writeLetter_197 ?_
              refine lv_topi (fun x_65 ex_65 => ?_)
              have tx_65 : x_65.toInt = 48 + x_64.toInt := v_add ex_65 (by show -2147483648 ≤ 48 + x_64.toInt; omega) (by show 48 + x_64.toInt < 2147483648; omega)
              refine kV_v (rest := []) (q0 := 0) (ci := 12) hcf (f_X12_put l dC dI cI cS H.size oM mT mS mX mL mB mD m1 m2 mR x1 x2 x3 mH mY mE mW mO y1 y2 y3 y4 mZ zt zp zf zh zr zc zy za zb zs zq zw ze zn_12 zm zl zk zd eY_12 x_65 (g_zt) (g_zp) (g_zf) (g_zh) (g_zr) (g_zc) (g_zy) (g_za) (g_zb) (g_zs) (g_zq) (hf12_0) (g_zm) (g_zk) (hf12_1) (by omega) (by omega)) kc_X12_put gX12_writeLetter_X12_put rfl rfl rfl ⟨Nat.le_of_ble_eq_true rfl, Nat.le_of_ble_eq_true rfl⟩ kX_t hK hP hD hS hA [1, 2] [0] rfl (by decide +kernel) rfl rfl rfl hl rfl (Nat.le_of_ble_eq_true rfl) dX12_writeLetter_198 ⟨Nat.le_of_ble_eq_true rfl, Nat.le_of_ble_eq_true rfl⟩ (fun H locs hB hJ hSn => ?_)
              refine hB _ (fun zn_66 eY_66 hPD9 hf66_0 hf66_1 hf66_2 hf66_3 => ?_)
              clear hB
              obtain ⟨hPn, hDn⟩ := hJ _ hPD9.1 hPD9.2 [(mB, .inl (cS, 131072, .inl eB)), (oM, .inr (12, [.ref mT, .int zt, .ref mS, .ref mX, .int zp, .int zf, .ref mL, .ref mB, .ref mD, .ref m1, .ref m2, .int zh, .ref mR, .int zr, .ref x1, .ref x2, .ref x3, .int zc, .ref mH, .int zy, .int za, .int zb, .int zs, .int zq, .int zw, .int ze, .ref mY, .int zn_66, .ref mE, .int zm, .int zl, .ref mW, .int zk, .ref mO, .int zd, .ref y1, .ref y2, .ref y3, .ref y4, .ref mZ])), (mY, .inl (cI, 2600, .inl eY_66))] rfl
              clear hP hD hS hJ hPD9
              have hP := hPn
              have hD := hDn
              have hS := hSn
              clear hPn hDn hSn
              have hap66 : AP zn zn_66 eY eY_66 [(38 : Int32).toInt, (35 : Int32).toInt, (x_65 : Int32).toInt] := AP_u hap12 (by omega) (by omega) hf66_3
              refine lv_iload_n hx hb dX12_writeLetter_201 rfl (lv_at hl 0 rfl) ?_
              refine lv_bipush (v := 10) hx hb dX12_writeLetter_202 (by decide) ?_
              refine lv_idiv hx hb dX12_writeLetter_204 (by decide) ?_
              refine k_i (y := 1000) (by decide) ?_
              refine lv_istore_n (lv' := [(3, .int 1000), (0, .ref oM), (1, .int cd), (2, .int x)]) hx hb dX12_writeLetter_205 rfl hl (by decide) rfl (fun ls hl => ?_)
              refine lv_goto (tgt := 184) hx hb dX12_writeLetter_206 (by decide) ?_
              refine lv_iload_n hx hb dX12_writeLetter_184 rfl (lv_at hl 0 rfl) ?_
              refine lv_if_le (tgt := 209) hx hb dX12_writeLetter_185 (by decide) (fun c_67 => absurd c_67 (by decide)) (fun c_67 => ?_)
              refine lv_aload_n hx hb dX12_writeLetter_188 rfl (lv_at hl 1 rfl) ?_
              refine lv_bipush (v := 48) hx hb dX12_writeLetter_189 (by decide) ?_
              refine lv_iload_n hx hb dX12_writeLetter_191 rfl (lv_at hl 3 rfl) ?_
              refine lv_iload_n hx hb dX12_writeLetter_192 rfl (lv_at hl 0 rfl) ?_
              refine lv_idiv hx hb dX12_writeLetter_193 (by decide) ?_
              refine lv_topi (fun x_68 ex_68 => ?_)
              have tx_68 : x_68.toInt = x.toInt / 1000 := v_div ex_68 (by omega) (by decide)
              refine lv_bipush (v := 10) hx hb dX12_writeLetter_194 (by decide) ?_
              refine lv_irem hx hb dX12_writeLetter_196 (by decide) ?_
              refine lv_topi (fun x_69 ex_69 => ?_)
              have tx_69 : x_69.toInt = x_68.toInt % 10 := v_rem ex_69 (by omega) (by decide)
              refine lv_iadd hx hb dX12_writeLetter_197 ?_
              refine lv_topi (fun x_70 ex_70 => ?_)
              have tx_70 : x_70.toInt = 48 + x_69.toInt := v_add ex_70 (by show -2147483648 ≤ 48 + x_69.toInt; omega) (by show 48 + x_69.toInt < 2147483648; omega)
              refine kV_v (rest := []) (q0 := 0) (ci := 12) hcf (f_X12_put l dC dI cI cS H.size oM mT mS mX mL mB mD m1 m2 mR x1 x2 x3 mH mY mE mW mO y1 y2 y3 y4 mZ zt zp zf zh zr zc zy za zb zs zq zw ze zn_66 zm zl zk zd eY_66 x_70 (g_zt) (g_zp) (g_zf) (g_zh) (g_zr) (g_zc) (g_zy) (g_za) (g_zb) (g_zs) (g_zq) (hf66_0) (g_zm) (g_zk) (hf66_1) (by omega) (by omega)) kc_X12_put gX12_writeLetter_X12_put rfl rfl rfl ⟨Nat.le_of_ble_eq_true rfl, Nat.le_of_ble_eq_true rfl⟩ kX_t hK hP hD hS hA [1, 2] [0] rfl (by decide +kernel) rfl rfl rfl hl rfl (Nat.le_of_ble_eq_true rfl) dX12_writeLetter_198 ⟨Nat.le_of_ble_eq_true rfl, Nat.le_of_ble_eq_true rfl⟩ (fun H locs hB hJ hSn => ?_)
              refine hB _ (fun zn_71 eY_71 hPD9 hf71_0 hf71_1 hf71_2 hf71_3 => ?_)
              clear hB
              obtain ⟨hPn, hDn⟩ := hJ _ hPD9.1 hPD9.2 [(mB, .inl (cS, 131072, .inl eB)), (oM, .inr (12, [.ref mT, .int zt, .ref mS, .ref mX, .int zp, .int zf, .ref mL, .ref mB, .ref mD, .ref m1, .ref m2, .int zh, .ref mR, .int zr, .ref x1, .ref x2, .ref x3, .int zc, .ref mH, .int zy, .int za, .int zb, .int zs, .int zq, .int zw, .int ze, .ref mY, .int zn_71, .ref mE, .int zm, .int zl, .ref mW, .int zk, .ref mO, .int zd, .ref y1, .ref y2, .ref y3, .ref y4, .ref mZ])), (mY, .inl (cI, 2600, .inl eY_71))] rfl
              clear hP hD hS hJ hPD9
              have hP := hPn
              have hD := hDn
              have hS := hSn
              clear hPn hDn hSn
              have hap71 : AP zn zn_71 eY eY_71 [(38 : Int32).toInt, (35 : Int32).toInt, (x_65 : Int32).toInt, (x_70 : Int32).toInt] := AP_u hap66 (by omega) (by omega) hf71_3
              refine lv_iload_n hx hb dX12_writeLetter_201 rfl (lv_at hl 0 rfl) ?_
              refine lv_bipush (v := 10) hx hb dX12_writeLetter_202 (by decide) ?_
              refine lv_idiv hx hb dX12_writeLetter_204 (by decide) ?_
              refine k_i (y := 100) (by decide) ?_
              refine lv_istore_n (lv' := [(3, .int 100), (0, .ref oM), (1, .int cd), (2, .int x)]) hx hb dX12_writeLetter_205 rfl hl (by decide) rfl (fun ls hl => ?_)
              refine lv_goto (tgt := 184) hx hb dX12_writeLetter_206 (by decide) ?_
              refine lv_iload_n hx hb dX12_writeLetter_184 rfl (lv_at hl 0 rfl) ?_
              refine lv_if_le (tgt := 209) hx hb dX12_writeLetter_185 (by decide) (fun c_72 => absurd c_72 (by decide)) (fun c_72 => ?_)
              refine lv_aload_n hx hb dX12_writeLetter_188 rfl (lv_at hl 1 rfl) ?_
              refine lv_bipush (v := 48) hx hb dX12_writeLetter_189 (by decide) ?_
              refine lv_iload_n hx hb dX12_writeLetter_191 rfl (lv_at hl 3 rfl) ?_
              refine lv_iload_n hx hb dX12_writeLetter_192 rfl (lv_at hl 0 rfl) ?_
              refine lv_idiv hx hb dX12_writeLetter_193 (by decide) ?_
              refine lv_topi (fun x_73 ex_73 => ?_)
              have tx_73 : x_73.toInt = x.toInt / 100 := v_div ex_73 (by omega) (by decide)
              refine lv_bipush (v := 10) hx hb dX12_writeLetter_194 (by decide) ?_
              refine lv_irem hx hb dX12_writeLetter_196 (by decide) ?_
              refine lv_topi (fun x_74 ex_74 => ?_)
              have tx_74 : x_74.toInt = x_73.toInt % 10 := v_rem ex_74 (by omega) (by decide)
              refine lv_iadd hx hb dX12_writeLetter_197 ?_
              refine lv_topi (fun x_75 ex_75 => ?_)
              have tx_75 : x_75.toInt = 48 + x_74.toInt := v_add ex_75 (by show -2147483648 ≤ 48 + x_74.toInt; omega) (by show 48 + x_74.toInt < 2147483648; omega)
              refine kV_v (rest := []) (q0 := 0) (ci := 12) hcf (f_X12_put l dC dI cI cS H.size oM mT mS mX mL mB mD m1 m2 mR x1 x2 x3 mH mY mE mW mO y1 y2 y3 y4 mZ zt zp zf zh zr zc zy za zb zs zq zw ze zn_71 zm zl zk zd eY_71 x_75 (g_zt) (g_zp) (g_zf) (g_zh) (g_zr) (g_zc) (g_zy) (g_za) (g_zb) (g_zs) (g_zq) (hf71_0) (g_zm) (g_zk) (hf71_1) (by omega) (by omega)) kc_X12_put gX12_writeLetter_X12_put rfl rfl rfl ⟨Nat.le_of_ble_eq_true rfl, Nat.le_of_ble_eq_true rfl⟩ kX_t hK hP hD hS hA [1, 2] [0] rfl (by decide +kernel) rfl rfl rfl hl rfl (Nat.le_of_ble_eq_true rfl) dX12_writeLetter_198 ⟨Nat.le_of_ble_eq_true rfl, Nat.le_of_ble_eq_true rfl⟩ (fun H locs hB hJ hSn => ?_)
              refine hB _ (fun zn_76 eY_76 hPD9 hf76_0 hf76_1 hf76_2 hf76_3 => ?_)
              clear hB
              obtain ⟨hPn, hDn⟩ := hJ _ hPD9.1 hPD9.2 [(mB, .inl (cS, 131072, .inl eB)), (oM, .inr (12, [.ref mT, .int zt, .ref mS, .ref mX, .int zp, .int zf, .ref mL, .ref mB, .ref mD, .ref m1, .ref m2, .int zh, .ref mR, .int zr, .ref x1, .ref x2, .ref x3, .int zc, .ref mH, .int zy, .int za, .int zb, .int zs, .int zq, .int zw, .int ze, .ref mY, .int zn_76, .ref mE, .int zm, .int zl, .ref mW, .int zk, .ref mO, .int zd, .ref y1, .ref y2, .ref y3, .ref y4, .ref mZ])), (mY, .inl (cI, 2600, .inl eY_76))] rfl
              clear hP hD hS hJ hPD9
              have hP := hPn
              have hD := hDn
              have hS := hSn
              clear hPn hDn hSn
              have hap76 : AP zn zn_76 eY eY_76 [(38 : Int32).toInt, (35 : Int32).toInt, (x_65 : Int32).toInt, (x_70 : Int32).toInt, (x_75 : Int32).toInt] := AP_u hap71 (by omega) (by omega) hf76_3
              refine lv_iload_n hx hb dX12_writeLetter_201 rfl (lv_at hl 0 rfl) ?_
              refine lv_bipush (v := 10) hx hb dX12_writeLetter_202 (by decide) ?_
              refine lv_idiv hx hb dX12_writeLetter_204 (by decide) ?_
              refine k_i (y := 10) (by decide) ?_
              refine lv_istore_n (lv' := [(3, .int 10), (0, .ref oM), (1, .int cd), (2, .int x)]) hx hb dX12_writeLetter_205 rfl hl (by decide) rfl (fun ls hl => ?_)
              refine lv_goto (tgt := 184) hx hb dX12_writeLetter_206 (by decide) ?_
              refine lv_iload_n hx hb dX12_writeLetter_184 rfl (lv_at hl 0 rfl) ?_
              refine lv_if_le (tgt := 209) hx hb dX12_writeLetter_185 (by decide) (fun c_77 => absurd c_77 (by decide)) (fun c_77 => ?_)
              refine lv_aload_n hx hb dX12_writeLetter_188 rfl (lv_at hl 1 rfl) ?_
              refine lv_bipush (v := 48) hx hb dX12_writeLetter_189 (by decide) ?_
              refine lv_iload_n hx hb dX12_writeLetter_191 rfl (lv_at hl 3 rfl) ?_
              refine lv_iload_n hx hb dX12_writeLetter_192 rfl (lv_at hl 0 rfl) ?_
              refine lv_idiv hx hb dX12_writeLetter_193 (by decide) ?_
              refine lv_topi (fun x_78 ex_78 => ?_)
              have tx_78 : x_78.toInt = x.toInt / 10 := v_div ex_78 (by omega) (by decide)
              refine lv_bipush (v := 10) hx hb dX12_writeLetter_194 (by decide) ?_
              refine lv_irem hx hb dX12_writeLetter_196 (by decide) ?_
              refine lv_topi (fun x_79 ex_79 => ?_)
              have tx_79 : x_79.toInt = x_78.toInt % 10 := v_rem ex_79 (by omega) (by decide)
              refine lv_iadd hx hb dX12_writeLetter_197 ?_
              refine lv_topi (fun x_80 ex_80 => ?_)
              have tx_80 : x_80.toInt = 48 + x_79.toInt := v_add ex_80 (by show -2147483648 ≤ 48 + x_79.toInt; omega) (by show 48 + x_79.toInt < 2147483648; omega)
              refine kV_v (rest := []) (q0 := 0) (ci := 12) hcf (f_X12_put l dC dI cI cS H.size oM mT mS mX mL mB mD m1 m2 mR x1 x2 x3 mH mY mE mW mO y1 y2 y3 y4 mZ zt zp zf zh zr zc zy za zb zs zq zw ze zn_76 zm zl zk zd eY_76 x_80 (g_zt) (g_zp) (g_zf) (g_zh) (g_zr) (g_zc) (g_zy) (g_za) (g_zb) (g_zs) (g_zq) (hf76_0) (g_zm) (g_zk) (hf76_1) (by omega) (by omega)) kc_X12_put gX12_writeLetter_X12_put rfl rfl rfl ⟨Nat.le_of_ble_eq_true rfl, Nat.le_of_ble_eq_true rfl⟩ kX_t hK hP hD hS hA [1, 2] [0] rfl (by decide +kernel) rfl rfl rfl hl rfl (Nat.le_of_ble_eq_true rfl) dX12_writeLetter_198 ⟨Nat.le_of_ble_eq_true rfl, Nat.le_of_ble_eq_true rfl⟩ (fun H locs hB hJ hSn => ?_)
              refine hB _ (fun zn_81 eY_81 hPD9 hf81_0 hf81_1 hf81_2 hf81_3 => ?_)
              clear hB
              obtain ⟨hPn, hDn⟩ := hJ _ hPD9.1 hPD9.2 [(mB, .inl (cS, 131072, .inl eB)), (oM, .inr (12, [.ref mT, .int zt, .ref mS, .ref mX, .int zp, .int zf, .ref mL, .ref mB, .ref mD, .ref m1, .ref m2, .int zh, .ref mR, .int zr, .ref x1, .ref x2, .ref x3, .int zc, .ref mH, .int zy, .int za, .int zb, .int zs, .int zq, .int zw, .int ze, .ref mY, .int zn_81, .ref mE, .int zm, .int zl, .ref mW, .int zk, .ref mO, .int zd, .ref y1, .ref y2, .ref y3, .ref y4, .ref mZ])), (mY, .inl (cI, 2600, .inl eY_81))] rfl
              clear hP hD hS hJ hPD9
              have hP := hPn
              have hD := hDn
              have hS := hSn
              clear hPn hDn hSn
              have hap81 : AP zn zn_81 eY eY_81 [(38 : Int32).toInt, (35 : Int32).toInt, (x_65 : Int32).toInt, (x_70 : Int32).toInt, (x_75 : Int32).toInt, (x_80 : Int32).toInt] := AP_u hap76 (by omega) (by omega) hf81_3
              refine lv_iload_n hx hb dX12_writeLetter_201 rfl (lv_at hl 0 rfl) ?_
              refine lv_bipush (v := 10) hx hb dX12_writeLetter_202 (by decide) ?_
              refine lv_idiv hx hb dX12_writeLetter_204 (by decide) ?_
              refine k_i (y := 1) (by decide) ?_
              refine lv_istore_n (lv' := [(3, .int 1), (0, .ref oM), (1, .int cd), (2, .int x)]) hx hb dX12_writeLetter_205 rfl hl (by decide) rfl (fun ls hl => ?_)
              refine lv_goto (tgt := 184) hx hb dX12_writeLetter_206 (by decide) ?_
              refine lv_iload_n hx hb dX12_writeLetter_184 rfl (lv_at hl 0 rfl) ?_
              refine lv_if_le (tgt := 209) hx hb dX12_writeLetter_185 (by decide) (fun c_82 => absurd c_82 (by decide)) (fun c_82 => ?_)
              refine lv_aload_n hx hb dX12_writeLetter_188 rfl (lv_at hl 1 rfl) ?_
              refine lv_bipush (v := 48) hx hb dX12_writeLetter_189 (by decide) ?_
              refine lv_iload_n hx hb dX12_writeLetter_191 rfl (lv_at hl 3 rfl) ?_
              refine lv_iload_n hx hb dX12_writeLetter_192 rfl (lv_at hl 0 rfl) ?_
              refine lv_idiv hx hb dX12_writeLetter_193 (by decide) ?_
              refine lv_topi (fun x_83 ex_83 => ?_)
              have tx_83 : x_83.toInt = x.toInt / 1 := v_div ex_83 (by omega) (by decide)
              refine lv_bipush (v := 10) hx hb dX12_writeLetter_194 (by decide) ?_
              refine lv_irem hx hb dX12_writeLetter_196 (by decide) ?_
              refine lv_topi (fun x_84 ex_84 => ?_)
              have tx_84 : x_84.toInt = x_83.toInt % 10 := v_rem ex_84 (by omega) (by decide)
              refine lv_iadd hx hb dX12_writeLetter_197 ?_
              refine lv_topi (fun x_85 ex_85 => ?_)
              have tx_85 : x_85.toInt = 48 + x_84.toInt := v_add ex_85 (by show -2147483648 ≤ 48 + x_84.toInt; omega) (by show 48 + x_84.toInt < 2147483648; omega)
              refine kV_v (rest := []) (q0 := 0) (ci := 12) hcf (f_X12_put l dC dI cI cS H.size oM mT mS mX mL mB mD m1 m2 mR x1 x2 x3 mH mY mE mW mO y1 y2 y3 y4 mZ zt zp zf zh zr zc zy za zb zs zq zw ze zn_81 zm zl zk zd eY_81 x_85 (g_zt) (g_zp) (g_zf) (g_zh) (g_zr) (g_zc) (g_zy) (g_za) (g_zb) (g_zs) (g_zq) (hf81_0) (g_zm) (g_zk) (hf81_1) (by omega) (by omega)) kc_X12_put gX12_writeLetter_X12_put rfl rfl rfl ⟨Nat.le_of_ble_eq_true rfl, Nat.le_of_ble_eq_true rfl⟩ kX_t hK hP hD hS hA [1, 2] [0] rfl (by decide +kernel) rfl rfl rfl hl rfl (Nat.le_of_ble_eq_true rfl) dX12_writeLetter_198 ⟨Nat.le_of_ble_eq_true rfl, Nat.le_of_ble_eq_true rfl⟩ (fun H locs hB hJ hSn => ?_)
              refine hB _ (fun zn_86 eY_86 hPD9 hf86_0 hf86_1 hf86_2 hf86_3 => ?_)
              clear hB
              obtain ⟨hPn, hDn⟩ := hJ _ hPD9.1 hPD9.2 [(mB, .inl (cS, 131072, .inl eB)), (oM, .inr (12, [.ref mT, .int zt, .ref mS, .ref mX, .int zp, .int zf, .ref mL, .ref mB, .ref mD, .ref m1, .ref m2, .int zh, .ref mR, .int zr, .ref x1, .ref x2, .ref x3, .int zc, .ref mH, .int zy, .int za, .int zb, .int zs, .int zq, .int zw, .int ze, .ref mY, .int zn_86, .ref mE, .int zm, .int zl, .ref mW, .int zk, .ref mO, .int zd, .ref y1, .ref y2, .ref y3, .ref y4, .ref mZ])), (mY, .inl (cI, 2600, .inl eY_86))] rfl
              clear hP hD hS hJ hPD9
              have hP := hPn
              have hD := hDn
              have hS := hSn
              clear hPn hDn hSn
              have hap86 : AP zn zn_86 eY eY_86 [(38 : Int32).toInt, (35 : Int32).toInt, (x_65 : Int32).toInt, (x_70 : Int32).toInt, (x_75 : Int32).toInt, (x_80 : Int32).toInt, (x_85 : Int32).toInt] := AP_u hap81 (by omega) (by omega) hf86_3
              refine lv_iload_n hx hb dX12_writeLetter_201 rfl (lv_at hl 0 rfl) ?_
              refine lv_bipush (v := 10) hx hb dX12_writeLetter_202 (by decide) ?_
              refine lv_idiv hx hb dX12_writeLetter_204 (by decide) ?_
              refine k_i (y := 0) (by decide) ?_
              refine lv_istore_n (lv' := [(3, .int 0), (0, .ref oM), (1, .int cd), (2, .int x)]) hx hb dX12_writeLetter_205 rfl hl (by decide) rfl (fun ls hl => ?_)
              refine lv_goto (tgt := 184) hx hb dX12_writeLetter_206 (by decide) ?_
              refine lv_iload_n hx hb dX12_writeLetter_184 rfl (lv_at hl 0 rfl) ?_
              refine lv_if_le (tgt := 209) hx hb dX12_writeLetter_185 (by decide) (fun c_87 => ?_) (fun c_87 => absurd c_87 (by decide))
              refine lv_aload_n hx hb dX12_writeLetter_209 rfl (lv_at hl 1 rfl) ?_
              refine lv_bipush (v := 59) hx hb dX12_writeLetter_210 (by decide) ?_
              refine kV_v (rest := []) (q0 := 0) (ci := 12) hcf (f_X12_put l dC dI cI cS H.size oM mT mS mX mL mB mD m1 m2 mR x1 x2 x3 mH mY mE mW mO y1 y2 y3 y4 mZ zt zp zf zh zr zc zy za zb zs zq zw ze zn_86 zm zl zk zd eY_86 59 (g_zt) (g_zp) (g_zf) (g_zh) (g_zr) (g_zc) (g_zy) (g_za) (g_zb) (g_zs) (g_zq) (hf86_0) (g_zm) (g_zk) (hf86_1) (by decide) (by omega)) kc_X12_put gX12_writeLetter_X12_put rfl rfl rfl ⟨Nat.le_of_ble_eq_true rfl, Nat.le_of_ble_eq_true rfl⟩ kX_t hK hP hD hS hA [1, 2] [0] rfl (by decide +kernel) rfl rfl rfl hl rfl (Nat.le_of_ble_eq_true rfl) dX12_writeLetter_212 ⟨Nat.le_of_ble_eq_true rfl, Nat.le_of_ble_eq_true rfl⟩ (fun H locs hB hJ hSn => ?_)
              refine hB _ (fun zn_88 eY_88 hPD9 hf88_0 hf88_1 hf88_2 hf88_3 => ?_)
              clear hB
              obtain ⟨hPn, hDn⟩ := hJ _ hPD9.1 hPD9.2 [(mB, .inl (cS, 131072, .inl eB)), (oM, .inr (12, [.ref mT, .int zt, .ref mS, .ref mX, .int zp, .int zf, .ref mL, .ref mB, .ref mD, .ref m1, .ref m2, .int zh, .ref mR, .int zr, .ref x1, .ref x2, .ref x3, .int zc, .ref mH, .int zy, .int za, .int zb, .int zs, .int zq, .int zw, .int ze, .ref mY, .int zn_88, .ref mE, .int zm, .int zl, .ref mW, .int zk, .ref mO, .int zd, .ref y1, .ref y2, .ref y3, .ref y4, .ref mZ])), (mY, .inl (cI, 2600, .inl eY_88))] rfl
              clear hP hD hS hJ hPD9
              have hP := hPn
              have hD := hDn
              have hS := hSn
              clear hPn hDn hSn
              have hap88 : AP zn zn_88 eY eY_88 [(38 : Int32).toInt, (35 : Int32).toInt, (x_65 : Int32).toInt, (x_70 : Int32).toInt, (x_75 : Int32).toInt, (x_80 : Int32).toInt, (x_85 : Int32).toInt, (59 : Int32).toInt] := AP_u hap86 (by omega) (by omega) hf88_3
              refine lv_goto (tgt := 244) hx hb dX12_writeLetter_215 (by decide) ?_
              refine lv_iconst (v := 1) hx hb dX12_writeLetter_244 (by decide) ?_
              exact kl_z (v := 1) hQQ hx hb hr hlocks hS dX12_writeLetter_245 (rfl) (fun PZ9 kZ9 => kZ9 zn_88 eY_88 (kPD_sub hP hD [1, 2, 0] (by decide +kernel) rfl) (hf88_0) (hf88_1) (by decide) (by show zn_88.toInt ≤ zn.toInt + 8; omega) (F_en_y (by first | omega | rfl) hap88 (by first | (unfold enc; rw [if_neg (by omega), if_neg (by omega), if_neg (by omega), if_pos (by omega), if_neg (by omega)]; unfold encN; rw [if_neg (by omega), if_neg (by omega), if_neg (by omega), if_neg (by omega)]; exact L8 rfl rfl (by first | (rw [tx_65, tx_64, tx_63]; done) | (rw [tx_65, tx_64, tx_63]; exact Int.add_comm _ _) | omega) (by first | (rw [tx_70, tx_69, tx_68]; done) | (rw [tx_70, tx_69, tx_68]; exact Int.add_comm _ _) | omega) (by first | (rw [tx_75, tx_74, tx_73]; done) | (rw [tx_75, tx_74, tx_73]; exact Int.add_comm _ _) | omega) (by first | (rw [tx_80, tx_79, tx_78]; done) | (rw [tx_80, tx_79, tx_78]; exact Int.add_comm _ _) | omega) (by first | (rw [tx_85, tx_84, tx_83]; done) | (rw [tx_85, tx_84, tx_83]; exact Int.add_comm _ _) | omega) rfl) | (exfalso; omega))))
        · have tc_10 : x.toInt < 128 := v_nle c_10
          refine lv_iload_n hx hb dX12_writeLetter_140 rfl (lv_at hl 2 rfl) ?_
          refine lv_bipush (v := 38) hx hb dX12_writeLetter_141 (by decide) ?_
          refine lv_icmp_eq (tgt := 154) hx hb dX12_writeLetter_143 (by decide) (fun c_89 => ?_) (fun c_89 => ?_)
          · have tc_89 : x.toInt = 38 := v_eq c_89
            refine lv_aload_n hx hb dX12_writeLetter_154 rfl (lv_at hl 0 rfl) ?_
            refine lv_bipush (v := 38) hx hb dX12_writeLetter_155 (by decide) ?_
            refine kV_v (rest := []) (q0 := 0) (ci := 12) hcf (f_X12_put l dC dI cI cS s.heap.size oM mT mS mX mL mB mD m1 m2 mR x1 x2 x3 mH mY mE mW mO y1 y2 y3 y4 mZ zt zp zf zh zr zc zy za zb zs zq zw ze zn zm zl zk zd eY 38 (g_zt) (g_zp) (g_zf) (g_zh) (g_zr) (g_zc) (g_zy) (g_za) (g_zb) (g_zs) (g_zq) (g_zn) (g_zm) (g_zk) (g_eY) (by decide) (by omega)) kc_X12_put gX12_writeLetter_X12_put rfl rfl rfl ⟨Nat.le_of_ble_eq_true rfl, Nat.le_of_ble_eq_true rfl⟩ kX_t hK hP hD hS hA [0, 1] [2] rfl (by decide +kernel) rfl rfl rfl hl rfl (Nat.le_of_ble_eq_true rfl) dX12_writeLetter_157 ⟨Nat.le_of_ble_eq_true rfl, Nat.le_of_ble_eq_true rfl⟩ (fun H locs hB hJ hSn => ?_)
            refine hB _ (fun zn_90 eY_90 hPD9 hf90_0 hf90_1 hf90_2 hf90_3 => ?_)
            clear hB
            obtain ⟨hPn, hDn⟩ := hJ _ hPD9.1 hPD9.2 [(mB, .inl (cS, 131072, .inl eB)), (oM, .inr (12, [.ref mT, .int zt, .ref mS, .ref mX, .int zp, .int zf, .ref mL, .ref mB, .ref mD, .ref m1, .ref m2, .int zh, .ref mR, .int zr, .ref x1, .ref x2, .ref x3, .int zc, .ref mH, .int zy, .int za, .int zb, .int zs, .int zq, .int zw, .int ze, .ref mY, .int zn_90, .ref mE, .int zm, .int zl, .ref mW, .int zk, .ref mO, .int zd, .ref y1, .ref y2, .ref y3, .ref y4, .ref mZ])), (mY, .inl (cI, 2600, .inl eY_90))] rfl
            clear hP hD hS hJ hPD9
            have hP := hPn
            have hD := hDn
            have hS := hSn
            clear hPn hDn hSn
            have hap90 : AP zn zn_90 eY eY_90 [(38 : Int32).toInt] := AP_u (AP_0 (l := zn) (f := eY)) (by omega) (by omega) hf90_3
            refine lv_aload_n hx hb dX12_writeLetter_160 rfl (lv_at hl 0 rfl) ?_
            refine lv_bipush (v := 35) hx hb dX12_writeLetter_161 (by decide) ?_
            refine kV_v (rest := []) (q0 := 0) (ci := 12) hcf (f_X12_put l dC dI cI cS H.size oM mT mS mX mL mB mD m1 m2 mR x1 x2 x3 mH mY mE mW mO y1 y2 y3 y4 mZ zt zp zf zh zr zc zy za zb zs zq zw ze zn_90 zm zl zk zd eY_90 35 (g_zt) (g_zp) (g_zf) (g_zh) (g_zr) (g_zc) (g_zy) (g_za) (g_zb) (g_zs) (g_zq) (hf90_0) (g_zm) (g_zk) (hf90_1) (by decide) (by omega)) kc_X12_put gX12_writeLetter_X12_put rfl rfl rfl ⟨Nat.le_of_ble_eq_true rfl, Nat.le_of_ble_eq_true rfl⟩ kX_t hK hP hD hS hA [1, 2] [0] rfl (by decide +kernel) rfl rfl rfl hl rfl (Nat.le_of_ble_eq_true rfl) dX12_writeLetter_163 ⟨Nat.le_of_ble_eq_true rfl, Nat.le_of_ble_eq_true rfl⟩ (fun H locs hB hJ hSn => ?_)
            refine hB _ (fun zn_91 eY_91 hPD9 hf91_0 hf91_1 hf91_2 hf91_3 => ?_)
            clear hB
            obtain ⟨hPn, hDn⟩ := hJ _ hPD9.1 hPD9.2 [(mB, .inl (cS, 131072, .inl eB)), (oM, .inr (12, [.ref mT, .int zt, .ref mS, .ref mX, .int zp, .int zf, .ref mL, .ref mB, .ref mD, .ref m1, .ref m2, .int zh, .ref mR, .int zr, .ref x1, .ref x2, .ref x3, .int zc, .ref mH, .int zy, .int za, .int zb, .int zs, .int zq, .int zw, .int ze, .ref mY, .int zn_91, .ref mE, .int zm, .int zl, .ref mW, .int zk, .ref mO, .int zd, .ref y1, .ref y2, .ref y3, .ref y4, .ref mZ])), (mY, .inl (cI, 2600, .inl eY_91))] rfl
            clear hP hD hS hJ hPD9
            have hP := hPn
            have hD := hDn
            have hS := hSn
            clear hPn hDn hSn
            have hap91 : AP zn zn_91 eY eY_91 [(38 : Int32).toInt, (35 : Int32).toInt] := AP_u hap90 (by omega) (by omega) hf91_3
            refine lv_iconst (v := 1) hx hb dX12_writeLetter_166 (by decide) ?_
            refine lv_istore_n (lv' := [(3, .int 1), (0, .ref oM), (1, .int cd), (2, .int x)]) hx hb dX12_writeLetter_167 rfl hl (by decide) rfl (fun ls hl => ?_)
            refine lv_iload_n hx hb dX12_writeLetter_168 rfl (lv_at hl 3 rfl) ?_
            refine lv_iload_n hx hb dX12_writeLetter_169 rfl (lv_at hl 0 rfl) ?_
            refine lv_idiv hx hb dX12_writeLetter_170 (by decide) ?_
            refine lv_topi (fun x_92 ex_92 => ?_)
            have tx_92 : x_92.toInt = x.toInt / 1 := v_div ex_92 (by omega) (by decide)
            refine lv_bipush (v := 10) hx hb dX12_writeLetter_171 (by decide) ?_
            refine lv_icmp_lt (tgt := 184) hx hb dX12_writeLetter_173 (by decide) (fun c_93 => by exfalso; have tc_93 : x_92.toInt < 10 := v_lt c_93; omega) (fun c_93 => ?_)
            have tc_93 : 10 ≤ x_92.toInt := v_nlt c_93
            refine lv_iload_n hx hb dX12_writeLetter_176 rfl (lv_at hl 0 rfl) ?_
            refine lv_bipush (v := 10) hx hb dX12_writeLetter_177 (by decide) ?_
            refine lv_imul hx hb dX12_writeLetter_179 ?_
            refine k_i (y := 10) (by decide) ?_
            refine lv_istore_n (lv' := [(3, .int 10), (0, .ref oM), (1, .int cd), (2, .int x)]) hx hb dX12_writeLetter_180 rfl hl (by decide) rfl (fun ls hl => ?_)
            refine lv_goto (tgt := 168) hx hb dX12_writeLetter_181 (by decide) ?_
            refine lv_iload_n hx hb dX12_writeLetter_168 rfl (lv_at hl 3 rfl) ?_
            refine lv_iload_n hx hb dX12_writeLetter_169 rfl (lv_at hl 0 rfl) ?_
            refine lv_idiv hx hb dX12_writeLetter_170 (by decide) ?_
            refine lv_topi (fun x_94 ex_94 => ?_)
            have tx_94 : x_94.toInt = x.toInt / 10 := v_div ex_94 (by omega) (by decide)
            refine lv_bipush (v := 10) hx hb dX12_writeLetter_171 (by decide) ?_
            refine lv_icmp_lt (tgt := 184) hx hb dX12_writeLetter_173 (by decide) (fun c_95 => ?_) (fun c_95 => by exfalso; have tc_95 : 10 ≤ x_94.toInt := v_nlt c_95; omega)
            have tc_95 : x_94.toInt < 10 := v_lt c_95
            refine lv_iload_n hx hb dX12_writeLetter_184 rfl (lv_at hl 0 rfl) ?_
            refine lv_if_le (tgt := 209) hx hb dX12_writeLetter_185 (by decide) (fun c_96 => absurd c_96 (by decide)) (fun c_96 => ?_)
            refine lv_aload_n hx hb dX12_writeLetter_188 rfl (lv_at hl 1 rfl) ?_
            refine lv_bipush (v := 48) hx hb dX12_writeLetter_189 (by decide) ?_
            refine lv_iload_n hx hb dX12_writeLetter_191 rfl (lv_at hl 3 rfl) ?_
            refine lv_iload_n hx hb dX12_writeLetter_192 rfl (lv_at hl 0 rfl) ?_
            refine lv_idiv hx hb dX12_writeLetter_193 (by decide) ?_
            refine lv_topi (fun x_97 ex_97 => ?_)
            have tx_97 : x_97.toInt = x.toInt / 10 := v_div ex_97 (by omega) (by decide)
            refine lv_bipush (v := 10) hx hb dX12_writeLetter_194 (by decide) ?_
            refine lv_irem hx hb dX12_writeLetter_196 (by decide) ?_
            refine lv_topi (fun x_98 ex_98 => ?_)
            have tx_98 : x_98.toInt = x_97.toInt % 10 := v_rem ex_98 (by omega) (by decide)
            refine lv_iadd hx hb dX12_writeLetter_197 ?_
            refine lv_topi (fun x_99 ex_99 => ?_)
            have tx_99 : x_99.toInt = 48 + x_98.toInt := v_add ex_99 (by show -2147483648 ≤ 48 + x_98.toInt; omega) (by show 48 + x_98.toInt < 2147483648; omega)
            refine kV_v (rest := []) (q0 := 0) (ci := 12) hcf (f_X12_put l dC dI cI cS H.size oM mT mS mX mL mB mD m1 m2 mR x1 x2 x3 mH mY mE mW mO y1 y2 y3 y4 mZ zt zp zf zh zr zc zy za zb zs zq zw ze zn_91 zm zl zk zd eY_91 x_99 (g_zt) (g_zp) (g_zf) (g_zh) (g_zr) (g_zc) (g_zy) (g_za) (g_zb) (g_zs) (g_zq) (hf91_0) (g_zm) (g_zk) (hf91_1) (by omega) (by omega)) kc_X12_put gX12_writeLetter_X12_put rfl rfl rfl ⟨Nat.le_of_ble_eq_true rfl, Nat.le_of_ble_eq_true rfl⟩ kX_t hK hP hD hS hA [1, 2] [0] rfl (by decide +kernel) rfl rfl rfl hl rfl (Nat.le_of_ble_eq_true rfl) dX12_writeLetter_198 ⟨Nat.le_of_ble_eq_true rfl, Nat.le_of_ble_eq_true rfl⟩ (fun H locs hB hJ hSn => ?_)
            refine hB _ (fun zn_100 eY_100 hPD9 hf100_0 hf100_1 hf100_2 hf100_3 => ?_)
            clear hB
            obtain ⟨hPn, hDn⟩ := hJ _ hPD9.1 hPD9.2 [(mB, .inl (cS, 131072, .inl eB)), (oM, .inr (12, [.ref mT, .int zt, .ref mS, .ref mX, .int zp, .int zf, .ref mL, .ref mB, .ref mD, .ref m1, .ref m2, .int zh, .ref mR, .int zr, .ref x1, .ref x2, .ref x3, .int zc, .ref mH, .int zy, .int za, .int zb, .int zs, .int zq, .int zw, .int ze, .ref mY, .int zn_100, .ref mE, .int zm, .int zl, .ref mW, .int zk, .ref mO, .int zd, .ref y1, .ref y2, .ref y3, .ref y4, .ref mZ])), (mY, .inl (cI, 2600, .inl eY_100))] rfl
            clear hP hD hS hJ hPD9
            have hP := hPn
            have hD := hDn
            have hS := hSn
            clear hPn hDn hSn
            have hap100 : AP zn zn_100 eY eY_100 [(38 : Int32).toInt, (35 : Int32).toInt, (x_99 : Int32).toInt] := AP_u hap91 (by omega) (by omega) hf100_3
            refine lv_iload_n hx hb dX12_writeLetter_201 rfl (lv_at hl 0 rfl) ?_
            refine lv_bipush (v := 10) hx hb dX12_writeLetter_202 (by decide) ?_
            refine lv_idiv hx hb dX12_writeLetter_204 (by decide) ?_
            refine k_i (y := 1) (by decide) ?_
            refine lv_istore_n (lv' := [(3, .int 1), (0, .ref oM), (1, .int cd), (2, .int x)]) hx hb dX12_writeLetter_205 rfl hl (by decide) rfl (fun ls hl => ?_)
            refine lv_goto (tgt := 184) hx hb dX12_writeLetter_206 (by decide) ?_
            refine lv_iload_n hx hb dX12_writeLetter_184 rfl (lv_at hl 0 rfl) ?_
            refine lv_if_le (tgt := 209) hx hb dX12_writeLetter_185 (by decide) (fun c_101 => absurd c_101 (by decide)) (fun c_101 => ?_)
            refine lv_aload_n hx hb dX12_writeLetter_188 rfl (lv_at hl 1 rfl) ?_
            refine lv_bipush (v := 48) hx hb dX12_writeLetter_189 (by decide) ?_
            refine lv_iload_n hx hb dX12_writeLetter_191 rfl (lv_at hl 3 rfl) ?_
            refine lv_iload_n hx hb dX12_writeLetter_192 rfl (lv_at hl 0 rfl) ?_
            refine lv_idiv hx hb dX12_writeLetter_193 (by decide) ?_
            refine lv_topi (fun x_102 ex_102 => ?_)
            have tx_102 : x_102.toInt = x.toInt / 1 := v_div ex_102 (by omega) (by decide)
            refine lv_bipush (v := 10) hx hb dX12_writeLetter_194 (by decide) ?_
            refine lv_irem hx hb dX12_writeLetter_196 (by decide) ?_
            refine lv_topi (fun x_103 ex_103 => ?_)
            have tx_103 : x_103.toInt = x_102.toInt % 10 := v_rem ex_103 (by omega) (by decide)
            refine lv_iadd hx hb dX12_writeLetter_197 ?_
            refine lv_topi (fun x_104 ex_104 => ?_)
            have tx_104 : x_104.toInt = 48 + x_103.toInt := v_add ex_104 (by show -2147483648 ≤ 48 + x_103.toInt; omega) (by show 48 + x_103.toInt < 2147483648; omega)
            refine kV_v (rest := []) (q0 := 0) (ci := 12) hcf (f_X12_put l dC dI cI cS H.size oM mT mS mX mL mB mD m1 m2 mR x1 x2 x3 mH mY mE mW mO y1 y2 y3 y4 mZ zt zp zf zh zr zc zy za zb zs zq zw ze zn_100 zm zl zk zd eY_100 x_104 (g_zt) (g_zp) (g_zf) (g_zh) (g_zr) (g_zc) (g_zy) (g_za) (g_zb) (g_zs) (g_zq) (hf100_0) (g_zm) (g_zk) (hf100_1) (by omega) (by omega)) kc_X12_put gX12_writeLetter_X12_put rfl rfl rfl ⟨Nat.le_of_ble_eq_true rfl, Nat.le_of_ble_eq_true rfl⟩ kX_t hK hP hD hS hA [1, 2] [0] rfl (by decide +kernel) rfl rfl rfl hl rfl (Nat.le_of_ble_eq_true rfl) dX12_writeLetter_198 ⟨Nat.le_of_ble_eq_true rfl, Nat.le_of_ble_eq_true rfl⟩ (fun H locs hB hJ hSn => ?_)
            refine hB _ (fun zn_105 eY_105 hPD9 hf105_0 hf105_1 hf105_2 hf105_3 => ?_)
            clear hB
            obtain ⟨hPn, hDn⟩ := hJ _ hPD9.1 hPD9.2 [(mB, .inl (cS, 131072, .inl eB)), (oM, .inr (12, [.ref mT, .int zt, .ref mS, .ref mX, .int zp, .int zf, .ref mL, .ref mB, .ref mD, .ref m1, .ref m2, .int zh, .ref mR, .int zr, .ref x1, .ref x2, .ref x3, .int zc, .ref mH, .int zy, .int za, .int zb, .int zs, .int zq, .int zw, .int ze, .ref mY, .int zn_105, .ref mE, .int zm, .int zl, .ref mW, .int zk, .ref mO, .int zd, .ref y1, .ref y2, .ref y3, .ref y4, .ref mZ])), (mY, .inl (cI, 2600, .inl eY_105))] rfl
            clear hP hD hS hJ hPD9
            have hP := hPn
            have hD := hDn
            have hS := hSn
            clear hPn hDn hSn
            have hap105 : AP zn zn_105 eY eY_105 [(38 : Int32).toInt, (35 : Int32).toInt, (x_99 : Int32).toInt, (x_104 : Int32).toInt] := AP_u hap100 (by omega) (by omega) hf105_3
            refine lv_iload_n hx hb dX12_writeLetter_201 rfl (lv_at hl 0 rfl) ?_
            refine lv_bipush (v := 10) hx hb dX12_writeLetter_202 (by decide) ?_
            refine lv_idiv hx hb dX12_writeLetter_204 (by decide) ?_
            refine k_i (y := 0) (by decide) ?_
            refine lv_istore_n (lv' := [(3, .int 0), (0, .ref oM), (1, .int cd), (2, .int x)]) hx hb dX12_writeLetter_205 rfl hl (by decide) rfl (fun ls hl => ?_)
            refine lv_goto (tgt := 184) hx hb dX12_writeLetter_206 (by decide) ?_
            refine lv_iload_n hx hb dX12_writeLetter_184 rfl (lv_at hl 0 rfl) ?_
            refine lv_if_le (tgt := 209) hx hb dX12_writeLetter_185 (by decide) (fun c_106 => ?_) (fun c_106 => absurd c_106 (by decide))
            refine lv_aload_n hx hb dX12_writeLetter_209 rfl (lv_at hl 1 rfl) ?_
            refine lv_bipush (v := 59) hx hb dX12_writeLetter_210 (by decide) ?_
            refine kV_v (rest := []) (q0 := 0) (ci := 12) hcf (f_X12_put l dC dI cI cS H.size oM mT mS mX mL mB mD m1 m2 mR x1 x2 x3 mH mY mE mW mO y1 y2 y3 y4 mZ zt zp zf zh zr zc zy za zb zs zq zw ze zn_105 zm zl zk zd eY_105 59 (g_zt) (g_zp) (g_zf) (g_zh) (g_zr) (g_zc) (g_zy) (g_za) (g_zb) (g_zs) (g_zq) (hf105_0) (g_zm) (g_zk) (hf105_1) (by decide) (by omega)) kc_X12_put gX12_writeLetter_X12_put rfl rfl rfl ⟨Nat.le_of_ble_eq_true rfl, Nat.le_of_ble_eq_true rfl⟩ kX_t hK hP hD hS hA [1, 2] [0] rfl (by decide +kernel) rfl rfl rfl hl rfl (Nat.le_of_ble_eq_true rfl) dX12_writeLetter_212 ⟨Nat.le_of_ble_eq_true rfl, Nat.le_of_ble_eq_true rfl⟩ (fun H locs hB hJ hSn => ?_)
            refine hB _ (fun zn_107 eY_107 hPD9 hf107_0 hf107_1 hf107_2 hf107_3 => ?_)
            clear hB
            obtain ⟨hPn, hDn⟩ := hJ _ hPD9.1 hPD9.2 [(mB, .inl (cS, 131072, .inl eB)), (oM, .inr (12, [.ref mT, .int zt, .ref mS, .ref mX, .int zp, .int zf, .ref mL, .ref mB, .ref mD, .ref m1, .ref m2, .int zh, .ref mR, .int zr, .ref x1, .ref x2, .ref x3, .int zc, .ref mH, .int zy, .int za, .int zb, .int zs, .int zq, .int zw, .int ze, .ref mY, .int zn_107, .ref mE, .int zm, .int zl, .ref mW, .int zk, .ref mO, .int zd, .ref y1, .ref y2, .ref y3, .ref y4, .ref mZ])), (mY, .inl (cI, 2600, .inl eY_107))] rfl
            clear hP hD hS hJ hPD9
            have hP := hPn
            have hD := hDn
            have hS := hSn
            clear hPn hDn hSn
            have hap107 : AP zn zn_107 eY eY_107 [(38 : Int32).toInt, (35 : Int32).toInt, (x_99 : Int32).toInt, (x_104 : Int32).toInt, (59 : Int32).toInt] := AP_u hap105 (by omega) (by omega) hf107_3
            refine lv_goto (tgt := 244) hx hb dX12_writeLetter_215 (by decide) ?_
            refine lv_iconst (v := 1) hx hb dX12_writeLetter_244 (by decide) ?_
            exact kl_z (v := 1) hQQ hx hb hr hlocks hS dX12_writeLetter_245 (rfl) (fun PZ9 kZ9 => kZ9 zn_107 eY_107 (kPD_sub hP hD [1, 2, 0] (by decide +kernel) rfl) (hf107_0) (hf107_1) (by decide) (by show zn_107.toInt ≤ zn.toInt + 8; omega) (F_en_y (by first | omega | rfl) hap107 (by first | (unfold enc; rw [if_neg (by omega), if_neg (by omega), if_neg (by omega), if_pos (by omega), if_neg (by omega)]; unfold encN; rw [if_neg (by omega), if_pos (by omega)]; exact L5 rfl rfl (by first | (rw [tx_99, tx_98, tx_97]; done) | (rw [tx_99, tx_98, tx_97]; exact Int.add_comm _ _) | omega) (by first | (rw [tx_104, tx_103, tx_102]; done) | (rw [tx_104, tx_103, tx_102]; exact Int.add_comm _ _) | omega) rfl) | (exfalso; omega))))
          · have tc_89 : ¬ x.toInt = 38 := v_ne c_89
            refine lv_aload_n hx hb dX12_writeLetter_146 rfl (lv_at hl 0 rfl) ?_
            refine lv_iload_n hx hb dX12_writeLetter_147 rfl (lv_at hl 2 rfl) ?_
            refine kV_v (rest := []) (q0 := 0) (ci := 12) hcf (f_X12_put l dC dI cI cS s.heap.size oM mT mS mX mL mB mD m1 m2 mR x1 x2 x3 mH mY mE mW mO y1 y2 y3 y4 mZ zt zp zf zh zr zc zy za zb zs zq zw ze zn zm zl zk zd eY x (g_zt) (g_zp) (g_zf) (g_zh) (g_zr) (g_zc) (g_zy) (g_za) (g_zb) (g_zs) (g_zq) (g_zn) (g_zm) (g_zk) (g_eY) (by omega) (by omega)) kc_X12_put gX12_writeLetter_X12_put rfl rfl rfl ⟨Nat.le_of_ble_eq_true rfl, Nat.le_of_ble_eq_true rfl⟩ kX_t hK hP hD hS hA [0, 1] [2] rfl (by decide +kernel) rfl rfl rfl hl rfl (Nat.le_of_ble_eq_true rfl) dX12_writeLetter_148 ⟨Nat.le_of_ble_eq_true rfl, Nat.le_of_ble_eq_true rfl⟩ (fun H locs hB hJ hSn => ?_)
            refine hB _ (fun zn_108 eY_108 hPD9 hf108_0 hf108_1 hf108_2 hf108_3 => ?_)
            clear hB
            obtain ⟨hPn, hDn⟩ := hJ _ hPD9.1 hPD9.2 [(mB, .inl (cS, 131072, .inl eB)), (oM, .inr (12, [.ref mT, .int zt, .ref mS, .ref mX, .int zp, .int zf, .ref mL, .ref mB, .ref mD, .ref m1, .ref m2, .int zh, .ref mR, .int zr, .ref x1, .ref x2, .ref x3, .int zc, .ref mH, .int zy, .int za, .int zb, .int zs, .int zq, .int zw, .int ze, .ref mY, .int zn_108, .ref mE, .int zm, .int zl, .ref mW, .int zk, .ref mO, .int zd, .ref y1, .ref y2, .ref y3, .ref y4, .ref mZ])), (mY, .inl (cI, 2600, .inl eY_108))] rfl
            clear hP hD hS hJ hPD9
            have hP := hPn
            have hD := hDn
            have hS := hSn
            clear hPn hDn hSn
            have hap108 : AP zn zn_108 eY eY_108 [(x : Int32).toInt] := AP_u (AP_0 (l := zn) (f := eY)) (by omega) (by omega) hf108_3
            refine lv_goto (tgt := 244) hx hb dX12_writeLetter_151 (by decide) ?_
            refine lv_iconst (v := 1) hx hb dX12_writeLetter_244 (by decide) ?_
            exact kl_z (v := 1) hQQ hx hb hr hlocks hS dX12_writeLetter_245 (rfl) (fun PZ9 kZ9 => kZ9 zn_108 eY_108 (kPD_sub hP hD [1, 2, 0] (by decide +kernel) rfl) (hf108_0) (hf108_1) (by decide) (by show zn_108.toInt ≤ zn.toInt + 8; omega) (F_en_y (by first | omega | rfl) hap108 (by first | (unfold enc; (repeat (first | rw [if_neg (by omega)] | rw [if_pos (by omega)])) <;> exact L1 (by first | omega | rfl)) | (exfalso; omega))))
    · have tc_2 : cd.toInt = 2 := v_eq c_2
      refine lv_iload_n hx hb dX12_writeLetter_36 rfl (lv_at hl 2 rfl) ?_
      refine lv_sipush (v := 128) hx hb dX12_writeLetter_37 (by decide) ?_
      refine lv_icmp_ge (tgt := 51) hx hb dX12_writeLetter_40 (by decide) (fun c_109 => ?_) (fun c_109 => ?_)
      · have tc_109 : 128 ≤ x.toInt := v_le c_109
        refine lv_iload_n hx hb dX12_writeLetter_51 rfl (lv_at hl 2 rfl) ?_
        refine lv_sipush (v := 2048) hx hb dX12_writeLetter_52 (by decide) ?_
        refine lv_icmp_ge (tgt := 85) hx hb dX12_writeLetter_55 (by decide) (fun c_110 => ?_) (fun c_110 => ?_)
        · have tc_110 : 2048 ≤ x.toInt := v_le c_110
          refine lv_aload_n hx hb dX12_writeLetter_85 rfl (lv_at hl 0 rfl) ?_
          refine lv_sipush (v := 224) hx hb dX12_writeLetter_86 (by decide) ?_
          refine lv_iload_n hx hb dX12_writeLetter_89 rfl (lv_at hl 2 rfl) ?_
          refine lv_sipush (v := 4096) hx hb dX12_writeLetter_90 (by decide) ?_
          refine lv_idiv hx hb dX12_writeLetter_93 (by decide) ?_
          refine lv_topi (fun x_111 ex_111 => ?_)
          have tx_111 : x_111.toInt = x.toInt / 4096 := v_div ex_111 (by omega) (by decide)
          refine lv_iadd hx hb dX12_writeLetter_94 ?_
          refine lv_topi (fun x_112 ex_112 => ?_)
          have tx_112 : x_112.toInt = 224 + x_111.toInt := v_add ex_112 (by show -2147483648 ≤ 224 + x_111.toInt; omega) (by show 224 + x_111.toInt < 2147483648; omega)
          refine kV_v (rest := []) (q0 := 0) (ci := 12) hcf (f_X12_put l dC dI cI cS s.heap.size oM mT mS mX mL mB mD m1 m2 mR x1 x2 x3 mH mY mE mW mO y1 y2 y3 y4 mZ zt zp zf zh zr zc zy za zb zs zq zw ze zn zm zl zk zd eY x_112 (g_zt) (g_zp) (g_zf) (g_zh) (g_zr) (g_zc) (g_zy) (g_za) (g_zb) (g_zs) (g_zq) (g_zn) (g_zm) (g_zk) (g_eY) (by omega) (by omega)) kc_X12_put gX12_writeLetter_X12_put rfl rfl rfl ⟨Nat.le_of_ble_eq_true rfl, Nat.le_of_ble_eq_true rfl⟩ kX_t hK hP hD hS hA [0, 1] [2] rfl (by decide +kernel) rfl rfl rfl hl rfl (Nat.le_of_ble_eq_true rfl) dX12_writeLetter_95 ⟨Nat.le_of_ble_eq_true rfl, Nat.le_of_ble_eq_true rfl⟩ (fun H locs hB hJ hSn => ?_)
          refine hB _ (fun zn_113 eY_113 hPD9 hf113_0 hf113_1 hf113_2 hf113_3 => ?_)
          clear hB
          obtain ⟨hPn, hDn⟩ := hJ _ hPD9.1 hPD9.2 [(mB, .inl (cS, 131072, .inl eB)), (oM, .inr (12, [.ref mT, .int zt, .ref mS, .ref mX, .int zp, .int zf, .ref mL, .ref mB, .ref mD, .ref m1, .ref m2, .int zh, .ref mR, .int zr, .ref x1, .ref x2, .ref x3, .int zc, .ref mH, .int zy, .int za, .int zb, .int zs, .int zq, .int zw, .int ze, .ref mY, .int zn_113, .ref mE, .int zm, .int zl, .ref mW, .int zk, .ref mO, .int zd, .ref y1, .ref y2, .ref y3, .ref y4, .ref mZ])), (mY, .inl (cI, 2600, .inl eY_113))] rfl
          clear hP hD hS hJ hPD9
          have hP := hPn
          have hD := hDn
          have hS := hSn
          clear hPn hDn hSn
          have hap113 : AP zn zn_113 eY eY_113 [(x_112 : Int32).toInt] := AP_u (AP_0 (l := zn) (f := eY)) (by omega) (by omega) hf113_3
          refine lv_aload_n hx hb dX12_writeLetter_98 rfl (lv_at hl 0 rfl) ?_
          refine lv_sipush (v := 128) hx hb dX12_writeLetter_99 (by decide) ?_
          refine lv_iload_n hx hb dX12_writeLetter_102 rfl (lv_at hl 2 rfl) ?_
          refine lv_bipush (v := 64) hx hb dX12_writeLetter_103 (by decide) ?_
          refine lv_idiv hx hb dX12_writeLetter_105 (by decide) ?_
          refine lv_topi (fun x_114 ex_114 => ?_)
          have tx_114 : x_114.toInt = x.toInt / 64 := v_div ex_114 (by omega) (by decide)
          refine lv_bipush (v := 64) hx hb dX12_writeLetter_106 (by decide) ?_
          refine lv_irem hx hb dX12_writeLetter_108 (by decide) ?_
          refine lv_topi (fun x_115 ex_115 => ?_)
          have tx_115 : x_115.toInt = x_114.toInt % 64 := v_rem ex_115 (by omega) (by decide)
          refine lv_iadd hx hb dX12_writeLetter_109 ?_
          refine lv_topi (fun x_116 ex_116 => ?_)
          have tx_116 : x_116.toInt = 128 + x_115.toInt := v_add ex_116 (by show -2147483648 ≤ 128 + x_115.toInt; omega) (by show 128 + x_115.toInt < 2147483648; omega)
          refine kV_v (rest := []) (q0 := 0) (ci := 12) hcf (f_X12_put l dC dI cI cS H.size oM mT mS mX mL mB mD m1 m2 mR x1 x2 x3 mH mY mE mW mO y1 y2 y3 y4 mZ zt zp zf zh zr zc zy za zb zs zq zw ze zn_113 zm zl zk zd eY_113 x_116 (g_zt) (g_zp) (g_zf) (g_zh) (g_zr) (g_zc) (g_zy) (g_za) (g_zb) (g_zs) (g_zq) (hf113_0) (g_zm) (g_zk) (hf113_1) (by omega) (by omega)) kc_X12_put gX12_writeLetter_X12_put rfl rfl rfl ⟨Nat.le_of_ble_eq_true rfl, Nat.le_of_ble_eq_true rfl⟩ kX_t hK hP hD hS hA [1, 2] [0] rfl (by decide +kernel) rfl rfl rfl hl rfl (Nat.le_of_ble_eq_true rfl) dX12_writeLetter_110 ⟨Nat.le_of_ble_eq_true rfl, Nat.le_of_ble_eq_true rfl⟩ (fun H locs hB hJ hSn => ?_)
          refine hB _ (fun zn_117 eY_117 hPD9 hf117_0 hf117_1 hf117_2 hf117_3 => ?_)
          clear hB
          obtain ⟨hPn, hDn⟩ := hJ _ hPD9.1 hPD9.2 [(mB, .inl (cS, 131072, .inl eB)), (oM, .inr (12, [.ref mT, .int zt, .ref mS, .ref mX, .int zp, .int zf, .ref mL, .ref mB, .ref mD, .ref m1, .ref m2, .int zh, .ref mR, .int zr, .ref x1, .ref x2, .ref x3, .int zc, .ref mH, .int zy, .int za, .int zb, .int zs, .int zq, .int zw, .int ze, .ref mY, .int zn_117, .ref mE, .int zm, .int zl, .ref mW, .int zk, .ref mO, .int zd, .ref y1, .ref y2, .ref y3, .ref y4, .ref mZ])), (mY, .inl (cI, 2600, .inl eY_117))] rfl
          clear hP hD hS hJ hPD9
          have hP := hPn
          have hD := hDn
          have hS := hSn
          clear hPn hDn hSn
          have hap117 : AP zn zn_117 eY eY_117 [(x_112 : Int32).toInt, (x_116 : Int32).toInt] := AP_u hap113 (by omega) (by omega) hf117_3
          refine lv_aload_n hx hb dX12_writeLetter_113 rfl (lv_at hl 0 rfl) ?_
          refine lv_sipush (v := 128) hx hb dX12_writeLetter_114 (by decide) ?_
          refine lv_iload_n hx hb dX12_writeLetter_117 rfl (lv_at hl 2 rfl) ?_
          refine lv_bipush (v := 64) hx hb dX12_writeLetter_118 (by decide) ?_
          refine lv_irem hx hb dX12_writeLetter_120 (by decide) ?_
          refine lv_topi (fun x_118 ex_118 => ?_)
          have tx_118 : x_118.toInt = x.toInt % 64 := v_rem ex_118 (by omega) (by decide)
          refine lv_iadd hx hb dX12_writeLetter_121 ?_
          refine lv_topi (fun x_119 ex_119 => ?_)
          have tx_119 : x_119.toInt = 128 + x_118.toInt := v_add ex_119 (by show -2147483648 ≤ 128 + x_118.toInt; omega) (by show 128 + x_118.toInt < 2147483648; omega)
          refine kV_v (rest := []) (q0 := 0) (ci := 12) hcf (f_X12_put l dC dI cI cS H.size oM mT mS mX mL mB mD m1 m2 mR x1 x2 x3 mH mY mE mW mO y1 y2 y3 y4 mZ zt zp zf zh zr zc zy za zb zs zq zw ze zn_117 zm zl zk zd eY_117 x_119 (g_zt) (g_zp) (g_zf) (g_zh) (g_zr) (g_zc) (g_zy) (g_za) (g_zb) (g_zs) (g_zq) (hf117_0) (g_zm) (g_zk) (hf117_1) (by omega) (by omega)) kc_X12_put gX12_writeLetter_X12_put rfl rfl rfl ⟨Nat.le_of_ble_eq_true rfl, Nat.le_of_ble_eq_true rfl⟩ kX_t hK hP hD hS hA [1, 2] [0] rfl (by decide +kernel) rfl rfl rfl hl rfl (Nat.le_of_ble_eq_true rfl) dX12_writeLetter_122 ⟨Nat.le_of_ble_eq_true rfl, Nat.le_of_ble_eq_true rfl⟩ (fun H locs hB hJ hSn => ?_)
          refine hB _ (fun zn_120 eY_120 hPD9 hf120_0 hf120_1 hf120_2 hf120_3 => ?_)
          clear hB
          obtain ⟨hPn, hDn⟩ := hJ _ hPD9.1 hPD9.2 [(mB, .inl (cS, 131072, .inl eB)), (oM, .inr (12, [.ref mT, .int zt, .ref mS, .ref mX, .int zp, .int zf, .ref mL, .ref mB, .ref mD, .ref m1, .ref m2, .int zh, .ref mR, .int zr, .ref x1, .ref x2, .ref x3, .int zc, .ref mH, .int zy, .int za, .int zb, .int zs, .int zq, .int zw, .int ze, .ref mY, .int zn_120, .ref mE, .int zm, .int zl, .ref mW, .int zk, .ref mO, .int zd, .ref y1, .ref y2, .ref y3, .ref y4, .ref mZ])), (mY, .inl (cI, 2600, .inl eY_120))] rfl
          clear hP hD hS hJ hPD9
          have hP := hPn
          have hD := hDn
          have hS := hSn
          clear hPn hDn hSn
          have hap120 : AP zn zn_120 eY eY_120 [(x_112 : Int32).toInt, (x_116 : Int32).toInt, (x_119 : Int32).toInt] := AP_u hap117 (by omega) (by omega) hf120_3
          refine lv_goto (tgt := 244) hx hb dX12_writeLetter_125 (by decide) ?_
          refine lv_iconst (v := 1) hx hb dX12_writeLetter_244 (by decide) ?_
          exact kl_z (v := 1) hQQ hx hb hr hlocks hS dX12_writeLetter_245 (rfl) (fun PZ9 kZ9 => kZ9 zn_120 eY_120 (kPD_sub hP hD [1, 2, 0] (by decide +kernel) rfl) (hf120_0) (hf120_1) (by decide) (by show zn_120.toInt ≤ zn.toInt + 8; omega) (F_en_y (by first | omega | rfl) hap120 (by first | (unfold enc; (repeat (first | rw [if_neg (by omega)] | rw [if_pos (by omega)])) <;> exact L3 (by first | omega | rfl) (by first | omega | rfl) (by first | omega | rfl)) | (exfalso; omega))))
        · have tc_110 : x.toInt < 2048 := v_nle c_110
          refine lv_aload_n hx hb dX12_writeLetter_58 rfl (lv_at hl 0 rfl) ?_
          refine lv_sipush (v := 192) hx hb dX12_writeLetter_59 (by decide) ?_
          refine lv_iload_n hx hb dX12_writeLetter_62 rfl (lv_at hl 2 rfl) ?_
          refine lv_bipush (v := 64) hx hb dX12_writeLetter_63 (by decide) ?_
          refine lv_idiv hx hb dX12_writeLetter_65 (by decide) ?_
          refine lv_topi (fun x_121 ex_121 => ?_)
          have tx_121 : x_121.toInt = x.toInt / 64 := v_div ex_121 (by omega) (by decide)
          refine lv_iadd hx hb dX12_writeLetter_66 ?_
          refine lv_topi (fun x_122 ex_122 => ?_)
          have tx_122 : x_122.toInt = 192 + x_121.toInt := v_add ex_122 (by show -2147483648 ≤ 192 + x_121.toInt; omega) (by show 192 + x_121.toInt < 2147483648; omega)
          refine kV_v (rest := []) (q0 := 0) (ci := 12) hcf (f_X12_put l dC dI cI cS s.heap.size oM mT mS mX mL mB mD m1 m2 mR x1 x2 x3 mH mY mE mW mO y1 y2 y3 y4 mZ zt zp zf zh zr zc zy za zb zs zq zw ze zn zm zl zk zd eY x_122 (g_zt) (g_zp) (g_zf) (g_zh) (g_zr) (g_zc) (g_zy) (g_za) (g_zb) (g_zs) (g_zq) (g_zn) (g_zm) (g_zk) (g_eY) (by omega) (by omega)) kc_X12_put gX12_writeLetter_X12_put rfl rfl rfl ⟨Nat.le_of_ble_eq_true rfl, Nat.le_of_ble_eq_true rfl⟩ kX_t hK hP hD hS hA [0, 1] [2] rfl (by decide +kernel) rfl rfl rfl hl rfl (Nat.le_of_ble_eq_true rfl) dX12_writeLetter_67 ⟨Nat.le_of_ble_eq_true rfl, Nat.le_of_ble_eq_true rfl⟩ (fun H locs hB hJ hSn => ?_)
          refine hB _ (fun zn_123 eY_123 hPD9 hf123_0 hf123_1 hf123_2 hf123_3 => ?_)
          clear hB
          obtain ⟨hPn, hDn⟩ := hJ _ hPD9.1 hPD9.2 [(mB, .inl (cS, 131072, .inl eB)), (oM, .inr (12, [.ref mT, .int zt, .ref mS, .ref mX, .int zp, .int zf, .ref mL, .ref mB, .ref mD, .ref m1, .ref m2, .int zh, .ref mR, .int zr, .ref x1, .ref x2, .ref x3, .int zc, .ref mH, .int zy, .int za, .int zb, .int zs, .int zq, .int zw, .int ze, .ref mY, .int zn_123, .ref mE, .int zm, .int zl, .ref mW, .int zk, .ref mO, .int zd, .ref y1, .ref y2, .ref y3, .ref y4, .ref mZ])), (mY, .inl (cI, 2600, .inl eY_123))] rfl
          clear hP hD hS hJ hPD9
          have hP := hPn
          have hD := hDn
          have hS := hSn
          clear hPn hDn hSn
          have hap123 : AP zn zn_123 eY eY_123 [(x_122 : Int32).toInt] := AP_u (AP_0 (l := zn) (f := eY)) (by omega) (by omega) hf123_3
          refine lv_aload_n hx hb dX12_writeLetter_70 rfl (lv_at hl 0 rfl) ?_
          refine lv_sipush (v := 128) hx hb dX12_writeLetter_71 (by decide) ?_
          refine lv_iload_n hx hb dX12_writeLetter_74 rfl (lv_at hl 2 rfl) ?_
          refine lv_bipush (v := 64) hx hb dX12_writeLetter_75 (by decide) ?_
          refine lv_irem hx hb dX12_writeLetter_77 (by decide) ?_
          refine lv_topi (fun x_124 ex_124 => ?_)
          have tx_124 : x_124.toInt = x.toInt % 64 := v_rem ex_124 (by omega) (by decide)
          refine lv_iadd hx hb dX12_writeLetter_78 ?_
          refine lv_topi (fun x_125 ex_125 => ?_)
          have tx_125 : x_125.toInt = 128 + x_124.toInt := v_add ex_125 (by show -2147483648 ≤ 128 + x_124.toInt; omega) (by show 128 + x_124.toInt < 2147483648; omega)
          refine kV_v (rest := []) (q0 := 0) (ci := 12) hcf (f_X12_put l dC dI cI cS H.size oM mT mS mX mL mB mD m1 m2 mR x1 x2 x3 mH mY mE mW mO y1 y2 y3 y4 mZ zt zp zf zh zr zc zy za zb zs zq zw ze zn_123 zm zl zk zd eY_123 x_125 (g_zt) (g_zp) (g_zf) (g_zh) (g_zr) (g_zc) (g_zy) (g_za) (g_zb) (g_zs) (g_zq) (hf123_0) (g_zm) (g_zk) (hf123_1) (by omega) (by omega)) kc_X12_put gX12_writeLetter_X12_put rfl rfl rfl ⟨Nat.le_of_ble_eq_true rfl, Nat.le_of_ble_eq_true rfl⟩ kX_t hK hP hD hS hA [1, 2] [0] rfl (by decide +kernel) rfl rfl rfl hl rfl (Nat.le_of_ble_eq_true rfl) dX12_writeLetter_79 ⟨Nat.le_of_ble_eq_true rfl, Nat.le_of_ble_eq_true rfl⟩ (fun H locs hB hJ hSn => ?_)
          refine hB _ (fun zn_126 eY_126 hPD9 hf126_0 hf126_1 hf126_2 hf126_3 => ?_)
          clear hB
          obtain ⟨hPn, hDn⟩ := hJ _ hPD9.1 hPD9.2 [(mB, .inl (cS, 131072, .inl eB)), (oM, .inr (12, [.ref mT, .int zt, .ref mS, .ref mX, .int zp, .int zf, .ref mL, .ref mB, .ref mD, .ref m1, .ref m2, .int zh, .ref mR, .int zr, .ref x1, .ref x2, .ref x3, .int zc, .ref mH, .int zy, .int za, .int zb, .int zs, .int zq, .int zw, .int ze, .ref mY, .int zn_126, .ref mE, .int zm, .int zl, .ref mW, .int zk, .ref mO, .int zd, .ref y1, .ref y2, .ref y3, .ref y4, .ref mZ])), (mY, .inl (cI, 2600, .inl eY_126))] rfl
          clear hP hD hS hJ hPD9
          have hP := hPn
          have hD := hDn
          have hS := hSn
          clear hPn hDn hSn
          have hap126 : AP zn zn_126 eY eY_126 [(x_122 : Int32).toInt, (x_125 : Int32).toInt] := AP_u hap123 (by omega) (by omega) hf126_3
          refine lv_goto (tgt := 244) hx hb dX12_writeLetter_82 (by decide) ?_
          refine lv_iconst (v := 1) hx hb dX12_writeLetter_244 (by decide) ?_
          exact kl_z (v := 1) hQQ hx hb hr hlocks hS dX12_writeLetter_245 (rfl) (fun PZ9 kZ9 => kZ9 zn_126 eY_126 (kPD_sub hP hD [1, 2, 0] (by decide +kernel) rfl) (hf126_0) (hf126_1) (by decide) (by show zn_126.toInt ≤ zn.toInt + 8; omega) (F_en_y (by first | omega | rfl) hap126 (by first | (unfold enc; (repeat (first | rw [if_neg (by omega)] | rw [if_pos (by omega)])) <;> exact L2 (by first | omega | rfl) (by first | omega | rfl)) | (exfalso; omega))))
      · have tc_109 : x.toInt < 128 := v_nle c_109
        refine lv_aload_n hx hb dX12_writeLetter_43 rfl (lv_at hl 0 rfl) ?_
        refine lv_iload_n hx hb dX12_writeLetter_44 rfl (lv_at hl 2 rfl) ?_
        refine kV_v (rest := []) (q0 := 0) (ci := 12) hcf (f_X12_put l dC dI cI cS s.heap.size oM mT mS mX mL mB mD m1 m2 mR x1 x2 x3 mH mY mE mW mO y1 y2 y3 y4 mZ zt zp zf zh zr zc zy za zb zs zq zw ze zn zm zl zk zd eY x (g_zt) (g_zp) (g_zf) (g_zh) (g_zr) (g_zc) (g_zy) (g_za) (g_zb) (g_zs) (g_zq) (g_zn) (g_zm) (g_zk) (g_eY) (by omega) (by omega)) kc_X12_put gX12_writeLetter_X12_put rfl rfl rfl ⟨Nat.le_of_ble_eq_true rfl, Nat.le_of_ble_eq_true rfl⟩ kX_t hK hP hD hS hA [0, 1] [2] rfl (by decide +kernel) rfl rfl rfl hl rfl (Nat.le_of_ble_eq_true rfl) dX12_writeLetter_45 ⟨Nat.le_of_ble_eq_true rfl, Nat.le_of_ble_eq_true rfl⟩ (fun H locs hB hJ hSn => ?_)
        refine hB _ (fun zn_127 eY_127 hPD9 hf127_0 hf127_1 hf127_2 hf127_3 => ?_)
        clear hB
        obtain ⟨hPn, hDn⟩ := hJ _ hPD9.1 hPD9.2 [(mB, .inl (cS, 131072, .inl eB)), (oM, .inr (12, [.ref mT, .int zt, .ref mS, .ref mX, .int zp, .int zf, .ref mL, .ref mB, .ref mD, .ref m1, .ref m2, .int zh, .ref mR, .int zr, .ref x1, .ref x2, .ref x3, .int zc, .ref mH, .int zy, .int za, .int zb, .int zs, .int zq, .int zw, .int ze, .ref mY, .int zn_127, .ref mE, .int zm, .int zl, .ref mW, .int zk, .ref mO, .int zd, .ref y1, .ref y2, .ref y3, .ref y4, .ref mZ])), (mY, .inl (cI, 2600, .inl eY_127))] rfl
        clear hP hD hS hJ hPD9
        have hP := hPn
        have hD := hDn
        have hS := hSn
        clear hPn hDn hSn
        have hap127 : AP zn zn_127 eY eY_127 [(x : Int32).toInt] := AP_u (AP_0 (l := zn) (f := eY)) (by omega) (by omega) hf127_3
        refine lv_goto (tgt := 244) hx hb dX12_writeLetter_48 (by decide) ?_
        refine lv_iconst (v := 1) hx hb dX12_writeLetter_244 (by decide) ?_
        exact kl_z (v := 1) hQQ hx hb hr hlocks hS dX12_writeLetter_245 (rfl) (fun PZ9 kZ9 => kZ9 zn_127 eY_127 (kPD_sub hP hD [1, 2, 0] (by decide +kernel) rfl) (hf127_0) (hf127_1) (by decide) (by show zn_127.toInt ≤ zn.toInt + 8; omega) (F_en_y (by first | omega | rfl) hap127 (by first | (unfold enc; (repeat (first | rw [if_neg (by omega)] | rw [if_pos (by omega)])) <;> exact L1 (by first | omega | rfl)) | (exfalso; omega))))
  · have tc_1 : cd.toInt < 2 := v_nle c_1
    refine lv_iload_n hx hb dX12_writeLetter_5 rfl (lv_at hl 2 rfl) ?_
    refine lv_iload_n hx hb dX12_writeLetter_6 rfl (lv_at hl 1 rfl) ?_
    refine lv_if_ne (tgt := 15) hx hb dX12_writeLetter_7 (by decide) (fun c_128 => ?_) (fun c_128 => ?_)
    · have tc_128 : ¬ cd.toInt = 0 := v_ne c_128
      refine lv_sipush (v := 255) hx hb dX12_writeLetter_15 (by decide) ?_
      refine lv_icmp_le (tgt := 23) hx hb dX12_writeLetter_18 (by decide) (fun c_129 => ?_) (fun c_129 => ?_)
      · have tc_129 : x.toInt ≤ 255 := v_le c_129
        refine lv_aload_n hx hb dX12_writeLetter_23 rfl (lv_at hl 0 rfl) ?_
        refine lv_iload_n hx hb dX12_writeLetter_24 rfl (lv_at hl 2 rfl) ?_
        refine kV_v (rest := []) (q0 := 0) (ci := 12) hcf (f_X12_put l dC dI cI cS s.heap.size oM mT mS mX mL mB mD m1 m2 mR x1 x2 x3 mH mY mE mW mO y1 y2 y3 y4 mZ zt zp zf zh zr zc zy za zb zs zq zw ze zn zm zl zk zd eY x (g_zt) (g_zp) (g_zf) (g_zh) (g_zr) (g_zc) (g_zy) (g_za) (g_zb) (g_zs) (g_zq) (g_zn) (g_zm) (g_zk) (g_eY) (by omega) (by omega)) kc_X12_put gX12_writeLetter_X12_put rfl rfl rfl ⟨Nat.le_of_ble_eq_true rfl, Nat.le_of_ble_eq_true rfl⟩ kX_t hK hP hD hS hA [0, 1] [2] rfl (by decide +kernel) rfl rfl rfl hl rfl (Nat.le_of_ble_eq_true rfl) dX12_writeLetter_25 ⟨Nat.le_of_ble_eq_true rfl, Nat.le_of_ble_eq_true rfl⟩ (fun H locs hB hJ hSn => ?_)
        refine hB _ (fun zn_130 eY_130 hPD9 hf130_0 hf130_1 hf130_2 hf130_3 => ?_)
        clear hB
        obtain ⟨hPn, hDn⟩ := hJ _ hPD9.1 hPD9.2 [(mB, .inl (cS, 131072, .inl eB)), (oM, .inr (12, [.ref mT, .int zt, .ref mS, .ref mX, .int zp, .int zf, .ref mL, .ref mB, .ref mD, .ref m1, .ref m2, .int zh, .ref mR, .int zr, .ref x1, .ref x2, .ref x3, .int zc, .ref mH, .int zy, .int za, .int zb, .int zs, .int zq, .int zw, .int ze, .ref mY, .int zn_130, .ref mE, .int zm, .int zl, .ref mW, .int zk, .ref mO, .int zd, .ref y1, .ref y2, .ref y3, .ref y4, .ref mZ])), (mY, .inl (cI, 2600, .inl eY_130))] rfl
        clear hP hD hS hJ hPD9
        have hP := hPn
        have hD := hDn
        have hS := hSn
        clear hPn hDn hSn
        have hap130 : AP zn zn_130 eY eY_130 [(x : Int32).toInt] := AP_u (AP_0 (l := zn) (f := eY)) (by omega) (by omega) hf130_3
        refine lv_goto (tgt := 244) hx hb dX12_writeLetter_28 (by decide) ?_
        refine lv_iconst (v := 1) hx hb dX12_writeLetter_244 (by decide) ?_
        exact kl_z (v := 1) hQQ hx hb hr hlocks hS dX12_writeLetter_245 (rfl) (fun PZ9 kZ9 => kZ9 zn_130 eY_130 (kPD_sub hP hD [1, 2, 0] (by decide +kernel) rfl) (hf130_0) (hf130_1) (by decide) (by show zn_130.toInt ≤ zn.toInt + 8; omega) (F_en_y (by first | omega | rfl) hap130 (by first | (unfold enc; (repeat (first | rw [if_neg (by omega)] | rw [if_pos (by omega)])) <;> exact L1 (by first | omega | rfl)) | (exfalso; omega))))
      · have tc_129 : 255 < x.toInt := v_nle c_129
        refine lv_iconst (v := 0) hx hb dX12_writeLetter_21 (by decide) ?_
        exact kl_z (v := 0) hQQ hx hb hr hlocks hS dX12_writeLetter_22 (rfl) (fun PZ9 kZ9 => kZ9 zn eY (⟨hP, hD⟩) (g_zn) (g_eY) (by decide) (by show zn.toInt ≤ zn.toInt + 8; omega) (F_en_n (by first | omega | rfl) (by unfold enc; (repeat (first | rw [if_neg (by omega)] | rw [if_pos (by omega)])))))
    · have tc_128 : cd.toInt = 0 := v_eq c_128
      refine lv_bipush (v := 127) hx hb dX12_writeLetter_10 (by decide) ?_
      refine lv_goto (tgt := 18) hx hb dX12_writeLetter_12 (by decide) ?_
      refine lv_icmp_le (tgt := 23) hx hb dX12_writeLetter_18 (by decide) (fun c_131 => ?_) (fun c_131 => ?_)
      · have tc_131 : x.toInt ≤ 127 := v_le c_131
        refine lv_aload_n hx hb dX12_writeLetter_23 rfl (lv_at hl 0 rfl) ?_
        refine lv_iload_n hx hb dX12_writeLetter_24 rfl (lv_at hl 2 rfl) ?_
        refine kV_v (rest := []) (q0 := 0) (ci := 12) hcf (f_X12_put l dC dI cI cS s.heap.size oM mT mS mX mL mB mD m1 m2 mR x1 x2 x3 mH mY mE mW mO y1 y2 y3 y4 mZ zt zp zf zh zr zc zy za zb zs zq zw ze zn zm zl zk zd eY x (g_zt) (g_zp) (g_zf) (g_zh) (g_zr) (g_zc) (g_zy) (g_za) (g_zb) (g_zs) (g_zq) (g_zn) (g_zm) (g_zk) (g_eY) (by omega) (by omega)) kc_X12_put gX12_writeLetter_X12_put rfl rfl rfl ⟨Nat.le_of_ble_eq_true rfl, Nat.le_of_ble_eq_true rfl⟩ kX_t hK hP hD hS hA [0, 1] [2] rfl (by decide +kernel) rfl rfl rfl hl rfl (Nat.le_of_ble_eq_true rfl) dX12_writeLetter_25 ⟨Nat.le_of_ble_eq_true rfl, Nat.le_of_ble_eq_true rfl⟩ (fun H locs hB hJ hSn => ?_)
        refine hB _ (fun zn_132 eY_132 hPD9 hf132_0 hf132_1 hf132_2 hf132_3 => ?_)
        clear hB
        obtain ⟨hPn, hDn⟩ := hJ _ hPD9.1 hPD9.2 [(mB, .inl (cS, 131072, .inl eB)), (oM, .inr (12, [.ref mT, .int zt, .ref mS, .ref mX, .int zp, .int zf, .ref mL, .ref mB, .ref mD, .ref m1, .ref m2, .int zh, .ref mR, .int zr, .ref x1, .ref x2, .ref x3, .int zc, .ref mH, .int zy, .int za, .int zb, .int zs, .int zq, .int zw, .int ze, .ref mY, .int zn_132, .ref mE, .int zm, .int zl, .ref mW, .int zk, .ref mO, .int zd, .ref y1, .ref y2, .ref y3, .ref y4, .ref mZ])), (mY, .inl (cI, 2600, .inl eY_132))] rfl
        clear hP hD hS hJ hPD9
        have hP := hPn
        have hD := hDn
        have hS := hSn
        clear hPn hDn hSn
        have hap132 : AP zn zn_132 eY eY_132 [(x : Int32).toInt] := AP_u (AP_0 (l := zn) (f := eY)) (by omega) (by omega) hf132_3
        refine lv_goto (tgt := 244) hx hb dX12_writeLetter_28 (by decide) ?_
        refine lv_iconst (v := 1) hx hb dX12_writeLetter_244 (by decide) ?_
        exact kl_z (v := 1) hQQ hx hb hr hlocks hS dX12_writeLetter_245 (rfl) (fun PZ9 kZ9 => kZ9 zn_132 eY_132 (kPD_sub hP hD [1, 2, 0] (by decide +kernel) rfl) (hf132_0) (hf132_1) (by decide) (by show zn_132.toInt ≤ zn.toInt + 8; omega) (F_en_y (by first | omega | rfl) hap132 (by first | (unfold enc; (repeat (first | rw [if_neg (by omega)] | rw [if_pos (by omega)])) <;> exact L1 (by first | omega | rfl)) | (exfalso; omega))))
      · have tc_131 : 127 < x.toInt := v_nle c_131
        refine lv_iconst (v := 0) hx hb dX12_writeLetter_21 (by decide) ?_
        exact kl_z (v := 0) hQQ hx hb hr hlocks hS dX12_writeLetter_22 (rfl) (fun PZ9 kZ9 => kZ9 zn eY (⟨hP, hD⟩) (g_zn) (g_eY) (by decide) (by show zn.toInt ≤ zn.toInt + 8; omega) (F_en_n (by first | omega | rfl) (by unfold enc; (repeat (first | rw [if_neg (by omega)] | rw [if_pos (by omega)])))))

set_option maxHeartbeats 40000000 in
set_option maxRecDepth 100000 in
theorem f_X12_write (l : Launch) (dC : Nat → ClassId) (dI : Nat → Nat → Nat) (cI cS : ClassId) (sz : Nat) (oM : Nat) (rw : Nat) (mT : Nat) (mS : Nat) (mX : Nat) (mL : Nat) (mB : Nat) (mD : Nat) (m1 : Nat) (m2 : Nat) (mR : Nat) (x1 : Nat) (x2 : Nat) (x3 : Nat) (mH : Nat) (mY : Nat) (mE : Nat) (mW : Nat) (mO : Nat) (y1 : Nat) (y2 : Nat) (y3 : Nat) (y4 : Nat) (mZ : Nat) (cw : Nat) (zt : Int32) (zp : Int32) (zf : Int32) (zh : Int32) (zr : Int32) (zc : Int32) (zy : Int32) (za : Int32) (zb : Int32) (zs : Int32) (zq : Int32) (zw : Int32) (ze : Int32) (zn : Int32) (zm : Int32) (zl : Int32) (zk : Int32) (zd : Int32) (eY : Nat → Int32) (eB : Nat → Int32) (fr : Nat → Int32) (cd : Int32) (n : Int32) (g_zt : 0 ≤ zt.toInt ∧ zt.toInt ≤ 900) (g_zp : 0 ≤ zp.toInt ∧ zp.toInt ≤ 20) (g_zf : 0 ≤ zf.toInt ∧ zf.toInt ≤ 19) (g_zh : 0 ≤ zh.toInt ∧ zh.toInt ≤ 6) (g_zr : 0 ≤ zr.toInt ∧ zr.toInt ≤ 258) (g_zc : 0 ≤ zc.toInt ∧ zc.toInt ≤ 300) (g_zy : 0 ≤ zy.toInt ∧ zy.toInt ≤ 65536) (g_za : 0 ≤ za.toInt ∧ za.toInt ≤ 5) (g_zb : 0 ≤ zb.toInt ∧ zb.toInt ≤ 5) (g_zs : 0 ≤ zs.toInt ∧ zs.toInt ≤ 2000000) (g_zq : -1 ≤ zq.toInt ∧ zq.toInt ≤ 2000000) (g_zn : 0 ≤ zn.toInt ∧ zn.toInt ≤ 2600) (g_zm : 0 ≤ zm.toInt ∧ zm.toInt ≤ 2600) (g_zk : 0 ≤ zk.toInt ∧ zk.toInt ≤ 300) (g_eY : rg 0 255 eY) (g_eB : rg (-1) 255 eB) (g_fr : rg 0 65535 fr) (g_cd : 0 ≤ cd.toInt ∧ cd.toInt ≤ 5) (g_n : 0 ≤ n.toInt ∧ n.toInt ≤ 300) (hcw : n.toInt ≤ (cw : Int)) (hcw2 : cw ≤ 6300) : kMi l yX12_write wsX12_write ({ frames := 2, cells := 0, slots := 0, locals := 44 } : Room) [.ref oM, .int cd, .ref rw, .int n] sz (dC, dI) vwCl [(cI, .int), (cS, .short)] [(oM, .inr (12, [.ref mT, .int zt, .ref mS, .ref mX, .int zp, .int zf, .ref mL, .ref mB, .ref mD, .ref m1, .ref m2, .int zh, .ref mR, .int zr, .ref x1, .ref x2, .ref x3, .int zc, .ref mH, .int zy, .int za, .int zb, .int zs, .int zq, .int zw, .int ze, .ref mY, .int zn, .ref mE, .int zm, .int zl, .ref mW, .int zk, .ref mO, .int zd, .ref y1, .ref y2, .ref y3, .ref y4, .ref mZ])), (mY, .inl (cI, 2600, .inl eY)), (mB, .inl (cS, 131072, .inl eB)), (rw, .inl (cI, cw, .inl fr))] (fun _ => True) 0 0 (fun (A : Nat → Prop) (r : Int32) (hh9 : Heap) => ∀ PZ9 : Prop, (∀ (zn' : Int32) (eY' : Nat → Int32) (zl' : Int32), kPD (dC, dI) vwCl A [(oM, .inr (12, [.ref mT, .int zt, .ref mS, .ref mX, .int zp, .int zf, .ref mL, .ref mB, .ref mD, .ref m1, .ref m2, .int zh, .ref mR, .int zr, .ref x1, .ref x2, .ref x3, .int zc, .ref mH, .int zy, .int za, .int zb, .int zs, .int zq, .int zw, .int ze, .ref mY, .int zn', .ref mE, .int zm, .int zl', .ref mW, .int zk, .ref mO, .int zd, .ref y1, .ref y2, .ref y3, .ref y4, .ref mZ])), (mY, .inl (cI, 2600, .inl eY')), (mB, .inl (cS, 131072, .inl eB)), (rw, .inl (cI, cw, .inl fr))] hh9 → (0 ≤ zn'.toInt ∧ zn'.toInt ≤ 2600) → (rg 0 255 eY') → (0 ≤ r.toInt ∧ r.toInt ≤ 1) → (F_wr r zl' zn' eY' (fun j => enc cd (fr j) (Br cd eB (fr j))) n.toInt) → PZ9) → PZ9) := by
  refine kMi_of (cc := cX12_write) (maxL := 5) (ret := (some .boolean)) (lv := [(0, .ref oM), (1, .int cd), (2, .ref rw), (3, .int n)]) (by decide +kernel) rfl rfl (Nat.le_of_ble_eq_true rfl) ?_
  intro p e s m below meth c A QQ ls hx hb hr hts hml hown hlocks hA hQQ hK hX hP hD hS hl
  have hown : s.vm.findClass RX12 = some m.cls := hown
  have hcf := k_cf hx hb hml hown hts
  have in_X12 : ∀ w ∈ wsX120, w ∈ wsX12_write := fun _ h => List.mem_cons_of_mem _ (List.mem_append_left _ (List.mem_append_right _ (h)))
  replace g_zt := hid g_zt
  replace g_zp := hid g_zp
  replace g_zf := hid g_zf
  replace g_zh := hid g_zh
  replace g_zr := hid g_zr
  replace g_zc := hid g_zc
  replace g_zy := hid g_zy
  replace g_za := hid g_za
  replace g_zb := hid g_zb
  replace g_zs := hid g_zs
  replace g_zq := hid g_zq
  replace g_zn := hid g_zn
  replace g_zm := hid g_zm
  replace g_zk := hid g_zk
  refine lv_aload_n hx hb dX12_write_0 rfl (lv_at hl 0 rfl) ?_
  refine lv_iconst (v := 0) hx hb dX12_write_1 (by decide) ?_
  refine va_put (D := (dC, dI)) (ci := 12) (v := .int 0) (ty := .int) (C := RX12) (T := TX12) (N := 40) hx hb hts in_X12 tyX12 tyX12_ok nmX12 hown hK hP hD hS 0 rfl rfl 27 (Nat.le_of_ble_eq_true rfl) (hts (.fieldLink RX12 91 "TextMenderModel" "byteMany" "I") (List.mem_of_getElem? (i := 1) rfl)) (fun _ h9 => h9) rfl (tyX12_ok 27 (Nat.le_of_ble_eq_true rfl)) rfl rfl (Nat.le_of_ble_eq_true rfl) dX12_write_2 (kW (wn := [(oM, .inr (12, [.ref mT, .int zt, .ref mS, .ref mX, .int zp, .int zf, .ref mL, .ref mB, .ref mD, .ref m1, .ref m2, .int zh, .ref mR, .int zr, .ref x1, .ref x2, .ref x3, .int zc, .ref mH, .int zy, .int za, .int zb, .int zs, .int zq, .int zw, .int ze, .ref mY, .int 0, .ref mE, .int zm, .int zl, .ref mW, .int zk, .ref mO, .int zd, .ref y1, .ref y2, .ref y3, .ref y4, .ref mZ])), (mY, .inl (cI, 2600, .inl eY)), (mB, .inl (cS, 131072, .inl eB)), (rw, .inl (cI, cw, .inl fr))]) rfl (fun H locs hPn hDn hSn => ?_))
  clear hP hD hS
  have hP := hPn
  have hD := hDn
  have hS := hSn
  clear hPn hDn hSn
  refine lv_iconst (v := 0) hx hb dX12_write_5 (by decide) ?_
  refine lv_istore (lv' := [(4, .int 0), (0, .ref oM), (1, .int cd), (2, .ref rw), (3, .int n)]) hx hb dX12_write_6 hl (by decide) rfl (fun ls hl => ?_)
  have LOOP_8 : ∀ (k_8 : Nat) (k : Int32) (zna : Int32) (zla : Int32) (eYa : Nat → Int32) (H : Heap) (locs : List Loc) (ls : Array Slot), MSd (300 - k.toInt : Int) k_8 → (0 ≤ k.toInt ∧ k.toInt ≤ 300) → (0 ≤ zna.toInt ∧ zna.toInt ≤ 8 * k.toInt) → (rg 0 255 eYa) → (k.toInt ≤ n.toInt) → (WR (fun j => enc cd (fr j) (Br cd eB (fr j))) k.toNatClampNeg zna eYa) → va_P (dC, dI) vwCl [(oM, .inr (12, [.ref mT, .int zt, .ref mS, .ref mX, .int zp, .int zf, .ref mL, .ref mB, .ref mD, .ref m1, .ref m2, .int zh, .ref mR, .int zr, .ref x1, .ref x2, .ref x3, .int zc, .ref mH, .int zy, .int za, .int zb, .int zs, .int zq, .int zw, .int ze, .ref mY, .int zna, .ref mE, .int zm, .int zla, .ref mW, .int zk, .ref mO, .int zd, .ref y1, .ref y2, .ref y3, .ref y4, .ref mZ])), (mY, .inl (cI, 2600, .inl eYa)), (mB, .inl (cS, 131072, .inl eB)), (rw, .inl (cI, cw, .inl fr))] H → va_D A [(oM, .inr (12, [.ref mT, .int zt, .ref mS, .ref mX, .int zp, .int zf, .ref mL, .ref mB, .ref mD, .ref m1, .ref m2, .int zh, .ref mR, .int zr, .ref x1, .ref x2, .ref x3, .int zc, .ref mH, .int zy, .int za, .int zb, .int zs, .int zq, .int zw, .int ze, .ref mY, .int zna, .ref mE, .int zm, .int zla, .ref mW, .int zk, .ref mO, .int zd, .ref y1, .ref y2, .ref y3, .ref y4, .ref mZ])), (mY, .inl (cI, 2600, .inl eYa)), (mB, .inl (cS, 131072, .inl eB)), (rw, .inl (cI, cw, .inl fr))] → va_S A s.heap H locs → lv_has ls 5 [(4, .int k), (0, .ref oM), (1, .int cd), (2, .ref rw), (3, .int n)] → W p l e (headSpec wsX12_write ({ frames := 2, cells := 0, slots := 0, locals := 44 } : Room)).room s m ([.ref oM, .int cd, .ref rw, .int n] : List Value).toArray below meth c H locs 0 0 (MQ below QQ ([.ref oM, .int cd, .ref rw, .int n] : List Value).toArray s 0 0 A) (F0 m 8 ls []) := by
    clear hP hD hS hl
    intro k_8
    induction k_8 with
    | zero =>
      intro k zna zla eYa H locs ls hm_8 g_k g_zna g_eYa hkn hw hP hD hS hl
      exact ms_0 hm_8
    | succ k_8 ih_8 =>
      intro k zna zla eYa H locs ls hm_8 g_k g_zna g_eYa hkn hw hP hD hS hl
      refine lv_iload hx hb dX12_write_8 (lv_at hl 0 rfl) ?_
      refine lv_iload_n hx hb dX12_write_10 rfl (lv_at hl 4 rfl) ?_
      refine lv_icmp_ge (tgt := 40) hx hb dX12_write_11 (by decide) (fun c_1 => ?_) (fun c_1 => ?_)
      · have tc_1 : n.toInt ≤ k.toInt := v_le c_1
        refine lv_iconst (v := 1) hx hb dX12_write_40 (by decide) ?_
        exact kl_z (v := 1) hQQ hx hb hr hlocks hS dX12_write_41 (rfl) (fun PZ9 kZ9 => kZ9 zna eYa zla (⟨hP, hD⟩) (by omega) (g_eYa) (by decide) (wr_yes hw (by omega) (by omega)))
      · have tc_1 : k.toInt < n.toInt := v_nle c_1
        refine lv_aload_n hx hb dX12_write_14 rfl (lv_at hl 1 rfl) ?_
        refine lv_iload_n hx hb dX12_write_15 rfl (lv_at hl 2 rfl) ?_
        refine lv_aload_n hx hb dX12_write_16 rfl (lv_at hl 3 rfl) ?_
        refine lv_iload hx hb dX12_write_17 (lv_at hl 0 rfl) ?_
        refine va_iald hx hb hK hP 3 0 rfl rfl (v_in (by omega)) dX12_write_19 ?_
        refine lv_topi (fun x_2 ex_2 => ?_)
        have tx_2 : 0 ≤ x_2.toInt ∧ x_2.toInt ≤ 65535 := rg_at g_fr ex_2
        refine kV_i (rest := []) (q0 := 0) (ci := 12) hcf (f_X12_writeLetter l dC dI cI cS H.size oM mT mS mX mL mB mD m1 m2 mR x1 x2 x3 mH mY mE mW mO y1 y2 y3 y4 mZ zt zp zf zh zr zc zy za zb zs zq zw ze zna zm zla zk zd eYa eB cd x_2 (g_zt) (g_zp) (g_zf) (g_zh) (g_zr) (g_zc) (g_zy) (g_za) (g_zb) (g_zs) (g_zq) (by omega) (g_zm) (g_zk) (g_eYa) (g_eB) (g_cd) (v_rr tx_2 (by decide) (by decide)) (by omega)) kc_X12_writeLetter gX12_write_X12_writeLetter rfl rfl rfl ⟨Nat.le_of_ble_eq_true rfl, Nat.le_of_ble_eq_true rfl⟩ kX_t hK hP hD hS hA [0, 1, 2] [3] rfl (by decide +kernel) rfl rfl rfl hl rfl (Nat.le_of_ble_eq_true rfl) dX12_write_20 ⟨Nat.le_of_ble_eq_true rfl, Nat.le_of_ble_eq_true rfl⟩ (fun r_3 H locs hB hJ hSn => ?_)
        refine hB _ (fun zn_3 eY_3 hPD9 hf3_0 hf3_1 hf3_2 hf3_3 hf3_4 => ?_)
        clear hB
        obtain ⟨hPn, hDn⟩ := hJ _ hPD9.1 hPD9.2 [(rw, .inl (cI, cw, .inl fr)), (oM, .inr (12, [.ref mT, .int zt, .ref mS, .ref mX, .int zp, .int zf, .ref mL, .ref mB, .ref mD, .ref m1, .ref m2, .int zh, .ref mR, .int zr, .ref x1, .ref x2, .ref x3, .int zc, .ref mH, .int zy, .int za, .int zb, .int zs, .int zq, .int zw, .int ze, .ref mY, .int zn_3, .ref mE, .int zm, .int zla, .ref mW, .int zk, .ref mO, .int zd, .ref y1, .ref y2, .ref y3, .ref y4, .ref mZ])), (mY, .inl (cI, 2600, .inl eY_3)), (mB, .inl (cS, 131072, .inl eB))] rfl
        clear hP hD hS hJ hPD9
        have hP := hPn
        have hD := hDn
        have hS := hSn
        clear hPn hDn hSn
        refine lv_if_ne (tgt := 34) hx hb dX12_write_23 (by decide) (fun c_4 => ?_) (fun c_4 => ?_)
        · have tc_4 : ¬ r_3.toInt = 0 := v_ne c_4
          obtain ⟨x_5, ex_5⟩ : ∃ y : Int32, y = k + 1 := ⟨_, rfl⟩
          have tx_5 : x_5.toInt = k.toInt + 1 := v_addR (l2 := 1) (h2 := 1) ex_5 g_k (by decide) (by decide) (by decide)
          refine lv_iinc (v := x_5) (lv' := [(4, .int x_5), (0, .ref oM), (1, .int cd), (2, .ref rw), (3, .int n)]) hx hb dX12_write_34 hl (k := 0) rfl (by rw [ex_5]; rfl) (by decide) rfl (fun ls hl => ?_)
          refine lv_goto (tgt := 8) hx hb dX12_write_37 (by decide) ?_
          exact ih_8 x_5 zn_3 zla eY_3 _ _ _ (ms_lt hm_8 (by show ((300 - x_5.toInt : Int)) < 300 - k.toInt; omega) (by show (0 : Int) < 300 - k.toInt; omega)) (by show 0 ≤ x_5.toInt ∧ x_5.toInt ≤ 300; omega) (by show 0 ≤ zn_3.toInt ∧ zn_3.toInt ≤ 8 * x_5.toInt; omega) (hf3_1) (by show x_5.toInt ≤ n.toInt; omega) (WR_st hw (by show enc cd (fr k.toNatClampNeg) (Br cd eB (fr k.toNatClampNeg)) = _; rw [← ex_2]) hf3_4 (by omega) (by omega) (by omega)) (hP.sub [1, 2, 3, 0] rfl) (hD.sub [1, 2, 3, 0] (by decide +kernel) rfl) hS (lv_sub hl [0, 1, 2, 3, 4] rfl)
        · have tc_4 : r_3.toInt = 0 := v_eq c_4
          refine lv_aload_n hx hb dX12_write_26 rfl (lv_at hl 1 rfl) ?_
          refine lv_iload hx hb dX12_write_27 (lv_at hl 0 rfl) ?_
          refine va_put (D := (dC, dI)) (ci := 12) (v := .int k) (ty := .int) (C := RX12) (T := TX12) (N := 40) hx hb hts in_X12 tyX12 tyX12_ok nmX12 hown hK hP hD hS 1 rfl rfl 30 (Nat.le_of_ble_eq_true rfl) (hts (.fieldLink RX12 102 "TextMenderModel" "faultAt" "I") (List.mem_of_getElem? (i := 2) rfl)) (fun _ h9 => h9) rfl (tyX12_ok 30 (Nat.le_of_ble_eq_true rfl)) rfl rfl (Nat.le_of_ble_eq_true rfl) dX12_write_29 (kW (wn := [(rw, .inl (cI, cw, .inl fr)), (oM, .inr (12, [.ref mT, .int zt, .ref mS, .ref mX, .int zp, .int zf, .ref mL, .ref mB, .ref mD, .ref m1, .ref m2, .int zh, .ref mR, .int zr, .ref x1, .ref x2, .ref x3, .int zc, .ref mH, .int zy, .int za, .int zb, .int zs, .int zq, .int zw, .int ze, .ref mY, .int zn_3, .ref mE, .int zm, .int k, .ref mW, .int zk, .ref mO, .int zd, .ref y1, .ref y2, .ref y3, .ref y4, .ref mZ])), (mY, .inl (cI, 2600, .inl eY_3)), (mB, .inl (cS, 131072, .inl eB))]) rfl (fun H locs hPn hDn hSn => ?_))
          clear hP hD hS
          have hP := hPn
          have hD := hDn
          have hS := hSn
          clear hPn hDn hSn
          refine lv_iconst (v := 0) hx hb dX12_write_32 (by decide) ?_
          exact kl_z (v := 0) hQQ hx hb hr hlocks hS dX12_write_33 (rfl) (fun PZ9 kZ9 => kZ9 zn_3 eY_3 k (kPD_sub hP hD [1, 2, 3, 0] (by decide +kernel) rfl) (hf3_0) (hf3_1) (by decide) (wr_no hw (by show enc cd (fr k.toNatClampNeg) (Br cd eB (fr k.toNatClampNeg)) = _; rw [← ex_2]) (F_en_0 hf3_4 (by omega)) (by omega) (by omega)))
  exact LOOP_8 _ 0 0 zl eY _ _ _ (ms_s _) (by decide) (by show 0 ≤ (0 : Int) ∧ (0 : Int) ≤ 8 * 0; omega) (g_eY) (by show 0 ≤ n.toInt; omega) (WR_0 rfl) hP hD hS (lv_sub hl [0, 1, 2, 3, 4] rfl)

end

/-! 59h.a.rows -/
section
set_option maxRecDepth 100000 in
theorem dA191_cX7_pass : kDec cX7_pass [(0, .aload_n 0, 1), (1, .iload_n 1, 1), (2, .aload_n 3, 1), (3, .invokevirtual 65, 3), (6, .ifCond .eq 34, 3), (40, .iconst 0, 1), (41, .ireturn, 1), (9, .aload_n 0, 1), (10, .iload_n 2, 1), (11, .aload_n 0, 1), (12, .getfield 14, 3), (15, .aload 4, 2), (17, .invokevirtual 69, 3), (20, .ifCond .eq 20, 3), (23, .aload_n 0, 1), (24, .getfield 14, 3), (27, .invokevirtual 31, 3), (30, .sipush 900, 3), (33, .if_icmp .gt 7, 3), (36, .iconst 1, 1), (37, .goto 4, 3)] = true := by decide +kernel
theorem dX7_pass_0 : decode cX7_pass 0 = .ok (.aload_n 0, 1) := kDec_at dA191_cX7_pass 0 rfl
theorem dX7_pass_1 : decode cX7_pass 1 = .ok (.iload_n 1, 1) := kDec_at dA191_cX7_pass 1 rfl
theorem dX7_pass_2 : decode cX7_pass 2 = .ok (.aload_n 3, 1) := kDec_at dA191_cX7_pass 2 rfl
theorem dX7_pass_3 : decode cX7_pass 3 = .ok (.invokevirtual 65, 3) := kDec_at dA191_cX7_pass 3 rfl
theorem dX7_pass_6 : decode cX7_pass 6 = .ok (.ifCond .eq 34, 3) := kDec_at dA191_cX7_pass 4 rfl
theorem dX7_pass_40 : decode cX7_pass 40 = .ok (.iconst 0, 1) := kDec_at dA191_cX7_pass 5 rfl
theorem dX7_pass_41 : decode cX7_pass 41 = .ok (.ireturn, 1) := kDec_at dA191_cX7_pass 6 rfl
theorem dX7_pass_9 : decode cX7_pass 9 = .ok (.aload_n 0, 1) := kDec_at dA191_cX7_pass 7 rfl
theorem dX7_pass_10 : decode cX7_pass 10 = .ok (.iload_n 2, 1) := kDec_at dA191_cX7_pass 8 rfl
theorem dX7_pass_11 : decode cX7_pass 11 = .ok (.aload_n 0, 1) := kDec_at dA191_cX7_pass 9 rfl
theorem dX7_pass_12 : decode cX7_pass 12 = .ok (.getfield 14, 3) := kDec_at dA191_cX7_pass 10 rfl
theorem dX7_pass_15 : decode cX7_pass 15 = .ok (.aload 4, 2) := kDec_at dA191_cX7_pass 11 rfl
theorem dX7_pass_17 : decode cX7_pass 17 = .ok (.invokevirtual 69, 3) := kDec_at dA191_cX7_pass 12 rfl
theorem dX7_pass_20 : decode cX7_pass 20 = .ok (.ifCond .eq 20, 3) := kDec_at dA191_cX7_pass 13 rfl
theorem dX7_pass_23 : decode cX7_pass 23 = .ok (.aload_n 0, 1) := kDec_at dA191_cX7_pass 14 rfl
theorem dX7_pass_24 : decode cX7_pass 24 = .ok (.getfield 14, 3) := kDec_at dA191_cX7_pass 15 rfl
theorem dX7_pass_27 : decode cX7_pass 27 = .ok (.invokevirtual 31, 3) := kDec_at dA191_cX7_pass 16 rfl
theorem dX7_pass_30 : decode cX7_pass 30 = .ok (.sipush 900, 3) := kDec_at dA191_cX7_pass 17 rfl
theorem dX7_pass_33 : decode cX7_pass 33 = .ok (.if_icmp .gt 7, 3) := kDec_at dA191_cX7_pass 18 rfl
theorem dX7_pass_36 : decode cX7_pass 36 = .ok (.iconst 1, 1) := kDec_at dA191_cX7_pass 19 rfl
theorem dX7_pass_37 : decode cX7_pass 37 = .ok (.goto 4, 3) := kDec_at dA191_cX7_pass 20 rfl
set_option maxRecDepth 20000 in
theorem gX7_write_all : wsX7_write.all goodWord = true := by
  unfold wsX7_write
  exact good_c (by decide +kernel) (good_a (good_a (good_a (good_a (good_a (good_a (good_a (good_a ((by decide +kernel)) gX7_clsall) gX5_clsall) gX2_clsall) gX10_clsall) gX5_cut_all) gX5_length_all) gX5_get_all) gX2_encode_all)
set_option maxRecDepth 20000 in
theorem ggX7_pass_X7_write : GoodIn wsX7_pass wsX7_write := goodIn_sub (fun _ h => List.mem_cons_of_mem _ (List.mem_append_left _ (List.mem_append_left _ (List.mem_append_right _ (h))))) gX7_write_all
set_option maxRecDepth 20000 in
theorem gX7_pass_X7_write : GoodIn wsX7_pass (wsV RX7 65 RX7 yX7_write wsX7_write) := goodIn_app (goodIn_r _ [2, 3, 4, 5] rfl (by decide +kernel)) ggX7_pass_X7_write
set_option maxRecDepth 20000 in
theorem gX7_readExactly_all : wsX7_readExactly.all goodWord = true := by
  unfold wsX7_readExactly
  exact good_c (by decide +kernel) (good_a (good_a (good_a (good_a (good_a (good_a (good_a (good_a (good_a (good_a ((by decide +kernel)) gX7_clsall) gX5_clsall) gX2_clsall) gX10_clsall) gX5_cut_all) gX5_length_all) gX2_decode_all) gX2_letterIn_all) gX5_add_all) gX2_bytesIn_all)
set_option maxRecDepth 20000 in
theorem ggX7_pass_X7_readExactly : GoodIn wsX7_pass wsX7_readExactly := goodIn_sub (fun _ h => List.mem_cons_of_mem _ (List.mem_append_left _ (List.mem_append_right _ (h)))) gX7_readExactly_all
set_option maxRecDepth 20000 in
theorem gX7_pass_X7_readExactly : GoodIn wsX7_pass (wsV RX7 69 RX7 yX7_readExactly wsX7_readExactly) := goodIn_app (goodIn_r _ [10, 11, 12, 5] rfl (by decide +kernel)) ggX7_pass_X7_readExactly
set_option maxRecDepth 20000 in
theorem ggX7_pass_X5_length : GoodIn wsX7_pass wsX5_length := goodIn_sub (fun _ h => List.mem_cons_of_mem _ (List.mem_append_right _ (h))) gX5_length_all
set_option maxRecDepth 20000 in
theorem gX7_pass_X5_length : GoodIn wsX7_pass (wsV RX7 31 RX5 yX5_length wsX5_length) := goodIn_app (goodIn_r _ [7, 8, 9, 6] rfl (by decide +kernel)) ggX7_pass_X5_length
set_option maxRecDepth 100000 in
theorem dA192_cX12_does : kDec cX12_does [(0, .aload_n 0, 1), (1, .iconst (-1), 1), (2, .putfield 102, 3), (5, .aload_n 0, 1), (6, .iload_n 1, 1), (7, .aload_n 3, 1), (8, .iload 4, 2), (10, .invokevirtual 127, 3), (13, .ifCond .ne 5, 3), (18, .aload_n 0, 1), (19, .getfield 91, 3), (22, .sipush 900, 3), (25, .if_icmp .le 5, 3), (30, .aload_n 0, 1), (31, .iload_n 2, 1), (32, .iconst 0, 1), (33, .invokevirtual 131, 3), (36, .ifCond .ne 5, 3), (41, .aload_n 0, 1), (42, .getfield 119, 3), (45, .sipush 300, 3), (48, .if_icmp .gt 7, 3), (55, .iconst 0, 1), (56, .ireturn, 1)] = true := by decide +kernel
theorem dX12_does_0 : decode cX12_does 0 = .ok (.aload_n 0, 1) := kDec_at dA192_cX12_does 0 rfl
theorem dX12_does_1 : decode cX12_does 1 = .ok (.iconst (-1), 1) := kDec_at dA192_cX12_does 1 rfl
theorem dX12_does_2 : decode cX12_does 2 = .ok (.putfield 102, 3) := kDec_at dA192_cX12_does 2 rfl
theorem dX12_does_5 : decode cX12_does 5 = .ok (.aload_n 0, 1) := kDec_at dA192_cX12_does 3 rfl
theorem dX12_does_6 : decode cX12_does 6 = .ok (.iload_n 1, 1) := kDec_at dA192_cX12_does 4 rfl
theorem dX12_does_7 : decode cX12_does 7 = .ok (.aload_n 3, 1) := kDec_at dA192_cX12_does 5 rfl
theorem dX12_does_8 : decode cX12_does 8 = .ok (.iload 4, 2) := kDec_at dA192_cX12_does 6 rfl
theorem dX12_does_10 : decode cX12_does 10 = .ok (.invokevirtual 127, 3) := kDec_at dA192_cX12_does 7 rfl
theorem dX12_does_13 : decode cX12_does 13 = .ok (.ifCond .ne 5, 3) := kDec_at dA192_cX12_does 8 rfl
theorem dX12_does_18 : decode cX12_does 18 = .ok (.aload_n 0, 1) := kDec_at dA192_cX12_does 9 rfl
theorem dX12_does_19 : decode cX12_does 19 = .ok (.getfield 91, 3) := kDec_at dA192_cX12_does 10 rfl
theorem dX12_does_22 : decode cX12_does 22 = .ok (.sipush 900, 3) := kDec_at dA192_cX12_does 11 rfl
theorem dX12_does_25 : decode cX12_does 25 = .ok (.if_icmp .le 5, 3) := kDec_at dA192_cX12_does 12 rfl
theorem dX12_does_30 : decode cX12_does 30 = .ok (.aload_n 0, 1) := kDec_at dA192_cX12_does 13 rfl
theorem dX12_does_31 : decode cX12_does 31 = .ok (.iload_n 2, 1) := kDec_at dA192_cX12_does 14 rfl
theorem dX12_does_32 : decode cX12_does 32 = .ok (.iconst 0, 1) := kDec_at dA192_cX12_does 15 rfl
theorem dX12_does_33 : decode cX12_does 33 = .ok (.invokevirtual 131, 3) := kDec_at dA192_cX12_does 16 rfl
theorem dX12_does_36 : decode cX12_does 36 = .ok (.ifCond .ne 5, 3) := kDec_at dA192_cX12_does 17 rfl
theorem dX12_does_41 : decode cX12_does 41 = .ok (.aload_n 0, 1) := kDec_at dA192_cX12_does 18 rfl
theorem dX12_does_42 : decode cX12_does 42 = .ok (.getfield 119, 3) := kDec_at dA192_cX12_does 19 rfl
theorem dX12_does_45 : decode cX12_does 45 = .ok (.sipush 300, 3) := kDec_at dA192_cX12_does 20 rfl
theorem dX12_does_48 : decode cX12_does 48 = .ok (.if_icmp .gt 7, 3) := kDec_at dA192_cX12_does 21 rfl
theorem dX12_does_55 : decode cX12_does 55 = .ok (.iconst 0, 1) := kDec_at dA192_cX12_does 22 rfl
theorem dX12_does_56 : decode cX12_does 56 = .ok (.ireturn, 1) := kDec_at dA192_cX12_does 23 rfl
set_option maxRecDepth 20000 in
theorem gX12_write_all : wsX12_write.all goodWord = true := by
  unfold wsX12_write
  exact good_c (by decide +kernel) (good_a (good_a ((by decide +kernel)) gX12_clsall) gX12_writeLetter_all)
set_option maxRecDepth 20000 in
theorem ggX12_does_X12_write : GoodIn wsX12_does wsX12_write := goodIn_sub (fun _ h => List.mem_cons_of_mem _ (List.mem_append_left _ (List.mem_append_right _ (h)))) gX12_write_all
set_option maxRecDepth 20000 in
theorem gX12_does_X12_write : GoodIn wsX12_does (wsV RX12 127 RX12 yX12_write wsX12_write) := goodIn_app (goodIn_r _ [4, 5, 6, 7] rfl (by decide +kernel)) ggX12_does_X12_write
set_option maxRecDepth 20000 in
theorem gX12_read_all : wsX12_read.all goodWord = true := by
  unfold wsX12_read
  exact good_c (by decide +kernel) (good_a (good_a ((by decide +kernel)) gX12_clsall) gX12_readAt_all)
set_option maxRecDepth 20000 in
theorem ggX12_does_X12_read : GoodIn wsX12_does wsX12_read := goodIn_sub (fun _ h => List.mem_cons_of_mem _ (List.mem_append_right _ (h))) gX12_read_all
set_option maxRecDepth 20000 in
theorem gX12_does_X12_read : GoodIn wsX12_does (wsV RX12 131 RX12 yX12_read wsX12_read) := goodIn_app (goodIn_r _ [8, 9, 10, 7] rfl (by decide +kernel)) ggX12_does_X12_read
set_option maxRecDepth 100000 in
theorem dA193_cX12_does : kDec cX12_does [(51, .iconst 1, 1), (52, .goto 4, 3), (39, .iconst 0, 1), (40, .ireturn, 1), (28, .iconst 0, 1), (29, .ireturn, 1), (16, .iconst 0, 1), (17, .ireturn, 1)] = true := by decide +kernel
theorem dX12_does_51 : decode cX12_does 51 = .ok (.iconst 1, 1) := kDec_at dA193_cX12_does 0 rfl
theorem dX12_does_52 : decode cX12_does 52 = .ok (.goto 4, 3) := kDec_at dA193_cX12_does 1 rfl
theorem dX12_does_39 : decode cX12_does 39 = .ok (.iconst 0, 1) := kDec_at dA193_cX12_does 2 rfl
theorem dX12_does_40 : decode cX12_does 40 = .ok (.ireturn, 1) := kDec_at dA193_cX12_does 3 rfl
theorem dX12_does_28 : decode cX12_does 28 = .ok (.iconst 0, 1) := kDec_at dA193_cX12_does 4 rfl
theorem dX12_does_29 : decode cX12_does 29 = .ok (.ireturn, 1) := kDec_at dA193_cX12_does 5 rfl
theorem dX12_does_16 : decode cX12_does 16 = .ok (.iconst 0, 1) := kDec_at dA193_cX12_does 6 rfl
theorem dX12_does_17 : decode cX12_does 17 = .ok (.ireturn, 1) := kDec_at dA193_cX12_does 7 rfl
set_option maxRecDepth 100000 in
theorem dA194_cX12_undoes : kDec cX12_undoes [(0, .aload_n 0, 1), (1, .iload_n 2, 1), (2, .iload_n 1, 1), (3, .aload_n 0, 1), (4, .getfield 64, 3), (7, .aload_n 0, 1), (8, .getfield 135, 3), (11, .invokevirtual 138, 3), (14, .ifCond .ne 5, 3), (19, .aload_n 0, 1), (20, .getfield 119, 3), (23, .istore_n 3, 1), (24, .iconst 0, 1), (25, .istore 4, 2), (27, .iload 4, 2), (29, .iload_n 3, 1), (30, .if_icmp .ge 23, 3), (53, .aload_n 0, 1), (54, .iload_n 1, 1), (55, .iload_n 2, 1), (56, .aload_n 0, 1), (57, .getfield 67, 3), (60, .iload_n 3, 1), (61, .invokevirtual 138, 3)] = true := by decide +kernel
theorem dX12_undoes_0 : decode cX12_undoes 0 = .ok (.aload_n 0, 1) := kDec_at dA194_cX12_undoes 0 rfl
theorem dX12_undoes_1 : decode cX12_undoes 1 = .ok (.iload_n 2, 1) := kDec_at dA194_cX12_undoes 1 rfl
theorem dX12_undoes_2 : decode cX12_undoes 2 = .ok (.iload_n 1, 1) := kDec_at dA194_cX12_undoes 2 rfl
theorem dX12_undoes_3 : decode cX12_undoes 3 = .ok (.aload_n 0, 1) := kDec_at dA194_cX12_undoes 3 rfl
theorem dX12_undoes_4 : decode cX12_undoes 4 = .ok (.getfield 64, 3) := kDec_at dA194_cX12_undoes 4 rfl
theorem dX12_undoes_7 : decode cX12_undoes 7 = .ok (.aload_n 0, 1) := kDec_at dA194_cX12_undoes 5 rfl
theorem dX12_undoes_8 : decode cX12_undoes 8 = .ok (.getfield 135, 3) := kDec_at dA194_cX12_undoes 6 rfl
theorem dX12_undoes_11 : decode cX12_undoes 11 = .ok (.invokevirtual 138, 3) := kDec_at dA194_cX12_undoes 7 rfl
theorem dX12_undoes_14 : decode cX12_undoes 14 = .ok (.ifCond .ne 5, 3) := kDec_at dA194_cX12_undoes 8 rfl
theorem dX12_undoes_19 : decode cX12_undoes 19 = .ok (.aload_n 0, 1) := kDec_at dA194_cX12_undoes 9 rfl
theorem dX12_undoes_20 : decode cX12_undoes 20 = .ok (.getfield 119, 3) := kDec_at dA194_cX12_undoes 10 rfl
theorem dX12_undoes_23 : decode cX12_undoes 23 = .ok (.istore_n 3, 1) := kDec_at dA194_cX12_undoes 11 rfl
theorem dX12_undoes_24 : decode cX12_undoes 24 = .ok (.iconst 0, 1) := kDec_at dA194_cX12_undoes 12 rfl
theorem dX12_undoes_25 : decode cX12_undoes 25 = .ok (.istore 4, 2) := kDec_at dA194_cX12_undoes 13 rfl
theorem dX12_undoes_27 : decode cX12_undoes 27 = .ok (.iload 4, 2) := kDec_at dA194_cX12_undoes 14 rfl
theorem dX12_undoes_29 : decode cX12_undoes 29 = .ok (.iload_n 3, 1) := kDec_at dA194_cX12_undoes 15 rfl
theorem dX12_undoes_30 : decode cX12_undoes 30 = .ok (.if_icmp .ge 23, 3) := kDec_at dA194_cX12_undoes 16 rfl
theorem dX12_undoes_53 : decode cX12_undoes 53 = .ok (.aload_n 0, 1) := kDec_at dA194_cX12_undoes 17 rfl
theorem dX12_undoes_54 : decode cX12_undoes 54 = .ok (.iload_n 1, 1) := kDec_at dA194_cX12_undoes 18 rfl
theorem dX12_undoes_55 : decode cX12_undoes 55 = .ok (.iload_n 2, 1) := kDec_at dA194_cX12_undoes 19 rfl
theorem dX12_undoes_56 : decode cX12_undoes 56 = .ok (.aload_n 0, 1) := kDec_at dA194_cX12_undoes 20 rfl
theorem dX12_undoes_57 : decode cX12_undoes 57 = .ok (.getfield 67, 3) := kDec_at dA194_cX12_undoes 21 rfl
theorem dX12_undoes_60 : decode cX12_undoes 60 = .ok (.iload_n 3, 1) := kDec_at dA194_cX12_undoes 22 rfl
theorem dX12_undoes_61 : decode cX12_undoes 61 = .ok (.invokevirtual 138, 3) := kDec_at dA194_cX12_undoes 23 rfl
set_option maxRecDepth 20000 in
theorem gX12_does_all : wsX12_does.all goodWord = true := by
  unfold wsX12_does
  exact good_c (by decide +kernel) (good_a (good_a (good_a ((by decide +kernel)) gX12_clsall) gX12_write_all) gX12_read_all)
set_option maxRecDepth 20000 in
theorem ggX12_undoes_X12_does : GoodIn wsX12_undoes wsX12_does := goodIn_sub (fun _ h => List.mem_cons_of_mem _ (List.mem_append_right _ (h))) gX12_does_all
set_option maxRecDepth 20000 in
theorem gX12_undoes_X12_does : GoodIn wsX12_undoes (wsV RX12 138 RX12 yX12_does wsX12_does) := goodIn_app (goodIn_r _ [7, 8, 9, 10] rfl (by decide +kernel)) ggX12_undoes_X12_does
set_option maxRecDepth 100000 in
theorem dA195_cX12_undoes : kDec cX12_undoes [(64, .ifCond .eq 18, 3), (67, .aload_n 0, 1), (68, .getfield 119, 3), (71, .aload_n 0, 1), (72, .getfield 135, 3), (75, .if_icmp .ne 7, 3), (78, .iconst 1, 1), (79, .goto 4, 3), (83, .istore 4, 2), (85, .iconst 0, 1), (86, .istore 5, 2), (88, .iload 4, 2), (90, .ifCond .eq 42, 3), (93, .iload 5, 2), (95, .aload_n 0, 1), (96, .getfield 135, 3), (99, .if_icmp .ge 33, 3), (132, .aload_n 0, 1), (133, .iconst (-1), 1), (134, .putfield 102, 3), (137, .iload 4, 2), (139, .ifCond .ne 5, 3), (144, .iconst 0, 1), (145, .istore 5, 2)] = true := by decide +kernel
theorem dX12_undoes_64 : decode cX12_undoes 64 = .ok (.ifCond .eq 18, 3) := kDec_at dA195_cX12_undoes 0 rfl
theorem dX12_undoes_67 : decode cX12_undoes 67 = .ok (.aload_n 0, 1) := kDec_at dA195_cX12_undoes 1 rfl
theorem dX12_undoes_68 : decode cX12_undoes 68 = .ok (.getfield 119, 3) := kDec_at dA195_cX12_undoes 2 rfl
theorem dX12_undoes_71 : decode cX12_undoes 71 = .ok (.aload_n 0, 1) := kDec_at dA195_cX12_undoes 3 rfl
theorem dX12_undoes_72 : decode cX12_undoes 72 = .ok (.getfield 135, 3) := kDec_at dA195_cX12_undoes 4 rfl
theorem dX12_undoes_75 : decode cX12_undoes 75 = .ok (.if_icmp .ne 7, 3) := kDec_at dA195_cX12_undoes 5 rfl
theorem dX12_undoes_78 : decode cX12_undoes 78 = .ok (.iconst 1, 1) := kDec_at dA195_cX12_undoes 6 rfl
theorem dX12_undoes_79 : decode cX12_undoes 79 = .ok (.goto 4, 3) := kDec_at dA195_cX12_undoes 7 rfl
theorem dX12_undoes_83 : decode cX12_undoes 83 = .ok (.istore 4, 2) := kDec_at dA195_cX12_undoes 8 rfl
theorem dX12_undoes_85 : decode cX12_undoes 85 = .ok (.iconst 0, 1) := kDec_at dA195_cX12_undoes 9 rfl
theorem dX12_undoes_86 : decode cX12_undoes 86 = .ok (.istore 5, 2) := kDec_at dA195_cX12_undoes 10 rfl
theorem dX12_undoes_88 : decode cX12_undoes 88 = .ok (.iload 4, 2) := kDec_at dA195_cX12_undoes 11 rfl
theorem dX12_undoes_90 : decode cX12_undoes 90 = .ok (.ifCond .eq 42, 3) := kDec_at dA195_cX12_undoes 12 rfl
theorem dX12_undoes_93 : decode cX12_undoes 93 = .ok (.iload 5, 2) := kDec_at dA195_cX12_undoes 13 rfl
theorem dX12_undoes_95 : decode cX12_undoes 95 = .ok (.aload_n 0, 1) := kDec_at dA195_cX12_undoes 14 rfl
theorem dX12_undoes_96 : decode cX12_undoes 96 = .ok (.getfield 135, 3) := kDec_at dA195_cX12_undoes 15 rfl
theorem dX12_undoes_99 : decode cX12_undoes 99 = .ok (.if_icmp .ge 33, 3) := kDec_at dA195_cX12_undoes 16 rfl
theorem dX12_undoes_132 : decode cX12_undoes 132 = .ok (.aload_n 0, 1) := kDec_at dA195_cX12_undoes 17 rfl
theorem dX12_undoes_133 : decode cX12_undoes 133 = .ok (.iconst (-1), 1) := kDec_at dA195_cX12_undoes 18 rfl
theorem dX12_undoes_134 : decode cX12_undoes 134 = .ok (.putfield 102, 3) := kDec_at dA195_cX12_undoes 19 rfl
theorem dX12_undoes_137 : decode cX12_undoes 137 = .ok (.iload 4, 2) := kDec_at dA195_cX12_undoes 20 rfl
theorem dX12_undoes_139 : decode cX12_undoes 139 = .ok (.ifCond .ne 5, 3) := kDec_at dA195_cX12_undoes 21 rfl
theorem dX12_undoes_144 : decode cX12_undoes 144 = .ok (.iconst 0, 1) := kDec_at dA195_cX12_undoes 22 rfl
theorem dX12_undoes_145 : decode cX12_undoes 145 = .ok (.istore 5, 2) := kDec_at dA195_cX12_undoes 23 rfl
set_option maxRecDepth 100000 in
theorem dA196_cX12_undoes : kDec cX12_undoes [(147, .iload 5, 2), (149, .iload_n 3, 1), (150, .if_icmp .ge 23, 3), (173, .aload_n 0, 1), (174, .iload_n 3, 1), (175, .putfield 135, 3), (178, .iconst 1, 1), (179, .ireturn, 1), (153, .aload_n 0, 1), (154, .getfield 64, 3), (157, .iload 5, 2), (159, .aload_n 0, 1), (160, .getfield 67, 3), (163, .iload 5, 2), (165, .iaload, 1), (166, .iastore, 1), (167, .iinc 5 1, 3), (170, .goto (-23), 3), (102, .aload_n 0, 1), (103, .getfield 61, 3), (106, .iload 5, 2), (108, .iaload, 1), (109, .aload_n 0, 1), (110, .getfield 64, 3)] = true := by decide +kernel
theorem dX12_undoes_147 : decode cX12_undoes 147 = .ok (.iload 5, 2) := kDec_at dA196_cX12_undoes 0 rfl
theorem dX12_undoes_149 : decode cX12_undoes 149 = .ok (.iload_n 3, 1) := kDec_at dA196_cX12_undoes 1 rfl
theorem dX12_undoes_150 : decode cX12_undoes 150 = .ok (.if_icmp .ge 23, 3) := kDec_at dA196_cX12_undoes 2 rfl
theorem dX12_undoes_173 : decode cX12_undoes 173 = .ok (.aload_n 0, 1) := kDec_at dA196_cX12_undoes 3 rfl
theorem dX12_undoes_174 : decode cX12_undoes 174 = .ok (.iload_n 3, 1) := kDec_at dA196_cX12_undoes 4 rfl
theorem dX12_undoes_175 : decode cX12_undoes 175 = .ok (.putfield 135, 3) := kDec_at dA196_cX12_undoes 5 rfl
theorem dX12_undoes_178 : decode cX12_undoes 178 = .ok (.iconst 1, 1) := kDec_at dA196_cX12_undoes 6 rfl
theorem dX12_undoes_179 : decode cX12_undoes 179 = .ok (.ireturn, 1) := kDec_at dA196_cX12_undoes 7 rfl
theorem dX12_undoes_153 : decode cX12_undoes 153 = .ok (.aload_n 0, 1) := kDec_at dA196_cX12_undoes 8 rfl
theorem dX12_undoes_154 : decode cX12_undoes 154 = .ok (.getfield 64, 3) := kDec_at dA196_cX12_undoes 9 rfl
theorem dX12_undoes_157 : decode cX12_undoes 157 = .ok (.iload 5, 2) := kDec_at dA196_cX12_undoes 10 rfl
theorem dX12_undoes_159 : decode cX12_undoes 159 = .ok (.aload_n 0, 1) := kDec_at dA196_cX12_undoes 11 rfl
theorem dX12_undoes_160 : decode cX12_undoes 160 = .ok (.getfield 67, 3) := kDec_at dA196_cX12_undoes 12 rfl
theorem dX12_undoes_163 : decode cX12_undoes 163 = .ok (.iload 5, 2) := kDec_at dA196_cX12_undoes 13 rfl
theorem dX12_undoes_165 : decode cX12_undoes 165 = .ok (.iaload, 1) := kDec_at dA196_cX12_undoes 14 rfl
theorem dX12_undoes_166 : decode cX12_undoes 166 = .ok (.iastore, 1) := kDec_at dA196_cX12_undoes 15 rfl
theorem dX12_undoes_167 : decode cX12_undoes 167 = .ok (.iinc 5 1, 3) := kDec_at dA196_cX12_undoes 16 rfl
theorem dX12_undoes_170 : decode cX12_undoes 170 = .ok (.goto (-23), 3) := kDec_at dA196_cX12_undoes 17 rfl
theorem dX12_undoes_102 : decode cX12_undoes 102 = .ok (.aload_n 0, 1) := kDec_at dA196_cX12_undoes 18 rfl
theorem dX12_undoes_103 : decode cX12_undoes 103 = .ok (.getfield 61, 3) := kDec_at dA196_cX12_undoes 19 rfl
theorem dX12_undoes_106 : decode cX12_undoes 106 = .ok (.iload 5, 2) := kDec_at dA196_cX12_undoes 20 rfl
theorem dX12_undoes_108 : decode cX12_undoes 108 = .ok (.iaload, 1) := kDec_at dA196_cX12_undoes 21 rfl
theorem dX12_undoes_109 : decode cX12_undoes 109 = .ok (.aload_n 0, 1) := kDec_at dA196_cX12_undoes 22 rfl
theorem dX12_undoes_110 : decode cX12_undoes 110 = .ok (.getfield 64, 3) := kDec_at dA196_cX12_undoes 23 rfl
set_option maxRecDepth 100000 in
theorem dA197_cX12_undoes : kDec cX12_undoes [(113, .iload 5, 2), (115, .iaload, 1), (116, .if_icmp .ne 7, 3), (119, .iconst 1, 1), (120, .goto 4, 3), (124, .istore 4, 2), (126, .iinc 5 1, 3), (129, .goto (-41), 3), (33, .aload_n 0, 1), (34, .getfield 67, 3), (37, .iload 4, 2), (39, .aload_n 0, 1), (40, .getfield 61, 3), (43, .iload 4, 2), (45, .iaload, 1), (46, .iastore, 1), (47, .iinc 4 1, 3), (50, .goto (-23), 3), (17, .iconst 0, 1), (18, .ireturn, 1)] = true := by decide +kernel
theorem dX12_undoes_113 : decode cX12_undoes 113 = .ok (.iload 5, 2) := kDec_at dA197_cX12_undoes 0 rfl
theorem dX12_undoes_115 : decode cX12_undoes 115 = .ok (.iaload, 1) := kDec_at dA197_cX12_undoes 1 rfl
theorem dX12_undoes_116 : decode cX12_undoes 116 = .ok (.if_icmp .ne 7, 3) := kDec_at dA197_cX12_undoes 2 rfl
theorem dX12_undoes_119 : decode cX12_undoes 119 = .ok (.iconst 1, 1) := kDec_at dA197_cX12_undoes 3 rfl
theorem dX12_undoes_120 : decode cX12_undoes 120 = .ok (.goto 4, 3) := kDec_at dA197_cX12_undoes 4 rfl
theorem dX12_undoes_124 : decode cX12_undoes 124 = .ok (.istore 4, 2) := kDec_at dA197_cX12_undoes 5 rfl
theorem dX12_undoes_126 : decode cX12_undoes 126 = .ok (.iinc 5 1, 3) := kDec_at dA197_cX12_undoes 6 rfl
theorem dX12_undoes_129 : decode cX12_undoes 129 = .ok (.goto (-41), 3) := kDec_at dA197_cX12_undoes 7 rfl
theorem dX12_undoes_33 : decode cX12_undoes 33 = .ok (.aload_n 0, 1) := kDec_at dA197_cX12_undoes 8 rfl
theorem dX12_undoes_34 : decode cX12_undoes 34 = .ok (.getfield 67, 3) := kDec_at dA197_cX12_undoes 9 rfl
theorem dX12_undoes_37 : decode cX12_undoes 37 = .ok (.iload 4, 2) := kDec_at dA197_cX12_undoes 10 rfl
theorem dX12_undoes_39 : decode cX12_undoes 39 = .ok (.aload_n 0, 1) := kDec_at dA197_cX12_undoes 11 rfl
theorem dX12_undoes_40 : decode cX12_undoes 40 = .ok (.getfield 61, 3) := kDec_at dA197_cX12_undoes 12 rfl
theorem dX12_undoes_43 : decode cX12_undoes 43 = .ok (.iload 4, 2) := kDec_at dA197_cX12_undoes 13 rfl
theorem dX12_undoes_45 : decode cX12_undoes 45 = .ok (.iaload, 1) := kDec_at dA197_cX12_undoes 14 rfl
theorem dX12_undoes_46 : decode cX12_undoes 46 = .ok (.iastore, 1) := kDec_at dA197_cX12_undoes 15 rfl
theorem dX12_undoes_47 : decode cX12_undoes 47 = .ok (.iinc 4 1, 3) := kDec_at dA197_cX12_undoes 16 rfl
theorem dX12_undoes_50 : decode cX12_undoes 50 = .ok (.goto (-23), 3) := kDec_at dA197_cX12_undoes 17 rfl
theorem dX12_undoes_17 : decode cX12_undoes 17 = .ok (.iconst 0, 1) := kDec_at dA197_cX12_undoes 18 rfl
theorem dX12_undoes_18 : decode cX12_undoes 18 = .ok (.ireturn, 1) := kDec_at dA197_cX12_undoes 19 rfl

end

/-! 59h.pas -/
section
set_option maxHeartbeats 40000000 in
set_option maxRecDepth 100000 in
theorem f_X7_pass (l : Launch) (dC : Nat → ClassId) (dI : Nat → Nat → Nat) (cI cS : ClassId) (sz : Nat) (oP : Nat) (nx : Nat) (nd : Nat) (oC : Nat) (nB : Nat) (aB : Nat) (ax : Nat) (ad : Nat) (o4 : Nat) (o5 : Nat) (a41 : Nat) (a42 : Nat) (a43 : Nat) (a51 : Nat) (a52 : Nat) (a53 : Nat) (ft : Int32) (lB : Int32) (fB : Nat → Int32) (lx : Int32) (fx : Nat → Int32) (ld : Int32) (fd : Nat → Int32) (l4 : Int32) (f41 : Nat → Int32) (f42 : Nat → Int32) (f43 : Nat → Int32) (l5 : Int32) (f51 : Nat → Int32) (f52 : Nat → Int32) (f53 : Nat → Int32) (a : Int32) (b : Int32) (g_lB : 0 ≤ lB.toInt ∧ lB.toInt ≤ 2400) (g_lx : 0 ≤ lx.toInt ∧ lx.toInt ≤ 300) (g_ld : 0 ≤ ld.toInt ∧ ld.toInt ≤ 300) (hlt : prg lx.toInt 0 65535 fx) (hT4 : HT 512 511 hsT f42 f43) (ho4 : (occ f43 512 : Int) ≤ 511) (hT5 : HT 512 511 hsT f52 f53) (ho5 : (occ f53 512 : Int) ≤ 511) (hL4 : prg 256 (-1) 65535 f41) (hL5 : prg 256 (-1) 65535 f51) (hBr : okB (Bc a f42 f43 f52 f53)) : kMi l yX7_pass wsX7_pass ({ frames := 4, cells := 0, slots := 0, locals := 100 } : Room) [.ref oP, .int a, .int b, .ref nx, .ref nd] sz (dC, dI) vwCl [(cI, .int), (cS, .short)] [(oP, .inr (7, [.ref oC, .ref nB, .int ft])), (nB, .inr (5, [.ref aB, .int lB])), (aB, .inl (cI, 2400, .inl fB)), (nx, .inr (5, [.ref ax, .int lx])), (ax, .inl (cI, 300, .inl fx)), (nd, .inr (5, [.ref ad, .int ld])), (ad, .inl (cI, 300, .inl fd)), (oC, .inr (2, [.ref o4, .ref o5])), (o4, .inr (10, [.ref a41, .ref a42, .ref a43, .int l4])), (a41, .inl (cI, 256, .inl f41)), (a42, .inl (cI, 512, .inl f42)), (a43, .inl (cI, 512, .inl f43)), (o5, .inr (10, [.ref a51, .ref a52, .ref a53, .int l5])), (a51, .inl (cI, 256, .inl f51)), (a52, .inl (cI, 512, .inl f52)), (a53, .inl (cI, 512, .inl f53))] (va_Nw (.methodLinkNest RX2 52 yX11_isLetter "TextMender")) 0 0 (fun (A : Nat → Prop) (r : Int32) (hh9 : Heap) => ∀ PZ9 : Prop, (∀ (ft' : Int32) (lB' : Int32) (fB' : Nat → Int32) (ld' : Int32) (fd' : Nat → Int32), kPD (dC, dI) vwCl A [(oP, .inr (7, [.ref oC, .ref nB, .int ft'])), (nB, .inr (5, [.ref aB, .int lB'])), (aB, .inl (cI, 2400, .inl fB')), (nx, .inr (5, [.ref ax, .int lx])), (ax, .inl (cI, 300, .inl fx)), (nd, .inr (5, [.ref ad, .int ld'])), (ad, .inl (cI, 300, .inl fd')), (oC, .inr (2, [.ref o4, .ref o5])), (o4, .inr (10, [.ref a41, .ref a42, .ref a43, .int l4])), (a41, .inl (cI, 256, .inl f41)), (a42, .inl (cI, 512, .inl f42)), (a43, .inl (cI, 512, .inl f43)), (o5, .inr (10, [.ref a51, .ref a52, .ref a53, .int l5])), (a51, .inl (cI, 256, .inl f51)), (a52, .inl (cI, 512, .inl f52)), (a53, .inl (cI, 512, .inl f53))] hh9 → (0 ≤ lB'.toInt ∧ lB'.toInt ≤ 2400) → (0 ≤ ld'.toInt ∧ ld'.toInt ≤ 300) → (0 ≤ r.toInt ∧ r.toInt ≤ 1) → (F_ps r ld' fd' a b f41 f51 (Bc a f42 f43 f52 f53) lx.toInt fx) → PZ9) → PZ9) := by
  refine kMi_of (cc := cX7_pass) (maxL := 5) (ret := (some .boolean)) (lv := [(0, .ref oP), (1, .int a), (2, .int b), (3, .ref nx), (4, .ref nd)]) (by decide +kernel) rfl rfl (Nat.le_of_ble_eq_true rfl) ?_
  intro p e s m below meth c A QQ ls hx hb hr hts hml hown hlocks hA hQQ hK hX hP hD hS hl
  have hown : s.vm.findClass RX7 = some m.cls := hown
  have hcf := k_cf hx hb hml hown hts
  have hN52 := hX
  have in_X7 : ∀ w ∈ wsX70, w ∈ wsX7_pass := fun _ h => List.mem_cons_of_mem _ (List.mem_append_left _ (List.mem_append_left _ (List.mem_append_left _ (List.mem_append_left _ (List.mem_append_left _ (List.mem_append_left _ (List.mem_append_right _ (h))))))))
  replace g_lB := hid g_lB
  refine lv_aload_n hx hb dX7_pass_0 rfl (lv_at hl 0 rfl) ?_
  refine lv_iload_n hx hb dX7_pass_1 rfl (lv_at hl 1 rfl) ?_
  refine lv_aload_n hx hb dX7_pass_2 rfl (lv_at hl 3 rfl) ?_
  refine kV_i (rest := []) (q0 := 0) (ci := 7) hcf (f_X7_write l dC dI cI cS s.heap.size oP nx oC nB aB o4 o5 a41 a42 a43 a51 a52 a53 ax ft lB fB l4 f42 f43 l5 f52 f53 lx fx a (g_lB) (g_lx) (hlt) (hT4) (by omega) (hT5) (by omega)) kc_X7_write gX7_pass_X7_write rfl rfl rfl ⟨Nat.le_of_ble_eq_true rfl, Nat.le_of_ble_eq_true rfl⟩ kX_t hK hP hD hS hA ([0, 1, 2, 5, 6, 7, 8, 9, 10, 11, 3, 4].filterMap (fun j => (posT mk_17 0)[j]?)) (posF mk_17 0) (kCp (ws := [(oP, .inr (7, [.ref oC, .ref nB, .int ft])), (nB, .inr (5, [.ref aB, .int lB])), (aB, .inl (cI, 2400, .inl fB)), (nx, .inr (5, [.ref ax, .int lx])), (ax, .inl (cI, 300, .inl fx)), (oC, .inr (2, [.ref o4, .ref o5])), (o4, .inr (10, [.ref a41, .ref a42, .ref a43, .int l4])), (a42, .inl (cI, 512, .inl f42)), (a43, .inl (cI, 512, .inl f43)), (o5, .inr (10, [.ref a51, .ref a52, .ref a53, .int l5])), (a52, .inl (cI, 512, .inl f52)), (a53, .inl (cI, 512, .inl f53))]) (kC_of mk_17 rfl rfl) rfl) (by decide +kernel) rfl rfl rfl hl rfl (Nat.le_of_ble_eq_true rfl) dX7_pass_3 ⟨Nat.le_of_ble_eq_true rfl, Nat.le_of_ble_eq_true rfl⟩ (fun r_1 H locs hB hJ hSn => ?_)
  refine hB _ (fun ft_1 lB_1 fB_1 hPD9 hf1_0 hf1_1 hf1_2 => ?_)
  clear hB
  obtain ⟨hPn, hDn⟩ := kJm (m := mk_17) hJ rfl hPD9.1 hPD9.2 [0, 1, 2, 10, 11, 3, 4, 5, 6, 7, 8, 9] (by decide +kernel) (ws := [(oP, .inr (7, [.ref oC, .ref nB, .int ft_1])), (nB, .inr (5, [.ref aB, .int lB_1])), (aB, .inl (cI, 2400, .inl fB_1)), (nx, .inr (5, [.ref ax, .int lx])), (ax, .inl (cI, 300, .inl fx)), (oC, .inr (2, [.ref o4, .ref o5])), (o4, .inr (10, [.ref a41, .ref a42, .ref a43, .int l4])), (a42, .inl (cI, 512, .inl f42)), (a43, .inl (cI, 512, .inl f43)), (o5, .inr (10, [.ref a51, .ref a52, .ref a53, .int l5])), (a52, .inl (cI, 512, .inl f52)), (a53, .inl (cI, 512, .inl f53))]) rfl (wn := [(oP, .inr (7, [.ref oC, .ref nB, .int ft_1])), (nB, .inr (5, [.ref aB, .int lB_1])), (aB, .inl (cI, 2400, .inl fB_1)), (nx, .inr (5, [.ref ax, .int lx])), (ax, .inl (cI, 300, .inl fx)), (nd, .inr (5, [.ref ad, .int ld])), (ad, .inl (cI, 300, .inl fd)), (oC, .inr (2, [.ref o4, .ref o5])), (o4, .inr (10, [.ref a41, .ref a42, .ref a43, .int l4])), (a41, .inl (cI, 256, .inl f41)), (a42, .inl (cI, 512, .inl f42)), (a43, .inl (cI, 512, .inl f43)), (o5, .inr (10, [.ref a51, .ref a52, .ref a53, .int l5])), (a51, .inl (cI, 256, .inl f51)), (a52, .inl (cI, 512, .inl f52)), (a53, .inl (cI, 512, .inl f53))]) rfl
  clear hP hD hS hJ hPD9
  have hP := hPn
  have hD := hDn
  have hS := hSn
  clear hPn hDn hSn
  refine lv_if_eq (tgt := 40) hx hb dX7_pass_6 (by decide) (fun c_2 => ?_) (fun c_2 => ?_)
  · have tc_2 : r_1.toInt = 0 := v_eq c_2
    refine lv_iconst (v := 0) hx hb dX7_pass_40 (by decide) ?_
    exact kl_z (v := 0) hQQ hx hb hr hlocks hS dX7_pass_41 (rfl) (fun PZ9 kZ9 => kZ9 ft_1 lB_1 fB_1 ld fd (⟨hP, hD⟩) (hf1_0) (g_ld) (by decide) (ps_w0 (Bf := Bc a f42 f43 f52 f53) hf1_2 (by omega) rfl))
  · have tc_2 : ¬ r_1.toInt = 0 := v_ne c_2
    have hwr9 := wr_WR (E := fun j => enc a (fx j) (Bc a f42 f43 f52 f53 (fx j))) hf1_2 (by omega)
    have hby9 := WR_b hwr9 (fun j hj => hlt j (by omega)) hBr
    refine lv_aload_n hx hb dX7_pass_9 rfl (lv_at hl 0 rfl) ?_
    refine lv_iload_n hx hb dX7_pass_10 rfl (lv_at hl 2 rfl) ?_
    refine lv_aload_n hx hb dX7_pass_11 rfl (lv_at hl 0 rfl) ?_
    refine va_get (D := (dC, dI)) (ci := 7) (v := .ref nB) (C := RX7) (T := TX7) (N := 3) hx hb hts in_X7 hown hK hP 0 rfl rfl 1 (Nat.le_of_ble_eq_true rfl) (hts (.fieldLink RX7 14 "TextMender$Passage" "bytes" "LTextMender$Numbers;") (List.mem_of_getElem? (i := 1) rfl)) (fun _ h9 => h9) rfl dX7_pass_12 ?_
    refine lv_aload hx hb dX7_pass_15 (lv_at hl 4 rfl) ?_
    refine kV_i (rest := []) (q0 := 0) (ci := 7) hcf (f_X7_readExactly l dC dI cI cS H.size oP nB nd oC nB aB ad o4 o5 a41 a42 a43 a51 a52 a53 2400 ft_1 lB_1 fB_1 ld fd l4 f41 l5 f51 b (by omega) (g_ld) (by omega) (hby9) (hL4) (hL5)) kc_X7_readExactly gX7_pass_X7_readExactly rfl rfl rfl ⟨Nat.le_of_ble_eq_true rfl, Nat.le_of_ble_eq_true rfl⟩ (kX_1 hN52) hK hP hD hS hA (posT mk_18 0) (posF mk_18 0) (kC_of mk_18 rfl rfl) (by decide +kernel) rfl rfl rfl hl rfl (Nat.le_of_ble_eq_true rfl) dX7_pass_17 ⟨Nat.le_of_ble_eq_true rfl, Nat.le_of_ble_eq_true rfl⟩ (fun r_3 H locs hB hJ hSn => ?_)
    refine hB _ (fun ft_3 ld_3 fd_3 hPD9 hf3_0 hf3_1 hf3_2 => ?_)
    clear hB
    obtain ⟨hPn, hDn⟩ := kJi (m := mk_18) hJ rfl hPD9.1 hPD9.2 (wn := [(oP, .inr (7, [.ref oC, .ref nB, .int ft_3])), (nB, .inr (5, [.ref aB, .int lB_1])), (aB, .inl (cI, 2400, .inl fB_1)), (nx, .inr (5, [.ref ax, .int lx])), (ax, .inl (cI, 300, .inl fx)), (nd, .inr (5, [.ref ad, .int ld_3])), (ad, .inl (cI, 300, .inl fd_3)), (oC, .inr (2, [.ref o4, .ref o5])), (o4, .inr (10, [.ref a41, .ref a42, .ref a43, .int l4])), (a41, .inl (cI, 256, .inl f41)), (a42, .inl (cI, 512, .inl f42)), (a43, .inl (cI, 512, .inl f43)), (o5, .inr (10, [.ref a51, .ref a52, .ref a53, .int l5])), (a51, .inl (cI, 256, .inl f51)), (a52, .inl (cI, 512, .inl f52)), (a53, .inl (cI, 512, .inl f53))]) rfl
    clear hP hD hS hJ hPD9
    have hP := hPn
    have hD := hDn
    have hS := hSn
    clear hPn hDn hSn
    refine lv_if_eq (tgt := 40) hx hb dX7_pass_20 (by decide) (fun c_4 => ?_) (fun c_4 => ?_)
    · have tc_4 : r_3.toInt = 0 := v_eq c_4
      refine lv_iconst (v := 0) hx hb dX7_pass_40 (by decide) ?_
      exact kl_z (v := 0) hQQ hx hb hr hlocks hS dX7_pass_41 (rfl) (fun PZ9 kZ9 => kZ9 ft_3 lB_1 fB_1 ld_3 fd_3 (⟨hP, hD⟩) (hf1_0) (hf3_0) (by decide) (ps_cl (Bf := Bc a f42 f43 f52 f53) hwr9 hby9 hf3_2 (by first | exact Or.inl ⟨rfl, by omega, by omega⟩ | exact Or.inr ⟨rfl, by omega⟩)))
    · have tc_4 : ¬ r_3.toInt = 0 := v_ne c_4
      refine lv_aload_n hx hb dX7_pass_23 rfl (lv_at hl 0 rfl) ?_
      refine va_get (D := (dC, dI)) (ci := 7) (v := .ref nB) (C := RX7) (T := TX7) (N := 3) hx hb hts in_X7 hown hK hP 0 rfl rfl 1 (Nat.le_of_ble_eq_true rfl) (hts (.fieldLink RX7 14 "TextMender$Passage" "bytes" "LTextMender$Numbers;") (List.mem_of_getElem? (i := 1) rfl)) (fun _ h9 => h9) rfl dX7_pass_24 ?_
      refine kV_i (rest := []) (q0 := 0) (ci := 5) hcf (m_X5_length l dC dI cI cS H.size nB aB lB_1 ) kc_X5_length gX7_pass_X5_length rfl rfl rfl ⟨Nat.le_of_ble_eq_true rfl, Nat.le_of_ble_eq_true rfl⟩ kX_t hK hP hD hS hA (posT mk_19 0) (posF mk_19 0) (kC_of mk_19 rfl rfl) (by decide +kernel) rfl rfl rfl hl rfl (Nat.le_of_ble_eq_true rfl) dX7_pass_27 ⟨Nat.le_of_ble_eq_true rfl, Nat.le_of_ble_eq_true rfl⟩ (fun r_5 H locs hB hJ hSn => ?_)
      refine hB _ (fun hPD9 hf5_0 => ?_)
      clear hB
      obtain ⟨hPn, hDn⟩ := kJi (m := mk_19) hJ rfl hPD9.1 hPD9.2 (wn := [(oP, .inr (7, [.ref oC, .ref nB, .int ft_3])), (nB, .inr (5, [.ref aB, .int lB_1])), (aB, .inl (cI, 2400, .inl fB_1)), (nx, .inr (5, [.ref ax, .int lx])), (ax, .inl (cI, 300, .inl fx)), (nd, .inr (5, [.ref ad, .int ld_3])), (ad, .inl (cI, 300, .inl fd_3)), (oC, .inr (2, [.ref o4, .ref o5])), (o4, .inr (10, [.ref a41, .ref a42, .ref a43, .int l4])), (a41, .inl (cI, 256, .inl f41)), (a42, .inl (cI, 512, .inl f42)), (a43, .inl (cI, 512, .inl f43)), (o5, .inr (10, [.ref a51, .ref a52, .ref a53, .int l5])), (a51, .inl (cI, 256, .inl f51)), (a52, .inl (cI, 512, .inl f52)), (a53, .inl (cI, 512, .inl f53))]) rfl
      clear hP hD hS hJ hPD9
      have hP := hPn
      have hD := hDn
      have hS := hSn
      clear hPn hDn hSn
      rw [hf5_0]
      refine lv_sipush (v := 900) hx hb dX7_pass_30 (by decide) ?_
      refine lv_icmp_gt (tgt := 40) hx hb dX7_pass_33 (by decide) (fun c_6 => ?_) (fun c_6 => ?_)
      · have tc_6 : 900 < lB_1.toInt := v_lt c_6
        refine lv_iconst (v := 0) hx hb dX7_pass_40 (by decide) ?_
        exact kl_z (v := 0) hQQ hx hb hr hlocks hS dX7_pass_41 (rfl) (fun PZ9 kZ9 => kZ9 ft_3 lB_1 fB_1 ld_3 fd_3 (⟨hP, hD⟩) (hf1_0) (hf3_0) (by decide) (ps_cl (Bf := Bc a f42 f43 f52 f53) hwr9 hby9 hf3_2 (by first | exact Or.inl ⟨rfl, by omega, by omega⟩ | exact Or.inr ⟨rfl, by omega⟩)))
      · have tc_6 : lB_1.toInt ≤ 900 := v_nlt c_6
        refine lv_iconst (v := 1) hx hb dX7_pass_36 (by decide) ?_
        refine lv_goto (tgt := 41) hx hb dX7_pass_37 (by decide) ?_
        exact kl_z (v := 1) hQQ hx hb hr hlocks hS dX7_pass_41 (rfl) (fun PZ9 kZ9 => kZ9 ft_3 lB_1 fB_1 ld_3 fd_3 (⟨hP, hD⟩) (hf1_0) (hf3_0) (by decide) (ps_cl (Bf := Bc a f42 f43 f52 f53) hwr9 hby9 hf3_2 (by first | exact Or.inl ⟨rfl, by omega, by omega⟩ | exact Or.inr ⟨rfl, by omega⟩)))

set_option maxHeartbeats 40000000 in
set_option maxRecDepth 100000 in
theorem f_X12_does (l : Launch) (dC : Nat → ClassId) (dI : Nat → Nat → Nat) (cI cS : ClassId) (sz : Nat) (oM : Nat) (rw : Nat) (mT : Nat) (mS : Nat) (mX : Nat) (mL : Nat) (mB : Nat) (mD : Nat) (m1 : Nat) (m2 : Nat) (mR : Nat) (x1 : Nat) (x2 : Nat) (x3 : Nat) (mH : Nat) (mY : Nat) (mE : Nat) (mW : Nat) (mO : Nat) (y1 : Nat) (y2 : Nat) (y3 : Nat) (y4 : Nat) (mZ : Nat) (cw : Nat) (zt : Int32) (zp : Int32) (zf : Int32) (zh : Int32) (zr : Int32) (zc : Int32) (zy : Int32) (za : Int32) (zb : Int32) (zs : Int32) (zq : Int32) (zw : Int32) (ze : Int32) (zn : Int32) (zm : Int32) (zl : Int32) (zk : Int32) (zd : Int32) (eY : Nat → Int32) (eB : Nat → Int32) (eL : Nat → Int32) (eE : Nat → Int32) (fr : Nat → Int32) (a : Int32) (b : Int32) (n : Int32) (g_zt : 0 ≤ zt.toInt ∧ zt.toInt ≤ 900) (g_zp : 0 ≤ zp.toInt ∧ zp.toInt ≤ 20) (g_zf : 0 ≤ zf.toInt ∧ zf.toInt ≤ 19) (g_zh : 0 ≤ zh.toInt ∧ zh.toInt ≤ 6) (g_zr : 0 ≤ zr.toInt ∧ zr.toInt ≤ 258) (g_zc : 0 ≤ zc.toInt ∧ zc.toInt ≤ 300) (g_zy : 0 ≤ zy.toInt ∧ zy.toInt ≤ 65536) (g_za : 0 ≤ za.toInt ∧ za.toInt ≤ 5) (g_zb : 0 ≤ zb.toInt ∧ zb.toInt ≤ 5) (g_zs : 0 ≤ zs.toInt ∧ zs.toInt ≤ 2000000) (g_zq : -1 ≤ zq.toInt ∧ zq.toInt ≤ 2000000) (g_zn : 0 ≤ zn.toInt ∧ zn.toInt ≤ 2600) (g_zm : 0 ≤ zm.toInt ∧ zm.toInt ≤ 2600) (g_zk : 0 ≤ zk.toInt ∧ zk.toInt ≤ 300) (g_eY : rg 0 255 eY) (g_eB : rg (-1) 255 eB) (g_eL : rg (-1) 65535 eL) (g_eE : rg 0 65535 eE) (g_fr : rg 0 65535 fr) (g_a : 0 ≤ a.toInt ∧ a.toInt ≤ 5) (g_b : 0 ≤ b.toInt ∧ b.toInt ≤ 5) (g_n : 0 ≤ n.toInt ∧ n.toInt ≤ 300) (hcw : n.toInt ≤ (cw : Int)) (hcw2 : cw ≤ 6300) : kMi l yX12_does wsX12_does ({ frames := 3, cells := 0, slots := 0, locals := 71 } : Room) [.ref oM, .int a, .int b, .ref rw, .int n] sz (dC, dI) vwCl [(cI, .int), (cS, .short)] [(oM, .inr (12, [.ref mT, .int zt, .ref mS, .ref mX, .int zp, .int zf, .ref mL, .ref mB, .ref mD, .ref m1, .ref m2, .int zh, .ref mR, .int zr, .ref x1, .ref x2, .ref x3, .int zc, .ref mH, .int zy, .int za, .int zb, .int zs, .int zq, .int zw, .int ze, .ref mY, .int zn, .ref mE, .int zm, .int zl, .ref mW, .int zk, .ref mO, .int zd, .ref y1, .ref y2, .ref y3, .ref y4, .ref mZ])), (mY, .inl (cI, 2600, .inl eY)), (mB, .inl (cS, 131072, .inl eB)), (mL, .inl (cI, 512, .inl eL)), (mE, .inl (cI, 2600, .inl eE)), (rw, .inl (cI, cw, .inl fr))] (fun _ => True) 0 0 (fun (A : Nat → Prop) (r : Int32) (hh9 : Heap) => ∀ PZ9 : Prop, (∀ (zn' : Int32) (eY' : Nat → Int32) (zd' : Int32) (zm' : Int32) (zl' : Int32) (eE' : Nat → Int32), kPD (dC, dI) vwCl A [(oM, .inr (12, [.ref mT, .int zt, .ref mS, .ref mX, .int zp, .int zf, .ref mL, .ref mB, .ref mD, .ref m1, .ref m2, .int zh, .ref mR, .int zr, .ref x1, .ref x2, .ref x3, .int zc, .ref mH, .int zy, .int za, .int zb, .int zs, .int zq, .int zw, .int ze, .ref mY, .int zn', .ref mE, .int zm', .int zl', .ref mW, .int zk, .ref mO, .int zd', .ref y1, .ref y2, .ref y3, .ref y4, .ref mZ])), (mY, .inl (cI, 2600, .inl eY')), (mB, .inl (cS, 131072, .inl eB)), (mL, .inl (cI, 512, .inl eL)), (mE, .inl (cI, 2600, .inl eE')), (rw, .inl (cI, cw, .inl fr))] hh9 → (0 ≤ zn'.toInt ∧ zn'.toInt ≤ 2600) → (rg 0 255 eY') → (0 ≤ zm'.toInt ∧ zm'.toInt ≤ 2600) → (rg 0 65535 eE') → (0 ≤ r.toInt ∧ r.toInt ≤ 1) → (r.toInt = 0 ∨ zm'.toInt ≤ 300) → (F_ps r zm' eE' a b (fun k => eL k) (fun k => eL (256 + k)) (Br a eB) n.toInt fr) → PZ9) → PZ9) := by
  refine kMi_of (cc := cX12_does) (maxL := 5) (ret := (some .boolean)) (lv := [(0, .ref oM), (1, .int a), (2, .int b), (3, .ref rw), (4, .int n)]) (by decide +kernel) rfl rfl (Nat.le_of_ble_eq_true rfl) ?_
  intro p e s m below meth c A QQ ls hx hb hr hts hml hown hlocks hA hQQ hK hX hP hD hS hl
  have hown : s.vm.findClass RX12 = some m.cls := hown
  have hcf := k_cf hx hb hml hown hts
  have in_X12 : ∀ w ∈ wsX120, w ∈ wsX12_does := fun _ h => List.mem_cons_of_mem _ (List.mem_append_left _ (List.mem_append_left _ (List.mem_append_right _ (h))))
  replace g_zt := hid g_zt
  replace g_zp := hid g_zp
  replace g_zf := hid g_zf
  replace g_zh := hid g_zh
  replace g_zr := hid g_zr
  replace g_zc := hid g_zc
  replace g_zy := hid g_zy
  replace g_za := hid g_za
  replace g_zb := hid g_zb
  replace g_zs := hid g_zs
  replace g_zq := hid g_zq
  replace g_zn := hid g_zn
  replace g_zk := hid g_zk
  refine lv_aload_n hx hb dX12_does_0 rfl (lv_at hl 0 rfl) ?_
  refine lv_iconst (v := (-1)) hx hb dX12_does_1 (by decide) ?_
  refine va_put (D := (dC, dI)) (ci := 12) (v := .int (-1)) (ty := .int) (C := RX12) (T := TX12) (N := 40) hx hb hts in_X12 tyX12 tyX12_ok nmX12 hown hK hP hD hS 0 rfl rfl 30 (Nat.le_of_ble_eq_true rfl) (hts (.fieldLink RX12 102 "TextMenderModel" "faultAt" "I") (List.mem_of_getElem? (i := 1) rfl)) (fun _ h9 => h9) rfl (tyX12_ok 30 (Nat.le_of_ble_eq_true rfl)) rfl rfl (Nat.le_of_ble_eq_true rfl) dX12_does_2 (kW (wn := [(oM, .inr (12, [.ref mT, .int zt, .ref mS, .ref mX, .int zp, .int zf, .ref mL, .ref mB, .ref mD, .ref m1, .ref m2, .int zh, .ref mR, .int zr, .ref x1, .ref x2, .ref x3, .int zc, .ref mH, .int zy, .int za, .int zb, .int zs, .int zq, .int zw, .int ze, .ref mY, .int zn, .ref mE, .int zm, .int (-1), .ref mW, .int zk, .ref mO, .int zd, .ref y1, .ref y2, .ref y3, .ref y4, .ref mZ])), (mY, .inl (cI, 2600, .inl eY)), (mB, .inl (cS, 131072, .inl eB)), (mL, .inl (cI, 512, .inl eL)), (mE, .inl (cI, 2600, .inl eE)), (rw, .inl (cI, cw, .inl fr))]) rfl (fun H locs hPn hDn hSn => ?_))
  clear hP hD hS
  have hP := hPn
  have hD := hDn
  have hS := hSn
  clear hPn hDn hSn
  refine lv_aload_n hx hb dX12_does_5 rfl (lv_at hl 0 rfl) ?_
  refine lv_iload_n hx hb dX12_does_6 rfl (lv_at hl 1 rfl) ?_
  refine lv_aload_n hx hb dX12_does_7 rfl (lv_at hl 3 rfl) ?_
  refine lv_iload hx hb dX12_does_8 (lv_at hl 4 rfl) ?_
  refine kV_i (rest := []) (q0 := 0) (ci := 12) hcf (f_X12_write l dC dI cI cS H.size oM rw mT mS mX mL mB mD m1 m2 mR x1 x2 x3 mH mY mE mW mO y1 y2 y3 y4 mZ cw zt zp zf zh zr zc zy za zb zs zq zw ze zn zm (-1) zk zd eY eB fr a n (g_zt) (g_zp) (g_zf) (g_zh) (g_zr) (g_zc) (g_zy) (g_za) (g_zb) (g_zs) (g_zq) (g_zn) (g_zm) (g_zk) (g_eY) (g_eB) (g_fr) (g_a) (g_n) (by omega) (by omega)) kc_X12_write gX12_does_X12_write rfl rfl rfl ⟨Nat.le_of_ble_eq_true rfl, Nat.le_of_ble_eq_true rfl⟩ kX_t hK hP hD hS hA (posT mk_159 0) (posF mk_159 0) (kC_of mk_159 rfl rfl) (by decide +kernel) rfl rfl rfl hl rfl (Nat.le_of_ble_eq_true rfl) dX12_does_10 ⟨Nat.le_of_ble_eq_true rfl, Nat.le_of_ble_eq_true rfl⟩ (fun r_1 H locs hB hJ hSn => ?_)
  refine hB _ (fun zn_1 eY_1 zl_1 hPD9 hf1_0 hf1_1 hf1_2 hf1_3 => ?_)
  clear hB
  obtain ⟨hPn, hDn⟩ := kJi (m := mk_159) hJ rfl hPD9.1 hPD9.2 (wn := [(oM, .inr (12, [.ref mT, .int zt, .ref mS, .ref mX, .int zp, .int zf, .ref mL, .ref mB, .ref mD, .ref m1, .ref m2, .int zh, .ref mR, .int zr, .ref x1, .ref x2, .ref x3, .int zc, .ref mH, .int zy, .int za, .int zb, .int zs, .int zq, .int zw, .int ze, .ref mY, .int zn_1, .ref mE, .int zm, .int zl_1, .ref mW, .int zk, .ref mO, .int zd, .ref y1, .ref y2, .ref y3, .ref y4, .ref mZ])), (mY, .inl (cI, 2600, .inl eY_1)), (mB, .inl (cS, 131072, .inl eB)), (mL, .inl (cI, 512, .inl eL)), (mE, .inl (cI, 2600, .inl eE)), (rw, .inl (cI, cw, .inl fr))]) rfl
  clear hP hD hS hJ hPD9
  have hP := hPn
  have hD := hDn
  have hS := hSn
  clear hPn hDn hSn
  refine lv_if_ne (tgt := 18) hx hb dX12_does_13 (by decide) (fun c_2 => ?_) (fun c_2 => ?_)
  · have tc_2 : ¬ r_1.toInt = 0 := v_ne c_2
    have hwr9 := wr_WR (E := fun j => enc a (fr j) (Br a eB (fr j))) hf1_3 (by omega)
    have hby9 := WR_b (Bf := Br a eB) hwr9 (fun j hj => g_fr j) (okB_r g_eB)
    refine lv_aload_n hx hb dX12_does_18 rfl (lv_at hl 0 rfl) ?_
    refine va_get (D := (dC, dI)) (ci := 12) (v := .int zn_1) (C := RX12) (T := TX12) (N := 40) hx hb hts in_X12 hown hK hP 0 rfl rfl 27 (Nat.le_of_ble_eq_true rfl) (hts (.fieldLink RX12 91 "TextMenderModel" "byteMany" "I") (List.mem_of_getElem? (i := 2) rfl)) (fun _ h9 => h9) rfl dX12_does_19 ?_
    refine lv_sipush (v := 900) hx hb dX12_does_22 (by decide) ?_
    refine lv_icmp_le (tgt := 30) hx hb dX12_does_25 (by decide) (fun c_3 => ?_) (fun c_3 => ?_)
    · have tc_3 : zn_1.toInt ≤ 900 := v_le c_3
      refine lv_aload_n hx hb dX12_does_30 rfl (lv_at hl 0 rfl) ?_
      refine lv_iload_n hx hb dX12_does_31 rfl (lv_at hl 2 rfl) ?_
      refine lv_iconst (v := 0) hx hb dX12_does_32 (by decide) ?_
      refine kV_i (rest := []) (q0 := 0) (ci := 12) hcf (f_X12_read l dC dI cI cS H.size oM mT mS mX mL mB mD m1 m2 mR x1 x2 x3 mH mY mE mW mO y1 y2 y3 y4 mZ zt zp zf zh zr zc zy za zb zs zq zw ze zn_1 zm zl_1 zk zd eY_1 eL eE b 0 (g_zt) (g_zp) (g_zf) (g_zh) (g_zr) (g_zc) (g_zy) (g_za) (g_zb) (g_zs) (g_zq) (hf1_0) (g_zm) (g_zk) (hf1_1) (g_eL) (g_eE) (g_b) (rfl)) kc_X12_read gX12_does_X12_read rfl rfl rfl ⟨Nat.le_of_ble_eq_true rfl, Nat.le_of_ble_eq_true rfl⟩ kX_t hK hP hD hS hA (posT mk_160 0) (posF mk_160 0) (kC_of mk_160 rfl rfl) (by decide +kernel) rfl rfl rfl hl rfl (Nat.le_of_ble_eq_true rfl) dX12_does_33 ⟨Nat.le_of_ble_eq_true rfl, Nat.le_of_ble_eq_true rfl⟩ (fun r_4 H locs hB hJ hSn => ?_)
      refine hB _ (fun zd_4 zm_4 zl_4 eE_4 hPD9 hf4_0 hf4_1 hf4_2 hf4_3 hf4_4 => ?_)
      clear hB
      obtain ⟨hPn, hDn⟩ := kJi (m := mk_160) hJ rfl hPD9.1 hPD9.2 (wn := [(oM, .inr (12, [.ref mT, .int zt, .ref mS, .ref mX, .int zp, .int zf, .ref mL, .ref mB, .ref mD, .ref m1, .ref m2, .int zh, .ref mR, .int zr, .ref x1, .ref x2, .ref x3, .int zc, .ref mH, .int zy, .int za, .int zb, .int zs, .int zq, .int zw, .int ze, .ref mY, .int zn_1, .ref mE, .int zm_4, .int zl_4, .ref mW, .int zk, .ref mO, .int zd_4, .ref y1, .ref y2, .ref y3, .ref y4, .ref mZ])), (mY, .inl (cI, 2600, .inl eY_1)), (mB, .inl (cS, 131072, .inl eB)), (mL, .inl (cI, 512, .inl eL)), (mE, .inl (cI, 2600, .inl eE_4)), (rw, .inl (cI, cw, .inl fr))]) rfl
      clear hP hD hS hJ hPD9
      have hP := hPn
      have hD := hDn
      have hS := hSn
      clear hPn hDn hSn
      refine lv_if_ne (tgt := 41) hx hb dX12_does_36 (by decide) (fun c_5 => ?_) (fun c_5 => ?_)
      · have tc_5 : ¬ r_4.toInt = 0 := v_ne c_5
        refine lv_aload_n hx hb dX12_does_41 rfl (lv_at hl 0 rfl) ?_
        refine va_get (D := (dC, dI)) (ci := 12) (v := .int zm_4) (C := RX12) (T := TX12) (N := 40) hx hb hts in_X12 hown hK hP 0 rfl rfl 29 (Nat.le_of_ble_eq_true rfl) (hts (.fieldLink RX12 119 "TextMenderModel" "cameMany" "I") (List.mem_of_getElem? (i := 3) rfl)) (fun _ h9 => h9) rfl dX12_does_42 ?_
        refine lv_sipush (v := 300) hx hb dX12_does_45 (by decide) ?_
        refine lv_icmp_gt (tgt := 55) hx hb dX12_does_48 (by decide) (fun c_6 => ?_) (fun c_6 => ?_)
        · have tc_6 : 300 < zm_4.toInt := v_lt c_6
          refine lv_iconst (v := 0) hx hb dX12_does_55 (by decide) ?_
          exact kl_z (v := 0) hQQ hx hb hr hlocks hS dX12_does_56 (rfl) (fun PZ9 kZ9 => kZ9 zn_1 eY_1 zd_4 zm_4 zl_4 eE_4 (⟨hP, hD⟩) (hf1_0) (hf1_1) (hf4_0) (hf4_1) (by decide) (by show 0 = 0 ∨ zm_4.toInt ≤ 300; omega) (ps_rf (Bf := Br a eB) hwr9 hby9 (by omega) hf4_4 (by first | exact Or.inl ⟨rfl, by omega, by omega⟩ | exact Or.inr ⟨rfl, by omega⟩)))
        · have tc_6 : zm_4.toInt ≤ 300 := v_nlt c_6
          refine lv_iconst (v := 1) hx hb dX12_does_51 (by decide) ?_
          refine lv_goto (tgt := 56) hx hb dX12_does_52 (by decide) ?_
          exact kl_z (v := 1) hQQ hx hb hr hlocks hS dX12_does_56 (rfl) (fun PZ9 kZ9 => kZ9 zn_1 eY_1 zd_4 zm_4 zl_4 eE_4 (⟨hP, hD⟩) (hf1_0) (hf1_1) (hf4_0) (hf4_1) (by decide) (by show 1 = 0 ∨ zm_4.toInt ≤ 300; omega) (ps_rf (Bf := Br a eB) hwr9 hby9 (by omega) hf4_4 (by first | exact Or.inl ⟨rfl, by omega, by omega⟩ | exact Or.inr ⟨rfl, by omega⟩)))
      · have tc_5 : r_4.toInt = 0 := v_eq c_5
        refine lv_iconst (v := 0) hx hb dX12_does_39 (by decide) ?_
        exact kl_z (v := 0) hQQ hx hb hr hlocks hS dX12_does_40 (rfl) (fun PZ9 kZ9 => kZ9 zn_1 eY_1 zd_4 zm_4 zl_4 eE_4 (⟨hP, hD⟩) (hf1_0) (hf1_1) (hf4_0) (hf4_1) (by decide) (by show 0 = 0 ∨ zm_4.toInt ≤ 300; omega) (ps_rf (Bf := Br a eB) hwr9 hby9 (by omega) hf4_4 (by first | exact Or.inl ⟨rfl, by omega, by omega⟩ | exact Or.inr ⟨rfl, by omega⟩)))
    · have tc_3 : 900 < zn_1.toInt := v_nle c_3
      refine lv_iconst (v := 0) hx hb dX12_does_28 (by decide) ?_
      exact kl_z (v := 0) hQQ hx hb hr hlocks hS dX12_does_29 (rfl) (fun PZ9 kZ9 => kZ9 zn_1 eY_1 zd zm zl_1 eE (⟨hP, hD⟩) (hf1_0) (hf1_1) (g_zm) (g_eE) (by decide) (by show 0 = 0 ∨ zm.toInt ≤ 300; omega) (by first | exact ps_w0 (Bf := Br a eB) hf1_3 (by omega) rfl | exact ps_big (Bf := Br a eB) hwr9 hby9 (by omega) rfl))
  · have tc_2 : r_1.toInt = 0 := v_eq c_2
    refine lv_iconst (v := 0) hx hb dX12_does_16 (by decide) ?_
    exact kl_z (v := 0) hQQ hx hb hr hlocks hS dX12_does_17 (rfl) (fun PZ9 kZ9 => kZ9 zn_1 eY_1 zd zm zl_1 eE (⟨hP, hD⟩) (hf1_0) (hf1_1) (g_zm) (g_eE) (by decide) (by show 0 = 0 ∨ zm.toInt ≤ 300; omega) (by first | exact ps_w0 (Bf := Br a eB) hf1_3 (by omega) rfl | exact ps_big (Bf := Br a eB) hwr9 hby9 (by omega) rfl))

set_option maxHeartbeats 40000000 in
set_option maxRecDepth 100000 in
theorem f_X12_undoes (l : Launch) (dC : Nat → ClassId) (dI : Nat → Nat → Nat) (cI cS : ClassId) (sz : Nat) (oM : Nat) (mT : Nat) (mS : Nat) (mX : Nat) (mL : Nat) (mB : Nat) (mD : Nat) (m1 : Nat) (m2 : Nat) (mR : Nat) (x1 : Nat) (x2 : Nat) (x3 : Nat) (mH : Nat) (mY : Nat) (mE : Nat) (mW : Nat) (mO : Nat) (y1 : Nat) (y2 : Nat) (y3 : Nat) (y4 : Nat) (mZ : Nat) (zt : Int32) (zp : Int32) (zf : Int32) (zh : Int32) (zr : Int32) (zc : Int32) (zy : Int32) (za : Int32) (zb : Int32) (zs : Int32) (zq : Int32) (zw : Int32) (ze : Int32) (zn : Int32) (zm : Int32) (zl : Int32) (zk : Int32) (zd : Int32) (eY : Nat → Int32) (eB : Nat → Int32) (eL : Nat → Int32) (eE : Nat → Int32) (eW : Nat → Int32) (eO : Nat → Int32) (a : Int32) (b : Int32) (g_zt : 0 ≤ zt.toInt ∧ zt.toInt ≤ 900) (g_zp : 0 ≤ zp.toInt ∧ zp.toInt ≤ 20) (g_zf : 0 ≤ zf.toInt ∧ zf.toInt ≤ 19) (g_zh : 0 ≤ zh.toInt ∧ zh.toInt ≤ 6) (g_zr : 0 ≤ zr.toInt ∧ zr.toInt ≤ 258) (g_zc : 0 ≤ zc.toInt ∧ zc.toInt ≤ 300) (g_zy : 0 ≤ zy.toInt ∧ zy.toInt ≤ 65536) (g_za : 0 ≤ za.toInt ∧ za.toInt ≤ 5) (g_zb : 0 ≤ zb.toInt ∧ zb.toInt ≤ 5) (g_zs : 0 ≤ zs.toInt ∧ zs.toInt ≤ 2000000) (g_zq : -1 ≤ zq.toInt ∧ zq.toInt ≤ 2000000) (g_zn : 0 ≤ zn.toInt ∧ zn.toInt ≤ 2600) (g_zm : 0 ≤ zm.toInt ∧ zm.toInt ≤ 2600) (g_zk : 0 ≤ zk.toInt ∧ zk.toInt ≤ 300) (g_eY : rg 0 255 eY) (g_eB : rg (-1) 255 eB) (g_eL : rg (-1) 65535 eL) (g_eE : rg 0 65535 eE) (g_eW : rg 0 65535 eW) (g_eO : rg 0 65535 eO) (g_a : 0 ≤ a.toInt ∧ a.toInt ≤ 5) (g_b : 0 ≤ b.toInt ∧ b.toInt ≤ 5) (hzl : ∀ j : Nat, (j : Int) < zk.toInt → isLz (eW j)) (hlb : LBr eL eB) : kMi l yX12_undoes wsX12_undoes ({ frames := 4, cells := 0, slots := 0, locals := 95 } : Room) [.ref oM, .int a, .int b] sz (dC, dI) vwCl [(cI, .int), (cS, .short)] [(oM, .inr (12, [.ref mT, .int zt, .ref mS, .ref mX, .int zp, .int zf, .ref mL, .ref mB, .ref mD, .ref m1, .ref m2, .int zh, .ref mR, .int zr, .ref x1, .ref x2, .ref x3, .int zc, .ref mH, .int zy, .int za, .int zb, .int zs, .int zq, .int zw, .int ze, .ref mY, .int zn, .ref mE, .int zm, .int zl, .ref mW, .int zk, .ref mO, .int zd, .ref y1, .ref y2, .ref y3, .ref y4, .ref mZ])), (mY, .inl (cI, 2600, .inl eY)), (mB, .inl (cS, 131072, .inl eB)), (mL, .inl (cI, 512, .inl eL)), (mE, .inl (cI, 2600, .inl eE)), (mW, .inl (cI, 300, .inl eW)), (mO, .inl (cI, 300, .inl eO))] (fun _ => True) 0 0 (fun (A : Nat → Prop) (r : Int32) (hh9 : Heap) => ∀ PZ9 : Prop, (∀ (zn' : Int32) (eY' : Nat → Int32) (zd' : Int32) (zm' : Int32) (zl' : Int32) (eE' : Nat → Int32) (zk' : Int32) (eW' : Nat → Int32) (eO' : Nat → Int32), kPD (dC, dI) vwCl A [(oM, .inr (12, [.ref mT, .int zt, .ref mS, .ref mX, .int zp, .int zf, .ref mL, .ref mB, .ref mD, .ref m1, .ref m2, .int zh, .ref mR, .int zr, .ref x1, .ref x2, .ref x3, .int zc, .ref mH, .int zy, .int za, .int zb, .int zs, .int zq, .int zw, .int ze, .ref mY, .int zn', .ref mE, .int zm', .int zl', .ref mW, .int zk', .ref mO, .int zd', .ref y1, .ref y2, .ref y3, .ref y4, .ref mZ])), (mY, .inl (cI, 2600, .inl eY')), (mB, .inl (cS, 131072, .inl eB)), (mL, .inl (cI, 512, .inl eL)), (mE, .inl (cI, 2600, .inl eE')), (mW, .inl (cI, 300, .inl eW')), (mO, .inl (cI, 300, .inl eO'))] hh9 → (0 ≤ zn'.toInt ∧ zn'.toInt ≤ 2600) → (rg 0 255 eY') → (0 ≤ zm'.toInt ∧ zm'.toInt ≤ 2600) → (rg 0 65535 eE') → (0 ≤ zk'.toInt ∧ zk'.toInt ≤ 300) → (rg 0 65535 eW') → (rg 0 65535 eO') → (0 ≤ r.toInt ∧ r.toInt ≤ 1) → (F_ps r zk' eW' b a (fun k => eL k) (fun k => eL (256 + k)) (Br b eB) zk.toInt eW) → PZ9) → PZ9) := by
  refine kMi_of (cc := cX12_undoes) (maxL := 6) (ret := (some .boolean)) (lv := [(0, .ref oM), (1, .int a), (2, .int b)]) (by decide +kernel) rfl rfl (Nat.le_of_ble_eq_true rfl) ?_
  intro p e s m below meth c A QQ ls hx hb hr hts hml hown hlocks hA hQQ hK hX hP hD hS hl
  have hown : s.vm.findClass RX12 = some m.cls := hown
  have hcf := k_cf hx hb hml hown hts
  have in_X12 : ∀ w ∈ wsX120, w ∈ wsX12_undoes := fun _ h => List.mem_cons_of_mem _ (List.mem_append_left _ (List.mem_append_right _ (h)))
  replace g_zt := hid g_zt
  replace g_zp := hid g_zp
  replace g_zf := hid g_zf
  replace g_zh := hid g_zh
  replace g_zr := hid g_zr
  replace g_zc := hid g_zc
  replace g_zy := hid g_zy
  replace g_za := hid g_za
  replace g_zb := hid g_zb
  replace g_zs := hid g_zs
  replace g_zq := hid g_zq
  replace g_zn := hid g_zn
  replace g_zm := hid g_zm
  refine lv_aload_n hx hb dX12_undoes_0 rfl (lv_at hl 0 rfl) ?_
  refine lv_iload_n hx hb dX12_undoes_1 rfl (lv_at hl 2 rfl) ?_
  refine lv_iload_n hx hb dX12_undoes_2 rfl (lv_at hl 1 rfl) ?_
  refine lv_aload_n hx hb dX12_undoes_3 rfl (lv_at hl 0 rfl) ?_
  refine va_get (D := (dC, dI)) (ci := 12) (v := .ref mW) (C := RX12) (T := TX12) (N := 40) hx hb hts in_X12 hown hK hP 0 rfl rfl 31 (Nat.le_of_ble_eq_true rfl) (hts (.fieldLink RX12 64 "TextMenderModel" "work" "[I") (List.mem_of_getElem? (i := 1) rfl)) (fun _ h9 => h9) rfl dX12_undoes_4 ?_
  refine lv_aload_n hx hb dX12_undoes_7 rfl (lv_at hl 0 rfl) ?_
  refine va_get (D := (dC, dI)) (ci := 12) (v := .int zk) (C := RX12) (T := TX12) (N := 40) hx hb hts in_X12 hown hK hP 0 rfl rfl 32 (Nat.le_of_ble_eq_true rfl) (hts (.fieldLink RX12 135 "TextMenderModel" "workMany" "I") (List.mem_of_getElem? (i := 2) rfl)) (fun _ h9 => h9) rfl dX12_undoes_8 ?_
  refine kV_i (rest := []) (q0 := 0) (ci := 12) hcf (f_X12_does l dC dI cI cS s.heap.size oM mW mT mS mX mL mB mD m1 m2 mR x1 x2 x3 mH mY mE mW mO y1 y2 y3 y4 mZ 300 zt zp zf zh zr zc zy za zb zs zq zw ze zn zm zl zk zd eY eB eL eE eW b a zk (g_zt) (g_zp) (g_zf) (g_zh) (g_zr) (g_zc) (g_zy) (g_za) (g_zb) (g_zs) (g_zq) (g_zn) (g_zm) (g_zk) (g_eY) (g_eB) (g_eL) (g_eE) (g_eW) (g_b) (g_a) (g_zk) (by omega) (by omega)) kc_X12_does gX12_undoes_X12_does rfl rfl rfl ⟨Nat.le_of_ble_eq_true rfl, Nat.le_of_ble_eq_true rfl⟩ kX_t hK hP hD hS hA (posT mk_161 0) (posF mk_161 0) (kC_of mk_161 rfl rfl) (by decide +kernel) rfl rfl rfl hl rfl (Nat.le_of_ble_eq_true rfl) dX12_undoes_11 ⟨Nat.le_of_ble_eq_true rfl, Nat.le_of_ble_eq_true rfl⟩ (fun r_1 H locs hB hJ hSn => ?_)
  refine hB _ (fun zn_1 eY_1 zd_1 zm_1 zl_1 eE_1 hPD9 hf1_0 hf1_1 hf1_2 hf1_3 hf1_4 hf1_5 hf1_6 => ?_)
  clear hB
  obtain ⟨hPn, hDn⟩ := kJi (m := mk_161) hJ rfl hPD9.1 hPD9.2 (wn := [(oM, .inr (12, [.ref mT, .int zt, .ref mS, .ref mX, .int zp, .int zf, .ref mL, .ref mB, .ref mD, .ref m1, .ref m2, .int zh, .ref mR, .int zr, .ref x1, .ref x2, .ref x3, .int zc, .ref mH, .int zy, .int za, .int zb, .int zs, .int zq, .int zw, .int ze, .ref mY, .int zn_1, .ref mE, .int zm_1, .int zl_1, .ref mW, .int zk, .ref mO, .int zd_1, .ref y1, .ref y2, .ref y3, .ref y4, .ref mZ])), (mY, .inl (cI, 2600, .inl eY_1)), (mB, .inl (cS, 131072, .inl eB)), (mL, .inl (cI, 512, .inl eL)), (mE, .inl (cI, 2600, .inl eE_1)), (mW, .inl (cI, 300, .inl eW)), (mO, .inl (cI, 300, .inl eO))]) rfl
  clear hP hD hS hJ hPD9
  have hP := hPn
  have hD := hDn
  have hS := hSn
  clear hPn hDn hSn
  refine lv_if_ne (tgt := 19) hx hb dX12_undoes_14 (by decide) (fun c_2 => ?_) (fun c_2 => ?_)
  · have tc_2 : ¬ r_1.toInt = 0 := v_ne c_2
    refine lv_aload_n hx hb dX12_undoes_19 rfl (lv_at hl 0 rfl) ?_
    refine va_get (D := (dC, dI)) (ci := 12) (v := .int zm_1) (C := RX12) (T := TX12) (N := 40) hx hb hts in_X12 hown hK hP 0 rfl rfl 29 (Nat.le_of_ble_eq_true rfl) (hts (.fieldLink RX12 119 "TextMenderModel" "cameMany" "I") (List.mem_of_getElem? (i := 3) rfl)) (fun _ h9 => h9) rfl dX12_undoes_20 ?_
    refine lv_istore_n (lv' := [(3, .int zm_1), (0, .ref oM), (1, .int a), (2, .int b)]) hx hb dX12_undoes_23 rfl hl (by decide) rfl (fun ls hl => ?_)
    refine lv_iconst (v := 0) hx hb dX12_undoes_24 (by decide) ?_
    refine lv_istore (lv' := [(4, .int 0), (3, .int zm_1), (0, .ref oM), (1, .int a), (2, .int b)]) hx hb dX12_undoes_25 hl (by decide) rfl (fun ls hl => ?_)
    have LOOP_27 : ∀ (k_27 : Nat) (k : Int32) (eOa : Nat → Int32) (H : Heap) (locs : List Loc) (ls : Array Slot), MSd (300 - k.toInt : Int) k_27 → (0 ≤ k.toInt ∧ k.toInt ≤ 300) → (rg 0 65535 eOa) → (k.toInt ≤ zm_1.toInt) → (cpE k.toInt eOa eE_1) → va_P (dC, dI) vwCl [(oM, .inr (12, [.ref mT, .int zt, .ref mS, .ref mX, .int zp, .int zf, .ref mL, .ref mB, .ref mD, .ref m1, .ref m2, .int zh, .ref mR, .int zr, .ref x1, .ref x2, .ref x3, .int zc, .ref mH, .int zy, .int za, .int zb, .int zs, .int zq, .int zw, .int ze, .ref mY, .int zn_1, .ref mE, .int zm_1, .int zl_1, .ref mW, .int zk, .ref mO, .int zd_1, .ref y1, .ref y2, .ref y3, .ref y4, .ref mZ])), (mY, .inl (cI, 2600, .inl eY_1)), (mB, .inl (cS, 131072, .inl eB)), (mL, .inl (cI, 512, .inl eL)), (mE, .inl (cI, 2600, .inl eE_1)), (mW, .inl (cI, 300, .inl eW)), (mO, .inl (cI, 300, .inl eOa))] H → va_D A [(oM, .inr (12, [.ref mT, .int zt, .ref mS, .ref mX, .int zp, .int zf, .ref mL, .ref mB, .ref mD, .ref m1, .ref m2, .int zh, .ref mR, .int zr, .ref x1, .ref x2, .ref x3, .int zc, .ref mH, .int zy, .int za, .int zb, .int zs, .int zq, .int zw, .int ze, .ref mY, .int zn_1, .ref mE, .int zm_1, .int zl_1, .ref mW, .int zk, .ref mO, .int zd_1, .ref y1, .ref y2, .ref y3, .ref y4, .ref mZ])), (mY, .inl (cI, 2600, .inl eY_1)), (mB, .inl (cS, 131072, .inl eB)), (mL, .inl (cI, 512, .inl eL)), (mE, .inl (cI, 2600, .inl eE_1)), (mW, .inl (cI, 300, .inl eW)), (mO, .inl (cI, 300, .inl eOa))] → va_S A s.heap H locs → lv_has ls 6 [(4, .int k), (3, .int zm_1), (0, .ref oM), (1, .int a), (2, .int b)] → W p l e (headSpec wsX12_undoes ({ frames := 4, cells := 0, slots := 0, locals := 95 } : Room)).room s m ([.ref oM, .int a, .int b] : List Value).toArray below meth c H locs 0 0 (MQ below QQ ([.ref oM, .int a, .int b] : List Value).toArray s 0 0 A) (F0 m 27 ls []) := by
      clear hP hD hS hl
      intro k_27
      induction k_27 with
      | zero =>
        intro k eOa H locs ls hm_27 g_k g_eOa hkn hcp hP hD hS hl
        exact ms_0 hm_27
      | succ k_27 ih_27 =>
        intro k eOa H locs ls hm_27 g_k g_eOa hkn hcp hP hD hS hl
        refine lv_iload hx hb dX12_undoes_27 (lv_at hl 0 rfl) ?_
        refine lv_iload_n hx hb dX12_undoes_29 rfl (lv_at hl 1 rfl) ?_
        refine lv_icmp_ge (tgt := 53) hx hb dX12_undoes_30 (by decide) (fun c_3 => ?_) (fun c_3 => ?_)
        · have tc_3 : zm_1.toInt ≤ k.toInt := v_le c_3
          refine lv_aload_n hx hb dX12_undoes_53 rfl (lv_at hl 2 rfl) ?_
          refine lv_iload_n hx hb dX12_undoes_54 rfl (lv_at hl 3 rfl) ?_
          refine lv_iload_n hx hb dX12_undoes_55 rfl (lv_at hl 4 rfl) ?_
          refine lv_aload_n hx hb dX12_undoes_56 rfl (lv_at hl 2 rfl) ?_
          refine va_get (D := (dC, dI)) (ci := 12) (v := .ref mO) (C := RX12) (T := TX12) (N := 40) hx hb hts in_X12 hown hK hP 0 rfl rfl 33 (Nat.le_of_ble_eq_true rfl) (hts (.fieldLink RX12 67 "TextMenderModel" "other" "[I") (List.mem_of_getElem? (i := 4) rfl)) (fun _ h9 => h9) rfl dX12_undoes_57 ?_
          refine lv_iload_n hx hb dX12_undoes_60 rfl (lv_at hl 1 rfl) ?_
          refine kV_i (rest := []) (q0 := 0) (ci := 12) hcf (f_X12_does l dC dI cI cS H.size oM mO mT mS mX mL mB mD m1 m2 mR x1 x2 x3 mH mY mE mW mO y1 y2 y3 y4 mZ 300 zt zp zf zh zr zc zy za zb zs zq zw ze zn_1 zm_1 zl_1 zk zd_1 eY_1 eB eL eE_1 eOa a b zm_1 (g_zt) (g_zp) (g_zf) (g_zh) (g_zr) (g_zc) (g_zy) (g_za) (g_zb) (g_zs) (g_zq) (hf1_0) (hf1_2) (g_zk) (hf1_1) (g_eB) (g_eL) (hf1_3) (g_eOa) (g_a) (g_b) (by omega) (by omega) (by omega)) kc_X12_does gX12_undoes_X12_does rfl rfl rfl ⟨Nat.le_of_ble_eq_true rfl, Nat.le_of_ble_eq_true rfl⟩ kX_t hK hP hD hS hA (posT mk_162 0) (posF mk_162 0) (kC_of mk_162 rfl rfl) (by decide +kernel) rfl rfl rfl hl rfl (Nat.le_of_ble_eq_true rfl) dX12_undoes_61 ⟨Nat.le_of_ble_eq_true rfl, Nat.le_of_ble_eq_true rfl⟩ (fun r_4 H locs hB hJ hSn => ?_)
          refine hB _ (fun zn_4 eY_4 zd_4 zm_4 zl_4 eE_4 hPD9 hf4_0 hf4_1 hf4_2 hf4_3 hf4_4 hf4_5 hf4_6 => ?_)
          clear hB
          obtain ⟨hPn, hDn⟩ := kJi (m := mk_162) hJ rfl hPD9.1 hPD9.2 (wn := [(oM, .inr (12, [.ref mT, .int zt, .ref mS, .ref mX, .int zp, .int zf, .ref mL, .ref mB, .ref mD, .ref m1, .ref m2, .int zh, .ref mR, .int zr, .ref x1, .ref x2, .ref x3, .int zc, .ref mH, .int zy, .int za, .int zb, .int zs, .int zq, .int zw, .int ze, .ref mY, .int zn_4, .ref mE, .int zm_4, .int zl_4, .ref mW, .int zk, .ref mO, .int zd_4, .ref y1, .ref y2, .ref y3, .ref y4, .ref mZ])), (mY, .inl (cI, 2600, .inl eY_4)), (mB, .inl (cS, 131072, .inl eB)), (mL, .inl (cI, 512, .inl eL)), (mE, .inl (cI, 2600, .inl eE_4)), (mW, .inl (cI, 300, .inl eW)), (mO, .inl (cI, 300, .inl eOa))]) rfl
          clear hP hD hS hJ hPD9
          have hP := hPn
          have hD := hDn
          have hS := hSn
          clear hPn hDn hSn
          obtain ⟨hbr4, hbz4, hbk4⟩ := ud_back hf1_6 (by omega) (fun j hj => hcp j (by omega)) hf4_6 (by omega) (by omega) hzl (okB_r g_eB) (okB_r g_eB) (rg_prg g_eL) (rg_L5 g_eL) (hlb a) (hlb b)
          refine lv_if_eq (tgt := 82) hx hb dX12_undoes_64 (by decide) (fun c_5 => by exfalso; have tc_5 : r_4.toInt = 0 := v_eq c_5; omega) (fun c_5 => ?_)
          have tc_5 : ¬ r_4.toInt = 0 := v_ne c_5
          refine lv_aload_n hx hb dX12_undoes_67 rfl (lv_at hl 2 rfl) ?_
          refine va_get (D := (dC, dI)) (ci := 12) (v := .int zm_4) (C := RX12) (T := TX12) (N := 40) hx hb hts in_X12 hown hK hP 0 rfl rfl 29 (Nat.le_of_ble_eq_true rfl) (hts (.fieldLink RX12 119 "TextMenderModel" "cameMany" "I") (List.mem_of_getElem? (i := 3) rfl)) (fun _ h9 => h9) rfl dX12_undoes_68 ?_
          refine lv_aload_n hx hb dX12_undoes_71 rfl (lv_at hl 2 rfl) ?_
          refine va_get (D := (dC, dI)) (ci := 12) (v := .int zk) (C := RX12) (T := TX12) (N := 40) hx hb hts in_X12 hown hK hP 0 rfl rfl 32 (Nat.le_of_ble_eq_true rfl) (hts (.fieldLink RX12 135 "TextMenderModel" "workMany" "I") (List.mem_of_getElem? (i := 2) rfl)) (fun _ h9 => h9) rfl dX12_undoes_72 ?_
          refine lv_icmp_ne (tgt := 82) hx hb dX12_undoes_75 (by decide) (fun c_6 => by exfalso; have tc_6 : ¬ zm_4.toInt = zk.toInt := v_ne c_6; omega) (fun c_6 => ?_)
          have tc_6 : zm_4.toInt = zk.toInt := v_eq c_6
          refine lv_iconst (v := 1) hx hb dX12_undoes_78 (by decide) ?_
          refine lv_goto (tgt := 83) hx hb dX12_undoes_79 (by decide) ?_
          refine lv_istore (lv' := [(4, .int 1), (3, .int zm_1), (0, .ref oM), (1, .int a), (2, .int b)]) hx hb dX12_undoes_83 hl (by decide) rfl (fun ls hl => ?_)
          refine lv_iconst (v := 0) hx hb dX12_undoes_85 (by decide) ?_
          refine lv_istore (lv' := [(5, .int 0), (4, .int 1), (3, .int zm_1), (0, .ref oM), (1, .int a), (2, .int b)]) hx hb dX12_undoes_86 hl (by decide) rfl (fun ls hl => ?_)
          have LOOP_88 : ∀ (k_88 : Nat) (is : Int32) (k2 : Int32) (H : Heap) (locs : List Loc) (ls : Array Slot), MSd (300 - k2.toInt : Int) k_88 → (1 ≤ is.toInt ∧ is.toInt ≤ 1) → (0 ≤ k2.toInt ∧ k2.toInt ≤ 300) → va_P (dC, dI) vwCl [(oM, .inr (12, [.ref mT, .int zt, .ref mS, .ref mX, .int zp, .int zf, .ref mL, .ref mB, .ref mD, .ref m1, .ref m2, .int zh, .ref mR, .int zr, .ref x1, .ref x2, .ref x3, .int zc, .ref mH, .int zy, .int za, .int zb, .int zs, .int zq, .int zw, .int ze, .ref mY, .int zn_4, .ref mE, .int zm_4, .int zl_4, .ref mW, .int zk, .ref mO, .int zd_4, .ref y1, .ref y2, .ref y3, .ref y4, .ref mZ])), (mY, .inl (cI, 2600, .inl eY_4)), (mB, .inl (cS, 131072, .inl eB)), (mL, .inl (cI, 512, .inl eL)), (mE, .inl (cI, 2600, .inl eE_4)), (mW, .inl (cI, 300, .inl eW)), (mO, .inl (cI, 300, .inl eOa))] H → va_D A [(oM, .inr (12, [.ref mT, .int zt, .ref mS, .ref mX, .int zp, .int zf, .ref mL, .ref mB, .ref mD, .ref m1, .ref m2, .int zh, .ref mR, .int zr, .ref x1, .ref x2, .ref x3, .int zc, .ref mH, .int zy, .int za, .int zb, .int zs, .int zq, .int zw, .int ze, .ref mY, .int zn_4, .ref mE, .int zm_4, .int zl_4, .ref mW, .int zk, .ref mO, .int zd_4, .ref y1, .ref y2, .ref y3, .ref y4, .ref mZ])), (mY, .inl (cI, 2600, .inl eY_4)), (mB, .inl (cS, 131072, .inl eB)), (mL, .inl (cI, 512, .inl eL)), (mE, .inl (cI, 2600, .inl eE_4)), (mW, .inl (cI, 300, .inl eW)), (mO, .inl (cI, 300, .inl eOa))] → va_S A s.heap H locs → lv_has ls 6 [(5, .int k2), (4, .int is), (3, .int zm_1), (0, .ref oM), (1, .int a), (2, .int b)] → W p l e (headSpec wsX12_undoes ({ frames := 4, cells := 0, slots := 0, locals := 95 } : Room)).room s m ([.ref oM, .int a, .int b] : List Value).toArray below meth c H locs 0 0 (MQ below QQ ([.ref oM, .int a, .int b] : List Value).toArray s 0 0 A) (F0 m 88 ls []) := by
            clear hP hD hS hl
            try (clear hf1_0)
            intro k_88
            induction k_88 with
            | zero =>
              intro is k2 H locs ls hm_88 g_is g_k2 hP hD hS hl
              exact ms_0 hm_88
            | succ k_88 ih_88 =>
              intro is k2 H locs ls hm_88 g_is g_k2 hP hD hS hl
              refine lv_iload hx hb dX12_undoes_88 (lv_at hl 1 rfl) ?_
              refine lv_if_eq (tgt := 132) hx hb dX12_undoes_90 (by decide) (fun c_7 => by exfalso; have tc_7 : is.toInt = 0 := v_eq c_7; omega) (fun c_7 => ?_)
              have tc_7 : ¬ is.toInt = 0 := v_ne c_7
              refine lv_iload hx hb dX12_undoes_93 (lv_at hl 0 rfl) ?_
              refine lv_aload_n hx hb dX12_undoes_95 rfl (lv_at hl 3 rfl) ?_
              refine va_get (D := (dC, dI)) (ci := 12) (v := .int zk) (C := RX12) (T := TX12) (N := 40) hx hb hts in_X12 hown hK hP 0 rfl rfl 32 (Nat.le_of_ble_eq_true rfl) (hts (.fieldLink RX12 135 "TextMenderModel" "workMany" "I") (List.mem_of_getElem? (i := 2) rfl)) (fun _ h9 => h9) rfl dX12_undoes_96 ?_
              refine lv_icmp_ge (tgt := 132) hx hb dX12_undoes_99 (by decide) (fun c_8 => ?_) (fun c_8 => ?_)
              · have tc_8 : zk.toInt ≤ k2.toInt := v_le c_8
                refine lv_aload_n hx hb dX12_undoes_132 rfl (lv_at hl 3 rfl) ?_
                refine lv_iconst (v := (-1)) hx hb dX12_undoes_133 (by decide) ?_
                refine va_put (D := (dC, dI)) (ci := 12) (v := .int (-1)) (ty := .int) (C := RX12) (T := TX12) (N := 40) hx hb hts in_X12 tyX12 tyX12_ok nmX12 hown hK hP hD hS 0 rfl rfl 30 (Nat.le_of_ble_eq_true rfl) (hts (.fieldLink RX12 102 "TextMenderModel" "faultAt" "I") (List.mem_of_getElem? (i := 6) rfl)) (fun _ h9 => h9) rfl (tyX12_ok 30 (Nat.le_of_ble_eq_true rfl)) rfl rfl (Nat.le_of_ble_eq_true rfl) dX12_undoes_134 (kW (wn := [(oM, .inr (12, [.ref mT, .int zt, .ref mS, .ref mX, .int zp, .int zf, .ref mL, .ref mB, .ref mD, .ref m1, .ref m2, .int zh, .ref mR, .int zr, .ref x1, .ref x2, .ref x3, .int zc, .ref mH, .int zy, .int za, .int zb, .int zs, .int zq, .int zw, .int ze, .ref mY, .int zn_4, .ref mE, .int zm_4, .int (-1), .ref mW, .int zk, .ref mO, .int zd_4, .ref y1, .ref y2, .ref y3, .ref y4, .ref mZ])), (mY, .inl (cI, 2600, .inl eY_4)), (mB, .inl (cS, 131072, .inl eB)), (mL, .inl (cI, 512, .inl eL)), (mE, .inl (cI, 2600, .inl eE_4)), (mW, .inl (cI, 300, .inl eW)), (mO, .inl (cI, 300, .inl eOa))]) rfl (fun H locs hPn hDn hSn => ?_))
                clear hP hD hS
                have hP := hPn
                have hD := hDn
                have hS := hSn
                clear hPn hDn hSn
                refine lv_iload hx hb dX12_undoes_137 (lv_at hl 1 rfl) ?_
                refine lv_if_ne (tgt := 144) hx hb dX12_undoes_139 (by decide) (fun c_9 => ?_) (fun c_9 => by exfalso; have tc_9 : is.toInt = 0 := v_eq c_9; omega)
                have tc_9 : ¬ is.toInt = 0 := v_ne c_9
                refine lv_iconst (v := 0) hx hb dX12_undoes_144 (by decide) ?_
                refine lv_istore (lv' := [(5, .int 0), (4, .int is), (3, .int zm_1), (0, .ref oM), (1, .int a), (2, .int b)]) hx hb dX12_undoes_145 hl (by decide) rfl (fun ls hl => ?_)
                have LOOP_147 : ∀ (k_147 : Nat) (k3 : Int32) (eWa : Nat → Int32) (H : Heap) (locs : List Loc) (ls : Array Slot), MSd (300 - k3.toInt : Int) k_147 → (0 ≤ k3.toInt ∧ k3.toInt ≤ 300) → (rg 0 65535 eWa) → (k3.toInt ≤ zm_1.toInt) → (cpE k3.toInt eWa eOa) → va_P (dC, dI) vwCl [(oM, .inr (12, [.ref mT, .int zt, .ref mS, .ref mX, .int zp, .int zf, .ref mL, .ref mB, .ref mD, .ref m1, .ref m2, .int zh, .ref mR, .int zr, .ref x1, .ref x2, .ref x3, .int zc, .ref mH, .int zy, .int za, .int zb, .int zs, .int zq, .int zw, .int ze, .ref mY, .int zn_4, .ref mE, .int zm_4, .int (-1), .ref mW, .int zk, .ref mO, .int zd_4, .ref y1, .ref y2, .ref y3, .ref y4, .ref mZ])), (mY, .inl (cI, 2600, .inl eY_4)), (mB, .inl (cS, 131072, .inl eB)), (mL, .inl (cI, 512, .inl eL)), (mE, .inl (cI, 2600, .inl eE_4)), (mW, .inl (cI, 300, .inl eWa)), (mO, .inl (cI, 300, .inl eOa))] H → va_D A [(oM, .inr (12, [.ref mT, .int zt, .ref mS, .ref mX, .int zp, .int zf, .ref mL, .ref mB, .ref mD, .ref m1, .ref m2, .int zh, .ref mR, .int zr, .ref x1, .ref x2, .ref x3, .int zc, .ref mH, .int zy, .int za, .int zb, .int zs, .int zq, .int zw, .int ze, .ref mY, .int zn_4, .ref mE, .int zm_4, .int (-1), .ref mW, .int zk, .ref mO, .int zd_4, .ref y1, .ref y2, .ref y3, .ref y4, .ref mZ])), (mY, .inl (cI, 2600, .inl eY_4)), (mB, .inl (cS, 131072, .inl eB)), (mL, .inl (cI, 512, .inl eL)), (mE, .inl (cI, 2600, .inl eE_4)), (mW, .inl (cI, 300, .inl eWa)), (mO, .inl (cI, 300, .inl eOa))] → va_S A s.heap H locs → lv_has ls 6 [(5, .int k3), (4, .int is), (3, .int zm_1), (0, .ref oM), (1, .int a), (2, .int b)] → W p l e (headSpec wsX12_undoes ({ frames := 4, cells := 0, slots := 0, locals := 95 } : Room)).room s m ([.ref oM, .int a, .int b] : List Value).toArray below meth c H locs 0 0 (MQ below QQ ([.ref oM, .int a, .int b] : List Value).toArray s 0 0 A) (F0 m 147 ls []) := by
                  clear hP hD hS hl
                  try (clear tc_9 tc_7 g_is hf1_0)
                  intro k_147
                  induction k_147 with
                  | zero =>
                    intro k3 eWa H locs ls hm_147 g_k3 g_eWa hkn3 hcw9 hP hD hS hl
                    exact ms_0 hm_147
                  | succ k_147 ih_147 =>
                    intro k3 eWa H locs ls hm_147 g_k3 g_eWa hkn3 hcw9 hP hD hS hl
                    refine lv_iload hx hb dX12_undoes_147 (lv_at hl 0 rfl) ?_
                    refine lv_iload_n hx hb dX12_undoes_149 rfl (lv_at hl 2 rfl) ?_
                    refine lv_icmp_ge (tgt := 173) hx hb dX12_undoes_150 (by decide) (fun c_10 => ?_) (fun c_10 => ?_)
                    · have tc_10 : zm_1.toInt ≤ k3.toInt := v_le c_10
                      refine lv_aload_n hx hb dX12_undoes_173 rfl (lv_at hl 3 rfl) ?_
                      refine lv_iload_n hx hb dX12_undoes_174 rfl (lv_at hl 2 rfl) ?_
                      refine va_put (D := (dC, dI)) (ci := 12) (v := .int zm_1) (ty := .int) (C := RX12) (T := TX12) (N := 40) hx hb hts in_X12 tyX12 tyX12_ok nmX12 hown hK hP hD hS 0 rfl rfl 32 (Nat.le_of_ble_eq_true rfl) (hts (.fieldLink RX12 135 "TextMenderModel" "workMany" "I") (List.mem_of_getElem? (i := 2) rfl)) (fun _ h9 => h9) rfl (tyX12_ok 32 (Nat.le_of_ble_eq_true rfl)) rfl rfl (Nat.le_of_ble_eq_true rfl) dX12_undoes_175 (kW (wn := [(oM, .inr (12, [.ref mT, .int zt, .ref mS, .ref mX, .int zp, .int zf, .ref mL, .ref mB, .ref mD, .ref m1, .ref m2, .int zh, .ref mR, .int zr, .ref x1, .ref x2, .ref x3, .int zc, .ref mH, .int zy, .int za, .int zb, .int zs, .int zq, .int zw, .int ze, .ref mY, .int zn_4, .ref mE, .int zm_4, .int (-1), .ref mW, .int zm_1, .ref mO, .int zd_4, .ref y1, .ref y2, .ref y3, .ref y4, .ref mZ])), (mY, .inl (cI, 2600, .inl eY_4)), (mB, .inl (cS, 131072, .inl eB)), (mL, .inl (cI, 512, .inl eL)), (mE, .inl (cI, 2600, .inl eE_4)), (mW, .inl (cI, 300, .inl eWa)), (mO, .inl (cI, 300, .inl eOa))]) rfl (fun H locs hPn hDn hSn => ?_))
                      clear hP hD hS
                      have hP := hPn
                      have hD := hDn
                      have hS := hSn
                      clear hPn hDn hSn
                      refine lv_iconst (v := 1) hx hb dX12_undoes_178 (by decide) ?_
                      exact kl_z (v := 1) hQQ hx hb hr hlocks hS dX12_undoes_179 (rfl) (fun PZ9 kZ9 => kZ9 zn_4 eY_4 zd_4 zm_4 (-1) eE_4 zm_1 eWa eOa (⟨hP, hD⟩) (hf4_0) (hf4_1) (hf4_2) (hf4_3) (by omega) (g_eWa) (g_eOa) (by decide) (ps_end hf1_6 (by omega) (fun j hj => hcp j (by omega)) hcw9 (by omega)))
                    · have tc_10 : k3.toInt < zm_1.toInt := v_nle c_10
                      refine lv_aload_n hx hb dX12_undoes_153 rfl (lv_at hl 3 rfl) ?_
                      refine va_get (D := (dC, dI)) (ci := 12) (v := .ref mW) (C := RX12) (T := TX12) (N := 40) hx hb hts in_X12 hown hK hP 0 rfl rfl 31 (Nat.le_of_ble_eq_true rfl) (hts (.fieldLink RX12 64 "TextMenderModel" "work" "[I") (List.mem_of_getElem? (i := 1) rfl)) (fun _ h9 => h9) rfl dX12_undoes_154 ?_
                      refine lv_iload hx hb dX12_undoes_157 (lv_at hl 0 rfl) ?_
                      refine lv_aload_n hx hb dX12_undoes_159 rfl (lv_at hl 3 rfl) ?_
                      refine va_get (D := (dC, dI)) (ci := 12) (v := .ref mO) (C := RX12) (T := TX12) (N := 40) hx hb hts in_X12 hown hK hP 0 rfl rfl 33 (Nat.le_of_ble_eq_true rfl) (hts (.fieldLink RX12 67 "TextMenderModel" "other" "[I") (List.mem_of_getElem? (i := 4) rfl)) (fun _ h9 => h9) rfl dX12_undoes_160 ?_
                      refine lv_iload hx hb dX12_undoes_163 (lv_at hl 0 rfl) ?_
                      refine va_iald hx hb hK hP 6 0 rfl rfl (v_in (by omega)) dX12_undoes_165 ?_
                      refine lv_topi (fun x_11 ex_11 => ?_)
                      have tx_11 : 0 ≤ x_11.toInt ∧ x_11.toInt ≤ 65535 := rg_at g_eOa ex_11
                      obtain ⟨f_12, ef_12⟩ : ∃ g : Nat → Int32, g = upd eWa (k3 : Int32).toNatClampNeg x_11 := ⟨_, rfl⟩
                      refine va_iast hx hb hK hP hD hS 5 0 rfl rfl (v_in (by omega)) dX12_undoes_166 (kWf (g := f_12) (F := fun f_12 => [(oM, .inr (12, [.ref mT, .int zt, .ref mS, .ref mX, .int zp, .int zf, .ref mL, .ref mB, .ref mD, .ref m1, .ref m2, .int zh, .ref mR, .int zr, .ref x1, .ref x2, .ref x3, .int zc, .ref mH, .int zy, .int za, .int zb, .int zs, .int zq, .int zw, .int ze, .ref mY, .int zn_4, .ref mE, .int zm_4, .int (-1), .ref mW, .int zk, .ref mO, .int zd_4, .ref y1, .ref y2, .ref y3, .ref y4, .ref mZ])), (mY, .inl (cI, 2600, .inl eY_4)), (mB, .inl (cS, 131072, .inl eB)), (mL, .inl (cI, 512, .inl eL)), (mE, .inl (cI, 2600, .inl eE_4)), (mW, .inl (cI, 300, .inl f_12)), (mO, .inl (cI, 300, .inl eOa))]) ef_12 rfl (fun H locs hPn hDn hSn => ?_))
                      clear hP hD hS
                      have hP := hPn
                      have hD := hDn
                      have hS := hSn
                      clear hPn hDn hSn
                      have g_f12 : rg 0 65535 f_12 := rg_upd ef_12 g_eWa (by omega)
                      obtain ⟨x_13, ex_13⟩ : ∃ y : Int32, y = k3 + 1 := ⟨_, rfl⟩
                      have tx_13 : x_13.toInt = k3.toInt + 1 := v_addR (l2 := 1) (h2 := 1) ex_13 g_k3 (by decide) (by decide) (by decide)
                      refine lv_iinc (v := x_13) (lv' := [(5, .int x_13), (4, .int is), (3, .int zm_1), (0, .ref oM), (1, .int a), (2, .int b)]) hx hb dX12_undoes_167 hl (k := 0) rfl (by rw [ex_13]; rfl) (by decide) rfl (fun ls hl => ?_)
                      refine lv_goto (tgt := 147) hx hb dX12_undoes_170 (by decide) ?_
                      exact ih_147 x_13 f_12 _ _ _ (ms_lt hm_147 (by show ((300 - x_13.toInt : Int)) < 300 - k3.toInt; omega) (by show (0 : Int) < 300 - k3.toInt; omega)) (by show 0 ≤ x_13.toInt ∧ x_13.toInt ≤ 300; omega) (g_f12) (by show x_13.toInt ≤ zm_1.toInt; omega) (cpE_s hcw9 ex_11 ef_12 (by omega) (by omega)) hP hD hS (lv_sub hl [0, 1, 2, 3, 4, 5] rfl)
                exact LOOP_147 _ 0 eW _ _ _ (ms_s _) (by decide) (g_eW) (by show 0 ≤ zm_1.toInt; omega) (cpE_0 (by decide)) hP hD hS (lv_sub hl [0, 1, 2, 3, 4, 5] rfl)
              · have tc_8 : k2.toInt < zk.toInt := v_nle c_8
                refine lv_aload_n hx hb dX12_undoes_102 rfl (lv_at hl 3 rfl) ?_
                refine va_get (D := (dC, dI)) (ci := 12) (v := .ref mE) (C := RX12) (T := TX12) (N := 40) hx hb hts in_X12 hown hK hP 0 rfl rfl 28 (Nat.le_of_ble_eq_true rfl) (hts (.fieldLink RX12 61 "TextMenderModel" "came" "[I") (List.mem_of_getElem? (i := 5) rfl)) (fun _ h9 => h9) rfl dX12_undoes_103 ?_
                refine lv_iload hx hb dX12_undoes_106 (lv_at hl 0 rfl) ?_
                refine va_iald hx hb hK hP 4 0 rfl rfl (v_inR g_k2 (by decide) (by decide)) dX12_undoes_108 ?_
                refine lv_topi (fun x_14 ex_14 => ?_)
                have tx_14 : 0 ≤ x_14.toInt ∧ x_14.toInt ≤ 65535 := rg_at hf4_3 ex_14
                refine lv_aload_n hx hb dX12_undoes_109 rfl (lv_at hl 3 rfl) ?_
                refine va_get (D := (dC, dI)) (ci := 12) (v := .ref mW) (C := RX12) (T := TX12) (N := 40) hx hb hts in_X12 hown hK hP 0 rfl rfl 31 (Nat.le_of_ble_eq_true rfl) (hts (.fieldLink RX12 64 "TextMenderModel" "work" "[I") (List.mem_of_getElem? (i := 1) rfl)) (fun _ h9 => h9) rfl dX12_undoes_110 ?_
                refine lv_iload hx hb dX12_undoes_113 (lv_at hl 0 rfl) ?_
                refine va_iald hx hb hK hP 5 0 rfl rfl (v_in (by omega)) dX12_undoes_115 ?_
                refine lv_topi (fun x_15 ex_15 => ?_)
                have tx_15 : 0 ≤ x_15.toInt ∧ x_15.toInt ≤ 65535 := rg_at g_eW ex_15
                have hxy9 : x_14.toInt = x_15.toInt := by rw [ex_14, ex_15, hbk4 k2.toNatClampNeg (by have c9 := v_clamp (x := k2) (by omega); omega)]
                refine lv_icmp_ne (tgt := 123) hx hb dX12_undoes_116 (by decide) (fun c_16 => by exfalso; have tc_16 : ¬ x_14.toInt = x_15.toInt := v_ne c_16; omega) (fun c_16 => ?_)
                have tc_16 : x_14.toInt = x_15.toInt := v_eq c_16
                refine lv_iconst (v := 1) hx hb dX12_undoes_119 (by decide) ?_
                refine lv_goto (tgt := 124) hx hb dX12_undoes_120 (by decide) ?_
                refine lv_istore (lv' := [(4, .int 1), (5, .int k2), (3, .int zm_1), (0, .ref oM), (1, .int a), (2, .int b)]) hx hb dX12_undoes_124 hl (by decide) rfl (fun ls hl => ?_)
                obtain ⟨x_17, ex_17⟩ : ∃ y : Int32, y = k2 + 1 := ⟨_, rfl⟩
                have tx_17 : x_17.toInt = k2.toInt + 1 := v_addR (l2 := 1) (h2 := 1) ex_17 g_k2 (by decide) (by decide) (by decide)
                refine lv_iinc (v := x_17) (lv' := [(5, .int x_17), (4, .int 1), (3, .int zm_1), (0, .ref oM), (1, .int a), (2, .int b)]) hx hb dX12_undoes_126 hl (k := 1) rfl (by rw [ex_17]; rfl) (by decide) rfl (fun ls hl => ?_)
                refine lv_goto (tgt := 88) hx hb dX12_undoes_129 (by decide) ?_
                exact ih_88 1 x_17 _ _ _ (ms_lt hm_88 (by show ((300 - x_17.toInt : Int)) < 300 - k2.toInt; omega) (by show (0 : Int) < 300 - k2.toInt; omega)) (by decide) (by show 0 ≤ x_17.toInt ∧ x_17.toInt ≤ 300; omega) hP hD hS (lv_sub hl [0, 1, 2, 3, 4, 5] rfl)
          exact LOOP_88 _ 1 0 _ _ _ (ms_s _) (by decide) (by decide) hP hD hS (lv_sub hl [0, 1, 2, 3, 4, 5] rfl)
        · have tc_3 : k.toInt < zm_1.toInt := v_nle c_3
          refine lv_aload_n hx hb dX12_undoes_33 rfl (lv_at hl 2 rfl) ?_
          refine va_get (D := (dC, dI)) (ci := 12) (v := .ref mO) (C := RX12) (T := TX12) (N := 40) hx hb hts in_X12 hown hK hP 0 rfl rfl 33 (Nat.le_of_ble_eq_true rfl) (hts (.fieldLink RX12 67 "TextMenderModel" "other" "[I") (List.mem_of_getElem? (i := 4) rfl)) (fun _ h9 => h9) rfl dX12_undoes_34 ?_
          refine lv_iload hx hb dX12_undoes_37 (lv_at hl 0 rfl) ?_
          refine lv_aload_n hx hb dX12_undoes_39 rfl (lv_at hl 2 rfl) ?_
          refine va_get (D := (dC, dI)) (ci := 12) (v := .ref mE) (C := RX12) (T := TX12) (N := 40) hx hb hts in_X12 hown hK hP 0 rfl rfl 28 (Nat.le_of_ble_eq_true rfl) (hts (.fieldLink RX12 61 "TextMenderModel" "came" "[I") (List.mem_of_getElem? (i := 5) rfl)) (fun _ h9 => h9) rfl dX12_undoes_40 ?_
          refine lv_iload hx hb dX12_undoes_43 (lv_at hl 0 rfl) ?_
          refine va_iald hx hb hK hP 4 0 rfl rfl (v_inR g_k (by decide) (by decide)) dX12_undoes_45 ?_
          refine lv_topi (fun x_18 ex_18 => ?_)
          have tx_18 : 0 ≤ x_18.toInt ∧ x_18.toInt ≤ 65535 := rg_at hf1_3 ex_18
          obtain ⟨f_19, ef_19⟩ : ∃ g : Nat → Int32, g = upd eOa (k : Int32).toNatClampNeg x_18 := ⟨_, rfl⟩
          refine va_iast hx hb hK hP hD hS 6 0 rfl rfl (v_in (by omega)) dX12_undoes_46 (kWf (g := f_19) (F := fun f_19 => [(oM, .inr (12, [.ref mT, .int zt, .ref mS, .ref mX, .int zp, .int zf, .ref mL, .ref mB, .ref mD, .ref m1, .ref m2, .int zh, .ref mR, .int zr, .ref x1, .ref x2, .ref x3, .int zc, .ref mH, .int zy, .int za, .int zb, .int zs, .int zq, .int zw, .int ze, .ref mY, .int zn_1, .ref mE, .int zm_1, .int zl_1, .ref mW, .int zk, .ref mO, .int zd_1, .ref y1, .ref y2, .ref y3, .ref y4, .ref mZ])), (mY, .inl (cI, 2600, .inl eY_1)), (mB, .inl (cS, 131072, .inl eB)), (mL, .inl (cI, 512, .inl eL)), (mE, .inl (cI, 2600, .inl eE_1)), (mW, .inl (cI, 300, .inl eW)), (mO, .inl (cI, 300, .inl f_19))]) ef_19 rfl (fun H locs hPn hDn hSn => ?_))
          clear hP hD hS
          have hP := hPn
          have hD := hDn
          have hS := hSn
          clear hPn hDn hSn
          have g_f19 : rg 0 65535 f_19 := rg_upd ef_19 g_eOa (by omega)
          obtain ⟨x_20, ex_20⟩ : ∃ y : Int32, y = k + 1 := ⟨_, rfl⟩
          have tx_20 : x_20.toInt = k.toInt + 1 := v_addR (l2 := 1) (h2 := 1) ex_20 g_k (by decide) (by decide) (by decide)
          refine lv_iinc (v := x_20) (lv' := [(4, .int x_20), (3, .int zm_1), (0, .ref oM), (1, .int a), (2, .int b)]) hx hb dX12_undoes_47 hl (k := 0) rfl (by rw [ex_20]; rfl) (by decide) rfl (fun ls hl => ?_)
          refine lv_goto (tgt := 27) hx hb dX12_undoes_50 (by decide) ?_
          exact ih_27 x_20 f_19 _ _ _ (ms_lt hm_27 (by show ((300 - x_20.toInt : Int)) < 300 - k.toInt; omega) (by show (0 : Int) < 300 - k.toInt; omega)) (by show 0 ≤ x_20.toInt ∧ x_20.toInt ≤ 300; omega) (g_f19) (by show x_20.toInt ≤ zm_1.toInt; omega) (cpE_s hcp ex_18 ef_19 (by omega) (by omega)) hP hD hS (lv_sub hl [0, 1, 2, 3, 4] rfl)
    exact LOOP_27 _ 0 eO _ _ _ (ms_s _) (by decide) (g_eO) (by show 0 ≤ zm_1.toInt; omega) (cpE_0 (by decide)) hP hD hS (lv_sub hl [0, 1, 2, 3, 4] rfl)
  · have tc_2 : r_1.toInt = 0 := v_eq c_2
    refine lv_iconst (v := 0) hx hb dX12_undoes_17 (by decide) ?_
    exact kl_z (v := 0) hQQ hx hb hr hlocks hS dX12_undoes_18 (rfl) (fun PZ9 kZ9 => kZ9 zn_1 eY_1 zd_1 zm_1 zl_1 eE_1 zk eW eO (⟨hP, hD⟩) (hf1_0) (hf1_1) (hf1_2) (hf1_3) (g_zk) (g_eW) (g_eO) (by decide) (ps_0 hf1_6 (by omega) rfl))

end

/-! 59i.a.rows -/
section
set_option maxRecDepth 100000 in
theorem dA198_cX0_remember : kDec cX0_remember [(0, .aload_n 1, 1), (1, .invokevirtual 25, 3), (4, .sipush 300, 3), (7, .invokestatic 30, 3), (10, .istore_n 2, 1), (11, .iconst 0, 1), (12, .istore_n 3, 1), (13, .iload_n 3, 1), (14, .iload_n 2, 1), (15, .if_icmp .ge 29, 3), (44, .aload_n 0, 1), (45, .getfield 15, 3), (48, .aload_n 0, 1), (49, .getfield 18, 3), (52, .iload_n 2, 1), (53, .iastore, 1), (54, .aload_n 0, 1), (55, .aload_n 0, 1), (56, .getfield 18, 3), (59, .bipush 19, 2), (61, .if_icmp .ne 7, 3), (68, .aload_n 0, 1), (69, .getfield 18, 3), (72, .iconst 1, 1)] = true := by decide +kernel
theorem dX0_remember_0 : decode cX0_remember 0 = .ok (.aload_n 1, 1) := kDec_at dA198_cX0_remember 0 rfl
theorem dX0_remember_1 : decode cX0_remember 1 = .ok (.invokevirtual 25, 3) := kDec_at dA198_cX0_remember 1 rfl
theorem dX0_remember_4 : decode cX0_remember 4 = .ok (.sipush 300, 3) := kDec_at dA198_cX0_remember 2 rfl
theorem dX0_remember_7 : decode cX0_remember 7 = .ok (.invokestatic 30, 3) := kDec_at dA198_cX0_remember 3 rfl
theorem dX0_remember_10 : decode cX0_remember 10 = .ok (.istore_n 2, 1) := kDec_at dA198_cX0_remember 4 rfl
theorem dX0_remember_11 : decode cX0_remember 11 = .ok (.iconst 0, 1) := kDec_at dA198_cX0_remember 5 rfl
theorem dX0_remember_12 : decode cX0_remember 12 = .ok (.istore_n 3, 1) := kDec_at dA198_cX0_remember 6 rfl
theorem dX0_remember_13 : decode cX0_remember 13 = .ok (.iload_n 3, 1) := kDec_at dA198_cX0_remember 7 rfl
theorem dX0_remember_14 : decode cX0_remember 14 = .ok (.iload_n 2, 1) := kDec_at dA198_cX0_remember 8 rfl
theorem dX0_remember_15 : decode cX0_remember 15 = .ok (.if_icmp .ge 29, 3) := kDec_at dA198_cX0_remember 9 rfl
theorem dX0_remember_44 : decode cX0_remember 44 = .ok (.aload_n 0, 1) := kDec_at dA198_cX0_remember 10 rfl
theorem dX0_remember_45 : decode cX0_remember 45 = .ok (.getfield 15, 3) := kDec_at dA198_cX0_remember 11 rfl
theorem dX0_remember_48 : decode cX0_remember 48 = .ok (.aload_n 0, 1) := kDec_at dA198_cX0_remember 12 rfl
theorem dX0_remember_49 : decode cX0_remember 49 = .ok (.getfield 18, 3) := kDec_at dA198_cX0_remember 13 rfl
theorem dX0_remember_52 : decode cX0_remember 52 = .ok (.iload_n 2, 1) := kDec_at dA198_cX0_remember 14 rfl
theorem dX0_remember_53 : decode cX0_remember 53 = .ok (.iastore, 1) := kDec_at dA198_cX0_remember 15 rfl
theorem dX0_remember_54 : decode cX0_remember 54 = .ok (.aload_n 0, 1) := kDec_at dA198_cX0_remember 16 rfl
theorem dX0_remember_55 : decode cX0_remember 55 = .ok (.aload_n 0, 1) := kDec_at dA198_cX0_remember 17 rfl
theorem dX0_remember_56 : decode cX0_remember 56 = .ok (.getfield 18, 3) := kDec_at dA198_cX0_remember 18 rfl
theorem dX0_remember_59 : decode cX0_remember 59 = .ok (.bipush 19, 2) := kDec_at dA198_cX0_remember 19 rfl
theorem dX0_remember_61 : decode cX0_remember 61 = .ok (.if_icmp .ne 7, 3) := kDec_at dA198_cX0_remember 20 rfl
theorem dX0_remember_68 : decode cX0_remember 68 = .ok (.aload_n 0, 1) := kDec_at dA198_cX0_remember 21 rfl
theorem dX0_remember_69 : decode cX0_remember 69 = .ok (.getfield 18, 3) := kDec_at dA198_cX0_remember 22 rfl
theorem dX0_remember_72 : decode cX0_remember 72 = .ok (.iconst 1, 1) := kDec_at dA198_cX0_remember 23 rfl
set_option maxRecDepth 20000 in
theorem ggX0_remember_X5_length : GoodIn wsX0_remember wsX5_length := goodIn_sub (fun _ h => List.mem_cons_of_mem _ (List.mem_append_left _ (List.mem_append_right _ (h)))) gX5_length_all
set_option maxRecDepth 20000 in
theorem gX0_remember_X5_length : GoodIn wsX0_remember (wsV RX0 25 RX5 yX5_length wsX5_length) := goodIn_app (goodIn_r _ [9, 10, 11, 12] rfl (by decide +kernel)) ggX0_remember_X5_length
set_option maxRecDepth 100000 in
theorem dA199_cX0_remember : kDec cX0_remember [(73, .iadd, 1), (74, .putfield 18, 3), (77, .aload_n 0, 1), (78, .aload_n 0, 1), (79, .getfield 22, 3), (82, .iconst 1, 1), (83, .iadd, 1), (84, .bipush 20, 2), (86, .invokestatic 30, 3), (89, .putfield 22, 3), (92, .return_, 1), (64, .iconst 0, 1), (65, .goto 9, 3), (18, .aload_n 0, 1), (19, .getfield 11, 3), (22, .aload_n 0, 1), (23, .getfield 18, 3), (26, .sipush 300, 3), (29, .imul, 1), (30, .iload_n 3, 1), (31, .iadd, 1), (32, .aload_n 1, 1), (33, .iload_n 3, 1), (34, .invokevirtual 36, 3)] = true := by decide +kernel
theorem dX0_remember_73 : decode cX0_remember 73 = .ok (.iadd, 1) := kDec_at dA199_cX0_remember 0 rfl
theorem dX0_remember_74 : decode cX0_remember 74 = .ok (.putfield 18, 3) := kDec_at dA199_cX0_remember 1 rfl
theorem dX0_remember_77 : decode cX0_remember 77 = .ok (.aload_n 0, 1) := kDec_at dA199_cX0_remember 2 rfl
theorem dX0_remember_78 : decode cX0_remember 78 = .ok (.aload_n 0, 1) := kDec_at dA199_cX0_remember 3 rfl
theorem dX0_remember_79 : decode cX0_remember 79 = .ok (.getfield 22, 3) := kDec_at dA199_cX0_remember 4 rfl
theorem dX0_remember_82 : decode cX0_remember 82 = .ok (.iconst 1, 1) := kDec_at dA199_cX0_remember 5 rfl
theorem dX0_remember_83 : decode cX0_remember 83 = .ok (.iadd, 1) := kDec_at dA199_cX0_remember 6 rfl
theorem dX0_remember_84 : decode cX0_remember 84 = .ok (.bipush 20, 2) := kDec_at dA199_cX0_remember 7 rfl
theorem dX0_remember_86 : decode cX0_remember 86 = .ok (.invokestatic 30, 3) := kDec_at dA199_cX0_remember 8 rfl
theorem dX0_remember_89 : decode cX0_remember 89 = .ok (.putfield 22, 3) := kDec_at dA199_cX0_remember 9 rfl
theorem dX0_remember_92 : decode cX0_remember 92 = .ok (.return_, 1) := kDec_at dA199_cX0_remember 10 rfl
theorem dX0_remember_64 : decode cX0_remember 64 = .ok (.iconst 0, 1) := kDec_at dA199_cX0_remember 11 rfl
theorem dX0_remember_65 : decode cX0_remember 65 = .ok (.goto 9, 3) := kDec_at dA199_cX0_remember 12 rfl
theorem dX0_remember_18 : decode cX0_remember 18 = .ok (.aload_n 0, 1) := kDec_at dA199_cX0_remember 13 rfl
theorem dX0_remember_19 : decode cX0_remember 19 = .ok (.getfield 11, 3) := kDec_at dA199_cX0_remember 14 rfl
theorem dX0_remember_22 : decode cX0_remember 22 = .ok (.aload_n 0, 1) := kDec_at dA199_cX0_remember 15 rfl
theorem dX0_remember_23 : decode cX0_remember 23 = .ok (.getfield 18, 3) := kDec_at dA199_cX0_remember 16 rfl
theorem dX0_remember_26 : decode cX0_remember 26 = .ok (.sipush 300, 3) := kDec_at dA199_cX0_remember 17 rfl
theorem dX0_remember_29 : decode cX0_remember 29 = .ok (.imul, 1) := kDec_at dA199_cX0_remember 18 rfl
theorem dX0_remember_30 : decode cX0_remember 30 = .ok (.iload_n 3, 1) := kDec_at dA199_cX0_remember 19 rfl
theorem dX0_remember_31 : decode cX0_remember 31 = .ok (.iadd, 1) := kDec_at dA199_cX0_remember 20 rfl
theorem dX0_remember_32 : decode cX0_remember 32 = .ok (.aload_n 1, 1) := kDec_at dA199_cX0_remember 21 rfl
theorem dX0_remember_33 : decode cX0_remember 33 = .ok (.iload_n 3, 1) := kDec_at dA199_cX0_remember 22 rfl
theorem dX0_remember_34 : decode cX0_remember 34 = .ok (.invokevirtual 36, 3) := kDec_at dA199_cX0_remember 23 rfl
set_option maxRecDepth 20000 in
theorem ggX0_remember_X5_get : GoodIn wsX0_remember wsX5_get := goodIn_sub (fun _ h => List.mem_cons_of_mem _ (List.mem_append_right _ (h))) gX5_get_all
set_option maxRecDepth 20000 in
theorem gX0_remember_X5_get : GoodIn wsX0_remember (wsV RX0 36 RX5 yX5_get wsX5_get) := goodIn_app (goodIn_r _ [13, 14, 15, 12] rfl (by decide +kernel)) ggX0_remember_X5_get
set_option maxRecDepth 100000 in
theorem dA200_cX0_remember : kDec cX0_remember [(37, .iastore, 1), (38, .iinc 3 1, 3), (41, .goto (-28), 3)] = true := by decide +kernel
theorem dX0_remember_37 : decode cX0_remember 37 = .ok (.iastore, 1) := kDec_at dA200_cX0_remember 0 rfl
theorem dX0_remember_38 : decode cX0_remember 38 = .ok (.iinc 3 1, 3) := kDec_at dA200_cX0_remember 1 rfl
theorem dX0_remember_41 : decode cX0_remember 41 = .ok (.goto (-28), 3) := kDec_at dA200_cX0_remember 2 rfl
set_option maxRecDepth 100000 in
theorem dA201_cX11_become : kDec cX11_become [(0, .aload_n 0, 1), (1, .getfield 59, 3), (4, .aload_n 0, 1), (5, .getfield 34, 3), (8, .invokevirtual 257, 3), (11, .aload_n 0, 1), (12, .getfield 34, 3), (15, .aload_n 1, 1), (16, .invokevirtual 109, 3), (19, .pop, 1), (20, .aload_n 0, 1), (21, .getfield 86, 3), (24, .invokevirtual 143, 3), (27, .aload_n 0, 1), (28, .getfield 34, 3), (31, .invokevirtual 94, 3), (34, .ireturn, 1)] = true := by decide +kernel
theorem dX11_become_0 : decode cX11_become 0 = .ok (.aload_n 0, 1) := kDec_at dA201_cX11_become 0 rfl
theorem dX11_become_1 : decode cX11_become 1 = .ok (.getfield 59, 3) := kDec_at dA201_cX11_become 1 rfl
theorem dX11_become_4 : decode cX11_become 4 = .ok (.aload_n 0, 1) := kDec_at dA201_cX11_become 2 rfl
theorem dX11_become_5 : decode cX11_become 5 = .ok (.getfield 34, 3) := kDec_at dA201_cX11_become 3 rfl
theorem dX11_become_8 : decode cX11_become 8 = .ok (.invokevirtual 257, 3) := kDec_at dA201_cX11_become 4 rfl
theorem dX11_become_11 : decode cX11_become 11 = .ok (.aload_n 0, 1) := kDec_at dA201_cX11_become 5 rfl
theorem dX11_become_12 : decode cX11_become 12 = .ok (.getfield 34, 3) := kDec_at dA201_cX11_become 6 rfl
theorem dX11_become_15 : decode cX11_become 15 = .ok (.aload_n 1, 1) := kDec_at dA201_cX11_become 7 rfl
theorem dX11_become_16 : decode cX11_become 16 = .ok (.invokevirtual 109, 3) := kDec_at dA201_cX11_become 8 rfl
theorem dX11_become_19 : decode cX11_become 19 = .ok (.pop, 1) := kDec_at dA201_cX11_become 9 rfl
theorem dX11_become_20 : decode cX11_become 20 = .ok (.aload_n 0, 1) := kDec_at dA201_cX11_become 10 rfl
theorem dX11_become_21 : decode cX11_become 21 = .ok (.getfield 86, 3) := kDec_at dA201_cX11_become 11 rfl
theorem dX11_become_24 : decode cX11_become 24 = .ok (.invokevirtual 143, 3) := kDec_at dA201_cX11_become 12 rfl
theorem dX11_become_27 : decode cX11_become 27 = .ok (.aload_n 0, 1) := kDec_at dA201_cX11_become 13 rfl
theorem dX11_become_28 : decode cX11_become 28 = .ok (.getfield 34, 3) := kDec_at dA201_cX11_become 14 rfl
theorem dX11_become_31 : decode cX11_become 31 = .ok (.invokevirtual 94, 3) := kDec_at dA201_cX11_become 15 rfl
theorem dX11_become_34 : decode cX11_become 34 = .ok (.ireturn, 1) := kDec_at dA201_cX11_become 16 rfl
set_option maxRecDepth 20000 in
theorem gX0_remember_all : wsX0_remember.all goodWord = true := by
  unfold wsX0_remember
  exact good_c (by decide +kernel) (good_a (good_a (good_a (good_a ((by decide +kernel)) gX0_clsall) gX5_clsall) gX5_length_all) gX5_get_all)
set_option maxRecDepth 20000 in
theorem ggX11_become_X0_remember : GoodIn wsX11_become wsX0_remember := goodIn_sub (fun _ h => List.mem_cons_of_mem _ (List.mem_append_left _ (List.mem_append_left _ (List.mem_append_left _ (List.mem_append_right _ (h)))))) gX0_remember_all
set_option maxRecDepth 20000 in
theorem gX11_become_X0_remember : GoodIn wsX11_become (wsV RX11 257 RX0 yX0_remember wsX0_remember) := goodIn_app (goodIn_r _ [4, 5, 6, 7] rfl (by decide +kernel)) ggX11_become_X0_remember
set_option maxRecDepth 20000 in
theorem gX5_takeAll_all : wsX5_takeAll.all goodWord = true := by
  unfold wsX5_takeAll
  exact good_c (by decide +kernel) (good_a (good_a ((by decide +kernel)) gX5_clsall) gX5_addAll_all)
set_option maxRecDepth 20000 in
theorem ggX11_become_X5_takeAll : GoodIn wsX11_become wsX5_takeAll := goodIn_sub (fun _ h => List.mem_cons_of_mem _ (List.mem_append_left _ (List.mem_append_left _ (List.mem_append_right _ (h))))) gX5_takeAll_all
set_option maxRecDepth 20000 in
theorem gX11_become_X5_takeAll : GoodIn wsX11_become (wsV RX11 109 RX5 yX5_takeAll wsX5_takeAll) := goodIn_app (goodIn_r _ [11, 12, 13, 10] rfl (by decide +kernel)) ggX11_become_X5_takeAll
set_option maxRecDepth 20000 in
theorem ggX11_become_X1_forgetFreshness : GoodIn wsX11_become wsX1_forgetFreshness := goodIn_sub (fun _ h => List.mem_cons_of_mem _ (List.mem_append_left _ (List.mem_append_right _ (h)))) gX1_forgetFreshness_all
set_option maxRecDepth 20000 in
theorem gX11_become_X1_forgetFreshness : GoodIn wsX11_become (wsV RX11 143 RX1 yX1_forgetFreshness wsX1_forgetFreshness) := goodIn_app (goodIn_r _ [14, 15, 16, 17] rfl (by decide +kernel)) ggX11_become_X1_forgetFreshness
set_option maxRecDepth 20000 in
theorem ggX11_become_X5_length : GoodIn wsX11_become wsX5_length := goodIn_sub (fun _ h => List.mem_cons_of_mem _ (List.mem_append_right _ (h))) gX5_length_all
set_option maxRecDepth 20000 in
theorem gX11_become_X5_length : GoodIn wsX11_become (wsV RX11 94 RX5 yX5_length wsX5_length) := goodIn_app (goodIn_r _ [18, 8, 9, 10] rfl (by decide +kernel)) ggX11_become_X5_length
set_option maxRecDepth 100000 in
theorem dA202_cX0_takeBack : kDec cX0_takeBack [(0, .aload_n 0, 1), (1, .getfield 22, 3), (4, .ifCond .ne 5, 3), (9, .aload_n 0, 1), (10, .aload_n 0, 1), (11, .getfield 18, 3), (14, .ifCond .ne 8, 3), (22, .aload_n 0, 1), (23, .getfield 18, 3), (26, .iconst 1, 1), (27, .isub, 1), (28, .putfield 18, 3), (31, .aload_n 0, 1), (32, .dup, 1), (33, .getfield 22, 3), (36, .iconst 1, 1), (37, .isub, 1), (38, .putfield 22, 3), (41, .aload_n 1, 1), (42, .iconst 0, 1), (43, .invokevirtual 40, 3), (46, .iconst 0, 1), (47, .istore_n 2, 1), (48, .iload_n 2, 1)] = true := by decide +kernel
theorem dX0_takeBack_0 : decode cX0_takeBack 0 = .ok (.aload_n 0, 1) := kDec_at dA202_cX0_takeBack 0 rfl
theorem dX0_takeBack_1 : decode cX0_takeBack 1 = .ok (.getfield 22, 3) := kDec_at dA202_cX0_takeBack 1 rfl
theorem dX0_takeBack_4 : decode cX0_takeBack 4 = .ok (.ifCond .ne 5, 3) := kDec_at dA202_cX0_takeBack 2 rfl
theorem dX0_takeBack_9 : decode cX0_takeBack 9 = .ok (.aload_n 0, 1) := kDec_at dA202_cX0_takeBack 3 rfl
theorem dX0_takeBack_10 : decode cX0_takeBack 10 = .ok (.aload_n 0, 1) := kDec_at dA202_cX0_takeBack 4 rfl
theorem dX0_takeBack_11 : decode cX0_takeBack 11 = .ok (.getfield 18, 3) := kDec_at dA202_cX0_takeBack 5 rfl
theorem dX0_takeBack_14 : decode cX0_takeBack 14 = .ok (.ifCond .ne 8, 3) := kDec_at dA202_cX0_takeBack 6 rfl
theorem dX0_takeBack_22 : decode cX0_takeBack 22 = .ok (.aload_n 0, 1) := kDec_at dA202_cX0_takeBack 7 rfl
theorem dX0_takeBack_23 : decode cX0_takeBack 23 = .ok (.getfield 18, 3) := kDec_at dA202_cX0_takeBack 8 rfl
theorem dX0_takeBack_26 : decode cX0_takeBack 26 = .ok (.iconst 1, 1) := kDec_at dA202_cX0_takeBack 9 rfl
theorem dX0_takeBack_27 : decode cX0_takeBack 27 = .ok (.isub, 1) := kDec_at dA202_cX0_takeBack 10 rfl
theorem dX0_takeBack_28 : decode cX0_takeBack 28 = .ok (.putfield 18, 3) := kDec_at dA202_cX0_takeBack 11 rfl
theorem dX0_takeBack_31 : decode cX0_takeBack 31 = .ok (.aload_n 0, 1) := kDec_at dA202_cX0_takeBack 12 rfl
theorem dX0_takeBack_32 : decode cX0_takeBack 32 = .ok (.dup, 1) := kDec_at dA202_cX0_takeBack 13 rfl
theorem dX0_takeBack_33 : decode cX0_takeBack 33 = .ok (.getfield 22, 3) := kDec_at dA202_cX0_takeBack 14 rfl
theorem dX0_takeBack_36 : decode cX0_takeBack 36 = .ok (.iconst 1, 1) := kDec_at dA202_cX0_takeBack 15 rfl
theorem dX0_takeBack_37 : decode cX0_takeBack 37 = .ok (.isub, 1) := kDec_at dA202_cX0_takeBack 16 rfl
theorem dX0_takeBack_38 : decode cX0_takeBack 38 = .ok (.putfield 22, 3) := kDec_at dA202_cX0_takeBack 17 rfl
theorem dX0_takeBack_41 : decode cX0_takeBack 41 = .ok (.aload_n 1, 1) := kDec_at dA202_cX0_takeBack 18 rfl
theorem dX0_takeBack_42 : decode cX0_takeBack 42 = .ok (.iconst 0, 1) := kDec_at dA202_cX0_takeBack 19 rfl
theorem dX0_takeBack_43 : decode cX0_takeBack 43 = .ok (.invokevirtual 40, 3) := kDec_at dA202_cX0_takeBack 20 rfl
theorem dX0_takeBack_46 : decode cX0_takeBack 46 = .ok (.iconst 0, 1) := kDec_at dA202_cX0_takeBack 21 rfl
theorem dX0_takeBack_47 : decode cX0_takeBack 47 = .ok (.istore_n 2, 1) := kDec_at dA202_cX0_takeBack 22 rfl
theorem dX0_takeBack_48 : decode cX0_takeBack 48 = .ok (.iload_n 2, 1) := kDec_at dA202_cX0_takeBack 23 rfl
set_option maxRecDepth 20000 in
theorem ggX0_takeBack_X5_cut : GoodIn wsX0_takeBack wsX5_cut := goodIn_sub (fun _ h => List.mem_cons_of_mem _ (List.mem_append_left _ (List.mem_append_right _ (h)))) gX5_cut_all
set_option maxRecDepth 20000 in
theorem gX0_takeBack_X5_cut : GoodIn wsX0_takeBack (wsV RX0 40 RX5 yX5_cut wsX5_cut) := goodIn_app (goodIn_r _ [5, 6, 7, 8] rfl (by decide +kernel)) ggX0_takeBack_X5_cut
set_option maxRecDepth 100000 in
theorem dA203_cX0_takeBack : kDec cX0_takeBack [(49, .aload_n 0, 1), (50, .getfield 15, 3), (53, .aload_n 0, 1), (54, .getfield 18, 3), (57, .iaload, 1), (58, .if_icmp .ge 29, 3), (87, .iconst 1, 1), (88, .ireturn, 1), (61, .aload_n 1, 1), (62, .aload_n 0, 1), (63, .getfield 11, 3), (66, .aload_n 0, 1), (67, .getfield 18, 3), (70, .sipush 300, 3), (73, .imul, 1), (74, .iload_n 2, 1), (75, .iadd, 1), (76, .iaload, 1), (77, .invokevirtual 44, 3), (80, .pop, 1), (81, .iinc 2 1, 3), (84, .goto (-36), 3), (17, .bipush 19, 2), (19, .goto 9, 3)] = true := by decide +kernel
theorem dX0_takeBack_49 : decode cX0_takeBack 49 = .ok (.aload_n 0, 1) := kDec_at dA203_cX0_takeBack 0 rfl
theorem dX0_takeBack_50 : decode cX0_takeBack 50 = .ok (.getfield 15, 3) := kDec_at dA203_cX0_takeBack 1 rfl
theorem dX0_takeBack_53 : decode cX0_takeBack 53 = .ok (.aload_n 0, 1) := kDec_at dA203_cX0_takeBack 2 rfl
theorem dX0_takeBack_54 : decode cX0_takeBack 54 = .ok (.getfield 18, 3) := kDec_at dA203_cX0_takeBack 3 rfl
theorem dX0_takeBack_57 : decode cX0_takeBack 57 = .ok (.iaload, 1) := kDec_at dA203_cX0_takeBack 4 rfl
theorem dX0_takeBack_58 : decode cX0_takeBack 58 = .ok (.if_icmp .ge 29, 3) := kDec_at dA203_cX0_takeBack 5 rfl
theorem dX0_takeBack_87 : decode cX0_takeBack 87 = .ok (.iconst 1, 1) := kDec_at dA203_cX0_takeBack 6 rfl
theorem dX0_takeBack_88 : decode cX0_takeBack 88 = .ok (.ireturn, 1) := kDec_at dA203_cX0_takeBack 7 rfl
theorem dX0_takeBack_61 : decode cX0_takeBack 61 = .ok (.aload_n 1, 1) := kDec_at dA203_cX0_takeBack 8 rfl
theorem dX0_takeBack_62 : decode cX0_takeBack 62 = .ok (.aload_n 0, 1) := kDec_at dA203_cX0_takeBack 9 rfl
theorem dX0_takeBack_63 : decode cX0_takeBack 63 = .ok (.getfield 11, 3) := kDec_at dA203_cX0_takeBack 10 rfl
theorem dX0_takeBack_66 : decode cX0_takeBack 66 = .ok (.aload_n 0, 1) := kDec_at dA203_cX0_takeBack 11 rfl
theorem dX0_takeBack_67 : decode cX0_takeBack 67 = .ok (.getfield 18, 3) := kDec_at dA203_cX0_takeBack 12 rfl
theorem dX0_takeBack_70 : decode cX0_takeBack 70 = .ok (.sipush 300, 3) := kDec_at dA203_cX0_takeBack 13 rfl
theorem dX0_takeBack_73 : decode cX0_takeBack 73 = .ok (.imul, 1) := kDec_at dA203_cX0_takeBack 14 rfl
theorem dX0_takeBack_74 : decode cX0_takeBack 74 = .ok (.iload_n 2, 1) := kDec_at dA203_cX0_takeBack 15 rfl
theorem dX0_takeBack_75 : decode cX0_takeBack 75 = .ok (.iadd, 1) := kDec_at dA203_cX0_takeBack 16 rfl
theorem dX0_takeBack_76 : decode cX0_takeBack 76 = .ok (.iaload, 1) := kDec_at dA203_cX0_takeBack 17 rfl
theorem dX0_takeBack_77 : decode cX0_takeBack 77 = .ok (.invokevirtual 44, 3) := kDec_at dA203_cX0_takeBack 18 rfl
theorem dX0_takeBack_80 : decode cX0_takeBack 80 = .ok (.pop, 1) := kDec_at dA203_cX0_takeBack 19 rfl
theorem dX0_takeBack_81 : decode cX0_takeBack 81 = .ok (.iinc 2 1, 3) := kDec_at dA203_cX0_takeBack 20 rfl
theorem dX0_takeBack_84 : decode cX0_takeBack 84 = .ok (.goto (-36), 3) := kDec_at dA203_cX0_takeBack 21 rfl
theorem dX0_takeBack_17 : decode cX0_takeBack 17 = .ok (.bipush 19, 2) := kDec_at dA203_cX0_takeBack 22 rfl
theorem dX0_takeBack_19 : decode cX0_takeBack 19 = .ok (.goto 9, 3) := kDec_at dA203_cX0_takeBack 23 rfl
set_option maxRecDepth 20000 in
theorem ggX0_takeBack_X5_add : GoodIn wsX0_takeBack wsX5_add := goodIn_sub (fun _ h => List.mem_cons_of_mem _ (List.mem_append_right _ (h))) gX5_add_all
set_option maxRecDepth 20000 in
theorem gX0_takeBack_X5_add : GoodIn wsX0_takeBack (wsV RX0 44 RX5 yX5_add wsX5_add) := goodIn_app (goodIn_r _ [9, 10, 11, 8] rfl (by decide +kernel)) ggX0_takeBack_X5_add
set_option maxRecDepth 100000 in
theorem dA204_cX0_takeBack : kDec cX0_takeBack [(7, .iconst 0, 1), (8, .ireturn, 1)] = true := by decide +kernel
theorem dX0_takeBack_7 : decode cX0_takeBack 7 = .ok (.iconst 0, 1) := kDec_at dA204_cX0_takeBack 0 rfl
theorem dX0_takeBack_8 : decode cX0_takeBack 8 = .ok (.ireturn, 1) := kDec_at dA204_cX0_takeBack 1 rfl

end

/-! 59i.bec -/
section
set_option maxHeartbeats 40000000 in
set_option maxRecDepth 100000 in
theorem f_X0_remember (l : Launch) (dC : Nat → ClassId) (dI : Nat → Nat → Nat) (cI cS : ClassId) (sz : Nat) (oG : Nat) (nx : Nat) (g1 : Nat) (g2 : Nat) (ax : Nat) (gn : Int32) (lG : Int32) (fG1 : Nat → Int32) (fG2 : Nat → Int32) (lx : Int32) (fx : Nat → Int32) (g_gn : 0 ≤ gn.toInt ∧ gn.toInt ≤ 19) (g_lG : 0 ≤ lG.toInt ∧ lG.toInt ≤ 20) (g_fG2 : rg 0 300 fG2) (g_lx : 0 ≤ lx.toInt ∧ lx.toInt ≤ 300) : kMv l yX0_remember wsX0_remember ({ frames := 1, cells := 0, slots := 0, locals := 21 } : Room) [.ref oG, .ref nx] sz (dC, dI) vwCl [(cI, .int), (cS, .short)] [(oG, .inr (0, [.ref g1, .ref g2, .int gn, .int lG])), (g1, .inl (cI, 6000, .inl fG1)), (g2, .inl (cI, 20, .inl fG2)), (nx, .inr (5, [.ref ax, .int lx])), (ax, .inl (cI, 300, .inl fx))] (fun _ => True) 0 0 (fun (A : Nat → Prop) (hh9 : Heap) => ∀ PZ9 : Prop, (∀ (gn' : Int32) (lG' : Int32) (fG1' : Nat → Int32) (fG2' : Nat → Int32), kPD (dC, dI) vwCl A [(oG, .inr (0, [.ref g1, .ref g2, .int gn', .int lG'])), (g1, .inl (cI, 6000, .inl fG1')), (g2, .inl (cI, 20, .inl fG2')), (nx, .inr (5, [.ref ax, .int lx])), (ax, .inl (cI, 300, .inl fx))] hh9 → (0 ≤ gn'.toInt ∧ gn'.toInt ≤ 19) → (0 ≤ lG'.toInt ∧ lG'.toInt ≤ 20) → (rg 0 300 fG2') → (F_rm gn gn' lG lG' lx fG1 fG1' fG2 fG2' fx) → PZ9) → PZ9) := by
  refine kMv_of (cc := cX0_remember) (maxL := 4) (ret := none) (lv := [(0, .ref oG), (1, .ref nx)]) (by decide +kernel) rfl rfl (Nat.le_of_ble_eq_true rfl) ?_
  intro p e s m below meth c A QQ ls hx hb hr hts hml hown hlocks hA hQQ hK hX hP hD hS hl
  have hown : s.vm.findClass RX0 = some m.cls := hown
  have hcf := k_cf hx hb hml hown hts
  have in_X0 : ∀ w ∈ wsX00, w ∈ wsX0_remember := fun _ h => List.mem_cons_of_mem _ (List.mem_append_left _ (List.mem_append_left _ (List.mem_append_left _ (List.mem_append_right _ (h)))))
  refine lv_aload_n hx hb dX0_remember_0 rfl (lv_at hl 1 rfl) ?_
  refine kV_i (rest := []) (q0 := 0) (ci := 5) hcf (m_X5_length l dC dI cI cS s.heap.size nx ax lx ) kc_X5_length gX0_remember_X5_length rfl rfl rfl ⟨Nat.le_of_ble_eq_true rfl, Nat.le_of_ble_eq_true rfl⟩ kX_t hK hP hD hS hA [3] [0, 1, 2, 4] rfl (by decide +kernel) rfl rfl rfl hl rfl (Nat.le_of_ble_eq_true rfl) dX0_remember_1 ⟨Nat.le_of_ble_eq_true rfl, Nat.le_of_ble_eq_true rfl⟩ (fun r_1 H locs hB hJ hSn => ?_)
  refine hB _ (fun hPD9 hf1_0 => ?_)
  clear hB
  obtain ⟨hPn, hDn⟩ := hJ _ hPD9.1 hPD9.2 [(oG, .inr (0, [.ref g1, .ref g2, .int gn, .int lG])), (g1, .inl (cI, 6000, .inl fG1)), (g2, .inl (cI, 20, .inl fG2)), (ax, .inl (cI, 300, .inl fx)), (nx, .inr (5, [.ref ax, .int lx]))] rfl
  clear hP hD hS hJ hPD9
  have hP := hPn
  have hD := hDn
  have hS := hSn
  clear hPn hDn hSn
  rw [hf1_0]
  refine lv_sipush (v := 300) hx hb dX0_remember_4 (by decide) ?_
  refine va_mmin hx hb (by rw [hml]; exact hl.1.symm) hown (hts (.methodLink RX0 30 Lib.Math.min.name) (List.mem_of_getElem? (i := 1) rfl)) (hts (.static Lib.Math.min.name) (List.mem_of_getElem? (i := 2) rfl)) (hts (.initialized "java/lang/Math") (List.mem_of_getElem? (i := 3) rfl)) (hts (.code Lib.Math.min.name Lib.Math.min.code 2 (some .int)) (List.mem_of_getElem? (i := 4) rfl)) (Nat.le_of_ble_eq_true rfl) (Nat.le_of_ble_eq_true rfl) (Nat.zero_le _) (Nat.zero_le _) dX0_remember_7 ?_
  refine lv_topi (fun x_2 ex_2 => ?_)
  have tx_2 : x_2.toInt ≤ lx.toInt ∧ x_2.toInt ≤ 300 ∧ (x_2.toInt = lx.toInt ∨ x_2.toInt = 300) := v_min ex_2
  refine lv_istore_n (lv' := [(2, .int x_2), (0, .ref oG), (1, .ref nx)]) hx hb dX0_remember_10 rfl hl (by decide) rfl (fun ls hl => ?_)
  refine lv_iconst (v := 0) hx hb dX0_remember_11 (by decide) ?_
  refine lv_istore_n (lv' := [(3, .int 0), (2, .int x_2), (0, .ref oG), (1, .ref nx)]) hx hb dX0_remember_12 rfl hl (by decide) rfl (fun ls hl => ?_)
  have LOOP_13 : ∀ (k_13 : Nat) (i : Int32) (f2 : Nat → Int32) (H : Heap) (locs : List Loc) (ls : Array Slot), MSd (300 - i.toInt : Int) k_13 → (0 ≤ i.toInt ∧ i.toInt ≤ 300) → (i.toInt ≤ lx.toInt) → (CPB (300 * gn.toInt) i.toInt fG1 f2 fx) → va_P (dC, dI) vwCl [(oG, .inr (0, [.ref g1, .ref g2, .int gn, .int lG])), (g1, .inl (cI, 6000, .inl f2)), (g2, .inl (cI, 20, .inl fG2)), (ax, .inl (cI, 300, .inl fx)), (nx, .inr (5, [.ref ax, .int lx]))] H → va_D A [(oG, .inr (0, [.ref g1, .ref g2, .int gn, .int lG])), (g1, .inl (cI, 6000, .inl f2)), (g2, .inl (cI, 20, .inl fG2)), (ax, .inl (cI, 300, .inl fx)), (nx, .inr (5, [.ref ax, .int lx]))] → va_S A s.heap H locs → lv_has ls 4 [(3, .int i), (2, .int x_2), (0, .ref oG), (1, .ref nx)] → W p l e (headSpec wsX0_remember ({ frames := 1, cells := 0, slots := 0, locals := 21 } : Room)).room s m ([.ref oG, .ref nx] : List Value).toArray below meth c H locs 0 0 (MQ below QQ ([.ref oG, .ref nx] : List Value).toArray s 0 0 A) (F0 m 13 ls []) := by
    clear hP hD hS hl
    intro k_13
    induction k_13 with
    | zero =>
      intro i f2 H locs ls hm_13 g_i hin hcb hP hD hS hl
      exact ms_0 hm_13
    | succ k_13 ih_13 =>
      intro i f2 H locs ls hm_13 g_i hin hcb hP hD hS hl
      refine lv_iload_n hx hb dX0_remember_13 rfl (lv_at hl 0 rfl) ?_
      refine lv_iload_n hx hb dX0_remember_14 rfl (lv_at hl 1 rfl) ?_
      refine lv_icmp_ge (tgt := 44) hx hb dX0_remember_15 (by decide) (fun c_3 => ?_) (fun c_3 => ?_)
      · have tc_3 : x_2.toInt ≤ i.toInt := v_le c_3
        refine lv_aload_n hx hb dX0_remember_44 rfl (lv_at hl 2 rfl) ?_
        refine va_get (D := (dC, dI)) (ci := 0) (v := .ref g2) (C := RX0) (T := TX0) (N := 4) hx hb hts in_X0 hown hK hP 0 rfl rfl 1 (Nat.le_of_ble_eq_true rfl) (hts (.fieldLink RX0 15 "TextMender$Changes" "keptLength" "[I") (List.mem_of_getElem? (i := 7) rfl)) (fun _ h9 => h9) rfl dX0_remember_45 ?_
        refine lv_aload_n hx hb dX0_remember_48 rfl (lv_at hl 2 rfl) ?_
        refine va_get (D := (dC, dI)) (ci := 0) (v := .int gn) (C := RX0) (T := TX0) (N := 4) hx hb hts in_X0 hown hK hP 0 rfl rfl 2 (Nat.le_of_ble_eq_true rfl) (hts (.fieldLink RX0 18 "TextMender$Changes" "next" "I") (List.mem_of_getElem? (i := 6) rfl)) (fun _ h9 => h9) rfl dX0_remember_49 ?_
        refine lv_iload_n hx hb dX0_remember_52 rfl (lv_at hl 1 rfl) ?_
        obtain ⟨f_4, ef_4⟩ : ∃ g : Nat → Int32, g = upd fG2 (gn : Int32).toNatClampNeg x_2 := ⟨_, rfl⟩
        refine va_iast hx hb hK hP hD hS 2 0 rfl rfl (v_inR g_gn (by decide) (by decide)) dX0_remember_53 (kWf (g := f_4) (F := fun f_4 => [(oG, .inr (0, [.ref g1, .ref g2, .int gn, .int lG])), (g1, .inl (cI, 6000, .inl f2)), (g2, .inl (cI, 20, .inl f_4)), (ax, .inl (cI, 300, .inl fx)), (nx, .inr (5, [.ref ax, .int lx]))]) ef_4 rfl (fun H locs hPn hDn hSn => ?_))
        clear hP hD hS
        have hP := hPn
        have hD := hDn
        have hS := hSn
        clear hPn hDn hSn
        have g_f4 : rg 0 300 f_4 := rg_upd ef_4 g_fG2 (by omega)
        refine lv_aload_n hx hb dX0_remember_54 rfl (lv_at hl 2 rfl) ?_
        refine lv_aload_n hx hb dX0_remember_55 rfl (lv_at hl 2 rfl) ?_
        refine va_get (D := (dC, dI)) (ci := 0) (v := .int gn) (C := RX0) (T := TX0) (N := 4) hx hb hts in_X0 hown hK hP 0 rfl rfl 2 (Nat.le_of_ble_eq_true rfl) (hts (.fieldLink RX0 18 "TextMender$Changes" "next" "I") (List.mem_of_getElem? (i := 6) rfl)) (fun _ h9 => h9) rfl dX0_remember_56 ?_
        refine lv_bipush (v := 19) hx hb dX0_remember_59 (by decide) ?_
        refine lv_icmp_ne (tgt := 68) hx hb dX0_remember_61 (by decide) (fun c_5 => ?_) (fun c_5 => ?_)
        · have tc_5 : ¬ gn.toInt = 19 := v_ne c_5
          refine lv_aload_n hx hb dX0_remember_68 rfl (lv_at hl 2 rfl) ?_
          refine va_get (D := (dC, dI)) (ci := 0) (v := .int gn) (C := RX0) (T := TX0) (N := 4) hx hb hts in_X0 hown hK hP 0 rfl rfl 2 (Nat.le_of_ble_eq_true rfl) (hts (.fieldLink RX0 18 "TextMender$Changes" "next" "I") (List.mem_of_getElem? (i := 6) rfl)) (fun _ h9 => h9) rfl dX0_remember_69 ?_
          refine lv_iconst (v := 1) hx hb dX0_remember_72 (by decide) ?_
          refine lv_iadd hx hb dX0_remember_73 ?_
          refine lv_topi (fun x_6 ex_6 => ?_)
          have tx_6 : x_6.toInt = gn.toInt + 1 := v_addR (l2 := 1) (h2 := 1) ex_6 g_gn (by decide) (by decide) (by decide)
          refine va_put (D := (dC, dI)) (ci := 0) (v := .int x_6) (ty := .int) (C := RX0) (T := TX0) (N := 4) hx hb hts in_X0 tyX0 tyX0_ok nmX0 hown hK hP hD hS 0 rfl rfl 2 (Nat.le_of_ble_eq_true rfl) (hts (.fieldLink RX0 18 "TextMender$Changes" "next" "I") (List.mem_of_getElem? (i := 6) rfl)) (fun _ h9 => h9) rfl (tyX0_ok 2 (Nat.le_of_ble_eq_true rfl)) rfl rfl (Nat.le_of_ble_eq_true rfl) dX0_remember_74 (kW (wn := [(oG, .inr (0, [.ref g1, .ref g2, .int x_6, .int lG])), (g1, .inl (cI, 6000, .inl f2)), (g2, .inl (cI, 20, .inl f_4)), (ax, .inl (cI, 300, .inl fx)), (nx, .inr (5, [.ref ax, .int lx]))]) rfl (fun H locs hPn hDn hSn => ?_))
          clear hP hD hS
          have hP := hPn
          have hD := hDn
          have hS := hSn
          clear hPn hDn hSn
          refine lv_aload_n hx hb dX0_remember_77 rfl (lv_at hl 2 rfl) ?_
          refine lv_aload_n hx hb dX0_remember_78 rfl (lv_at hl 2 rfl) ?_
          refine va_get (D := (dC, dI)) (ci := 0) (v := .int lG) (C := RX0) (T := TX0) (N := 4) hx hb hts in_X0 hown hK hP 0 rfl rfl 3 (Nat.le_of_ble_eq_true rfl) (hts (.fieldLink RX0 22 "TextMender$Changes" "length" "I") (List.mem_of_getElem? (i := 8) rfl)) (fun _ h9 => h9) rfl dX0_remember_79 ?_
          refine lv_iconst (v := 1) hx hb dX0_remember_82 (by decide) ?_
          refine lv_iadd hx hb dX0_remember_83 ?_
          refine lv_topi (fun x_7 ex_7 => ?_)
          have tx_7 : x_7.toInt = lG.toInt + 1 := v_addR (l2 := 1) (h2 := 1) ex_7 g_lG (by decide) (by decide) (by decide)
          refine lv_bipush (v := 20) hx hb dX0_remember_84 (by decide) ?_
          refine va_mmin hx hb (by rw [hml]; exact hl.1.symm) hown (hts (.methodLink RX0 30 Lib.Math.min.name) (List.mem_of_getElem? (i := 1) rfl)) (hts (.static Lib.Math.min.name) (List.mem_of_getElem? (i := 2) rfl)) (hts (.initialized "java/lang/Math") (List.mem_of_getElem? (i := 3) rfl)) (hts (.code Lib.Math.min.name Lib.Math.min.code 2 (some .int)) (List.mem_of_getElem? (i := 4) rfl)) (Nat.le_of_ble_eq_true rfl) (Nat.le_of_ble_eq_true rfl) (Nat.zero_le _) (Nat.zero_le _) dX0_remember_86 ?_
          refine lv_topi (fun x_8 ex_8 => ?_)
          have tx_8 : x_8.toInt ≤ x_7.toInt ∧ x_8.toInt ≤ 20 ∧ (x_8.toInt = x_7.toInt ∨ x_8.toInt = 20) := v_min ex_8
          refine va_put (D := (dC, dI)) (ci := 0) (v := .int x_8) (ty := .int) (C := RX0) (T := TX0) (N := 4) hx hb hts in_X0 tyX0 tyX0_ok nmX0 hown hK hP hD hS 0 rfl rfl 3 (Nat.le_of_ble_eq_true rfl) (hts (.fieldLink RX0 22 "TextMender$Changes" "length" "I") (List.mem_of_getElem? (i := 8) rfl)) (fun _ h9 => h9) rfl (tyX0_ok 3 (Nat.le_of_ble_eq_true rfl)) rfl rfl (Nat.le_of_ble_eq_true rfl) dX0_remember_89 (kW (wn := [(oG, .inr (0, [.ref g1, .ref g2, .int x_6, .int x_8])), (g1, .inl (cI, 6000, .inl f2)), (g2, .inl (cI, 20, .inl f_4)), (ax, .inl (cI, 300, .inl fx)), (nx, .inr (5, [.ref ax, .int lx]))]) rfl (fun H locs hPn hDn hSn => ?_))
          clear hP hD hS
          have hP := hPn
          have hD := hDn
          have hS := hSn
          clear hPn hDn hSn
          exact kl_v hQQ hx hb hr hlocks hS dX0_remember_92 (fun PZ9 kZ9 => kZ9 x_6 x_8 f2 f_4 (kPD_sub hP hD [0, 1, 2, 4, 3] (by decide +kernel) rfl) (by omega) (by omega) (g_f4) (⟨CPB_n hcb (by omega), ⟨x_2, by omega, ef_4⟩, by first | omega | (show (0 : Int) = _; omega), by omega⟩))
        · have tc_5 : gn.toInt = 19 := v_eq c_5
          refine lv_iconst (v := 0) hx hb dX0_remember_64 (by decide) ?_
          refine lv_goto (tgt := 74) hx hb dX0_remember_65 (by decide) ?_
          refine va_put (D := (dC, dI)) (ci := 0) (v := .int 0) (ty := .int) (C := RX0) (T := TX0) (N := 4) hx hb hts in_X0 tyX0 tyX0_ok nmX0 hown hK hP hD hS 0 rfl rfl 2 (Nat.le_of_ble_eq_true rfl) (hts (.fieldLink RX0 18 "TextMender$Changes" "next" "I") (List.mem_of_getElem? (i := 6) rfl)) (fun _ h9 => h9) rfl (tyX0_ok 2 (Nat.le_of_ble_eq_true rfl)) rfl rfl (Nat.le_of_ble_eq_true rfl) dX0_remember_74 (kW (wn := [(oG, .inr (0, [.ref g1, .ref g2, .int 0, .int lG])), (g1, .inl (cI, 6000, .inl f2)), (g2, .inl (cI, 20, .inl f_4)), (ax, .inl (cI, 300, .inl fx)), (nx, .inr (5, [.ref ax, .int lx]))]) rfl (fun H locs hPn hDn hSn => ?_))
          clear hP hD hS
          have hP := hPn
          have hD := hDn
          have hS := hSn
          clear hPn hDn hSn
          refine lv_aload_n hx hb dX0_remember_77 rfl (lv_at hl 2 rfl) ?_
          refine lv_aload_n hx hb dX0_remember_78 rfl (lv_at hl 2 rfl) ?_
          refine va_get (D := (dC, dI)) (ci := 0) (v := .int lG) (C := RX0) (T := TX0) (N := 4) hx hb hts in_X0 hown hK hP 0 rfl rfl 3 (Nat.le_of_ble_eq_true rfl) (hts (.fieldLink RX0 22 "TextMender$Changes" "length" "I") (List.mem_of_getElem? (i := 8) rfl)) (fun _ h9 => h9) rfl dX0_remember_79 ?_
          refine lv_iconst (v := 1) hx hb dX0_remember_82 (by decide) ?_
          refine lv_iadd hx hb dX0_remember_83 ?_
          refine lv_topi (fun x_9 ex_9 => ?_)
          have tx_9 : x_9.toInt = lG.toInt + 1 := v_addR (l2 := 1) (h2 := 1) ex_9 g_lG (by decide) (by decide) (by decide)
          refine lv_bipush (v := 20) hx hb dX0_remember_84 (by decide) ?_
          refine va_mmin hx hb (by rw [hml]; exact hl.1.symm) hown (hts (.methodLink RX0 30 Lib.Math.min.name) (List.mem_of_getElem? (i := 1) rfl)) (hts (.static Lib.Math.min.name) (List.mem_of_getElem? (i := 2) rfl)) (hts (.initialized "java/lang/Math") (List.mem_of_getElem? (i := 3) rfl)) (hts (.code Lib.Math.min.name Lib.Math.min.code 2 (some .int)) (List.mem_of_getElem? (i := 4) rfl)) (Nat.le_of_ble_eq_true rfl) (Nat.le_of_ble_eq_true rfl) (Nat.zero_le _) (Nat.zero_le _) dX0_remember_86 ?_
          refine lv_topi (fun x_10 ex_10 => ?_)
          have tx_10 : x_10.toInt ≤ x_9.toInt ∧ x_10.toInt ≤ 20 ∧ (x_10.toInt = x_9.toInt ∨ x_10.toInt = 20) := v_min ex_10
          refine va_put (D := (dC, dI)) (ci := 0) (v := .int x_10) (ty := .int) (C := RX0) (T := TX0) (N := 4) hx hb hts in_X0 tyX0 tyX0_ok nmX0 hown hK hP hD hS 0 rfl rfl 3 (Nat.le_of_ble_eq_true rfl) (hts (.fieldLink RX0 22 "TextMender$Changes" "length" "I") (List.mem_of_getElem? (i := 8) rfl)) (fun _ h9 => h9) rfl (tyX0_ok 3 (Nat.le_of_ble_eq_true rfl)) rfl rfl (Nat.le_of_ble_eq_true rfl) dX0_remember_89 (kW (wn := [(oG, .inr (0, [.ref g1, .ref g2, .int 0, .int x_10])), (g1, .inl (cI, 6000, .inl f2)), (g2, .inl (cI, 20, .inl f_4)), (ax, .inl (cI, 300, .inl fx)), (nx, .inr (5, [.ref ax, .int lx]))]) rfl (fun H locs hPn hDn hSn => ?_))
          clear hP hD hS
          have hP := hPn
          have hD := hDn
          have hS := hSn
          clear hPn hDn hSn
          exact kl_v hQQ hx hb hr hlocks hS dX0_remember_92 (fun PZ9 kZ9 => kZ9 0 x_10 f2 f_4 (kPD_sub hP hD [0, 1, 2, 4, 3] (by decide +kernel) rfl) (by decide) (by omega) (g_f4) (⟨CPB_n hcb (by omega), ⟨x_2, by omega, ef_4⟩, by first | omega | (show (0 : Int) = _; omega), by omega⟩))
      · have tc_3 : i.toInt < x_2.toInt := v_nle c_3
        refine lv_aload_n hx hb dX0_remember_18 rfl (lv_at hl 2 rfl) ?_
        refine va_get (D := (dC, dI)) (ci := 0) (v := .ref g1) (C := RX0) (T := TX0) (N := 4) hx hb hts in_X0 hown hK hP 0 rfl rfl 0 (Nat.le_of_ble_eq_true rfl) (hts (.fieldLink RX0 11 "TextMender$Changes" "kept" "[I") (List.mem_of_getElem? (i := 5) rfl)) (fun _ h9 => h9) rfl dX0_remember_19 ?_
        refine lv_aload_n hx hb dX0_remember_22 rfl (lv_at hl 2 rfl) ?_
        refine va_get (D := (dC, dI)) (ci := 0) (v := .int gn) (C := RX0) (T := TX0) (N := 4) hx hb hts in_X0 hown hK hP 0 rfl rfl 2 (Nat.le_of_ble_eq_true rfl) (hts (.fieldLink RX0 18 "TextMender$Changes" "next" "I") (List.mem_of_getElem? (i := 6) rfl)) (fun _ h9 => h9) rfl dX0_remember_23 ?_
        refine lv_sipush (v := 300) hx hb dX0_remember_26 (by decide) ?_
        refine lv_imul hx hb dX0_remember_29 ?_
        refine lv_topi (fun x_11 ex_11 => ?_)
        have tx_11 : x_11.toInt = gn.toInt * 300 := v_mul ex_11 (by show -2147483648 ≤ gn.toInt * 300; omega) (by show gn.toInt * 300 < 2147483648; omega)
        refine lv_iload_n hx hb dX0_remember_30 rfl (lv_at hl 0 rfl) ?_
        refine lv_iadd hx hb dX0_remember_31 ?_
        refine lv_topi (fun x_12 ex_12 => ?_)
        have tx_12 : x_12.toInt = x_11.toInt + i.toInt := v_add ex_12 (by show -2147483648 ≤ x_11.toInt + i.toInt; omega) (by show x_11.toInt + i.toInt < 2147483648; omega)
        refine lv_aload_n hx hb dX0_remember_32 rfl (lv_at hl 3 rfl) ?_
        refine lv_iload_n hx hb dX0_remember_33 rfl (lv_at hl 0 rfl) ?_
        refine kV_i (rest := [.int x_12, .ref g1]) (q0 := 0) (ci := 5) hcf (m_X5_get l dC dI cI cS H.size nx ax 300 lx fx i (by omega) (by omega)) kc_X5_get gX0_remember_X5_get rfl rfl rfl ⟨Nat.le_of_ble_eq_true rfl, Nat.le_of_ble_eq_true rfl⟩ kX_t hK hP hD hS hA [4, 3] [0, 1, 2] rfl (by decide +kernel) rfl rfl rfl hl rfl (Nat.le_of_ble_eq_true rfl) dX0_remember_34 ⟨Nat.le_of_ble_eq_true rfl, Nat.le_of_ble_eq_true rfl⟩ (fun r_13 H locs hB hJ hSn => ?_)
        refine hB _ (fun hPD9 hf13_0 => ?_)
        clear hB
        obtain ⟨hPn, hDn⟩ := hJ _ hPD9.1 hPD9.2 [(oG, .inr (0, [.ref g1, .ref g2, .int gn, .int lG])), (g1, .inl (cI, 6000, .inl f2)), (g2, .inl (cI, 20, .inl fG2)), (nx, .inr (5, [.ref ax, .int lx])), (ax, .inl (cI, 300, .inl fx))] rfl
        clear hP hD hS hJ hPD9
        have hP := hPn
        have hD := hDn
        have hS := hSn
        clear hPn hDn hSn
        have hg13 : r_13 = fx i.toNatClampNeg := F_get_f hf13_0 (by omega) (by omega)
        obtain ⟨f_14, ef_14⟩ : ∃ g : Nat → Int32, g = upd f2 (x_12 : Int32).toNatClampNeg r_13 := ⟨_, rfl⟩
        refine va_iast hx hb hK hP hD hS 1 0 rfl rfl (v_in (by omega)) dX0_remember_37 (kWf (g := f_14) (F := fun f_14 => [(oG, .inr (0, [.ref g1, .ref g2, .int gn, .int lG])), (g1, .inl (cI, 6000, .inl f_14)), (g2, .inl (cI, 20, .inl fG2)), (nx, .inr (5, [.ref ax, .int lx])), (ax, .inl (cI, 300, .inl fx))]) ef_14 rfl (fun H locs hPn hDn hSn => ?_))
        clear hP hD hS
        have hP := hPn
        have hD := hDn
        have hS := hSn
        clear hPn hDn hSn
        obtain ⟨x_15, ex_15⟩ : ∃ y : Int32, y = i + 1 := ⟨_, rfl⟩
        have tx_15 : x_15.toInt = i.toInt + 1 := v_addR (l2 := 1) (h2 := 1) ex_15 g_i (by decide) (by decide) (by decide)
        refine lv_iinc (v := x_15) (lv' := [(3, .int x_15), (2, .int x_2), (0, .ref oG), (1, .ref nx)]) hx hb dX0_remember_38 hl (k := 0) rfl (by rw [ex_15]; rfl) (by decide) rfl (fun ls hl => ?_)
        refine lv_goto (tgt := 13) hx hb dX0_remember_41 (by decide) ?_
        exact ih_13 x_15 f_14 _ _ _ (ms_lt hm_13 (by show ((300 - x_15.toInt : Int)) < 300 - i.toInt; omega) (by show (0 : Int) < 300 - i.toInt; omega)) (by show 0 ≤ x_15.toInt ∧ x_15.toInt ≤ 300; omega) (by show x_15.toInt ≤ lx.toInt; omega) (CPB_s hcb (by omega) (by omega) hg13 ef_14 (by omega) (by omega)) (hP.sub [0, 1, 2, 4, 3] rfl) (hD.sub [0, 1, 2, 4, 3] (by decide +kernel) rfl) hS (lv_sub hl [0, 1, 2, 3] rfl)
  exact LOOP_13 _ 0 fG1 _ _ _ (ms_s _) (by decide) (by show 0 ≤ lx.toInt; omega) (CPB_0 (by decide)) hP hD hS (lv_sub hl [0, 1, 2, 3] rfl)

set_option maxHeartbeats 40000000 in
set_option maxRecDepth 100000 in
theorem f_X11_bec (l : Launch) (dC : Nat → ClassId) (dI : Nat → Nat → Nat) (cI cS : ClassId) (sz : Nat) (oX : Nat) (nM : Nat) (nT : Nat) (nL : Nat) (oC : Nat) (oP : Nat) (oH : Nat) (oK : Nat) (oG : Nat) (oR : Nat) (oQ : Nat) (oW : Nat) (aL : Nat) (aM : Nat) (g1 : Nat) (g2 : Nat) (nw : Nat) (w1 : Nat) (w2 : Nat) (w3 : Nat) (o7 : Nat) (o8 : Nat) (o9 : Nat) (w4 : Nat) (w5 : Nat) (w6 : Nat) (w7 : Nat) (fa : Int32) (lL : Int32) (fL : Nat → Int32) (lM : Int32) (fM : Nat → Int32) (gn : Int32) (lG : Int32) (fG1 : Nat → Int32) (fG2 : Nat → Int32) (ke : Int32) (tl : Int32) (fsh : Int32) (wi : Int32) (ri : Int32) (fm : Int32) (lm : Int32) (g_lL : 0 ≤ lL.toInt ∧ lL.toInt ≤ 300) (g_lM : 0 ≤ lM.toInt ∧ lM.toInt ≤ 300) (g_gn : 0 ≤ gn.toInt ∧ gn.toInt ≤ 19) (g_lG : 0 ≤ lG.toInt ∧ lG.toInt ≤ 20) (g_fG2 : rg 0 300 fG2) (g_ke : 0 ≤ ke.toInt ∧ ke.toInt ≤ 200) (g_fsh : 0 ≤ fsh.toInt ∧ fsh.toInt ≤ 1) (g_fm : -1 ≤ fm.toInt ∧ fm.toInt ≤ 800) (g_lm : -1 ≤ lm.toInt ∧ lm.toInt ≤ 800) : kMi l yX11_become wsX11_become ({ frames := 3, cells := 0, slots := 0, locals := 90 } : Room) [.ref oX, .ref nM] sz (dC, dI) vwCl [(cI, .int), (cS, .short)] [(oX, .inr (11, [.ref nT, .ref nL, .ref nM, .ref oC, .ref oP, .ref oH, .ref oK, .ref oG, .ref oR, .ref oQ, .ref oW, .int fa])), (nL, .inr (5, [.ref aL, .int lL])), (aL, .inl (cI, 300, .inl fL)), (nM, .inr (5, [.ref aM, .int lM])), (aM, .inl (cI, 300, .inl fM)), (oG, .inr (0, [.ref g1, .ref g2, .int gn, .int lG])), (g1, .inl (cI, 6000, .inl fG1)), (g2, .inl (cI, 20, .inl fG2)), (oW, .inr (1, [.ref oC, .ref oK, .ref nw, .ref w1, .ref w2, .ref w3, .ref o7, .ref o8, .ref o9, .ref w4, .ref w5, .ref w6, .ref w7, .int ke, .int tl, .int fsh, .int wi, .int ri, .int fm, .int lm]))] (fun _ => True) 0 0 (fun (A : Nat → Prop) (r : Int32) (hh9 : Heap) => ∀ PZ9 : Prop, (∀ (lL' : Int32) (fL' : Nat → Int32) (fsh' : Int32) (gn' : Int32) (lG' : Int32) (fG1' : Nat → Int32) (fG2' : Nat → Int32), kPD (dC, dI) vwCl A [(oX, .inr (11, [.ref nT, .ref nL, .ref nM, .ref oC, .ref oP, .ref oH, .ref oK, .ref oG, .ref oR, .ref oQ, .ref oW, .int fa])), (nL, .inr (5, [.ref aL, .int lL'])), (aL, .inl (cI, 300, .inl fL')), (nM, .inr (5, [.ref aM, .int lM])), (aM, .inl (cI, 300, .inl fM)), (oG, .inr (0, [.ref g1, .ref g2, .int gn', .int lG'])), (g1, .inl (cI, 6000, .inl fG1')), (g2, .inl (cI, 20, .inl fG2')), (oW, .inr (1, [.ref oC, .ref oK, .ref nw, .ref w1, .ref w2, .ref w3, .ref o7, .ref o8, .ref o9, .ref w4, .ref w5, .ref w6, .ref w7, .int ke, .int tl, .int fsh', .int wi, .int ri, .int fm, .int lm]))] hh9 → (0 ≤ lL'.toInt ∧ lL'.toInt ≤ 300) → (0 ≤ fsh'.toInt ∧ fsh'.toInt ≤ 1) → (0 ≤ gn'.toInt ∧ gn'.toInt ≤ 19) → (0 ≤ lG'.toInt ∧ lG'.toInt ≤ 20) → (rg 0 300 fG2') → (r.toInt = lM.toInt) → (F_bC gn gn' lG lG' lL lL' lM fG1 fG1' fG2 fG2' fL fL' fM) → (fsh' = 0) → PZ9) → PZ9) := by
  refine kMi_of (cc := cX11_become) (maxL := 2) (ret := (some .int)) (lv := [(0, .ref oX), (1, .ref nM)]) (by decide +kernel) rfl rfl (Nat.le_of_ble_eq_true rfl) ?_
  intro p e s m below meth c A QQ ls hx hb hr hts hml hown hlocks hA hQQ hK hX hP hD hS hl
  have hown : s.vm.findClass RX11 = some m.cls := hown
  have hcf := k_cf hx hb hml hown hts
  have in_X11 : ∀ w ∈ wsX110, w ∈ wsX11_become := fun _ h => List.mem_cons_of_mem _ (List.mem_append_left _ (List.mem_append_left _ (List.mem_append_left _ (List.mem_append_left _ (List.mem_append_left _ (List.mem_append_left _ (List.mem_append_left _ (List.mem_append_right _ (h)))))))))
  replace g_ke := hid g_ke
  replace g_fsh := hid g_fsh
  replace g_fm := hid g_fm
  replace g_lm := hid g_lm
  refine lv_aload_n hx hb dX11_become_0 rfl (lv_at hl 0 rfl) ?_
  refine va_get (D := (dC, dI)) (ci := 11) (v := .ref oG) (C := RX11) (T := TX11) (N := 12) hx hb hts in_X11 hown hK hP 0 rfl rfl 7 (Nat.le_of_ble_eq_true rfl) (hts (.fieldLink RX11 59 "TextMender" "changes" "LTextMender$Changes;") (List.mem_of_getElem? (i := 1) rfl)) (fun _ h9 => h9) rfl dX11_become_1 ?_
  refine lv_aload_n hx hb dX11_become_4 rfl (lv_at hl 0 rfl) ?_
  refine va_get (D := (dC, dI)) (ci := 11) (v := .ref nL) (C := RX11) (T := TX11) (N := 12) hx hb hts in_X11 hown hK hP 0 rfl rfl 1 (Nat.le_of_ble_eq_true rfl) (hts (.fieldLink RX11 34 "TextMender" "letters" "LTextMender$Numbers;") (List.mem_of_getElem? (i := 2) rfl)) (fun _ h9 => h9) rfl dX11_become_5 ?_
  refine kV_v (rest := []) (q0 := 0) (ci := 0) hcf (f_X0_remember l dC dI cI cS s.heap.size oG nL g1 g2 aL gn lG fG1 fG2 lL fL (g_gn) (g_lG) (g_fG2) (g_lL)) kc_X0_remember gX11_become_X0_remember rfl rfl rfl ⟨Nat.le_of_ble_eq_true rfl, Nat.le_of_ble_eq_true rfl⟩ kX_t hK hP hD hS hA ([2, 3, 4, 0, 1].filterMap (fun j => (posT mk_96 0)[j]?)) (posF mk_96 0) (kCp (ws := [(nL, .inr (5, [.ref aL, .int lL])), (aL, .inl (cI, 300, .inl fL)), (oG, .inr (0, [.ref g1, .ref g2, .int gn, .int lG])), (g1, .inl (cI, 6000, .inl fG1)), (g2, .inl (cI, 20, .inl fG2))]) (kC_of mk_96 rfl rfl) rfl) (by decide +kernel) rfl rfl rfl hl rfl (Nat.le_of_ble_eq_true rfl) dX11_become_8 ⟨Nat.le_of_ble_eq_true rfl, Nat.le_of_ble_eq_true rfl⟩ (fun H locs hB hJ hSn => ?_)
  refine hB _ (fun gn_1 lG_1 fG1_1 fG2_1 hPD9 hf1_0 hf1_1 hf1_2 hf1_3 => ?_)
  clear hB
  obtain ⟨hPn, hDn⟩ := kJm (m := mk_96) hJ rfl hPD9.1 hPD9.2 [3, 4, 0, 1, 2] (by decide +kernel) (ws := [(nL, .inr (5, [.ref aL, .int lL])), (aL, .inl (cI, 300, .inl fL)), (oG, .inr (0, [.ref g1, .ref g2, .int gn_1, .int lG_1])), (g1, .inl (cI, 6000, .inl fG1_1)), (g2, .inl (cI, 20, .inl fG2_1))]) rfl (wn := [(oX, .inr (11, [.ref nT, .ref nL, .ref nM, .ref oC, .ref oP, .ref oH, .ref oK, .ref oG, .ref oR, .ref oQ, .ref oW, .int fa])), (nL, .inr (5, [.ref aL, .int lL])), (aL, .inl (cI, 300, .inl fL)), (nM, .inr (5, [.ref aM, .int lM])), (aM, .inl (cI, 300, .inl fM)), (oG, .inr (0, [.ref g1, .ref g2, .int gn_1, .int lG_1])), (g1, .inl (cI, 6000, .inl fG1_1)), (g2, .inl (cI, 20, .inl fG2_1)), (oW, .inr (1, [.ref oC, .ref oK, .ref nw, .ref w1, .ref w2, .ref w3, .ref o7, .ref o8, .ref o9, .ref w4, .ref w5, .ref w6, .ref w7, .int ke, .int tl, .int fsh, .int wi, .int ri, .int fm, .int lm]))]) rfl
  clear hP hD hS hJ hPD9
  have hP := hPn
  have hD := hDn
  have hS := hSn
  clear hPn hDn hSn
  refine lv_aload_n hx hb dX11_become_11 rfl (lv_at hl 0 rfl) ?_
  refine va_get (D := (dC, dI)) (ci := 11) (v := .ref nL) (C := RX11) (T := TX11) (N := 12) hx hb hts in_X11 hown hK hP 0 rfl rfl 1 (Nat.le_of_ble_eq_true rfl) (hts (.fieldLink RX11 34 "TextMender" "letters" "LTextMender$Numbers;") (List.mem_of_getElem? (i := 2) rfl)) (fun _ h9 => h9) rfl dX11_become_12 ?_
  refine lv_aload_n hx hb dX11_become_15 rfl (lv_at hl 1 rfl) ?_
  refine kV_i (rest := []) (q0 := 0) (ci := 5) hcf (m_X5_takeAll l dC dI cI cS H.size nL nM aL aM 300 300 lL fL lM fM (by omega) (by omega) (by omega) (by omega)) kc_X5_takeAll gX11_become_X5_takeAll rfl rfl rfl ⟨Nat.le_of_ble_eq_true rfl, Nat.le_of_ble_eq_true rfl⟩ kX_t hK hP hD hS hA (posT mk_97 0) (posF mk_97 0) (kC_of mk_97 rfl rfl) (by decide +kernel) rfl rfl rfl hl rfl (Nat.le_of_ble_eq_true rfl) dX11_become_16 ⟨Nat.le_of_ble_eq_true rfl, Nat.le_of_ble_eq_true rfl⟩ (fun r_2 H locs hB hJ hSn => ?_)
  refine hB _ (fun lu_2 fu_2 hPD9 hf2_0 hf2_1 hf2_2 => ?_)
  clear hB
  obtain ⟨hPn, hDn⟩ := kJi (m := mk_97) hJ rfl hPD9.1 hPD9.2 (wn := [(oX, .inr (11, [.ref nT, .ref nL, .ref nM, .ref oC, .ref oP, .ref oH, .ref oK, .ref oG, .ref oR, .ref oQ, .ref oW, .int fa])), (nL, .inr (5, [.ref aL, .int lu_2])), (aL, .inl (cI, 300, .inl fu_2)), (nM, .inr (5, [.ref aM, .int lM])), (aM, .inl (cI, 300, .inl fM)), (oG, .inr (0, [.ref g1, .ref g2, .int gn_1, .int lG_1])), (g1, .inl (cI, 6000, .inl fG1_1)), (g2, .inl (cI, 20, .inl fG2_1)), (oW, .inr (1, [.ref oC, .ref oK, .ref nw, .ref w1, .ref w2, .ref w3, .ref o7, .ref o8, .ref o9, .ref w4, .ref w5, .ref w6, .ref w7, .int ke, .int tl, .int fsh, .int wi, .int ri, .int fm, .int lm]))]) rfl
  clear hP hD hS hJ hPD9
  have hP := hPn
  have hD := hDn
  have hS := hSn
  clear hPn hDn hSn
  have ha2 : lu_2.toInt = lM.toInt := (addAll_cp hf2_2 (by omega) (by omega)).1
  refine lv_pop hx hb dX11_become_19 rfl ?_
  refine lv_aload_n hx hb dX11_become_20 rfl (lv_at hl 0 rfl) ?_
  refine va_get (D := (dC, dI)) (ci := 11) (v := .ref oW) (C := RX11) (T := TX11) (N := 12) hx hb hts in_X11 hown hK hP 0 rfl rfl 10 (Nat.le_of_ble_eq_true rfl) (hts (.fieldLink RX11 86 "TextMender" "choiceBook" "LTextMender$Choices;") (List.mem_of_getElem? (i := 3) rfl)) (fun _ h9 => h9) rfl dX11_become_21 ?_
  refine kV_v (rest := []) (q0 := 0) (ci := 1) hcf (f_X1_forgetFreshness l dC dI cI cS H.size oW oC oK nw w1 w2 w3 o7 o8 o9 w4 w5 w6 w7 ke tl fsh wi ri fm lm (g_ke) (g_fsh) (g_fm) (g_lm)) kc_X1_forgetFreshness gX11_become_X1_forgetFreshness rfl rfl rfl ⟨Nat.le_of_ble_eq_true rfl, Nat.le_of_ble_eq_true rfl⟩ kX_t hK hP hD hS hA (posT mk_98 0) (posF mk_98 0) (kC_of mk_98 rfl rfl) (by decide +kernel) rfl rfl rfl hl rfl (Nat.le_of_ble_eq_true rfl) dX11_become_24 ⟨Nat.le_of_ble_eq_true rfl, Nat.le_of_ble_eq_true rfl⟩ (fun H locs hB hJ hSn => ?_)
  refine hB _ (fun fsh_3 hPD9 hf3_0 hf3_1 => ?_)
  clear hB
  obtain ⟨hPn, hDn⟩ := kJi (m := mk_98) hJ rfl hPD9.1 hPD9.2 (wn := [(oX, .inr (11, [.ref nT, .ref nL, .ref nM, .ref oC, .ref oP, .ref oH, .ref oK, .ref oG, .ref oR, .ref oQ, .ref oW, .int fa])), (nL, .inr (5, [.ref aL, .int lu_2])), (aL, .inl (cI, 300, .inl fu_2)), (nM, .inr (5, [.ref aM, .int lM])), (aM, .inl (cI, 300, .inl fM)), (oG, .inr (0, [.ref g1, .ref g2, .int gn_1, .int lG_1])), (g1, .inl (cI, 6000, .inl fG1_1)), (g2, .inl (cI, 20, .inl fG2_1)), (oW, .inr (1, [.ref oC, .ref oK, .ref nw, .ref w1, .ref w2, .ref w3, .ref o7, .ref o8, .ref o9, .ref w4, .ref w5, .ref w6, .ref w7, .int ke, .int tl, .int fsh_3, .int wi, .int ri, .int fm, .int lm]))]) rfl
  clear hP hD hS hJ hPD9
  have hP := hPn
  have hD := hDn
  have hS := hSn
  clear hPn hDn hSn
  refine lv_aload_n hx hb dX11_become_27 rfl (lv_at hl 0 rfl) ?_
  refine va_get (D := (dC, dI)) (ci := 11) (v := .ref nL) (C := RX11) (T := TX11) (N := 12) hx hb hts in_X11 hown hK hP 0 rfl rfl 1 (Nat.le_of_ble_eq_true rfl) (hts (.fieldLink RX11 34 "TextMender" "letters" "LTextMender$Numbers;") (List.mem_of_getElem? (i := 2) rfl)) (fun _ h9 => h9) rfl dX11_become_28 ?_
  refine kV_i (rest := []) (q0 := 0) (ci := 5) hcf (m_X5_length l dC dI cI cS H.size nL aL lu_2 ) kc_X5_length gX11_become_X5_length rfl rfl rfl ⟨Nat.le_of_ble_eq_true rfl, Nat.le_of_ble_eq_true rfl⟩ kX_t hK hP hD hS hA (posT mk_99 0) (posF mk_99 0) (kC_of mk_99 rfl rfl) (by decide +kernel) rfl rfl rfl hl rfl (Nat.le_of_ble_eq_true rfl) dX11_become_31 ⟨Nat.le_of_ble_eq_true rfl, Nat.le_of_ble_eq_true rfl⟩ (fun r_4 H locs hB hJ hSn => ?_)
  refine hB _ (fun hPD9 hf4_0 => ?_)
  clear hB
  obtain ⟨hPn, hDn⟩ := kJi (m := mk_99) hJ rfl hPD9.1 hPD9.2 (wn := [(oX, .inr (11, [.ref nT, .ref nL, .ref nM, .ref oC, .ref oP, .ref oH, .ref oK, .ref oG, .ref oR, .ref oQ, .ref oW, .int fa])), (nL, .inr (5, [.ref aL, .int lu_2])), (aL, .inl (cI, 300, .inl fu_2)), (nM, .inr (5, [.ref aM, .int lM])), (aM, .inl (cI, 300, .inl fM)), (oG, .inr (0, [.ref g1, .ref g2, .int gn_1, .int lG_1])), (g1, .inl (cI, 6000, .inl fG1_1)), (g2, .inl (cI, 20, .inl fG2_1)), (oW, .inr (1, [.ref oC, .ref oK, .ref nw, .ref w1, .ref w2, .ref w3, .ref o7, .ref o8, .ref o9, .ref w4, .ref w5, .ref w6, .ref w7, .int ke, .int tl, .int fsh_3, .int wi, .int ri, .int fm, .int lm]))]) rfl
  clear hP hD hS hJ hPD9
  have hP := hPn
  have hD := hDn
  have hS := hSn
  clear hPn hDn hSn
  rw [hf4_0]
  exact kl_i (v := lu_2) hQQ hx hb hr hlocks hS dX11_become_34 (fun PZ9 kZ9 => kZ9 lu_2 fu_2 fsh_3 gn_1 lG_1 fG1_1 fG2_1 (⟨hP, hD⟩) (by omega) (hf3_0) (hf1_0) (hf1_1) (hf1_2) (by show lu_2.toInt = lM.toInt; omega) (⟨hf1_3, (addAll_cp hf2_2 (by omega) (by omega)).1, (addAll_cp hf2_2 (by omega) (by omega)).2⟩) (hf3_1))

def tbk (i b : Int) (l : Int32) (f f1 : Nat → Int32) : Prop := l.toInt = i ∧ ∀ j : Nat, (j : Int) < i → f j = f1 (b.toNat + j)
theorem tbk_s {b : Int} {i i' l l' r a x : Int32} {f f' f1 : Nat → Int32} (h : tbk i.toInt b l f f1) (ex : x = f1 a.toNatClampNeg) (ha : F_add 300 l l' r f f' x) (hi : 0 ≤ i.toInt) (h3 : i.toInt < 300) (hb : 0 ≤ b) (hx : a.toInt = b + i.toInt) (hi' : i'.toInt = i.toInt + 1) : tbk i'.toInt b l' f' f1 := by
  obtain ⟨a1, a2⟩ := h
  have c : l.toNatClampNeg = i.toInt.toNat := ix_eq (by omega)
  have ca : a.toNatClampNeg = b.toNat + i.toInt.toNat := ix_eq (by omega)
  refine ⟨by rw [F_add_l ha (by omega)]; omega, fun j hj => ?_⟩
  rw [F_add_f ha (by omega), c]
  by_cases z : j = i.toInt.toNat
  · rw [z, pk_us, ex, ca]
  · rw [pk_un z]; exact a2 j (by omega)
theorem tb_of {r gn gn' lG lG' l l' i x : Int32} {f1 f2 f f' : Nat → Int32} (hr : r.toInt = 1) (h1 : 1 ≤ lG.toInt) (h2 : lG'.toInt = lG.toInt - 1) (h3 : gn'.toInt = (gn.toInt + 19) % 20) (h4 : 0 ≤ gn'.toInt) (ex : x = f2 gn'.toNatClampNeg) (h : tbk i.toInt (300 * gn'.toInt) l' f' f1) (hi : i.toInt = x.toInt) : F_tbC r gn gn' lG lG' l l' f1 f2 f f' := by
  have c := v_clamp h4
  refine Or.inl ⟨hr, h1, h2, h3, by rw [h.1, ← ex]; exact hi, fun j hj => ?_⟩
  have q := h.2 j (by rw [← h.1]; exact hj)
  have e : (300 * gn'.toInt).toNat = 300 * gn'.toNatClampNeg := by omega
  rw [e] at q
  exact q

set_option maxHeartbeats 40000000 in
set_option maxRecDepth 100000 in
theorem f_X0_takeBack (l : Launch) (dC : Nat → ClassId) (dI : Nat → Nat → Nat) (cI cS : ClassId) (sz : Nat) (oG : Nat) (nd : Nat) (g1 : Nat) (g2 : Nat) (ad : Nat) (gn : Int32) (lG : Int32) (fG1 : Nat → Int32) (fG2 : Nat → Int32) (ld : Int32) (fd : Nat → Int32) (g_gn : 0 ≤ gn.toInt ∧ gn.toInt ≤ 19) (g_lG : 0 ≤ lG.toInt ∧ lG.toInt ≤ 20) (g_fG2 : rg 0 300 fG2) (g_ld : 0 ≤ ld.toInt ∧ ld.toInt ≤ 300) : kMi l yX0_takeBack wsX0_takeBack ({ frames := 1, cells := 0, slots := 0, locals := 21 } : Room) [.ref oG, .ref nd] sz (dC, dI) vwCl [(cI, .int), (cS, .short)] [(oG, .inr (0, [.ref g1, .ref g2, .int gn, .int lG])), (g1, .inl (cI, 6000, .inl fG1)), (g2, .inl (cI, 20, .inl fG2)), (nd, .inr (5, [.ref ad, .int ld])), (ad, .inl (cI, 300, .inl fd))] (fun _ => True) 0 0 (fun (A : Nat → Prop) (r : Int32) (hh9 : Heap) => ∀ PZ9 : Prop, (∀ (gn' : Int32) (lG' : Int32) (ld' : Int32) (fd' : Nat → Int32), kPD (dC, dI) vwCl A [(oG, .inr (0, [.ref g1, .ref g2, .int gn', .int lG'])), (g1, .inl (cI, 6000, .inl fG1)), (g2, .inl (cI, 20, .inl fG2)), (nd, .inr (5, [.ref ad, .int ld'])), (ad, .inl (cI, 300, .inl fd'))] hh9 → (0 ≤ gn'.toInt ∧ gn'.toInt ≤ 19) → (0 ≤ lG'.toInt ∧ lG'.toInt ≤ 20) → (0 ≤ ld'.toInt ∧ ld'.toInt ≤ 300) → (0 ≤ r.toInt ∧ r.toInt ≤ 1) → (F_tbC r gn gn' lG lG' ld ld' fG1 fG2 fd fd') → PZ9) → PZ9) := by
  refine kMi_of (cc := cX0_takeBack) (maxL := 3) (ret := (some .boolean)) (lv := [(0, .ref oG), (1, .ref nd)]) (by decide +kernel) rfl rfl (Nat.le_of_ble_eq_true rfl) ?_
  intro p e s m below meth c A QQ ls hx hb hr hts hml hown hlocks hA hQQ hK hX hP hD hS hl
  have hown : s.vm.findClass RX0 = some m.cls := hown
  have hcf := k_cf hx hb hml hown hts
  have in_X0 : ∀ w ∈ wsX00, w ∈ wsX0_takeBack := fun _ h => List.mem_cons_of_mem _ (List.mem_append_left _ (List.mem_append_left _ (List.mem_append_left _ (List.mem_append_right _ (h)))))
  have z19 : (19 : Int32).toInt = 19 := rfl
  have z0 : (0 : Int32).toInt = 0 := rfl
  refine lv_aload_n hx hb dX0_takeBack_0 rfl (lv_at hl 0 rfl) ?_
  refine va_get (D := (dC, dI)) (ci := 0) (v := .int lG) (C := RX0) (T := TX0) (N := 4) hx hb hts in_X0 hown hK hP 0 rfl rfl 3 (Nat.le_of_ble_eq_true rfl) (hts (.fieldLink RX0 22 "TextMender$Changes" "length" "I") (List.mem_of_getElem? (i := 1) rfl)) (fun _ h9 => h9) rfl dX0_takeBack_1 ?_
  refine lv_if_ne (tgt := 9) hx hb dX0_takeBack_4 (by decide) (fun c_1 => ?_) (fun c_1 => ?_)
  · have tc_1 : ¬ lG.toInt = 0 := v_ne c_1
    refine lv_aload_n hx hb dX0_takeBack_9 rfl (lv_at hl 0 rfl) ?_
    refine lv_aload_n hx hb dX0_takeBack_10 rfl (lv_at hl 0 rfl) ?_
    refine va_get (D := (dC, dI)) (ci := 0) (v := .int gn) (C := RX0) (T := TX0) (N := 4) hx hb hts in_X0 hown hK hP 0 rfl rfl 2 (Nat.le_of_ble_eq_true rfl) (hts (.fieldLink RX0 18 "TextMender$Changes" "next" "I") (List.mem_of_getElem? (i := 2) rfl)) (fun _ h9 => h9) rfl dX0_takeBack_11 ?_
    refine lv_if_ne (tgt := 22) hx hb dX0_takeBack_14 (by decide) (fun c_2 => ?_) (fun c_2 => ?_)
    · have tc_2 : ¬ gn.toInt = 0 := v_ne c_2
      refine lv_aload_n hx hb dX0_takeBack_22 rfl (lv_at hl 0 rfl) ?_
      refine va_get (D := (dC, dI)) (ci := 0) (v := .int gn) (C := RX0) (T := TX0) (N := 4) hx hb hts in_X0 hown hK hP 0 rfl rfl 2 (Nat.le_of_ble_eq_true rfl) (hts (.fieldLink RX0 18 "TextMender$Changes" "next" "I") (List.mem_of_getElem? (i := 2) rfl)) (fun _ h9 => h9) rfl dX0_takeBack_23 ?_
      refine lv_iconst (v := 1) hx hb dX0_takeBack_26 (by decide) ?_
      refine lv_isub hx hb dX0_takeBack_27 ?_
      refine lv_topi (fun x_3 ex_3 => ?_)
      have tx_3 : x_3.toInt = gn.toInt - 1 := v_subR (l2 := 1) (h2 := 1) ex_3 g_gn (by decide) (by decide) (by decide)
      refine va_put (D := (dC, dI)) (ci := 0) (v := .int x_3) (ty := .int) (C := RX0) (T := TX0) (N := 4) hx hb hts in_X0 tyX0 tyX0_ok nmX0 hown hK hP hD hS 0 rfl rfl 2 (Nat.le_of_ble_eq_true rfl) (hts (.fieldLink RX0 18 "TextMender$Changes" "next" "I") (List.mem_of_getElem? (i := 2) rfl)) (fun _ h9 => h9) rfl (tyX0_ok 2 (Nat.le_of_ble_eq_true rfl)) rfl rfl (Nat.le_of_ble_eq_true rfl) dX0_takeBack_28 (kW (wn := [(oG, .inr (0, [.ref g1, .ref g2, .int x_3, .int lG])), (g1, .inl (cI, 6000, .inl fG1)), (g2, .inl (cI, 20, .inl fG2)), (nd, .inr (5, [.ref ad, .int ld])), (ad, .inl (cI, 300, .inl fd))]) rfl (fun H locs hPn hDn hSn => ?_))
      clear hP hD hS
      have hP := hPn
      have hD := hDn
      have hS := hSn
      clear hPn hDn hSn
      refine lv_aload_n hx hb dX0_takeBack_31 rfl (lv_at hl 0 rfl) ?_
      refine lv_dup hx hb dX0_takeBack_32 rfl ?_
      refine va_get (D := (dC, dI)) (ci := 0) (v := .int lG) (C := RX0) (T := TX0) (N := 4) hx hb hts in_X0 hown hK hP 0 rfl rfl 3 (Nat.le_of_ble_eq_true rfl) (hts (.fieldLink RX0 22 "TextMender$Changes" "length" "I") (List.mem_of_getElem? (i := 1) rfl)) (fun _ h9 => h9) rfl dX0_takeBack_33 ?_
      refine lv_iconst (v := 1) hx hb dX0_takeBack_36 (by decide) ?_
      refine lv_isub hx hb dX0_takeBack_37 ?_
      refine lv_topi (fun x_4 ex_4 => ?_)
      have tx_4 : x_4.toInt = lG.toInt - 1 := v_subR (l2 := 1) (h2 := 1) ex_4 g_lG (by decide) (by decide) (by decide)
      refine va_put (D := (dC, dI)) (ci := 0) (v := .int x_4) (ty := .int) (C := RX0) (T := TX0) (N := 4) hx hb hts in_X0 tyX0 tyX0_ok nmX0 hown hK hP hD hS 0 rfl rfl 3 (Nat.le_of_ble_eq_true rfl) (hts (.fieldLink RX0 22 "TextMender$Changes" "length" "I") (List.mem_of_getElem? (i := 1) rfl)) (fun _ h9 => h9) rfl (tyX0_ok 3 (Nat.le_of_ble_eq_true rfl)) rfl rfl (Nat.le_of_ble_eq_true rfl) dX0_takeBack_38 (kW (wn := [(oG, .inr (0, [.ref g1, .ref g2, .int x_3, .int x_4])), (g1, .inl (cI, 6000, .inl fG1)), (g2, .inl (cI, 20, .inl fG2)), (nd, .inr (5, [.ref ad, .int ld])), (ad, .inl (cI, 300, .inl fd))]) rfl (fun H locs hPn hDn hSn => ?_))
      clear hP hD hS
      have hP := hPn
      have hD := hDn
      have hS := hSn
      clear hPn hDn hSn
      refine lv_aload_n hx hb dX0_takeBack_41 rfl (lv_at hl 1 rfl) ?_
      refine lv_iconst (v := 0) hx hb dX0_takeBack_42 (by decide) ?_
      refine kV_v (rest := []) (q0 := 0) (ci := 5) hcf (m_X5_cut l dC dI cI cS H.size nd ad ld 0 (v_rr g_ld (by decide) (by decide))) kc_X5_cut gX0_takeBack_X5_cut rfl rfl rfl ⟨Nat.le_of_ble_eq_true rfl, Nat.le_of_ble_eq_true rfl⟩ kX_t hK hP hD hS hA [3] [0, 1, 2, 4] rfl (by decide +kernel) rfl rfl rfl hl rfl (Nat.le_of_ble_eq_true rfl) dX0_takeBack_43 ⟨Nat.le_of_ble_eq_true rfl, Nat.le_of_ble_eq_true rfl⟩ (fun H locs hB hJ hSn => ?_)
      refine hB _ (fun lu_5 hPD9 hf5_0 hf5_1 hf5_2 => ?_)
      clear hB
      obtain ⟨hPn, hDn⟩ := hJ _ hPD9.1 hPD9.2 [(oG, .inr (0, [.ref g1, .ref g2, .int x_3, .int x_4])), (g1, .inl (cI, 6000, .inl fG1)), (g2, .inl (cI, 20, .inl fG2)), (ad, .inl (cI, 300, .inl fd)), (nd, .inr (5, [.ref ad, .int lu_5]))] rfl
      clear hP hD hS hJ hPD9
      have hP := hPn
      have hD := hDn
      have hS := hSn
      clear hPn hDn hSn
      have ha5 : lu_5.toInt = 0 := F_cut_l hf5_2 (by first | decide | omega) (by first | omega | (show (0 : Int) ≤ _; omega))
      refine lv_iconst (v := 0) hx hb dX0_takeBack_46 (by decide) ?_
      refine lv_istore_n (lv' := [(2, .int 0), (0, .ref oG), (1, .ref nd)]) hx hb dX0_takeBack_47 rfl hl (by decide) rfl (fun ls hl => ?_)
      have LOOP_48 : ∀ (k_48 : Nat) (i : Int32) (l2 : Int32) (f2 : Nat → Int32) (H : Heap) (locs : List Loc) (ls : Array Slot), MSd (300 - i.toInt : Int) k_48 → (0 ≤ i.toInt ∧ i.toInt ≤ 300) → (0 ≤ l2.toInt ∧ l2.toInt ≤ 300) → (tbk i.toInt (300 * x_3.toInt) l2 f2 fG1) → (i.toInt ≤ (fG2 (x_3 : Int32).toNatClampNeg).toInt) → va_P (dC, dI) vwCl [(oG, .inr (0, [.ref g1, .ref g2, .int x_3, .int x_4])), (g1, .inl (cI, 6000, .inl fG1)), (g2, .inl (cI, 20, .inl fG2)), (ad, .inl (cI, 300, .inl f2)), (nd, .inr (5, [.ref ad, .int l2]))] H → va_D A [(oG, .inr (0, [.ref g1, .ref g2, .int x_3, .int x_4])), (g1, .inl (cI, 6000, .inl fG1)), (g2, .inl (cI, 20, .inl fG2)), (ad, .inl (cI, 300, .inl f2)), (nd, .inr (5, [.ref ad, .int l2]))] → va_S A s.heap H locs → lv_has ls 3 [(2, .int i), (0, .ref oG), (1, .ref nd)] → W p l e (headSpec wsX0_takeBack ({ frames := 1, cells := 0, slots := 0, locals := 21 } : Room)).room s m ([.ref oG, .ref nd] : List Value).toArray below meth c H locs 0 0 (MQ below QQ ([.ref oG, .ref nd] : List Value).toArray s 0 0 A) (F0 m 48 ls []) := by
        clear hP hD hS hl
        intro k_48
        induction k_48 with
        | zero =>
          intro i l2 f2 H locs ls hm_48 g_i g_l2 htb hib hP hD hS hl
          exact ms_0 hm_48
        | succ k_48 ih_48 =>
          intro i l2 f2 H locs ls hm_48 g_i g_l2 htb hib hP hD hS hl
          refine lv_iload_n hx hb dX0_takeBack_48 rfl (lv_at hl 0 rfl) ?_
          refine lv_aload_n hx hb dX0_takeBack_49 rfl (lv_at hl 1 rfl) ?_
          refine va_get (D := (dC, dI)) (ci := 0) (v := .ref g2) (C := RX0) (T := TX0) (N := 4) hx hb hts in_X0 hown hK hP 0 rfl rfl 1 (Nat.le_of_ble_eq_true rfl) (hts (.fieldLink RX0 15 "TextMender$Changes" "keptLength" "[I") (List.mem_of_getElem? (i := 3) rfl)) (fun _ h9 => h9) rfl dX0_takeBack_50 ?_
          refine lv_aload_n hx hb dX0_takeBack_53 rfl (lv_at hl 1 rfl) ?_
          refine va_get (D := (dC, dI)) (ci := 0) (v := .int x_3) (C := RX0) (T := TX0) (N := 4) hx hb hts in_X0 hown hK hP 0 rfl rfl 2 (Nat.le_of_ble_eq_true rfl) (hts (.fieldLink RX0 18 "TextMender$Changes" "next" "I") (List.mem_of_getElem? (i := 2) rfl)) (fun _ h9 => h9) rfl dX0_takeBack_54 ?_
          refine va_iald hx hb hK hP 2 0 rfl rfl (v_in (by omega)) dX0_takeBack_57 ?_
          refine lv_topi (fun x_6 ex_6 => ?_)
          have tx_6 : 0 ≤ x_6.toInt ∧ x_6.toInt ≤ 300 := rg_at g_fG2 ex_6
          refine lv_icmp_ge (tgt := 87) hx hb dX0_takeBack_58 (by decide) (fun c_7 => ?_) (fun c_7 => ?_)
          · have tc_7 : x_6.toInt ≤ i.toInt := v_le c_7
            refine lv_iconst (v := 1) hx hb dX0_takeBack_87 (by decide) ?_
            exact kl_z (v := 1) hQQ hx hb hr hlocks hS dX0_takeBack_88 (rfl) (fun PZ9 kZ9 => kZ9 x_3 x_4 l2 f2 (kPD_sub hP hD [0, 1, 2, 4, 3] (by decide +kernel) rfl) (by omega) (by omega) (g_l2) (by decide) (tb_of rfl (by omega) (by omega) (by have e19 : (19 : Int32).toInt = 19 := rfl; omega) (by have e19 : (19 : Int32).toInt = 19 := rfl; omega) ex_6 htb (by have q9 := v_eq ex_6; omega)))
          · have tc_7 : i.toInt < x_6.toInt := v_nle c_7
            refine lv_aload_n hx hb dX0_takeBack_61 rfl (lv_at hl 2 rfl) ?_
            refine lv_aload_n hx hb dX0_takeBack_62 rfl (lv_at hl 1 rfl) ?_
            refine va_get (D := (dC, dI)) (ci := 0) (v := .ref g1) (C := RX0) (T := TX0) (N := 4) hx hb hts in_X0 hown hK hP 0 rfl rfl 0 (Nat.le_of_ble_eq_true rfl) (hts (.fieldLink RX0 11 "TextMender$Changes" "kept" "[I") (List.mem_of_getElem? (i := 4) rfl)) (fun _ h9 => h9) rfl dX0_takeBack_63 ?_
            refine lv_aload_n hx hb dX0_takeBack_66 rfl (lv_at hl 1 rfl) ?_
            refine va_get (D := (dC, dI)) (ci := 0) (v := .int x_3) (C := RX0) (T := TX0) (N := 4) hx hb hts in_X0 hown hK hP 0 rfl rfl 2 (Nat.le_of_ble_eq_true rfl) (hts (.fieldLink RX0 18 "TextMender$Changes" "next" "I") (List.mem_of_getElem? (i := 2) rfl)) (fun _ h9 => h9) rfl dX0_takeBack_67 ?_
            refine lv_sipush (v := 300) hx hb dX0_takeBack_70 (by decide) ?_
            refine lv_imul hx hb dX0_takeBack_73 ?_
            refine lv_topi (fun x_8 ex_8 => ?_)
            have tx_8 : x_8.toInt = x_3.toInt * 300 := v_mul ex_8 (by show -2147483648 ≤ x_3.toInt * 300; omega) (by show x_3.toInt * 300 < 2147483648; omega)
            refine lv_iload_n hx hb dX0_takeBack_74 rfl (lv_at hl 0 rfl) ?_
            refine lv_iadd hx hb dX0_takeBack_75 ?_
            refine lv_topi (fun x_9 ex_9 => ?_)
            have tx_9 : x_9.toInt = x_8.toInt + i.toInt := v_add ex_9 (by show -2147483648 ≤ x_8.toInt + i.toInt; omega) (by show x_8.toInt + i.toInt < 2147483648; omega)
            refine va_iald hx hb hK hP 1 0 rfl rfl (v_in (by omega)) dX0_takeBack_76 ?_
            refine lv_topi (fun x_10 ex_10 => ?_)
            refine kV_i (rest := []) (q0 := 0) (ci := 5) hcf (m_X5_add l dC dI cI cS H.size nd ad 300 l2 f2 x_10 (by omega) (by omega)) kc_X5_add gX0_takeBack_X5_add rfl rfl rfl ⟨Nat.le_of_ble_eq_true rfl, Nat.le_of_ble_eq_true rfl⟩ kX_t hK hP hD hS hA [4, 3] [0, 1, 2] rfl (by decide +kernel) rfl rfl rfl hl rfl (Nat.le_of_ble_eq_true rfl) dX0_takeBack_77 ⟨Nat.le_of_ble_eq_true rfl, Nat.le_of_ble_eq_true rfl⟩ (fun r_11 H locs hB hJ hSn => ?_)
            refine hB _ (fun lu_11 fu_11 hPD9 hf11_0 hf11_1 hf11_2 => ?_)
            clear hB
            obtain ⟨hPn, hDn⟩ := hJ _ hPD9.1 hPD9.2 [(oG, .inr (0, [.ref g1, .ref g2, .int x_3, .int x_4])), (g1, .inl (cI, 6000, .inl fG1)), (g2, .inl (cI, 20, .inl fG2)), (nd, .inr (5, [.ref ad, .int lu_11])), (ad, .inl (cI, 300, .inl fu_11))] rfl
            clear hP hD hS hJ hPD9
            have hP := hPn
            have hD := hDn
            have hS := hSn
            clear hPn hDn hSn
            refine lv_pop hx hb dX0_takeBack_80 rfl ?_
            obtain ⟨x_12, ex_12⟩ : ∃ y : Int32, y = i + 1 := ⟨_, rfl⟩
            have tx_12 : x_12.toInt = i.toInt + 1 := v_addR (l2 := 1) (h2 := 1) ex_12 g_i (by decide) (by decide) (by decide)
            refine lv_iinc (v := x_12) (lv' := [(2, .int x_12), (0, .ref oG), (1, .ref nd)]) hx hb dX0_takeBack_81 hl (k := 0) rfl (by rw [ex_12]; rfl) (by decide) rfl (fun ls hl => ?_)
            refine lv_goto (tgt := 48) hx hb dX0_takeBack_84 (by decide) ?_
            exact ih_48 x_12 lu_11 fu_11 _ _ _ (ms_lt hm_48 (by show ((300 - x_12.toInt : Int)) < 300 - i.toInt; omega) (by show (0 : Int) < 300 - i.toInt; omega)) (by show 0 ≤ x_12.toInt ∧ x_12.toInt ≤ 300; omega) (by show 0 ≤ lu_11.toInt ∧ lu_11.toInt ≤ 300; omega) (tbk_s htb ex_10 hf11_2 (by omega) (by omega) (by omega) (by omega) (by omega)) (by have q9 := ex_6; rw [← q9]; omega) (hP.sub [0, 1, 2, 4, 3] rfl) (hD.sub [0, 1, 2, 4, 3] (by decide +kernel) rfl) hS (lv_sub hl [0, 1, 2] rfl)
      exact LOOP_48 _ 0 lu_5 fd _ _ _ (ms_s _) (by decide) (by show 0 ≤ lu_5.toInt ∧ lu_5.toInt ≤ 300; omega) (⟨by omega, fun j hj => absurd hj (by show ¬ (j : Int) < 0; omega)⟩) (by show (0 : Int) ≤ _; exact (g_fG2 _).1) hP hD hS (lv_sub hl [0, 1, 2] rfl)
    · have tc_2 : gn.toInt = 0 := v_eq c_2
      refine lv_bipush (v := 19) hx hb dX0_takeBack_17 (by decide) ?_
      refine lv_goto (tgt := 28) hx hb dX0_takeBack_19 (by decide) ?_
      refine va_put (D := (dC, dI)) (ci := 0) (v := .int 19) (ty := .int) (C := RX0) (T := TX0) (N := 4) hx hb hts in_X0 tyX0 tyX0_ok nmX0 hown hK hP hD hS 0 rfl rfl 2 (Nat.le_of_ble_eq_true rfl) (hts (.fieldLink RX0 18 "TextMender$Changes" "next" "I") (List.mem_of_getElem? (i := 2) rfl)) (fun _ h9 => h9) rfl (tyX0_ok 2 (Nat.le_of_ble_eq_true rfl)) rfl rfl (Nat.le_of_ble_eq_true rfl) dX0_takeBack_28 (kW (wn := [(oG, .inr (0, [.ref g1, .ref g2, .int 19, .int lG])), (g1, .inl (cI, 6000, .inl fG1)), (g2, .inl (cI, 20, .inl fG2)), (nd, .inr (5, [.ref ad, .int ld])), (ad, .inl (cI, 300, .inl fd))]) rfl (fun H locs hPn hDn hSn => ?_))
      clear hP hD hS
      have hP := hPn
      have hD := hDn
      have hS := hSn
      clear hPn hDn hSn
      refine lv_aload_n hx hb dX0_takeBack_31 rfl (lv_at hl 0 rfl) ?_
      refine lv_dup hx hb dX0_takeBack_32 rfl ?_
      refine va_get (D := (dC, dI)) (ci := 0) (v := .int lG) (C := RX0) (T := TX0) (N := 4) hx hb hts in_X0 hown hK hP 0 rfl rfl 3 (Nat.le_of_ble_eq_true rfl) (hts (.fieldLink RX0 22 "TextMender$Changes" "length" "I") (List.mem_of_getElem? (i := 1) rfl)) (fun _ h9 => h9) rfl dX0_takeBack_33 ?_
      refine lv_iconst (v := 1) hx hb dX0_takeBack_36 (by decide) ?_
      refine lv_isub hx hb dX0_takeBack_37 ?_
      refine lv_topi (fun x_13 ex_13 => ?_)
      have tx_13 : x_13.toInt = lG.toInt - 1 := v_subR (l2 := 1) (h2 := 1) ex_13 g_lG (by decide) (by decide) (by decide)
      refine va_put (D := (dC, dI)) (ci := 0) (v := .int x_13) (ty := .int) (C := RX0) (T := TX0) (N := 4) hx hb hts in_X0 tyX0 tyX0_ok nmX0 hown hK hP hD hS 0 rfl rfl 3 (Nat.le_of_ble_eq_true rfl) (hts (.fieldLink RX0 22 "TextMender$Changes" "length" "I") (List.mem_of_getElem? (i := 1) rfl)) (fun _ h9 => h9) rfl (tyX0_ok 3 (Nat.le_of_ble_eq_true rfl)) rfl rfl (Nat.le_of_ble_eq_true rfl) dX0_takeBack_38 (kW (wn := [(oG, .inr (0, [.ref g1, .ref g2, .int 19, .int x_13])), (g1, .inl (cI, 6000, .inl fG1)), (g2, .inl (cI, 20, .inl fG2)), (nd, .inr (5, [.ref ad, .int ld])), (ad, .inl (cI, 300, .inl fd))]) rfl (fun H locs hPn hDn hSn => ?_))
      clear hP hD hS
      have hP := hPn
      have hD := hDn
      have hS := hSn
      clear hPn hDn hSn
      refine lv_aload_n hx hb dX0_takeBack_41 rfl (lv_at hl 1 rfl) ?_
      refine lv_iconst (v := 0) hx hb dX0_takeBack_42 (by decide) ?_
      refine kV_v (rest := []) (q0 := 0) (ci := 5) hcf (m_X5_cut l dC dI cI cS H.size nd ad ld 0 (v_rr g_ld (by decide) (by decide))) kc_X5_cut gX0_takeBack_X5_cut rfl rfl rfl ⟨Nat.le_of_ble_eq_true rfl, Nat.le_of_ble_eq_true rfl⟩ kX_t hK hP hD hS hA [3] [0, 1, 2, 4] rfl (by decide +kernel) rfl rfl rfl hl rfl (Nat.le_of_ble_eq_true rfl) dX0_takeBack_43 ⟨Nat.le_of_ble_eq_true rfl, Nat.le_of_ble_eq_true rfl⟩ (fun H locs hB hJ hSn => ?_)
      refine hB _ (fun lu_14 hPD9 hf14_0 hf14_1 hf14_2 => ?_)
      clear hB
      obtain ⟨hPn, hDn⟩ := hJ _ hPD9.1 hPD9.2 [(oG, .inr (0, [.ref g1, .ref g2, .int 19, .int x_13])), (g1, .inl (cI, 6000, .inl fG1)), (g2, .inl (cI, 20, .inl fG2)), (ad, .inl (cI, 300, .inl fd)), (nd, .inr (5, [.ref ad, .int lu_14]))] rfl
      clear hP hD hS hJ hPD9
      have hP := hPn
      have hD := hDn
      have hS := hSn
      clear hPn hDn hSn
      have ha14 : lu_14.toInt = 0 := F_cut_l hf14_2 (by first | decide | omega) (by first | omega | (show (0 : Int) ≤ _; omega))
      refine lv_iconst (v := 0) hx hb dX0_takeBack_46 (by decide) ?_
      refine lv_istore_n (lv' := [(2, .int 0), (0, .ref oG), (1, .ref nd)]) hx hb dX0_takeBack_47 rfl hl (by decide) rfl (fun ls hl => ?_)
      have LOOP_48 : ∀ (k_48 : Nat) (i : Int32) (l2 : Int32) (f2 : Nat → Int32) (H : Heap) (locs : List Loc) (ls : Array Slot), MSd (300 - i.toInt : Int) k_48 → (0 ≤ i.toInt ∧ i.toInt ≤ 300) → (0 ≤ l2.toInt ∧ l2.toInt ≤ 300) → (tbk i.toInt (300 * (19 : Int32).toInt) l2 f2 fG1) → (i.toInt ≤ (fG2 (19 : Int32).toNatClampNeg).toInt) → va_P (dC, dI) vwCl [(oG, .inr (0, [.ref g1, .ref g2, .int 19, .int x_13])), (g1, .inl (cI, 6000, .inl fG1)), (g2, .inl (cI, 20, .inl fG2)), (ad, .inl (cI, 300, .inl f2)), (nd, .inr (5, [.ref ad, .int l2]))] H → va_D A [(oG, .inr (0, [.ref g1, .ref g2, .int 19, .int x_13])), (g1, .inl (cI, 6000, .inl fG1)), (g2, .inl (cI, 20, .inl fG2)), (ad, .inl (cI, 300, .inl f2)), (nd, .inr (5, [.ref ad, .int l2]))] → va_S A s.heap H locs → lv_has ls 3 [(2, .int i), (0, .ref oG), (1, .ref nd)] → W p l e (headSpec wsX0_takeBack ({ frames := 1, cells := 0, slots := 0, locals := 21 } : Room)).room s m ([.ref oG, .ref nd] : List Value).toArray below meth c H locs 0 0 (MQ below QQ ([.ref oG, .ref nd] : List Value).toArray s 0 0 A) (F0 m 48 ls []) := by
        clear hP hD hS hl
        intro k_48
        induction k_48 with
        | zero =>
          intro i l2 f2 H locs ls hm_48 g_i g_l2 htb hib hP hD hS hl
          exact ms_0 hm_48
        | succ k_48 ih_48 =>
          intro i l2 f2 H locs ls hm_48 g_i g_l2 htb hib hP hD hS hl
          refine lv_iload_n hx hb dX0_takeBack_48 rfl (lv_at hl 0 rfl) ?_
          refine lv_aload_n hx hb dX0_takeBack_49 rfl (lv_at hl 1 rfl) ?_
          refine va_get (D := (dC, dI)) (ci := 0) (v := .ref g2) (C := RX0) (T := TX0) (N := 4) hx hb hts in_X0 hown hK hP 0 rfl rfl 1 (Nat.le_of_ble_eq_true rfl) (hts (.fieldLink RX0 15 "TextMender$Changes" "keptLength" "[I") (List.mem_of_getElem? (i := 3) rfl)) (fun _ h9 => h9) rfl dX0_takeBack_50 ?_
          refine lv_aload_n hx hb dX0_takeBack_53 rfl (lv_at hl 1 rfl) ?_
          refine va_get (D := (dC, dI)) (ci := 0) (v := .int 19) (C := RX0) (T := TX0) (N := 4) hx hb hts in_X0 hown hK hP 0 rfl rfl 2 (Nat.le_of_ble_eq_true rfl) (hts (.fieldLink RX0 18 "TextMender$Changes" "next" "I") (List.mem_of_getElem? (i := 2) rfl)) (fun _ h9 => h9) rfl dX0_takeBack_54 ?_
          refine va_iald hx hb hK hP 2 0 rfl rfl (by unfold vp_in; decide) dX0_takeBack_57 ?_
          refine lv_topi (fun x_15 ex_15 => ?_)
          have tx_15 : 0 ≤ x_15.toInt ∧ x_15.toInt ≤ 300 := rg_at g_fG2 ex_15
          refine lv_icmp_ge (tgt := 87) hx hb dX0_takeBack_58 (by decide) (fun c_16 => ?_) (fun c_16 => ?_)
          · have tc_16 : x_15.toInt ≤ i.toInt := v_le c_16
            refine lv_iconst (v := 1) hx hb dX0_takeBack_87 (by decide) ?_
            exact kl_z (v := 1) hQQ hx hb hr hlocks hS dX0_takeBack_88 (rfl) (fun PZ9 kZ9 => kZ9 19 x_13 l2 f2 (kPD_sub hP hD [0, 1, 2, 4, 3] (by decide +kernel) rfl) (by decide) (by omega) (g_l2) (by decide) (tb_of rfl (by omega) (by omega) (by have e19 : (19 : Int32).toInt = 19 := rfl; omega) (by have e19 : (19 : Int32).toInt = 19 := rfl; omega) ex_15 htb (by have q9 := v_eq ex_15; omega)))
          · have tc_16 : i.toInt < x_15.toInt := v_nle c_16
            refine lv_aload_n hx hb dX0_takeBack_61 rfl (lv_at hl 2 rfl) ?_
            refine lv_aload_n hx hb dX0_takeBack_62 rfl (lv_at hl 1 rfl) ?_
            refine va_get (D := (dC, dI)) (ci := 0) (v := .ref g1) (C := RX0) (T := TX0) (N := 4) hx hb hts in_X0 hown hK hP 0 rfl rfl 0 (Nat.le_of_ble_eq_true rfl) (hts (.fieldLink RX0 11 "TextMender$Changes" "kept" "[I") (List.mem_of_getElem? (i := 4) rfl)) (fun _ h9 => h9) rfl dX0_takeBack_63 ?_
            refine lv_aload_n hx hb dX0_takeBack_66 rfl (lv_at hl 1 rfl) ?_
            refine va_get (D := (dC, dI)) (ci := 0) (v := .int 19) (C := RX0) (T := TX0) (N := 4) hx hb hts in_X0 hown hK hP 0 rfl rfl 2 (Nat.le_of_ble_eq_true rfl) (hts (.fieldLink RX0 18 "TextMender$Changes" "next" "I") (List.mem_of_getElem? (i := 2) rfl)) (fun _ h9 => h9) rfl dX0_takeBack_67 ?_
            refine lv_sipush (v := 300) hx hb dX0_takeBack_70 (by decide) ?_
            refine lv_imul hx hb dX0_takeBack_73 ?_
            refine k_i (y := 5700) (by decide) ?_
            refine lv_iload_n hx hb dX0_takeBack_74 rfl (lv_at hl 0 rfl) ?_
            refine lv_iadd hx hb dX0_takeBack_75 ?_
            refine lv_topi (fun x_17 ex_17 => ?_)
            have tx_17 : x_17.toInt = 5700 + i.toInt := v_addR (l1 := 5700) (h1 := 5700) ex_17 (by decide) g_i (by decide) (by decide)
            refine va_iald hx hb hK hP 1 0 rfl rfl (v_in (by omega)) dX0_takeBack_76 ?_
            refine lv_topi (fun x_18 ex_18 => ?_)
            refine kV_i (rest := []) (q0 := 0) (ci := 5) hcf (m_X5_add l dC dI cI cS H.size nd ad 300 l2 f2 x_18 (by omega) (by omega)) kc_X5_add gX0_takeBack_X5_add rfl rfl rfl ⟨Nat.le_of_ble_eq_true rfl, Nat.le_of_ble_eq_true rfl⟩ kX_t hK hP hD hS hA [4, 3] [0, 1, 2] rfl (by decide +kernel) rfl rfl rfl hl rfl (Nat.le_of_ble_eq_true rfl) dX0_takeBack_77 ⟨Nat.le_of_ble_eq_true rfl, Nat.le_of_ble_eq_true rfl⟩ (fun r_19 H locs hB hJ hSn => ?_)
            refine hB _ (fun lu_19 fu_19 hPD9 hf19_0 hf19_1 hf19_2 => ?_)
            clear hB
            obtain ⟨hPn, hDn⟩ := hJ _ hPD9.1 hPD9.2 [(oG, .inr (0, [.ref g1, .ref g2, .int 19, .int x_13])), (g1, .inl (cI, 6000, .inl fG1)), (g2, .inl (cI, 20, .inl fG2)), (nd, .inr (5, [.ref ad, .int lu_19])), (ad, .inl (cI, 300, .inl fu_19))] rfl
            clear hP hD hS hJ hPD9
            have hP := hPn
            have hD := hDn
            have hS := hSn
            clear hPn hDn hSn
            refine lv_pop hx hb dX0_takeBack_80 rfl ?_
            obtain ⟨x_20, ex_20⟩ : ∃ y : Int32, y = i + 1 := ⟨_, rfl⟩
            have tx_20 : x_20.toInt = i.toInt + 1 := v_addR (l2 := 1) (h2 := 1) ex_20 g_i (by decide) (by decide) (by decide)
            refine lv_iinc (v := x_20) (lv' := [(2, .int x_20), (0, .ref oG), (1, .ref nd)]) hx hb dX0_takeBack_81 hl (k := 0) rfl (by rw [ex_20]; rfl) (by decide) rfl (fun ls hl => ?_)
            refine lv_goto (tgt := 48) hx hb dX0_takeBack_84 (by decide) ?_
            exact ih_48 x_20 lu_19 fu_19 _ _ _ (ms_lt hm_48 (by show ((300 - x_20.toInt : Int)) < 300 - i.toInt; omega) (by show (0 : Int) < 300 - i.toInt; omega)) (by show 0 ≤ x_20.toInt ∧ x_20.toInt ≤ 300; omega) (by show 0 ≤ lu_19.toInt ∧ lu_19.toInt ≤ 300; omega) (tbk_s htb ex_18 hf19_2 (by omega) (by omega) (by omega) (by omega) (by omega)) (by have q9 := ex_15; rw [← q9]; omega) (hP.sub [0, 1, 2, 4, 3] rfl) (hD.sub [0, 1, 2, 4, 3] (by decide +kernel) rfl) hS (lv_sub hl [0, 1, 2] rfl)
      exact LOOP_48 _ 0 lu_14 fd _ _ _ (ms_s _) (by decide) (by show 0 ≤ lu_14.toInt ∧ lu_14.toInt ≤ 300; omega) (⟨by omega, fun j hj => absurd hj (by show ¬ (j : Int) < 0; omega)⟩) (by show (0 : Int) ≤ _; exact (g_fG2 _).1) hP hD hS (lv_sub hl [0, 1, 2] rfl)
  · have tc_1 : lG.toInt = 0 := v_eq c_1
    refine lv_iconst (v := 0) hx hb dX0_takeBack_7 (by decide) ?_
    exact kl_z (v := 0) hQQ hx hb hr hlocks hS dX0_takeBack_8 (rfl) (fun PZ9 kZ9 => kZ9 gn lG ld fd (⟨hP, hD⟩) (g_gn) (g_lG) (g_ld) (by decide) (Or.inr ⟨rfl, by omega, rfl, rfl, rfl, rfl⟩))

def F_bk (r gn gn' lG lG' l l' : Int32) (f1 f2 f f' : Nat → Int32) : Prop := ∃ q : Int32, F_tbC q gn gn' lG lG' l l' f1 f2 f f' ∧ ((¬ q.toInt = 0 ∧ r.toInt = lG'.toInt) ∨ (q.toInt = 0 ∧ r.toInt = -1))

end

/-! 59j.a.rows -/
section
set_option maxRecDepth 100000 in
theorem dA205_cX12_become : kDec cX12_become [(0, .aload_n 0, 1), (1, .getfield 142, 3), (4, .bipush 20, 2), (6, .if_icmp .ne 19, 3), (25, .aload_n 0, 1), (26, .dup, 1), (27, .getfield 142, 3), (30, .iconst 1, 1), (31, .iadd, 1), (32, .putfield 142, 3), (35, .iconst 1, 1), (36, .aload_n 0, 1), (37, .getfield 145, 3), (40, .aload_n 0, 1), (41, .getfield 142, 3), (44, .iadd, 1), (45, .iconst 1, 1), (46, .isub, 1), (47, .bipush 20, 2), (49, .irem, 1), (50, .iadd, 1), (51, .istore_n 3, 1), (52, .aload_n 0, 1), (53, .getfield 13, 3)] = true := by decide +kernel
theorem dX12_become_0 : decode cX12_become 0 = .ok (.aload_n 0, 1) := kDec_at dA205_cX12_become 0 rfl
theorem dX12_become_1 : decode cX12_become 1 = .ok (.getfield 142, 3) := kDec_at dA205_cX12_become 1 rfl
theorem dX12_become_4 : decode cX12_become 4 = .ok (.bipush 20, 2) := kDec_at dA205_cX12_become 2 rfl
theorem dX12_become_6 : decode cX12_become 6 = .ok (.if_icmp .ne 19, 3) := kDec_at dA205_cX12_become 3 rfl
theorem dX12_become_25 : decode cX12_become 25 = .ok (.aload_n 0, 1) := kDec_at dA205_cX12_become 4 rfl
theorem dX12_become_26 : decode cX12_become 26 = .ok (.dup, 1) := kDec_at dA205_cX12_become 5 rfl
theorem dX12_become_27 : decode cX12_become 27 = .ok (.getfield 142, 3) := kDec_at dA205_cX12_become 6 rfl
theorem dX12_become_30 : decode cX12_become 30 = .ok (.iconst 1, 1) := kDec_at dA205_cX12_become 7 rfl
theorem dX12_become_31 : decode cX12_become 31 = .ok (.iadd, 1) := kDec_at dA205_cX12_become 8 rfl
theorem dX12_become_32 : decode cX12_become 32 = .ok (.putfield 142, 3) := kDec_at dA205_cX12_become 9 rfl
theorem dX12_become_35 : decode cX12_become 35 = .ok (.iconst 1, 1) := kDec_at dA205_cX12_become 10 rfl
theorem dX12_become_36 : decode cX12_become 36 = .ok (.aload_n 0, 1) := kDec_at dA205_cX12_become 11 rfl
theorem dX12_become_37 : decode cX12_become 37 = .ok (.getfield 145, 3) := kDec_at dA205_cX12_become 12 rfl
theorem dX12_become_40 : decode cX12_become 40 = .ok (.aload_n 0, 1) := kDec_at dA205_cX12_become 13 rfl
theorem dX12_become_41 : decode cX12_become 41 = .ok (.getfield 142, 3) := kDec_at dA205_cX12_become 14 rfl
theorem dX12_become_44 : decode cX12_become 44 = .ok (.iadd, 1) := kDec_at dA205_cX12_become 15 rfl
theorem dX12_become_45 : decode cX12_become 45 = .ok (.iconst 1, 1) := kDec_at dA205_cX12_become 16 rfl
theorem dX12_become_46 : decode cX12_become 46 = .ok (.isub, 1) := kDec_at dA205_cX12_become 17 rfl
theorem dX12_become_47 : decode cX12_become 47 = .ok (.bipush 20, 2) := kDec_at dA205_cX12_become 18 rfl
theorem dX12_become_49 : decode cX12_become 49 = .ok (.irem, 1) := kDec_at dA205_cX12_become 19 rfl
theorem dX12_become_50 : decode cX12_become 50 = .ok (.iadd, 1) := kDec_at dA205_cX12_become 20 rfl
theorem dX12_become_51 : decode cX12_become 51 = .ok (.istore_n 3, 1) := kDec_at dA205_cX12_become 21 rfl
theorem dX12_become_52 : decode cX12_become 52 = .ok (.aload_n 0, 1) := kDec_at dA205_cX12_become 22 rfl
theorem dX12_become_53 : decode cX12_become 53 = .ok (.getfield 13, 3) := kDec_at dA205_cX12_become 23 rfl
set_option maxRecDepth 100000 in
theorem dA206_cX12_become : kDec cX12_become [(56, .iload_n 3, 1), (57, .aload_n 0, 1), (58, .getfield 13, 3), (61, .iconst 0, 1), (62, .iaload, 1), (63, .iastore, 1), (64, .iconst 0, 1), (65, .istore 4, 2), (67, .iload 4, 2), (69, .aload_n 0, 1), (70, .getfield 13, 3), (73, .iconst 0, 1), (74, .iaload, 1), (75, .if_icmp .ge 29, 3), (104, .aload_n 0, 1), (105, .getfield 13, 3), (108, .iconst 0, 1), (109, .iload_n 2, 1), (110, .iastore, 1), (111, .iconst 0, 1), (112, .istore 4, 2), (114, .iload 4, 2), (116, .iload_n 2, 1), (117, .if_icmp .ge 20, 3)] = true := by decide +kernel
theorem dX12_become_56 : decode cX12_become 56 = .ok (.iload_n 3, 1) := kDec_at dA206_cX12_become 0 rfl
theorem dX12_become_57 : decode cX12_become 57 = .ok (.aload_n 0, 1) := kDec_at dA206_cX12_become 1 rfl
theorem dX12_become_58 : decode cX12_become 58 = .ok (.getfield 13, 3) := kDec_at dA206_cX12_become 2 rfl
theorem dX12_become_61 : decode cX12_become 61 = .ok (.iconst 0, 1) := kDec_at dA206_cX12_become 3 rfl
theorem dX12_become_62 : decode cX12_become 62 = .ok (.iaload, 1) := kDec_at dA206_cX12_become 4 rfl
theorem dX12_become_63 : decode cX12_become 63 = .ok (.iastore, 1) := kDec_at dA206_cX12_become 5 rfl
theorem dX12_become_64 : decode cX12_become 64 = .ok (.iconst 0, 1) := kDec_at dA206_cX12_become 6 rfl
theorem dX12_become_65 : decode cX12_become 65 = .ok (.istore 4, 2) := kDec_at dA206_cX12_become 7 rfl
theorem dX12_become_67 : decode cX12_become 67 = .ok (.iload 4, 2) := kDec_at dA206_cX12_become 8 rfl
theorem dX12_become_69 : decode cX12_become 69 = .ok (.aload_n 0, 1) := kDec_at dA206_cX12_become 9 rfl
theorem dX12_become_70 : decode cX12_become 70 = .ok (.getfield 13, 3) := kDec_at dA206_cX12_become 10 rfl
theorem dX12_become_73 : decode cX12_become 73 = .ok (.iconst 0, 1) := kDec_at dA206_cX12_become 11 rfl
theorem dX12_become_74 : decode cX12_become 74 = .ok (.iaload, 1) := kDec_at dA206_cX12_become 12 rfl
theorem dX12_become_75 : decode cX12_become 75 = .ok (.if_icmp .ge 29, 3) := kDec_at dA206_cX12_become 13 rfl
theorem dX12_become_104 : decode cX12_become 104 = .ok (.aload_n 0, 1) := kDec_at dA206_cX12_become 14 rfl
theorem dX12_become_105 : decode cX12_become 105 = .ok (.getfield 13, 3) := kDec_at dA206_cX12_become 15 rfl
theorem dX12_become_108 : decode cX12_become 108 = .ok (.iconst 0, 1) := kDec_at dA206_cX12_become 16 rfl
theorem dX12_become_109 : decode cX12_become 109 = .ok (.iload_n 2, 1) := kDec_at dA206_cX12_become 17 rfl
theorem dX12_become_110 : decode cX12_become 110 = .ok (.iastore, 1) := kDec_at dA206_cX12_become 18 rfl
theorem dX12_become_111 : decode cX12_become 111 = .ok (.iconst 0, 1) := kDec_at dA206_cX12_become 19 rfl
theorem dX12_become_112 : decode cX12_become 112 = .ok (.istore 4, 2) := kDec_at dA206_cX12_become 20 rfl
theorem dX12_become_114 : decode cX12_become 114 = .ok (.iload 4, 2) := kDec_at dA206_cX12_become 21 rfl
theorem dX12_become_116 : decode cX12_become 116 = .ok (.iload_n 2, 1) := kDec_at dA206_cX12_become 22 rfl
theorem dX12_become_117 : decode cX12_become 117 = .ok (.if_icmp .ge 20, 3) := kDec_at dA206_cX12_become 23 rfl
set_option maxRecDepth 100000 in
theorem dA207_cX12_become : kDec cX12_become [(137, .aload_n 0, 1), (138, .dup, 1), (139, .getfield 148, 3), (142, .iconst 1, 1), (143, .iadd, 1), (144, .putfield 148, 3), (147, .return_, 1), (120, .aload_n 0, 1), (121, .getfield 16, 3), (124, .iload 4, 2), (126, .aload_n 1, 1), (127, .iload 4, 2), (129, .iaload, 1), (130, .iastore, 1), (131, .iinc 4 1, 3), (134, .goto (-20), 3), (78, .aload_n 0, 1), (79, .getfield 16, 3), (82, .sipush 300, 3), (85, .iload_n 3, 1), (86, .imul, 1), (87, .iload 4, 2), (89, .iadd, 1), (90, .aload_n 0, 1)] = true := by decide +kernel
theorem dX12_become_137 : decode cX12_become 137 = .ok (.aload_n 0, 1) := kDec_at dA207_cX12_become 0 rfl
theorem dX12_become_138 : decode cX12_become 138 = .ok (.dup, 1) := kDec_at dA207_cX12_become 1 rfl
theorem dX12_become_139 : decode cX12_become 139 = .ok (.getfield 148, 3) := kDec_at dA207_cX12_become 2 rfl
theorem dX12_become_142 : decode cX12_become 142 = .ok (.iconst 1, 1) := kDec_at dA207_cX12_become 3 rfl
theorem dX12_become_143 : decode cX12_become 143 = .ok (.iadd, 1) := kDec_at dA207_cX12_become 4 rfl
theorem dX12_become_144 : decode cX12_become 144 = .ok (.putfield 148, 3) := kDec_at dA207_cX12_become 5 rfl
theorem dX12_become_147 : decode cX12_become 147 = .ok (.return_, 1) := kDec_at dA207_cX12_become 6 rfl
theorem dX12_become_120 : decode cX12_become 120 = .ok (.aload_n 0, 1) := kDec_at dA207_cX12_become 7 rfl
theorem dX12_become_121 : decode cX12_become 121 = .ok (.getfield 16, 3) := kDec_at dA207_cX12_become 8 rfl
theorem dX12_become_124 : decode cX12_become 124 = .ok (.iload 4, 2) := kDec_at dA207_cX12_become 9 rfl
theorem dX12_become_126 : decode cX12_become 126 = .ok (.aload_n 1, 1) := kDec_at dA207_cX12_become 10 rfl
theorem dX12_become_127 : decode cX12_become 127 = .ok (.iload 4, 2) := kDec_at dA207_cX12_become 11 rfl
theorem dX12_become_129 : decode cX12_become 129 = .ok (.iaload, 1) := kDec_at dA207_cX12_become 12 rfl
theorem dX12_become_130 : decode cX12_become 130 = .ok (.iastore, 1) := kDec_at dA207_cX12_become 13 rfl
theorem dX12_become_131 : decode cX12_become 131 = .ok (.iinc 4 1, 3) := kDec_at dA207_cX12_become 14 rfl
theorem dX12_become_134 : decode cX12_become 134 = .ok (.goto (-20), 3) := kDec_at dA207_cX12_become 15 rfl
theorem dX12_become_78 : decode cX12_become 78 = .ok (.aload_n 0, 1) := kDec_at dA207_cX12_become 16 rfl
theorem dX12_become_79 : decode cX12_become 79 = .ok (.getfield 16, 3) := kDec_at dA207_cX12_become 17 rfl
theorem dX12_become_82 : decode cX12_become 82 = .ok (.sipush 300, 3) := kDec_at dA207_cX12_become 18 rfl
theorem dX12_become_85 : decode cX12_become 85 = .ok (.iload_n 3, 1) := kDec_at dA207_cX12_become 19 rfl
theorem dX12_become_86 : decode cX12_become 86 = .ok (.imul, 1) := kDec_at dA207_cX12_become 20 rfl
theorem dX12_become_87 : decode cX12_become 87 = .ok (.iload 4, 2) := kDec_at dA207_cX12_become 21 rfl
theorem dX12_become_89 : decode cX12_become 89 = .ok (.iadd, 1) := kDec_at dA207_cX12_become 22 rfl
theorem dX12_become_90 : decode cX12_become 90 = .ok (.aload_n 0, 1) := kDec_at dA207_cX12_become 23 rfl
set_option maxRecDepth 100000 in
theorem dA208_cX12_become : kDec cX12_become [(91, .getfield 16, 3), (94, .iload 4, 2), (96, .iaload, 1), (97, .iastore, 1), (98, .iinc 4 1, 3), (101, .goto (-34), 3), (9, .aload_n 0, 1), (10, .aload_n 0, 1), (11, .getfield 145, 3), (14, .iconst 1, 1), (15, .iadd, 1), (16, .bipush 20, 2), (18, .irem, 1), (19, .putfield 145, 3), (22, .goto 13, 3)] = true := by decide +kernel
theorem dX12_become_91 : decode cX12_become 91 = .ok (.getfield 16, 3) := kDec_at dA208_cX12_become 0 rfl
theorem dX12_become_94 : decode cX12_become 94 = .ok (.iload 4, 2) := kDec_at dA208_cX12_become 1 rfl
theorem dX12_become_96 : decode cX12_become 96 = .ok (.iaload, 1) := kDec_at dA208_cX12_become 2 rfl
theorem dX12_become_97 : decode cX12_become 97 = .ok (.iastore, 1) := kDec_at dA208_cX12_become 3 rfl
theorem dX12_become_98 : decode cX12_become 98 = .ok (.iinc 4 1, 3) := kDec_at dA208_cX12_become 4 rfl
theorem dX12_become_101 : decode cX12_become 101 = .ok (.goto (-34), 3) := kDec_at dA208_cX12_become 5 rfl
theorem dX12_become_9 : decode cX12_become 9 = .ok (.aload_n 0, 1) := kDec_at dA208_cX12_become 6 rfl
theorem dX12_become_10 : decode cX12_become 10 = .ok (.aload_n 0, 1) := kDec_at dA208_cX12_become 7 rfl
theorem dX12_become_11 : decode cX12_become 11 = .ok (.getfield 145, 3) := kDec_at dA208_cX12_become 8 rfl
theorem dX12_become_14 : decode cX12_become 14 = .ok (.iconst 1, 1) := kDec_at dA208_cX12_become 9 rfl
theorem dX12_become_15 : decode cX12_become 15 = .ok (.iadd, 1) := kDec_at dA208_cX12_become 10 rfl
theorem dX12_become_16 : decode cX12_become 16 = .ok (.bipush 20, 2) := kDec_at dA208_cX12_become 11 rfl
theorem dX12_become_18 : decode cX12_become 18 = .ok (.irem, 1) := kDec_at dA208_cX12_become 12 rfl
theorem dX12_become_19 : decode cX12_become 19 = .ok (.putfield 145, 3) := kDec_at dA208_cX12_become 13 rfl
theorem dX12_become_22 : decode cX12_become 22 = .ok (.goto 13, 3) := kDec_at dA208_cX12_become 14 rfl
set_option maxRecDepth 100000 in
theorem dA209_cX12_back : kDec cX12_back [(0, .aload_n 0, 1), (1, .iconst 0, 1), (2, .putfield 85, 3), (5, .aload_n 0, 1), (6, .getfield 142, 3), (9, .ifCond .ne 5, 3), (14, .aload_n 0, 1), (15, .dup, 1), (16, .getfield 142, 3), (19, .iconst 1, 1), (20, .isub, 1), (21, .putfield 142, 3), (24, .iconst 1, 1), (25, .aload_n 0, 1), (26, .getfield 145, 3), (29, .aload_n 0, 1), (30, .getfield 142, 3), (33, .iadd, 1), (34, .bipush 20, 2), (36, .irem, 1), (37, .iadd, 1), (38, .istore_n 1, 1), (39, .aload_n 0, 1), (40, .getfield 13, 3)] = true := by decide +kernel
theorem dX12_back_0 : decode cX12_back 0 = .ok (.aload_n 0, 1) := kDec_at dA209_cX12_back 0 rfl
theorem dX12_back_1 : decode cX12_back 1 = .ok (.iconst 0, 1) := kDec_at dA209_cX12_back 1 rfl
theorem dX12_back_2 : decode cX12_back 2 = .ok (.putfield 85, 3) := kDec_at dA209_cX12_back 2 rfl
theorem dX12_back_5 : decode cX12_back 5 = .ok (.aload_n 0, 1) := kDec_at dA209_cX12_back 3 rfl
theorem dX12_back_6 : decode cX12_back 6 = .ok (.getfield 142, 3) := kDec_at dA209_cX12_back 4 rfl
theorem dX12_back_9 : decode cX12_back 9 = .ok (.ifCond .ne 5, 3) := kDec_at dA209_cX12_back 5 rfl
theorem dX12_back_14 : decode cX12_back 14 = .ok (.aload_n 0, 1) := kDec_at dA209_cX12_back 6 rfl
theorem dX12_back_15 : decode cX12_back 15 = .ok (.dup, 1) := kDec_at dA209_cX12_back 7 rfl
theorem dX12_back_16 : decode cX12_back 16 = .ok (.getfield 142, 3) := kDec_at dA209_cX12_back 8 rfl
theorem dX12_back_19 : decode cX12_back 19 = .ok (.iconst 1, 1) := kDec_at dA209_cX12_back 9 rfl
theorem dX12_back_20 : decode cX12_back 20 = .ok (.isub, 1) := kDec_at dA209_cX12_back 10 rfl
theorem dX12_back_21 : decode cX12_back 21 = .ok (.putfield 142, 3) := kDec_at dA209_cX12_back 11 rfl
theorem dX12_back_24 : decode cX12_back 24 = .ok (.iconst 1, 1) := kDec_at dA209_cX12_back 12 rfl
theorem dX12_back_25 : decode cX12_back 25 = .ok (.aload_n 0, 1) := kDec_at dA209_cX12_back 13 rfl
theorem dX12_back_26 : decode cX12_back 26 = .ok (.getfield 145, 3) := kDec_at dA209_cX12_back 14 rfl
theorem dX12_back_29 : decode cX12_back 29 = .ok (.aload_n 0, 1) := kDec_at dA209_cX12_back 15 rfl
theorem dX12_back_30 : decode cX12_back 30 = .ok (.getfield 142, 3) := kDec_at dA209_cX12_back 16 rfl
theorem dX12_back_33 : decode cX12_back 33 = .ok (.iadd, 1) := kDec_at dA209_cX12_back 17 rfl
theorem dX12_back_34 : decode cX12_back 34 = .ok (.bipush 20, 2) := kDec_at dA209_cX12_back 18 rfl
theorem dX12_back_36 : decode cX12_back 36 = .ok (.irem, 1) := kDec_at dA209_cX12_back 19 rfl
theorem dX12_back_37 : decode cX12_back 37 = .ok (.iadd, 1) := kDec_at dA209_cX12_back 20 rfl
theorem dX12_back_38 : decode cX12_back 38 = .ok (.istore_n 1, 1) := kDec_at dA209_cX12_back 21 rfl
theorem dX12_back_39 : decode cX12_back 39 = .ok (.aload_n 0, 1) := kDec_at dA209_cX12_back 22 rfl
theorem dX12_back_40 : decode cX12_back 40 = .ok (.getfield 13, 3) := kDec_at dA209_cX12_back 23 rfl
set_option maxRecDepth 100000 in
theorem dA210_cX12_back : kDec cX12_back [(43, .iconst 0, 1), (44, .aload_n 0, 1), (45, .getfield 13, 3), (48, .iload_n 1, 1), (49, .iaload, 1), (50, .iastore, 1), (51, .iconst 0, 1), (52, .istore_n 2, 1), (53, .iload_n 2, 1), (54, .aload_n 0, 1), (55, .getfield 13, 3), (58, .iconst 0, 1), (59, .iaload, 1), (60, .if_icmp .ge 27, 3), (87, .aload_n 0, 1), (88, .dup, 1), (89, .getfield 148, 3), (92, .iconst 1, 1), (93, .iadd, 1), (94, .putfield 148, 3), (97, .aload_n 0, 1), (98, .getfield 142, 3), (101, .ireturn, 1), (63, .aload_n 0, 1)] = true := by decide +kernel
theorem dX12_back_43 : decode cX12_back 43 = .ok (.iconst 0, 1) := kDec_at dA210_cX12_back 0 rfl
theorem dX12_back_44 : decode cX12_back 44 = .ok (.aload_n 0, 1) := kDec_at dA210_cX12_back 1 rfl
theorem dX12_back_45 : decode cX12_back 45 = .ok (.getfield 13, 3) := kDec_at dA210_cX12_back 2 rfl
theorem dX12_back_48 : decode cX12_back 48 = .ok (.iload_n 1, 1) := kDec_at dA210_cX12_back 3 rfl
theorem dX12_back_49 : decode cX12_back 49 = .ok (.iaload, 1) := kDec_at dA210_cX12_back 4 rfl
theorem dX12_back_50 : decode cX12_back 50 = .ok (.iastore, 1) := kDec_at dA210_cX12_back 5 rfl
theorem dX12_back_51 : decode cX12_back 51 = .ok (.iconst 0, 1) := kDec_at dA210_cX12_back 6 rfl
theorem dX12_back_52 : decode cX12_back 52 = .ok (.istore_n 2, 1) := kDec_at dA210_cX12_back 7 rfl
theorem dX12_back_53 : decode cX12_back 53 = .ok (.iload_n 2, 1) := kDec_at dA210_cX12_back 8 rfl
theorem dX12_back_54 : decode cX12_back 54 = .ok (.aload_n 0, 1) := kDec_at dA210_cX12_back 9 rfl
theorem dX12_back_55 : decode cX12_back 55 = .ok (.getfield 13, 3) := kDec_at dA210_cX12_back 10 rfl
theorem dX12_back_58 : decode cX12_back 58 = .ok (.iconst 0, 1) := kDec_at dA210_cX12_back 11 rfl
theorem dX12_back_59 : decode cX12_back 59 = .ok (.iaload, 1) := kDec_at dA210_cX12_back 12 rfl
theorem dX12_back_60 : decode cX12_back 60 = .ok (.if_icmp .ge 27, 3) := kDec_at dA210_cX12_back 13 rfl
theorem dX12_back_87 : decode cX12_back 87 = .ok (.aload_n 0, 1) := kDec_at dA210_cX12_back 14 rfl
theorem dX12_back_88 : decode cX12_back 88 = .ok (.dup, 1) := kDec_at dA210_cX12_back 15 rfl
theorem dX12_back_89 : decode cX12_back 89 = .ok (.getfield 148, 3) := kDec_at dA210_cX12_back 16 rfl
theorem dX12_back_92 : decode cX12_back 92 = .ok (.iconst 1, 1) := kDec_at dA210_cX12_back 17 rfl
theorem dX12_back_93 : decode cX12_back 93 = .ok (.iadd, 1) := kDec_at dA210_cX12_back 18 rfl
theorem dX12_back_94 : decode cX12_back 94 = .ok (.putfield 148, 3) := kDec_at dA210_cX12_back 19 rfl
theorem dX12_back_97 : decode cX12_back 97 = .ok (.aload_n 0, 1) := kDec_at dA210_cX12_back 20 rfl
theorem dX12_back_98 : decode cX12_back 98 = .ok (.getfield 142, 3) := kDec_at dA210_cX12_back 21 rfl
theorem dX12_back_101 : decode cX12_back 101 = .ok (.ireturn, 1) := kDec_at dA210_cX12_back 22 rfl
theorem dX12_back_63 : decode cX12_back 63 = .ok (.aload_n 0, 1) := kDec_at dA210_cX12_back 23 rfl
set_option maxRecDepth 100000 in
theorem dA211_cX12_back : kDec cX12_back [(64, .getfield 16, 3), (67, .iload_n 2, 1), (68, .aload_n 0, 1), (69, .getfield 16, 3), (72, .sipush 300, 3), (75, .iload_n 1, 1), (76, .imul, 1), (77, .iload_n 2, 1), (78, .iadd, 1), (79, .iaload, 1), (80, .iastore, 1), (81, .iinc 2 1, 3), (84, .goto (-31), 3), (12, .iconst (-1), 1), (13, .ireturn, 1)] = true := by decide +kernel
theorem dX12_back_64 : decode cX12_back 64 = .ok (.getfield 16, 3) := kDec_at dA211_cX12_back 0 rfl
theorem dX12_back_67 : decode cX12_back 67 = .ok (.iload_n 2, 1) := kDec_at dA211_cX12_back 1 rfl
theorem dX12_back_68 : decode cX12_back 68 = .ok (.aload_n 0, 1) := kDec_at dA211_cX12_back 2 rfl
theorem dX12_back_69 : decode cX12_back 69 = .ok (.getfield 16, 3) := kDec_at dA211_cX12_back 3 rfl
theorem dX12_back_72 : decode cX12_back 72 = .ok (.sipush 300, 3) := kDec_at dA211_cX12_back 4 rfl
theorem dX12_back_75 : decode cX12_back 75 = .ok (.iload_n 1, 1) := kDec_at dA211_cX12_back 5 rfl
theorem dX12_back_76 : decode cX12_back 76 = .ok (.imul, 1) := kDec_at dA211_cX12_back 6 rfl
theorem dX12_back_77 : decode cX12_back 77 = .ok (.iload_n 2, 1) := kDec_at dA211_cX12_back 7 rfl
theorem dX12_back_78 : decode cX12_back 78 = .ok (.iadd, 1) := kDec_at dA211_cX12_back 8 rfl
theorem dX12_back_79 : decode cX12_back 79 = .ok (.iaload, 1) := kDec_at dA211_cX12_back 9 rfl
theorem dX12_back_80 : decode cX12_back 80 = .ok (.iastore, 1) := kDec_at dA211_cX12_back 10 rfl
theorem dX12_back_81 : decode cX12_back 81 = .ok (.iinc 2 1, 3) := kDec_at dA211_cX12_back 11 rfl
theorem dX12_back_84 : decode cX12_back 84 = .ok (.goto (-31), 3) := kDec_at dA211_cX12_back 12 rfl
theorem dX12_back_12 : decode cX12_back 12 = .ok (.iconst (-1), 1) := kDec_at dA211_cX12_back 13 rfl
theorem dX12_back_13 : decode cX12_back 13 = .ok (.ireturn, 1) := kDec_at dA211_cX12_back 14 rfl
set_option maxRecDepth 100000 in
theorem dA212_cX11_back : kDec cX11_back [(0, .aload_n 0, 1), (1, .getfield 59, 3), (4, .aload_n 0, 1), (5, .getfield 34, 3), (8, .invokevirtual 188, 3), (11, .ifCond .ne 5, 3), (16, .aload_n 0, 1), (17, .getfield 86, 3), (20, .invokevirtual 143, 3), (23, .aload_n 0, 1), (24, .getfield 59, 3), (27, .invokevirtual 151, 3), (30, .ireturn, 1), (14, .iconst (-1), 1), (15, .ireturn, 1)] = true := by decide +kernel
theorem dX11_back_0 : decode cX11_back 0 = .ok (.aload_n 0, 1) := kDec_at dA212_cX11_back 0 rfl
theorem dX11_back_1 : decode cX11_back 1 = .ok (.getfield 59, 3) := kDec_at dA212_cX11_back 1 rfl
theorem dX11_back_4 : decode cX11_back 4 = .ok (.aload_n 0, 1) := kDec_at dA212_cX11_back 2 rfl
theorem dX11_back_5 : decode cX11_back 5 = .ok (.getfield 34, 3) := kDec_at dA212_cX11_back 3 rfl
theorem dX11_back_8 : decode cX11_back 8 = .ok (.invokevirtual 188, 3) := kDec_at dA212_cX11_back 4 rfl
theorem dX11_back_11 : decode cX11_back 11 = .ok (.ifCond .ne 5, 3) := kDec_at dA212_cX11_back 5 rfl
theorem dX11_back_16 : decode cX11_back 16 = .ok (.aload_n 0, 1) := kDec_at dA212_cX11_back 6 rfl
theorem dX11_back_17 : decode cX11_back 17 = .ok (.getfield 86, 3) := kDec_at dA212_cX11_back 7 rfl
theorem dX11_back_20 : decode cX11_back 20 = .ok (.invokevirtual 143, 3) := kDec_at dA212_cX11_back 8 rfl
theorem dX11_back_23 : decode cX11_back 23 = .ok (.aload_n 0, 1) := kDec_at dA212_cX11_back 9 rfl
theorem dX11_back_24 : decode cX11_back 24 = .ok (.getfield 59, 3) := kDec_at dA212_cX11_back 10 rfl
theorem dX11_back_27 : decode cX11_back 27 = .ok (.invokevirtual 151, 3) := kDec_at dA212_cX11_back 11 rfl
theorem dX11_back_30 : decode cX11_back 30 = .ok (.ireturn, 1) := kDec_at dA212_cX11_back 12 rfl
theorem dX11_back_14 : decode cX11_back 14 = .ok (.iconst (-1), 1) := kDec_at dA212_cX11_back 13 rfl
theorem dX11_back_15 : decode cX11_back 15 = .ok (.ireturn, 1) := kDec_at dA212_cX11_back 14 rfl
set_option maxRecDepth 20000 in
theorem gX0_takeBack_all : wsX0_takeBack.all goodWord = true := by
  unfold wsX0_takeBack
  exact good_c (by decide +kernel) (good_a (good_a (good_a (good_a ((by decide +kernel)) gX0_clsall) gX5_clsall) gX5_cut_all) gX5_add_all)
set_option maxRecDepth 20000 in
theorem ggX11_back_X0_takeBack : GoodIn wsX11_back wsX0_takeBack := goodIn_sub (fun _ h => List.mem_cons_of_mem _ (List.mem_append_left _ (List.mem_append_left _ (List.mem_append_right _ (h))))) gX0_takeBack_all
set_option maxRecDepth 20000 in
theorem gX11_back_X0_takeBack : GoodIn wsX11_back (wsV RX11 188 RX0 yX0_takeBack wsX0_takeBack) := goodIn_app (goodIn_r _ [4, 5, 6, 7] rfl (by decide +kernel)) ggX11_back_X0_takeBack
set_option maxRecDepth 20000 in
theorem ggX11_back_X1_forgetFreshness : GoodIn wsX11_back wsX1_forgetFreshness := goodIn_sub (fun _ h => List.mem_cons_of_mem _ (List.mem_append_left _ (List.mem_append_right _ (h)))) gX1_forgetFreshness_all
set_option maxRecDepth 20000 in
theorem gX11_back_X1_forgetFreshness : GoodIn wsX11_back (wsV RX11 143 RX1 yX1_forgetFreshness wsX1_forgetFreshness) := goodIn_app (goodIn_r _ [8, 9, 10, 11] rfl (by decide +kernel)) ggX11_back_X1_forgetFreshness
set_option maxRecDepth 20000 in
theorem ggX11_back_X0_length : GoodIn wsX11_back wsX0_length := goodIn_sub (fun _ h => List.mem_cons_of_mem _ (List.mem_append_right _ (h))) gX0_length_all
set_option maxRecDepth 20000 in
theorem gX11_back_X0_length : GoodIn wsX11_back (wsV RX11 151 RX0 yX0_length wsX0_length) := goodIn_app (goodIn_r _ [12, 13, 14, 7] rfl (by decide +kernel)) ggX11_back_X0_length

end

/-! 59j.bec -/
section
set_option maxHeartbeats 40000000 in
set_option maxRecDepth 100000 in
theorem f_X12_bec (l : Launch) (dC : Nat → ClassId) (dI : Nat → Nat → Nat) (cI cS : ClassId) (sz : Nat) (oM : Nat) (rw : Nat) (mT : Nat) (mS : Nat) (mX : Nat) (mL : Nat) (mB : Nat) (mD : Nat) (m1 : Nat) (m2 : Nat) (mR : Nat) (x1 : Nat) (x2 : Nat) (x3 : Nat) (mH : Nat) (mY : Nat) (mE : Nat) (mW : Nat) (mO : Nat) (y1 : Nat) (y2 : Nat) (y3 : Nat) (y4 : Nat) (mZ : Nat) (cw : Nat) (zt : Int32) (zp : Int32) (zf : Int32) (zh : Int32) (zr : Int32) (zc : Int32) (zy : Int32) (za : Int32) (zb : Int32) (zs : Int32) (zq : Int32) (zw : Int32) (ze : Int32) (zn : Int32) (zm : Int32) (zl : Int32) (zk : Int32) (zd : Int32) (eS : Nat → Int32) (eX : Nat → Int32) (fr : Nat → Int32) (n : Int32) (g_zt : 0 ≤ zt.toInt ∧ zt.toInt ≤ 900) (g_zp : 0 ≤ zp.toInt ∧ zp.toInt ≤ 20) (g_zf : 0 ≤ zf.toInt ∧ zf.toInt ≤ 19) (g_zh : 0 ≤ zh.toInt ∧ zh.toInt ≤ 6) (g_zr : 0 ≤ zr.toInt ∧ zr.toInt ≤ 258) (g_zc : 0 ≤ zc.toInt ∧ zc.toInt ≤ 300) (g_zy : 0 ≤ zy.toInt ∧ zy.toInt ≤ 65536) (g_za : 0 ≤ za.toInt ∧ za.toInt ≤ 5) (g_zb : 0 ≤ zb.toInt ∧ zb.toInt ≤ 5) (g_zs : 0 ≤ zs.toInt ∧ zs.toInt ≤ 2000000) (g_zq : -1 ≤ zq.toInt ∧ zq.toInt ≤ 2000000) (g_zn : 0 ≤ zn.toInt ∧ zn.toInt ≤ 2600) (g_zm : 0 ≤ zm.toInt ∧ zm.toInt ≤ 2600) (g_zk : 0 ≤ zk.toInt ∧ zk.toInt ≤ 300) (g_eS : rg 0 300 eS) (g_eX : rg 0 65535 eX) (g_n : 0 ≤ n.toInt ∧ n.toInt ≤ 300) (hcw : n.toInt ≤ (cw : Int)) (hcw2 : cw ≤ 6300) (hrow : prg n.toInt 0 65535 fr) (hzs : zs.toInt ≤ 1000000) : kMv l yX12_become wsX12_become ({ frames := 0, cells := 0, slots := 0, locals := 0 } : Room) [.ref oM, .ref rw, .int n] sz (dC, dI) vwCl [(cI, .int), (cS, .short)] [(oM, .inr (12, [.ref mT, .int zt, .ref mS, .ref mX, .int zp, .int zf, .ref mL, .ref mB, .ref mD, .ref m1, .ref m2, .int zh, .ref mR, .int zr, .ref x1, .ref x2, .ref x3, .int zc, .ref mH, .int zy, .int za, .int zb, .int zs, .int zq, .int zw, .int ze, .ref mY, .int zn, .ref mE, .int zm, .int zl, .ref mW, .int zk, .ref mO, .int zd, .ref y1, .ref y2, .ref y3, .ref y4, .ref mZ])), (mS, .inl (cI, 21, .inl eS)), (mX, .inl (cI, 6300, .inl eX)), (rw, .inl (cI, cw, .inl fr))] (fun _ => True) 0 0 (fun (A : Nat → Prop) (hh9 : Heap) => ∀ PZ9 : Prop, (∀ (zp' : Int32) (zf' : Int32) (zs' : Int32) (eS' : Nat → Int32) (eX' : Nat → Int32), kPD (dC, dI) vwCl A [(oM, .inr (12, [.ref mT, .int zt, .ref mS, .ref mX, .int zp', .int zf', .ref mL, .ref mB, .ref mD, .ref m1, .ref m2, .int zh, .ref mR, .int zr, .ref x1, .ref x2, .ref x3, .int zc, .ref mH, .int zy, .int za, .int zb, .int zs', .int zq, .int zw, .int ze, .ref mY, .int zn, .ref mE, .int zm, .int zl, .ref mW, .int zk, .ref mO, .int zd, .ref y1, .ref y2, .ref y3, .ref y4, .ref mZ])), (mS, .inl (cI, 21, .inl eS')), (mX, .inl (cI, 6300, .inl eX')), (rw, .inl (cI, cw, .inl fr))] hh9 → (0 ≤ zp'.toInt ∧ zp'.toInt ≤ 20) → (0 ≤ zf'.toInt ∧ zf'.toInt ≤ 19) → (0 ≤ zs'.toInt ∧ zs'.toInt ≤ 2000000) → (rg 0 300 eS') → (rg 0 65535 eX') → (zs'.toInt = zs.toInt + 1) → (F_bR zp zp' zf zf' n eS eS' eX eX' fr) → PZ9) → PZ9) := by
  refine kMv_of (cc := cX12_become) (maxL := 5) (ret := none) (lv := [(0, .ref oM), (1, .ref rw), (2, .int n)]) (by decide +kernel) rfl rfl (Nat.le_of_ble_eq_true rfl) ?_
  intro p e s m below meth c A QQ ls hx hb hr hts hml hown hlocks hA hQQ hK hX hP hD hS hl
  have hown : s.vm.findClass RX12 = some m.cls := hown
  have hcf := k_cf hx hb hml hown hts
  have in_X12 : ∀ w ∈ wsX120, w ∈ wsX12_become := fun _ h => List.mem_cons_of_mem _ (List.mem_append_right _ (h))
  replace g_zt := hid g_zt
  replace g_zh := hid g_zh
  replace g_zr := hid g_zr
  replace g_zc := hid g_zc
  replace g_zy := hid g_zy
  replace g_za := hid g_za
  replace g_zb := hid g_zb
  replace g_zq := hid g_zq
  replace g_zn := hid g_zn
  replace g_zm := hid g_zm
  replace g_zk := hid g_zk
  have gS0 := g_eS 0
  refine lv_aload_n hx hb dX12_become_0 rfl (lv_at hl 0 rfl) ?_
  refine va_get (D := (dC, dI)) (ci := 12) (v := .int zp) (C := RX12) (T := TX12) (N := 40) hx hb hts in_X12 hown hK hP 0 rfl rfl 4 (Nat.le_of_ble_eq_true rfl) (hts (.fieldLink RX12 142 "TextMenderModel" "past" "I") (List.mem_of_getElem? (i := 1) rfl)) (fun _ h9 => h9) rfl dX12_become_1 ?_
  refine lv_bipush (v := 20) hx hb dX12_become_4 (by decide) ?_
  refine lv_icmp_ne (tgt := 25) hx hb dX12_become_6 (by decide) (fun c_1 => ?_) (fun c_1 => ?_)
  · have tc_1 : ¬ zp.toInt = 20 := v_ne c_1
    refine lv_aload_n hx hb dX12_become_25 rfl (lv_at hl 0 rfl) ?_
    refine lv_dup hx hb dX12_become_26 rfl ?_
    refine va_get (D := (dC, dI)) (ci := 12) (v := .int zp) (C := RX12) (T := TX12) (N := 40) hx hb hts in_X12 hown hK hP 0 rfl rfl 4 (Nat.le_of_ble_eq_true rfl) (hts (.fieldLink RX12 142 "TextMenderModel" "past" "I") (List.mem_of_getElem? (i := 1) rfl)) (fun _ h9 => h9) rfl dX12_become_27 ?_
    refine lv_iconst (v := 1) hx hb dX12_become_30 (by decide) ?_
    refine lv_iadd hx hb dX12_become_31 ?_
    refine lv_topi (fun x_2 ex_2 => ?_)
    have tx_2 : x_2.toInt = zp.toInt + 1 := v_addR (l2 := 1) (h2 := 1) ex_2 g_zp (by decide) (by decide) (by decide)
    refine va_put (D := (dC, dI)) (ci := 12) (v := .int x_2) (ty := .int) (C := RX12) (T := TX12) (N := 40) hx hb hts in_X12 tyX12 tyX12_ok nmX12 hown hK hP hD hS 0 rfl rfl 4 (Nat.le_of_ble_eq_true rfl) (hts (.fieldLink RX12 142 "TextMenderModel" "past" "I") (List.mem_of_getElem? (i := 1) rfl)) (fun _ h9 => h9) rfl (tyX12_ok 4 (Nat.le_of_ble_eq_true rfl)) rfl rfl (Nat.le_of_ble_eq_true rfl) dX12_become_32 (kW (wn := [(oM, .inr (12, [.ref mT, .int zt, .ref mS, .ref mX, .int x_2, .int zf, .ref mL, .ref mB, .ref mD, .ref m1, .ref m2, .int zh, .ref mR, .int zr, .ref x1, .ref x2, .ref x3, .int zc, .ref mH, .int zy, .int za, .int zb, .int zs, .int zq, .int zw, .int ze, .ref mY, .int zn, .ref mE, .int zm, .int zl, .ref mW, .int zk, .ref mO, .int zd, .ref y1, .ref y2, .ref y3, .ref y4, .ref mZ])), (mS, .inl (cI, 21, .inl eS)), (mX, .inl (cI, 6300, .inl eX)), (rw, .inl (cI, cw, .inl fr))]) rfl (fun H locs hPn hDn hSn => ?_))
    clear hP hD hS
    have hP := hPn
    have hD := hDn
    have hS := hSn
    clear hPn hDn hSn
    refine lv_iconst (v := 1) hx hb dX12_become_35 (by decide) ?_
    refine lv_aload_n hx hb dX12_become_36 rfl (lv_at hl 0 rfl) ?_
    refine va_get (D := (dC, dI)) (ci := 12) (v := .int zf) (C := RX12) (T := TX12) (N := 40) hx hb hts in_X12 hown hK hP 0 rfl rfl 5 (Nat.le_of_ble_eq_true rfl) (hts (.fieldLink RX12 145 "TextMenderModel" "firstPast" "I") (List.mem_of_getElem? (i := 2) rfl)) (fun _ h9 => h9) rfl dX12_become_37 ?_
    refine lv_aload_n hx hb dX12_become_40 rfl (lv_at hl 0 rfl) ?_
    refine va_get (D := (dC, dI)) (ci := 12) (v := .int x_2) (C := RX12) (T := TX12) (N := 40) hx hb hts in_X12 hown hK hP 0 rfl rfl 4 (Nat.le_of_ble_eq_true rfl) (hts (.fieldLink RX12 142 "TextMenderModel" "past" "I") (List.mem_of_getElem? (i := 1) rfl)) (fun _ h9 => h9) rfl dX12_become_41 ?_
    refine lv_iadd hx hb dX12_become_44 ?_
    refine lv_topi (fun x_3 ex_3 => ?_)
    have tx_3 : x_3.toInt = zf.toInt + x_2.toInt := v_addR ex_3 g_zf (v_sumR (l := 1) (h := 21) (l2 := 1) (h2 := 1) tx_2 g_zp (by decide) (by decide) (by decide)) (by decide) (by decide)
    refine lv_iconst (v := 1) hx hb dX12_become_45 (by decide) ?_
    refine lv_isub hx hb dX12_become_46 ?_
    refine lv_topi (fun x_4 ex_4 => ?_)
    have tx_4 : x_4.toInt = x_3.toInt - 1 := v_sub ex_4 (by show -2147483648 ≤ x_3.toInt - 1; omega) (by show x_3.toInt - 1 < 2147483648; omega)
    refine lv_bipush (v := 20) hx hb dX12_become_47 (by decide) ?_
    refine lv_irem hx hb dX12_become_49 (by decide) ?_
    refine lv_topi (fun x_5 ex_5 => ?_)
    have tx_5 : x_5.toInt = x_4.toInt % 20 := v_rem ex_5 (by omega) (by decide)
    refine lv_iadd hx hb dX12_become_50 ?_
    refine lv_topi (fun x_6 ex_6 => ?_)
    have tx_6 : x_6.toInt = 1 + x_5.toInt := v_add ex_6 (by show -2147483648 ≤ 1 + x_5.toInt; omega) (by show 1 + x_5.toInt < 2147483648; omega)
    refine lv_istore_n (lv' := [(3, .int x_6), (0, .ref oM), (1, .ref rw), (2, .int n)]) hx hb dX12_become_51 rfl hl (by decide) rfl (fun ls hl => ?_)
    refine lv_aload_n hx hb dX12_become_52 rfl (lv_at hl 1 rfl) ?_
    refine va_get (D := (dC, dI)) (ci := 12) (v := .ref mS) (C := RX12) (T := TX12) (N := 40) hx hb hts in_X12 hown hK hP 0 rfl rfl 2 (Nat.le_of_ble_eq_true rfl) (hts (.fieldLink RX12 13 "TextMenderModel" "sizes" "[I") (List.mem_of_getElem? (i := 3) rfl)) (fun _ h9 => h9) rfl dX12_become_53 ?_
    refine lv_iload_n hx hb dX12_become_56 rfl (lv_at hl 0 rfl) ?_
    refine lv_aload_n hx hb dX12_become_57 rfl (lv_at hl 1 rfl) ?_
    refine va_get (D := (dC, dI)) (ci := 12) (v := .ref mS) (C := RX12) (T := TX12) (N := 40) hx hb hts in_X12 hown hK hP 0 rfl rfl 2 (Nat.le_of_ble_eq_true rfl) (hts (.fieldLink RX12 13 "TextMenderModel" "sizes" "[I") (List.mem_of_getElem? (i := 3) rfl)) (fun _ h9 => h9) rfl dX12_become_58 ?_
    refine lv_iconst (v := 0) hx hb dX12_become_61 (by decide) ?_
    refine va_iald hx hb hK hP 1 0 rfl rfl (by unfold vp_in; decide) dX12_become_62 ?_
    refine lv_topi (fun x_7 ex_7 => ?_)
    have tx_7 : 0 ≤ x_7.toInt ∧ x_7.toInt ≤ 300 := rg_at g_eS ex_7
    obtain ⟨f_8, ef_8⟩ : ∃ g : Nat → Int32, g = upd eS (x_6 : Int32).toNatClampNeg x_7 := ⟨_, rfl⟩
    refine va_iast hx hb hK hP hD hS 1 0 rfl rfl (v_in (by omega)) dX12_become_63 (kWf (g := f_8) (F := fun f_8 => [(oM, .inr (12, [.ref mT, .int zt, .ref mS, .ref mX, .int x_2, .int zf, .ref mL, .ref mB, .ref mD, .ref m1, .ref m2, .int zh, .ref mR, .int zr, .ref x1, .ref x2, .ref x3, .int zc, .ref mH, .int zy, .int za, .int zb, .int zs, .int zq, .int zw, .int ze, .ref mY, .int zn, .ref mE, .int zm, .int zl, .ref mW, .int zk, .ref mO, .int zd, .ref y1, .ref y2, .ref y3, .ref y4, .ref mZ])), (mS, .inl (cI, 21, .inl f_8)), (mX, .inl (cI, 6300, .inl eX)), (rw, .inl (cI, cw, .inl fr))]) ef_8 rfl (fun H locs hPn hDn hSn => ?_))
    clear hP hD hS
    have hP := hPn
    have hD := hDn
    have hS := hSn
    clear hPn hDn hSn
    have g_f8 : rg 0 300 f_8 := rg_upd ef_8 g_eS (by omega)
    refine lv_iconst (v := 0) hx hb dX12_become_64 (by decide) ?_
    refine lv_istore (lv' := [(4, .int 0), (3, .int x_6), (0, .ref oM), (1, .ref rw), (2, .int n)]) hx hb dX12_become_65 hl (by decide) rfl (fun ls hl => ?_)
    have LOOP_67 : ∀ (k_67 : Nat) (k : Int32) (eXa : Nat → Int32) (H : Heap) (locs : List Loc) (ls : Array Slot), MSd (300 - k.toInt : Int) k_67 → (0 ≤ k.toInt ∧ k.toInt ≤ 300) → (rg 0 65535 eXa) → (k.toInt ≤ (eS 0).toInt) → (CPB (300 * x_6.toInt) k.toInt eX eXa eX) → va_P (dC, dI) vwCl [(oM, .inr (12, [.ref mT, .int zt, .ref mS, .ref mX, .int x_2, .int zf, .ref mL, .ref mB, .ref mD, .ref m1, .ref m2, .int zh, .ref mR, .int zr, .ref x1, .ref x2, .ref x3, .int zc, .ref mH, .int zy, .int za, .int zb, .int zs, .int zq, .int zw, .int ze, .ref mY, .int zn, .ref mE, .int zm, .int zl, .ref mW, .int zk, .ref mO, .int zd, .ref y1, .ref y2, .ref y3, .ref y4, .ref mZ])), (mS, .inl (cI, 21, .inl f_8)), (mX, .inl (cI, 6300, .inl eXa)), (rw, .inl (cI, cw, .inl fr))] H → va_D A [(oM, .inr (12, [.ref mT, .int zt, .ref mS, .ref mX, .int x_2, .int zf, .ref mL, .ref mB, .ref mD, .ref m1, .ref m2, .int zh, .ref mR, .int zr, .ref x1, .ref x2, .ref x3, .int zc, .ref mH, .int zy, .int za, .int zb, .int zs, .int zq, .int zw, .int ze, .ref mY, .int zn, .ref mE, .int zm, .int zl, .ref mW, .int zk, .ref mO, .int zd, .ref y1, .ref y2, .ref y3, .ref y4, .ref mZ])), (mS, .inl (cI, 21, .inl f_8)), (mX, .inl (cI, 6300, .inl eXa)), (rw, .inl (cI, cw, .inl fr))] → va_S A s.heap H locs → lv_has ls 5 [(4, .int k), (3, .int x_6), (0, .ref oM), (1, .ref rw), (2, .int n)] → W p l e (headSpec wsX12_become ({ frames := 0, cells := 0, slots := 0, locals := 0 } : Room)).room s m ([.ref oM, .ref rw, .int n] : List Value).toArray below meth c H locs 0 0 (MQ below QQ ([.ref oM, .ref rw, .int n] : List Value).toArray s 0 0 A) (F0 m 67 ls []) := by
      clear hP hD hS hl
      intro k_67
      induction k_67 with
      | zero =>
        intro k eXa H locs ls hm_67 g_k g_eXa hks hcb hP hD hS hl
        exact ms_0 hm_67
      | succ k_67 ih_67 =>
        intro k eXa H locs ls hm_67 g_k g_eXa hks hcb hP hD hS hl
        refine lv_iload hx hb dX12_become_67 (lv_at hl 0 rfl) ?_
        refine lv_aload_n hx hb dX12_become_69 rfl (lv_at hl 2 rfl) ?_
        refine va_get (D := (dC, dI)) (ci := 12) (v := .ref mS) (C := RX12) (T := TX12) (N := 40) hx hb hts in_X12 hown hK hP 0 rfl rfl 2 (Nat.le_of_ble_eq_true rfl) (hts (.fieldLink RX12 13 "TextMenderModel" "sizes" "[I") (List.mem_of_getElem? (i := 3) rfl)) (fun _ h9 => h9) rfl dX12_become_70 ?_
        refine lv_iconst (v := 0) hx hb dX12_become_73 (by decide) ?_
        refine va_iald hx hb hK hP 1 0 rfl rfl (by unfold vp_in; decide) dX12_become_74 ?_
        refine lv_topi (fun x_9 ex_9 => ?_)
        have tx_9 : 0 ≤ x_9.toInt ∧ x_9.toInt ≤ 300 := rg_at g_f8 ex_9
        have hs_x_9 : x_9 = eS 0 := up0 ef_8 (by omega) ex_9
        have hi_x_9 : x_9.toInt = (eS 0).toInt := v_eq hs_x_9
        refine lv_icmp_ge (tgt := 104) hx hb dX12_become_75 (by decide) (fun c_10 => ?_) (fun c_10 => ?_)
        · have tc_10 : x_9.toInt ≤ k.toInt := v_le c_10
          refine lv_aload_n hx hb dX12_become_104 rfl (lv_at hl 2 rfl) ?_
          refine va_get (D := (dC, dI)) (ci := 12) (v := .ref mS) (C := RX12) (T := TX12) (N := 40) hx hb hts in_X12 hown hK hP 0 rfl rfl 2 (Nat.le_of_ble_eq_true rfl) (hts (.fieldLink RX12 13 "TextMenderModel" "sizes" "[I") (List.mem_of_getElem? (i := 3) rfl)) (fun _ h9 => h9) rfl dX12_become_105 ?_
          refine lv_iconst (v := 0) hx hb dX12_become_108 (by decide) ?_
          refine lv_iload_n hx hb dX12_become_109 rfl (lv_at hl 4 rfl) ?_
          obtain ⟨f_11, ef_11⟩ : ∃ g : Nat → Int32, g = upd f_8 (0 : Int32).toNatClampNeg n := ⟨_, rfl⟩
          refine va_iast hx hb hK hP hD hS 1 0 rfl rfl (by unfold vp_in; decide) dX12_become_110 (kWf (g := f_11) (F := fun f_11 => [(oM, .inr (12, [.ref mT, .int zt, .ref mS, .ref mX, .int x_2, .int zf, .ref mL, .ref mB, .ref mD, .ref m1, .ref m2, .int zh, .ref mR, .int zr, .ref x1, .ref x2, .ref x3, .int zc, .ref mH, .int zy, .int za, .int zb, .int zs, .int zq, .int zw, .int ze, .ref mY, .int zn, .ref mE, .int zm, .int zl, .ref mW, .int zk, .ref mO, .int zd, .ref y1, .ref y2, .ref y3, .ref y4, .ref mZ])), (mS, .inl (cI, 21, .inl f_11)), (mX, .inl (cI, 6300, .inl eXa)), (rw, .inl (cI, cw, .inl fr))]) ef_11 rfl (fun H locs hPn hDn hSn => ?_))
          clear hP hD hS
          have hP := hPn
          have hD := hDn
          have hS := hSn
          clear hPn hDn hSn
          have g_f11 : rg 0 300 f_11 := rg_upd ef_11 g_f8 (by omega)
          refine lv_iconst (v := 0) hx hb dX12_become_111 (by decide) ?_
          refine lv_istore (lv' := [(4, .int 0), (3, .int x_6), (0, .ref oM), (1, .ref rw), (2, .int n)]) hx hb dX12_become_112 hl (by decide) rfl (fun ls hl => ?_)
          have LOOP_114 : ∀ (k_114 : Nat) (k2 : Int32) (eXb : Nat → Int32) (H : Heap) (locs : List Loc) (ls : Array Slot), MSd (300 - k2.toInt : Int) k_114 → (0 ≤ k2.toInt ∧ k2.toInt ≤ 300) → (rg 0 65535 eXb) → (k2.toInt ≤ n.toInt) → (CPB 0 k2.toInt eXa eXb fr) → va_P (dC, dI) vwCl [(oM, .inr (12, [.ref mT, .int zt, .ref mS, .ref mX, .int x_2, .int zf, .ref mL, .ref mB, .ref mD, .ref m1, .ref m2, .int zh, .ref mR, .int zr, .ref x1, .ref x2, .ref x3, .int zc, .ref mH, .int zy, .int za, .int zb, .int zs, .int zq, .int zw, .int ze, .ref mY, .int zn, .ref mE, .int zm, .int zl, .ref mW, .int zk, .ref mO, .int zd, .ref y1, .ref y2, .ref y3, .ref y4, .ref mZ])), (mS, .inl (cI, 21, .inl f_11)), (mX, .inl (cI, 6300, .inl eXb)), (rw, .inl (cI, cw, .inl fr))] H → va_D A [(oM, .inr (12, [.ref mT, .int zt, .ref mS, .ref mX, .int x_2, .int zf, .ref mL, .ref mB, .ref mD, .ref m1, .ref m2, .int zh, .ref mR, .int zr, .ref x1, .ref x2, .ref x3, .int zc, .ref mH, .int zy, .int za, .int zb, .int zs, .int zq, .int zw, .int ze, .ref mY, .int zn, .ref mE, .int zm, .int zl, .ref mW, .int zk, .ref mO, .int zd, .ref y1, .ref y2, .ref y3, .ref y4, .ref mZ])), (mS, .inl (cI, 21, .inl f_11)), (mX, .inl (cI, 6300, .inl eXb)), (rw, .inl (cI, cw, .inl fr))] → va_S A s.heap H locs → lv_has ls 5 [(4, .int k2), (3, .int x_6), (0, .ref oM), (1, .ref rw), (2, .int n)] → W p l e (headSpec wsX12_become ({ frames := 0, cells := 0, slots := 0, locals := 0 } : Room)).room s m ([.ref oM, .ref rw, .int n] : List Value).toArray below meth c H locs 0 0 (MQ below QQ ([.ref oM, .ref rw, .int n] : List Value).toArray s 0 0 A) (F0 m 114 ls []) := by
            clear hP hD hS hl
            intro k_114
            induction k_114 with
            | zero =>
              intro k2 eXb H locs ls hm_114 g_k2 g_eXb hkn hcc hP hD hS hl
              exact ms_0 hm_114
            | succ k_114 ih_114 =>
              intro k2 eXb H locs ls hm_114 g_k2 g_eXb hkn hcc hP hD hS hl
              refine lv_iload hx hb dX12_become_114 (lv_at hl 0 rfl) ?_
              refine lv_iload_n hx hb dX12_become_116 rfl (lv_at hl 4 rfl) ?_
              refine lv_icmp_ge (tgt := 137) hx hb dX12_become_117 (by decide) (fun c_12 => ?_) (fun c_12 => ?_)
              · have tc_12 : n.toInt ≤ k2.toInt := v_le c_12
                refine lv_aload_n hx hb dX12_become_137 rfl (lv_at hl 2 rfl) ?_
                refine lv_dup hx hb dX12_become_138 rfl ?_
                refine va_get (D := (dC, dI)) (ci := 12) (v := .int zs) (C := RX12) (T := TX12) (N := 40) hx hb hts in_X12 hown hK hP 0 rfl rfl 22 (Nat.le_of_ble_eq_true rfl) (hts (.fieldLink RX12 148 "TextMenderModel" "state" "I") (List.mem_of_getElem? (i := 5) rfl)) (fun _ h9 => h9) rfl dX12_become_139 ?_
                refine lv_iconst (v := 1) hx hb dX12_become_142 (by decide) ?_
                refine lv_iadd hx hb dX12_become_143 ?_
                refine lv_topi (fun x_13 ex_13 => ?_)
                have tx_13 : x_13.toInt = zs.toInt + 1 := v_addR (l2 := 1) (h2 := 1) ex_13 g_zs (by decide) (by decide) (by decide)
                refine va_put (D := (dC, dI)) (ci := 12) (v := .int x_13) (ty := .int) (C := RX12) (T := TX12) (N := 40) hx hb hts in_X12 tyX12 tyX12_ok nmX12 hown hK hP hD hS 0 rfl rfl 22 (Nat.le_of_ble_eq_true rfl) (hts (.fieldLink RX12 148 "TextMenderModel" "state" "I") (List.mem_of_getElem? (i := 5) rfl)) (fun _ h9 => h9) rfl (tyX12_ok 22 (Nat.le_of_ble_eq_true rfl)) rfl rfl (Nat.le_of_ble_eq_true rfl) dX12_become_144 (kW (wn := [(oM, .inr (12, [.ref mT, .int zt, .ref mS, .ref mX, .int x_2, .int zf, .ref mL, .ref mB, .ref mD, .ref m1, .ref m2, .int zh, .ref mR, .int zr, .ref x1, .ref x2, .ref x3, .int zc, .ref mH, .int zy, .int za, .int zb, .int x_13, .int zq, .int zw, .int ze, .ref mY, .int zn, .ref mE, .int zm, .int zl, .ref mW, .int zk, .ref mO, .int zd, .ref y1, .ref y2, .ref y3, .ref y4, .ref mZ])), (mS, .inl (cI, 21, .inl f_11)), (mX, .inl (cI, 6300, .inl eXb)), (rw, .inl (cI, cw, .inl fr))]) rfl (fun H locs hPn hDn hSn => ?_))
                clear hP hD hS
                have hP := hPn
                have hD := hDn
                have hS := hSn
                clear hPn hDn hSn
                exact kl_v hQQ hx hb hr hlocks hS dX12_become_147 (fun PZ9 kZ9 => kZ9 x_2 zf x_13 f_11 eXb (⟨hP, hD⟩) (by omega) (g_zf) (by omega) (g_f11) (g_eXb) (by show x_13.toInt = zs.toInt + 1; omega) (bR_of (t := x_6) (by omega) (by omega) (by omega) ex_7 ef_8 ef_11 hcb (by omega) hcc (by omega)))
              · have tc_12 : k2.toInt < n.toInt := v_nle c_12
                refine lv_aload_n hx hb dX12_become_120 rfl (lv_at hl 2 rfl) ?_
                refine va_get (D := (dC, dI)) (ci := 12) (v := .ref mX) (C := RX12) (T := TX12) (N := 40) hx hb hts in_X12 hown hK hP 0 rfl rfl 3 (Nat.le_of_ble_eq_true rfl) (hts (.fieldLink RX12 16 "TextMenderModel" "texts" "[I") (List.mem_of_getElem? (i := 4) rfl)) (fun _ h9 => h9) rfl dX12_become_121 ?_
                refine lv_iload hx hb dX12_become_124 (lv_at hl 0 rfl) ?_
                refine lv_aload_n hx hb dX12_become_126 rfl (lv_at hl 3 rfl) ?_
                refine lv_iload hx hb dX12_become_127 (lv_at hl 0 rfl) ?_
                refine va_iald hx hb hK hP 3 0 rfl rfl (v_in (by omega)) dX12_become_129 ?_
                refine lv_topi (fun x_14 ex_14 => ?_)
                have tp_x_14 := prg_at hrow ex_14 (by omega) (by omega)
                obtain ⟨f_15, ef_15⟩ : ∃ g : Nat → Int32, g = upd eXb (k2 : Int32).toNatClampNeg x_14 := ⟨_, rfl⟩
                refine va_iast hx hb hK hP hD hS 2 0 rfl rfl (v_inR g_k2 (by decide) (by decide)) dX12_become_130 (kWf (g := f_15) (F := fun f_15 => [(oM, .inr (12, [.ref mT, .int zt, .ref mS, .ref mX, .int x_2, .int zf, .ref mL, .ref mB, .ref mD, .ref m1, .ref m2, .int zh, .ref mR, .int zr, .ref x1, .ref x2, .ref x3, .int zc, .ref mH, .int zy, .int za, .int zb, .int zs, .int zq, .int zw, .int ze, .ref mY, .int zn, .ref mE, .int zm, .int zl, .ref mW, .int zk, .ref mO, .int zd, .ref y1, .ref y2, .ref y3, .ref y4, .ref mZ])), (mS, .inl (cI, 21, .inl f_11)), (mX, .inl (cI, 6300, .inl f_15)), (rw, .inl (cI, cw, .inl fr))]) ef_15 rfl (fun H locs hPn hDn hSn => ?_))
                clear hP hD hS
                have hP := hPn
                have hD := hDn
                have hS := hSn
                clear hPn hDn hSn
                have g_f15 : rg 0 65535 f_15 := rg_upd ef_15 g_eXb (by omega)
                obtain ⟨x_16, ex_16⟩ : ∃ y : Int32, y = k2 + 1 := ⟨_, rfl⟩
                have tx_16 : x_16.toInt = k2.toInt + 1 := v_addR (l2 := 1) (h2 := 1) ex_16 g_k2 (by decide) (by decide) (by decide)
                refine lv_iinc (v := x_16) (lv' := [(4, .int x_16), (3, .int x_6), (0, .ref oM), (1, .ref rw), (2, .int n)]) hx hb dX12_become_131 hl (k := 0) rfl (by rw [ex_16]; rfl) (by decide) rfl (fun ls hl => ?_)
                refine lv_goto (tgt := 114) hx hb dX12_become_134 (by decide) ?_
                exact ih_114 x_16 f_15 _ _ _ (ms_lt hm_114 (by show ((300 - x_16.toInt : Int)) < 300 - k2.toInt; omega) (by show (0 : Int) < 300 - k2.toInt; omega)) (by show 0 ≤ x_16.toInt ∧ x_16.toInt ≤ 300; omega) (g_f15) (by show x_16.toInt ≤ n.toInt; omega) (CPB_s hcc (by omega) (by omega) ex_14 ef_15 (by omega) (by omega)) hP hD hS (lv_sub hl [0, 1, 2, 3, 4] rfl)
          exact LOOP_114 _ 0 eXa _ _ _ (ms_s _) (by decide) (g_eXa) (by show 0 ≤ n.toInt; omega) (CPB_0 (by decide)) hP hD hS (lv_sub hl [0, 1, 2, 3, 4] rfl)
        · have tc_10 : k.toInt < x_9.toInt := v_nle c_10
          refine lv_aload_n hx hb dX12_become_78 rfl (lv_at hl 2 rfl) ?_
          refine va_get (D := (dC, dI)) (ci := 12) (v := .ref mX) (C := RX12) (T := TX12) (N := 40) hx hb hts in_X12 hown hK hP 0 rfl rfl 3 (Nat.le_of_ble_eq_true rfl) (hts (.fieldLink RX12 16 "TextMenderModel" "texts" "[I") (List.mem_of_getElem? (i := 4) rfl)) (fun _ h9 => h9) rfl dX12_become_79 ?_
          refine lv_sipush (v := 300) hx hb dX12_become_82 (by decide) ?_
          refine lv_iload_n hx hb dX12_become_85 rfl (lv_at hl 1 rfl) ?_
          refine lv_imul hx hb dX12_become_86 ?_
          refine lv_topi (fun x_17 ex_17 => ?_)
          have tx_17 : x_17.toInt = 300 * x_6.toInt := v_mul ex_17 (by show -2147483648 ≤ 300 * x_6.toInt; omega) (by show 300 * x_6.toInt < 2147483648; omega)
          refine lv_iload hx hb dX12_become_87 (lv_at hl 0 rfl) ?_
          refine lv_iadd hx hb dX12_become_89 ?_
          refine lv_topi (fun x_18 ex_18 => ?_)
          have tx_18 : x_18.toInt = x_17.toInt + k.toInt := v_add ex_18 (by show -2147483648 ≤ x_17.toInt + k.toInt; omega) (by show x_17.toInt + k.toInt < 2147483648; omega)
          refine lv_aload_n hx hb dX12_become_90 rfl (lv_at hl 2 rfl) ?_
          refine va_get (D := (dC, dI)) (ci := 12) (v := .ref mX) (C := RX12) (T := TX12) (N := 40) hx hb hts in_X12 hown hK hP 0 rfl rfl 3 (Nat.le_of_ble_eq_true rfl) (hts (.fieldLink RX12 16 "TextMenderModel" "texts" "[I") (List.mem_of_getElem? (i := 4) rfl)) (fun _ h9 => h9) rfl dX12_become_91 ?_
          refine lv_iload hx hb dX12_become_94 (lv_at hl 0 rfl) ?_
          refine va_iald hx hb hK hP 2 0 rfl rfl (v_inR g_k (by decide) (by decide)) dX12_become_96 ?_
          refine lv_topi (fun x_19 ex_19 => ?_)
          have tx_19 : 0 ≤ x_19.toInt ∧ x_19.toInt ≤ 65535 := rg_at g_eXa ex_19
          obtain ⟨f_20, ef_20⟩ : ∃ g : Nat → Int32, g = upd eXa (x_18 : Int32).toNatClampNeg x_19 := ⟨_, rfl⟩
          refine va_iast hx hb hK hP hD hS 2 0 rfl rfl (v_in (by omega)) dX12_become_97 (kWf (g := f_20) (F := fun f_20 => [(oM, .inr (12, [.ref mT, .int zt, .ref mS, .ref mX, .int x_2, .int zf, .ref mL, .ref mB, .ref mD, .ref m1, .ref m2, .int zh, .ref mR, .int zr, .ref x1, .ref x2, .ref x3, .int zc, .ref mH, .int zy, .int za, .int zb, .int zs, .int zq, .int zw, .int ze, .ref mY, .int zn, .ref mE, .int zm, .int zl, .ref mW, .int zk, .ref mO, .int zd, .ref y1, .ref y2, .ref y3, .ref y4, .ref mZ])), (mS, .inl (cI, 21, .inl f_8)), (mX, .inl (cI, 6300, .inl f_20)), (rw, .inl (cI, cw, .inl fr))]) ef_20 rfl (fun H locs hPn hDn hSn => ?_))
          clear hP hD hS
          have hP := hPn
          have hD := hDn
          have hS := hSn
          clear hPn hDn hSn
          have g_f20 : rg 0 65535 f_20 := rg_upd ef_20 g_eXa (by omega)
          obtain ⟨x_21, ex_21⟩ : ∃ y : Int32, y = k + 1 := ⟨_, rfl⟩
          have tx_21 : x_21.toInt = k.toInt + 1 := v_addR (l2 := 1) (h2 := 1) ex_21 g_k (by decide) (by decide) (by decide)
          refine lv_iinc (v := x_21) (lv' := [(4, .int x_21), (3, .int x_6), (0, .ref oM), (1, .ref rw), (2, .int n)]) hx hb dX12_become_98 hl (k := 0) rfl (by rw [ex_21]; rfl) (by decide) rfl (fun ls hl => ?_)
          refine lv_goto (tgt := 67) hx hb dX12_become_101 (by decide) ?_
          exact ih_67 x_21 f_20 _ _ _ (ms_lt hm_67 (by show ((300 - x_21.toInt : Int)) < 300 - k.toInt; omega) (by show (0 : Int) < 300 - k.toInt; omega)) (by show 0 ≤ x_21.toInt ∧ x_21.toInt ≤ 300; omega) (g_f20) (by show x_21.toInt ≤ (eS 0).toInt; omega) (CPB_s hcb (by omega) (by omega) (ex_19.trans (hcb.2 _ (by have c9 := v_clamp (x := k) (by omega); omega))) ef_20 (by omega) (by omega)) hP hD hS (lv_sub hl [0, 1, 2, 3, 4] rfl)
    exact LOOP_67 _ 0 eX _ _ _ (ms_s _) (by decide) (g_eX) (by show 0 ≤ (eS 0).toInt; omega) (CPB_0 (by decide)) hP hD hS (lv_sub hl [0, 1, 2, 3, 4] rfl)
  · have tc_1 : zp.toInt = 20 := v_eq c_1
    refine lv_aload_n hx hb dX12_become_9 rfl (lv_at hl 0 rfl) ?_
    refine lv_aload_n hx hb dX12_become_10 rfl (lv_at hl 0 rfl) ?_
    refine va_get (D := (dC, dI)) (ci := 12) (v := .int zf) (C := RX12) (T := TX12) (N := 40) hx hb hts in_X12 hown hK hP 0 rfl rfl 5 (Nat.le_of_ble_eq_true rfl) (hts (.fieldLink RX12 145 "TextMenderModel" "firstPast" "I") (List.mem_of_getElem? (i := 2) rfl)) (fun _ h9 => h9) rfl dX12_become_11 ?_
    refine lv_iconst (v := 1) hx hb dX12_become_14 (by decide) ?_
    refine lv_iadd hx hb dX12_become_15 ?_
    refine lv_topi (fun x_22 ex_22 => ?_)
    have tx_22 : x_22.toInt = zf.toInt + 1 := v_addR (l2 := 1) (h2 := 1) ex_22 g_zf (by decide) (by decide) (by decide)
    refine lv_bipush (v := 20) hx hb dX12_become_16 (by decide) ?_
    refine lv_irem hx hb dX12_become_18 (by decide) ?_
    refine lv_topi (fun x_23 ex_23 => ?_)
    have tx_23 : x_23.toInt = x_22.toInt % 20 := v_rem ex_23 (by omega) (by decide)
    refine va_put (D := (dC, dI)) (ci := 12) (v := .int x_23) (ty := .int) (C := RX12) (T := TX12) (N := 40) hx hb hts in_X12 tyX12 tyX12_ok nmX12 hown hK hP hD hS 0 rfl rfl 5 (Nat.le_of_ble_eq_true rfl) (hts (.fieldLink RX12 145 "TextMenderModel" "firstPast" "I") (List.mem_of_getElem? (i := 2) rfl)) (fun _ h9 => h9) rfl (tyX12_ok 5 (Nat.le_of_ble_eq_true rfl)) rfl rfl (Nat.le_of_ble_eq_true rfl) dX12_become_19 (kW (wn := [(oM, .inr (12, [.ref mT, .int zt, .ref mS, .ref mX, .int zp, .int x_23, .ref mL, .ref mB, .ref mD, .ref m1, .ref m2, .int zh, .ref mR, .int zr, .ref x1, .ref x2, .ref x3, .int zc, .ref mH, .int zy, .int za, .int zb, .int zs, .int zq, .int zw, .int ze, .ref mY, .int zn, .ref mE, .int zm, .int zl, .ref mW, .int zk, .ref mO, .int zd, .ref y1, .ref y2, .ref y3, .ref y4, .ref mZ])), (mS, .inl (cI, 21, .inl eS)), (mX, .inl (cI, 6300, .inl eX)), (rw, .inl (cI, cw, .inl fr))]) rfl (fun H locs hPn hDn hSn => ?_))
    clear hP hD hS
    have hP := hPn
    have hD := hDn
    have hS := hSn
    clear hPn hDn hSn
    refine lv_goto (tgt := 35) hx hb dX12_become_22 (by decide) ?_
    refine lv_iconst (v := 1) hx hb dX12_become_35 (by decide) ?_
    refine lv_aload_n hx hb dX12_become_36 rfl (lv_at hl 0 rfl) ?_
    refine va_get (D := (dC, dI)) (ci := 12) (v := .int x_23) (C := RX12) (T := TX12) (N := 40) hx hb hts in_X12 hown hK hP 0 rfl rfl 5 (Nat.le_of_ble_eq_true rfl) (hts (.fieldLink RX12 145 "TextMenderModel" "firstPast" "I") (List.mem_of_getElem? (i := 2) rfl)) (fun _ h9 => h9) rfl dX12_become_37 ?_
    refine lv_aload_n hx hb dX12_become_40 rfl (lv_at hl 0 rfl) ?_
    refine va_get (D := (dC, dI)) (ci := 12) (v := .int zp) (C := RX12) (T := TX12) (N := 40) hx hb hts in_X12 hown hK hP 0 rfl rfl 4 (Nat.le_of_ble_eq_true rfl) (hts (.fieldLink RX12 142 "TextMenderModel" "past" "I") (List.mem_of_getElem? (i := 1) rfl)) (fun _ h9 => h9) rfl dX12_become_41 ?_
    refine lv_iadd hx hb dX12_become_44 ?_
    refine lv_topi (fun x_24 ex_24 => ?_)
    have tx_24 : x_24.toInt = x_23.toInt + zp.toInt := v_add ex_24 (by show -2147483648 ≤ x_23.toInt + zp.toInt; omega) (by show x_23.toInt + zp.toInt < 2147483648; omega)
    refine lv_iconst (v := 1) hx hb dX12_become_45 (by decide) ?_
    refine lv_isub hx hb dX12_become_46 ?_
    refine lv_topi (fun x_25 ex_25 => ?_)
    have tx_25 : x_25.toInt = x_24.toInt - 1 := v_sub ex_25 (by show -2147483648 ≤ x_24.toInt - 1; omega) (by show x_24.toInt - 1 < 2147483648; omega)
    refine lv_bipush (v := 20) hx hb dX12_become_47 (by decide) ?_
    refine lv_irem hx hb dX12_become_49 (by decide) ?_
    refine lv_topi (fun x_26 ex_26 => ?_)
    have tx_26 : x_26.toInt = x_25.toInt % 20 := v_rem ex_26 (by omega) (by decide)
    refine lv_iadd hx hb dX12_become_50 ?_
    refine lv_topi (fun x_27 ex_27 => ?_)
    have tx_27 : x_27.toInt = 1 + x_26.toInt := v_add ex_27 (by show -2147483648 ≤ 1 + x_26.toInt; omega) (by show 1 + x_26.toInt < 2147483648; omega)
    refine lv_istore_n (lv' := [(3, .int x_27), (0, .ref oM), (1, .ref rw), (2, .int n)]) hx hb dX12_become_51 rfl hl (by decide) rfl (fun ls hl => ?_)
    refine lv_aload_n hx hb dX12_become_52 rfl (lv_at hl 1 rfl) ?_
    refine va_get (D := (dC, dI)) (ci := 12) (v := .ref mS) (C := RX12) (T := TX12) (N := 40) hx hb hts in_X12 hown hK hP 0 rfl rfl 2 (Nat.le_of_ble_eq_true rfl) (hts (.fieldLink RX12 13 "TextMenderModel" "sizes" "[I") (List.mem_of_getElem? (i := 3) rfl)) (fun _ h9 => h9) rfl dX12_become_53 ?_
    refine lv_iload_n hx hb dX12_become_56 rfl (lv_at hl 0 rfl) ?_
    refine lv_aload_n hx hb dX12_become_57 rfl (lv_at hl 1 rfl) ?_
    refine va_get (D := (dC, dI)) (ci := 12) (v := .ref mS) (C := RX12) (T := TX12) (N := 40) hx hb hts in_X12 hown hK hP 0 rfl rfl 2 (Nat.le_of_ble_eq_true rfl) (hts (.fieldLink RX12 13 "TextMenderModel" "sizes" "[I") (List.mem_of_getElem? (i := 3) rfl)) (fun _ h9 => h9) rfl dX12_become_58 ?_
    refine lv_iconst (v := 0) hx hb dX12_become_61 (by decide) ?_
    refine va_iald hx hb hK hP 1 0 rfl rfl (by unfold vp_in; decide) dX12_become_62 ?_
    refine lv_topi (fun x_28 ex_28 => ?_)
    have tx_28 : 0 ≤ x_28.toInt ∧ x_28.toInt ≤ 300 := rg_at g_eS ex_28
    obtain ⟨f_29, ef_29⟩ : ∃ g : Nat → Int32, g = upd eS (x_27 : Int32).toNatClampNeg x_28 := ⟨_, rfl⟩
    refine va_iast hx hb hK hP hD hS 1 0 rfl rfl (v_in (by omega)) dX12_become_63 (kWf (g := f_29) (F := fun f_29 => [(oM, .inr (12, [.ref mT, .int zt, .ref mS, .ref mX, .int zp, .int x_23, .ref mL, .ref mB, .ref mD, .ref m1, .ref m2, .int zh, .ref mR, .int zr, .ref x1, .ref x2, .ref x3, .int zc, .ref mH, .int zy, .int za, .int zb, .int zs, .int zq, .int zw, .int ze, .ref mY, .int zn, .ref mE, .int zm, .int zl, .ref mW, .int zk, .ref mO, .int zd, .ref y1, .ref y2, .ref y3, .ref y4, .ref mZ])), (mS, .inl (cI, 21, .inl f_29)), (mX, .inl (cI, 6300, .inl eX)), (rw, .inl (cI, cw, .inl fr))]) ef_29 rfl (fun H locs hPn hDn hSn => ?_))
    clear hP hD hS
    have hP := hPn
    have hD := hDn
    have hS := hSn
    clear hPn hDn hSn
    have g_f29 : rg 0 300 f_29 := rg_upd ef_29 g_eS (by omega)
    refine lv_iconst (v := 0) hx hb dX12_become_64 (by decide) ?_
    refine lv_istore (lv' := [(4, .int 0), (3, .int x_27), (0, .ref oM), (1, .ref rw), (2, .int n)]) hx hb dX12_become_65 hl (by decide) rfl (fun ls hl => ?_)
    have LOOP_67 : ∀ (k_67 : Nat) (k : Int32) (eXa : Nat → Int32) (H : Heap) (locs : List Loc) (ls : Array Slot), MSd (300 - k.toInt : Int) k_67 → (0 ≤ k.toInt ∧ k.toInt ≤ 300) → (rg 0 65535 eXa) → (k.toInt ≤ (eS 0).toInt) → (CPB (300 * x_27.toInt) k.toInt eX eXa eX) → va_P (dC, dI) vwCl [(oM, .inr (12, [.ref mT, .int zt, .ref mS, .ref mX, .int zp, .int x_23, .ref mL, .ref mB, .ref mD, .ref m1, .ref m2, .int zh, .ref mR, .int zr, .ref x1, .ref x2, .ref x3, .int zc, .ref mH, .int zy, .int za, .int zb, .int zs, .int zq, .int zw, .int ze, .ref mY, .int zn, .ref mE, .int zm, .int zl, .ref mW, .int zk, .ref mO, .int zd, .ref y1, .ref y2, .ref y3, .ref y4, .ref mZ])), (mS, .inl (cI, 21, .inl f_29)), (mX, .inl (cI, 6300, .inl eXa)), (rw, .inl (cI, cw, .inl fr))] H → va_D A [(oM, .inr (12, [.ref mT, .int zt, .ref mS, .ref mX, .int zp, .int x_23, .ref mL, .ref mB, .ref mD, .ref m1, .ref m2, .int zh, .ref mR, .int zr, .ref x1, .ref x2, .ref x3, .int zc, .ref mH, .int zy, .int za, .int zb, .int zs, .int zq, .int zw, .int ze, .ref mY, .int zn, .ref mE, .int zm, .int zl, .ref mW, .int zk, .ref mO, .int zd, .ref y1, .ref y2, .ref y3, .ref y4, .ref mZ])), (mS, .inl (cI, 21, .inl f_29)), (mX, .inl (cI, 6300, .inl eXa)), (rw, .inl (cI, cw, .inl fr))] → va_S A s.heap H locs → lv_has ls 5 [(4, .int k), (3, .int x_27), (0, .ref oM), (1, .ref rw), (2, .int n)] → W p l e (headSpec wsX12_become ({ frames := 0, cells := 0, slots := 0, locals := 0 } : Room)).room s m ([.ref oM, .ref rw, .int n] : List Value).toArray below meth c H locs 0 0 (MQ below QQ ([.ref oM, .ref rw, .int n] : List Value).toArray s 0 0 A) (F0 m 67 ls []) := by
      clear hP hD hS hl
      intro k_67
      induction k_67 with
      | zero =>
        intro k eXa H locs ls hm_67 g_k g_eXa hks hcb hP hD hS hl
        exact ms_0 hm_67
      | succ k_67 ih_67 =>
        intro k eXa H locs ls hm_67 g_k g_eXa hks hcb hP hD hS hl
        refine lv_iload hx hb dX12_become_67 (lv_at hl 0 rfl) ?_
        refine lv_aload_n hx hb dX12_become_69 rfl (lv_at hl 2 rfl) ?_
        refine va_get (D := (dC, dI)) (ci := 12) (v := .ref mS) (C := RX12) (T := TX12) (N := 40) hx hb hts in_X12 hown hK hP 0 rfl rfl 2 (Nat.le_of_ble_eq_true rfl) (hts (.fieldLink RX12 13 "TextMenderModel" "sizes" "[I") (List.mem_of_getElem? (i := 3) rfl)) (fun _ h9 => h9) rfl dX12_become_70 ?_
        refine lv_iconst (v := 0) hx hb dX12_become_73 (by decide) ?_
        refine va_iald hx hb hK hP 1 0 rfl rfl (by unfold vp_in; decide) dX12_become_74 ?_
        refine lv_topi (fun x_30 ex_30 => ?_)
        have tx_30 : 0 ≤ x_30.toInt ∧ x_30.toInt ≤ 300 := rg_at g_f29 ex_30
        have hs_x_30 : x_30 = eS 0 := up0 ef_29 (by omega) ex_30
        have hi_x_30 : x_30.toInt = (eS 0).toInt := v_eq hs_x_30
        refine lv_icmp_ge (tgt := 104) hx hb dX12_become_75 (by decide) (fun c_31 => ?_) (fun c_31 => ?_)
        · have tc_31 : x_30.toInt ≤ k.toInt := v_le c_31
          refine lv_aload_n hx hb dX12_become_104 rfl (lv_at hl 2 rfl) ?_
          refine va_get (D := (dC, dI)) (ci := 12) (v := .ref mS) (C := RX12) (T := TX12) (N := 40) hx hb hts in_X12 hown hK hP 0 rfl rfl 2 (Nat.le_of_ble_eq_true rfl) (hts (.fieldLink RX12 13 "TextMenderModel" "sizes" "[I") (List.mem_of_getElem? (i := 3) rfl)) (fun _ h9 => h9) rfl dX12_become_105 ?_
          refine lv_iconst (v := 0) hx hb dX12_become_108 (by decide) ?_
          refine lv_iload_n hx hb dX12_become_109 rfl (lv_at hl 4 rfl) ?_
          obtain ⟨f_32, ef_32⟩ : ∃ g : Nat → Int32, g = upd f_29 (0 : Int32).toNatClampNeg n := ⟨_, rfl⟩
          refine va_iast hx hb hK hP hD hS 1 0 rfl rfl (by unfold vp_in; decide) dX12_become_110 (kWf (g := f_32) (F := fun f_32 => [(oM, .inr (12, [.ref mT, .int zt, .ref mS, .ref mX, .int zp, .int x_23, .ref mL, .ref mB, .ref mD, .ref m1, .ref m2, .int zh, .ref mR, .int zr, .ref x1, .ref x2, .ref x3, .int zc, .ref mH, .int zy, .int za, .int zb, .int zs, .int zq, .int zw, .int ze, .ref mY, .int zn, .ref mE, .int zm, .int zl, .ref mW, .int zk, .ref mO, .int zd, .ref y1, .ref y2, .ref y3, .ref y4, .ref mZ])), (mS, .inl (cI, 21, .inl f_32)), (mX, .inl (cI, 6300, .inl eXa)), (rw, .inl (cI, cw, .inl fr))]) ef_32 rfl (fun H locs hPn hDn hSn => ?_))
          clear hP hD hS
          have hP := hPn
          have hD := hDn
          have hS := hSn
          clear hPn hDn hSn
          have g_f32 : rg 0 300 f_32 := rg_upd ef_32 g_f29 (by omega)
          refine lv_iconst (v := 0) hx hb dX12_become_111 (by decide) ?_
          refine lv_istore (lv' := [(4, .int 0), (3, .int x_27), (0, .ref oM), (1, .ref rw), (2, .int n)]) hx hb dX12_become_112 hl (by decide) rfl (fun ls hl => ?_)
          have LOOP_114 : ∀ (k_114 : Nat) (k2 : Int32) (eXb : Nat → Int32) (H : Heap) (locs : List Loc) (ls : Array Slot), MSd (300 - k2.toInt : Int) k_114 → (0 ≤ k2.toInt ∧ k2.toInt ≤ 300) → (rg 0 65535 eXb) → (k2.toInt ≤ n.toInt) → (CPB 0 k2.toInt eXa eXb fr) → va_P (dC, dI) vwCl [(oM, .inr (12, [.ref mT, .int zt, .ref mS, .ref mX, .int zp, .int x_23, .ref mL, .ref mB, .ref mD, .ref m1, .ref m2, .int zh, .ref mR, .int zr, .ref x1, .ref x2, .ref x3, .int zc, .ref mH, .int zy, .int za, .int zb, .int zs, .int zq, .int zw, .int ze, .ref mY, .int zn, .ref mE, .int zm, .int zl, .ref mW, .int zk, .ref mO, .int zd, .ref y1, .ref y2, .ref y3, .ref y4, .ref mZ])), (mS, .inl (cI, 21, .inl f_32)), (mX, .inl (cI, 6300, .inl eXb)), (rw, .inl (cI, cw, .inl fr))] H → va_D A [(oM, .inr (12, [.ref mT, .int zt, .ref mS, .ref mX, .int zp, .int x_23, .ref mL, .ref mB, .ref mD, .ref m1, .ref m2, .int zh, .ref mR, .int zr, .ref x1, .ref x2, .ref x3, .int zc, .ref mH, .int zy, .int za, .int zb, .int zs, .int zq, .int zw, .int ze, .ref mY, .int zn, .ref mE, .int zm, .int zl, .ref mW, .int zk, .ref mO, .int zd, .ref y1, .ref y2, .ref y3, .ref y4, .ref mZ])), (mS, .inl (cI, 21, .inl f_32)), (mX, .inl (cI, 6300, .inl eXb)), (rw, .inl (cI, cw, .inl fr))] → va_S A s.heap H locs → lv_has ls 5 [(4, .int k2), (3, .int x_27), (0, .ref oM), (1, .ref rw), (2, .int n)] → W p l e (headSpec wsX12_become ({ frames := 0, cells := 0, slots := 0, locals := 0 } : Room)).room s m ([.ref oM, .ref rw, .int n] : List Value).toArray below meth c H locs 0 0 (MQ below QQ ([.ref oM, .ref rw, .int n] : List Value).toArray s 0 0 A) (F0 m 114 ls []) := by
            clear hP hD hS hl
            intro k_114
            induction k_114 with
            | zero =>
              intro k2 eXb H locs ls hm_114 g_k2 g_eXb hkn hcc hP hD hS hl
              exact ms_0 hm_114
            | succ k_114 ih_114 =>
              intro k2 eXb H locs ls hm_114 g_k2 g_eXb hkn hcc hP hD hS hl
              refine lv_iload hx hb dX12_become_114 (lv_at hl 0 rfl) ?_
              refine lv_iload_n hx hb dX12_become_116 rfl (lv_at hl 4 rfl) ?_
              refine lv_icmp_ge (tgt := 137) hx hb dX12_become_117 (by decide) (fun c_33 => ?_) (fun c_33 => ?_)
              · have tc_33 : n.toInt ≤ k2.toInt := v_le c_33
                refine lv_aload_n hx hb dX12_become_137 rfl (lv_at hl 2 rfl) ?_
                refine lv_dup hx hb dX12_become_138 rfl ?_
                refine va_get (D := (dC, dI)) (ci := 12) (v := .int zs) (C := RX12) (T := TX12) (N := 40) hx hb hts in_X12 hown hK hP 0 rfl rfl 22 (Nat.le_of_ble_eq_true rfl) (hts (.fieldLink RX12 148 "TextMenderModel" "state" "I") (List.mem_of_getElem? (i := 5) rfl)) (fun _ h9 => h9) rfl dX12_become_139 ?_
                refine lv_iconst (v := 1) hx hb dX12_become_142 (by decide) ?_
                refine lv_iadd hx hb dX12_become_143 ?_
                refine lv_topi (fun x_34 ex_34 => ?_)
                have tx_34 : x_34.toInt = zs.toInt + 1 := v_addR (l2 := 1) (h2 := 1) ex_34 g_zs (by decide) (by decide) (by decide)
                refine va_put (D := (dC, dI)) (ci := 12) (v := .int x_34) (ty := .int) (C := RX12) (T := TX12) (N := 40) hx hb hts in_X12 tyX12 tyX12_ok nmX12 hown hK hP hD hS 0 rfl rfl 22 (Nat.le_of_ble_eq_true rfl) (hts (.fieldLink RX12 148 "TextMenderModel" "state" "I") (List.mem_of_getElem? (i := 5) rfl)) (fun _ h9 => h9) rfl (tyX12_ok 22 (Nat.le_of_ble_eq_true rfl)) rfl rfl (Nat.le_of_ble_eq_true rfl) dX12_become_144 (kW (wn := [(oM, .inr (12, [.ref mT, .int zt, .ref mS, .ref mX, .int zp, .int x_23, .ref mL, .ref mB, .ref mD, .ref m1, .ref m2, .int zh, .ref mR, .int zr, .ref x1, .ref x2, .ref x3, .int zc, .ref mH, .int zy, .int za, .int zb, .int x_34, .int zq, .int zw, .int ze, .ref mY, .int zn, .ref mE, .int zm, .int zl, .ref mW, .int zk, .ref mO, .int zd, .ref y1, .ref y2, .ref y3, .ref y4, .ref mZ])), (mS, .inl (cI, 21, .inl f_32)), (mX, .inl (cI, 6300, .inl eXb)), (rw, .inl (cI, cw, .inl fr))]) rfl (fun H locs hPn hDn hSn => ?_))
                clear hP hD hS
                have hP := hPn
                have hD := hDn
                have hS := hSn
                clear hPn hDn hSn
                exact kl_v hQQ hx hb hr hlocks hS dX12_become_147 (fun PZ9 kZ9 => kZ9 zp x_23 x_34 f_32 eXb (⟨hP, hD⟩) (g_zp) (by omega) (by omega) (g_f32) (g_eXb) (by show x_34.toInt = zs.toInt + 1; omega) (bR_of (t := x_27) (by omega) (by omega) (by omega) ex_28 ef_29 ef_32 hcb (by omega) hcc (by omega)))
              · have tc_33 : k2.toInt < n.toInt := v_nle c_33
                refine lv_aload_n hx hb dX12_become_120 rfl (lv_at hl 2 rfl) ?_
                refine va_get (D := (dC, dI)) (ci := 12) (v := .ref mX) (C := RX12) (T := TX12) (N := 40) hx hb hts in_X12 hown hK hP 0 rfl rfl 3 (Nat.le_of_ble_eq_true rfl) (hts (.fieldLink RX12 16 "TextMenderModel" "texts" "[I") (List.mem_of_getElem? (i := 4) rfl)) (fun _ h9 => h9) rfl dX12_become_121 ?_
                refine lv_iload hx hb dX12_become_124 (lv_at hl 0 rfl) ?_
                refine lv_aload_n hx hb dX12_become_126 rfl (lv_at hl 3 rfl) ?_
                refine lv_iload hx hb dX12_become_127 (lv_at hl 0 rfl) ?_
                refine va_iald hx hb hK hP 3 0 rfl rfl (v_in (by omega)) dX12_become_129 ?_
                refine lv_topi (fun x_35 ex_35 => ?_)
                have tp_x_35 := prg_at hrow ex_35 (by omega) (by omega)
                obtain ⟨f_36, ef_36⟩ : ∃ g : Nat → Int32, g = upd eXb (k2 : Int32).toNatClampNeg x_35 := ⟨_, rfl⟩
                refine va_iast hx hb hK hP hD hS 2 0 rfl rfl (v_inR g_k2 (by decide) (by decide)) dX12_become_130 (kWf (g := f_36) (F := fun f_36 => [(oM, .inr (12, [.ref mT, .int zt, .ref mS, .ref mX, .int zp, .int x_23, .ref mL, .ref mB, .ref mD, .ref m1, .ref m2, .int zh, .ref mR, .int zr, .ref x1, .ref x2, .ref x3, .int zc, .ref mH, .int zy, .int za, .int zb, .int zs, .int zq, .int zw, .int ze, .ref mY, .int zn, .ref mE, .int zm, .int zl, .ref mW, .int zk, .ref mO, .int zd, .ref y1, .ref y2, .ref y3, .ref y4, .ref mZ])), (mS, .inl (cI, 21, .inl f_32)), (mX, .inl (cI, 6300, .inl f_36)), (rw, .inl (cI, cw, .inl fr))]) ef_36 rfl (fun H locs hPn hDn hSn => ?_))
                clear hP hD hS
                have hP := hPn
                have hD := hDn
                have hS := hSn
                clear hPn hDn hSn
                have g_f36 : rg 0 65535 f_36 := rg_upd ef_36 g_eXb (by omega)
                obtain ⟨x_37, ex_37⟩ : ∃ y : Int32, y = k2 + 1 := ⟨_, rfl⟩
                have tx_37 : x_37.toInt = k2.toInt + 1 := v_addR (l2 := 1) (h2 := 1) ex_37 g_k2 (by decide) (by decide) (by decide)
                refine lv_iinc (v := x_37) (lv' := [(4, .int x_37), (3, .int x_27), (0, .ref oM), (1, .ref rw), (2, .int n)]) hx hb dX12_become_131 hl (k := 0) rfl (by rw [ex_37]; rfl) (by decide) rfl (fun ls hl => ?_)
                refine lv_goto (tgt := 114) hx hb dX12_become_134 (by decide) ?_
                exact ih_114 x_37 f_36 _ _ _ (ms_lt hm_114 (by show ((300 - x_37.toInt : Int)) < 300 - k2.toInt; omega) (by show (0 : Int) < 300 - k2.toInt; omega)) (by show 0 ≤ x_37.toInt ∧ x_37.toInt ≤ 300; omega) (g_f36) (by show x_37.toInt ≤ n.toInt; omega) (CPB_s hcc (by omega) (by omega) ex_35 ef_36 (by omega) (by omega)) hP hD hS (lv_sub hl [0, 1, 2, 3, 4] rfl)
          exact LOOP_114 _ 0 eXa _ _ _ (ms_s _) (by decide) (g_eXa) (by show 0 ≤ n.toInt; omega) (CPB_0 (by decide)) hP hD hS (lv_sub hl [0, 1, 2, 3, 4] rfl)
        · have tc_31 : k.toInt < x_30.toInt := v_nle c_31
          refine lv_aload_n hx hb dX12_become_78 rfl (lv_at hl 2 rfl) ?_
          refine va_get (D := (dC, dI)) (ci := 12) (v := .ref mX) (C := RX12) (T := TX12) (N := 40) hx hb hts in_X12 hown hK hP 0 rfl rfl 3 (Nat.le_of_ble_eq_true rfl) (hts (.fieldLink RX12 16 "TextMenderModel" "texts" "[I") (List.mem_of_getElem? (i := 4) rfl)) (fun _ h9 => h9) rfl dX12_become_79 ?_
          refine lv_sipush (v := 300) hx hb dX12_become_82 (by decide) ?_
          refine lv_iload_n hx hb dX12_become_85 rfl (lv_at hl 1 rfl) ?_
          refine lv_imul hx hb dX12_become_86 ?_
          refine lv_topi (fun x_38 ex_38 => ?_)
          have tx_38 : x_38.toInt = 300 * x_27.toInt := v_mul ex_38 (by show -2147483648 ≤ 300 * x_27.toInt; omega) (by show 300 * x_27.toInt < 2147483648; omega)
          refine lv_iload hx hb dX12_become_87 (lv_at hl 0 rfl) ?_
          refine lv_iadd hx hb dX12_become_89 ?_
          refine lv_topi (fun x_39 ex_39 => ?_)
          have tx_39 : x_39.toInt = x_38.toInt + k.toInt := v_add ex_39 (by show -2147483648 ≤ x_38.toInt + k.toInt; omega) (by show x_38.toInt + k.toInt < 2147483648; omega)
          refine lv_aload_n hx hb dX12_become_90 rfl (lv_at hl 2 rfl) ?_
          refine va_get (D := (dC, dI)) (ci := 12) (v := .ref mX) (C := RX12) (T := TX12) (N := 40) hx hb hts in_X12 hown hK hP 0 rfl rfl 3 (Nat.le_of_ble_eq_true rfl) (hts (.fieldLink RX12 16 "TextMenderModel" "texts" "[I") (List.mem_of_getElem? (i := 4) rfl)) (fun _ h9 => h9) rfl dX12_become_91 ?_
          refine lv_iload hx hb dX12_become_94 (lv_at hl 0 rfl) ?_
          refine va_iald hx hb hK hP 2 0 rfl rfl (v_inR g_k (by decide) (by decide)) dX12_become_96 ?_
          refine lv_topi (fun x_40 ex_40 => ?_)
          have tx_40 : 0 ≤ x_40.toInt ∧ x_40.toInt ≤ 65535 := rg_at g_eXa ex_40
          obtain ⟨f_41, ef_41⟩ : ∃ g : Nat → Int32, g = upd eXa (x_39 : Int32).toNatClampNeg x_40 := ⟨_, rfl⟩
          refine va_iast hx hb hK hP hD hS 2 0 rfl rfl (v_in (by omega)) dX12_become_97 (kWf (g := f_41) (F := fun f_41 => [(oM, .inr (12, [.ref mT, .int zt, .ref mS, .ref mX, .int zp, .int x_23, .ref mL, .ref mB, .ref mD, .ref m1, .ref m2, .int zh, .ref mR, .int zr, .ref x1, .ref x2, .ref x3, .int zc, .ref mH, .int zy, .int za, .int zb, .int zs, .int zq, .int zw, .int ze, .ref mY, .int zn, .ref mE, .int zm, .int zl, .ref mW, .int zk, .ref mO, .int zd, .ref y1, .ref y2, .ref y3, .ref y4, .ref mZ])), (mS, .inl (cI, 21, .inl f_29)), (mX, .inl (cI, 6300, .inl f_41)), (rw, .inl (cI, cw, .inl fr))]) ef_41 rfl (fun H locs hPn hDn hSn => ?_))
          clear hP hD hS
          have hP := hPn
          have hD := hDn
          have hS := hSn
          clear hPn hDn hSn
          have g_f41 : rg 0 65535 f_41 := rg_upd ef_41 g_eXa (by omega)
          obtain ⟨x_42, ex_42⟩ : ∃ y : Int32, y = k + 1 := ⟨_, rfl⟩
          have tx_42 : x_42.toInt = k.toInt + 1 := v_addR (l2 := 1) (h2 := 1) ex_42 g_k (by decide) (by decide) (by decide)
          refine lv_iinc (v := x_42) (lv' := [(4, .int x_42), (3, .int x_27), (0, .ref oM), (1, .ref rw), (2, .int n)]) hx hb dX12_become_98 hl (k := 0) rfl (by rw [ex_42]; rfl) (by decide) rfl (fun ls hl => ?_)
          refine lv_goto (tgt := 67) hx hb dX12_become_101 (by decide) ?_
          exact ih_67 x_42 f_41 _ _ _ (ms_lt hm_67 (by show ((300 - x_42.toInt : Int)) < 300 - k.toInt; omega) (by show (0 : Int) < 300 - k.toInt; omega)) (by show 0 ≤ x_42.toInt ∧ x_42.toInt ≤ 300; omega) (g_f41) (by show x_42.toInt ≤ (eS 0).toInt; omega) (CPB_s hcb (by omega) (by omega) (ex_40.trans (hcb.2 _ (by have c9 := v_clamp (x := k) (by omega); omega))) ef_41 (by omega) (by omega)) hP hD hS (lv_sub hl [0, 1, 2, 3, 4] rfl)
    exact LOOP_67 _ 0 eX _ _ _ (ms_s _) (by decide) (g_eX) (by show 0 ≤ (eS 0).toInt; omega) (CPB_0 (by decide)) hP hD hS (lv_sub hl [0, 1, 2, 3, 4] rfl)

set_option maxHeartbeats 40000000 in
set_option maxRecDepth 100000 in
theorem f_X12_back (l : Launch) (dC : Nat → ClassId) (dI : Nat → Nat → Nat) (cI cS : ClassId) (sz : Nat) (oM : Nat) (mT : Nat) (mS : Nat) (mX : Nat) (mL : Nat) (mB : Nat) (mD : Nat) (m1 : Nat) (m2 : Nat) (mR : Nat) (x1 : Nat) (x2 : Nat) (x3 : Nat) (mH : Nat) (mY : Nat) (mE : Nat) (mW : Nat) (mO : Nat) (y1 : Nat) (y2 : Nat) (y3 : Nat) (y4 : Nat) (mZ : Nat) (zt : Int32) (zp : Int32) (zf : Int32) (zh : Int32) (zr : Int32) (zc : Int32) (zy : Int32) (za : Int32) (zb : Int32) (zs : Int32) (zq : Int32) (zw : Int32) (ze : Int32) (zn : Int32) (zm : Int32) (zl : Int32) (zk : Int32) (zd : Int32) (eS : Nat → Int32) (eX : Nat → Int32) (g_zt : 0 ≤ zt.toInt ∧ zt.toInt ≤ 900) (g_zp : 0 ≤ zp.toInt ∧ zp.toInt ≤ 20) (g_zf : 0 ≤ zf.toInt ∧ zf.toInt ≤ 19) (g_zh : 0 ≤ zh.toInt ∧ zh.toInt ≤ 6) (g_zr : 0 ≤ zr.toInt ∧ zr.toInt ≤ 258) (g_zc : 0 ≤ zc.toInt ∧ zc.toInt ≤ 300) (g_zy : 0 ≤ zy.toInt ∧ zy.toInt ≤ 65536) (g_za : 0 ≤ za.toInt ∧ za.toInt ≤ 5) (g_zb : 0 ≤ zb.toInt ∧ zb.toInt ≤ 5) (g_zs : 0 ≤ zs.toInt ∧ zs.toInt ≤ 2000000) (g_zq : -1 ≤ zq.toInt ∧ zq.toInt ≤ 2000000) (g_zn : 0 ≤ zn.toInt ∧ zn.toInt ≤ 2600) (g_zm : 0 ≤ zm.toInt ∧ zm.toInt ≤ 2600) (g_zk : 0 ≤ zk.toInt ∧ zk.toInt ≤ 300) (g_eS : rg 0 300 eS) (g_eX : rg 0 65535 eX) (hzs : zs.toInt ≤ 1000000) : kMi l yX12_back wsX12_back ({ frames := 0, cells := 0, slots := 0, locals := 0 } : Room) [.ref oM] sz (dC, dI) vwCl [(cI, .int), (cS, .short)] [(oM, .inr (12, [.ref mT, .int zt, .ref mS, .ref mX, .int zp, .int zf, .ref mL, .ref mB, .ref mD, .ref m1, .ref m2, .int zh, .ref mR, .int zr, .ref x1, .ref x2, .ref x3, .int zc, .ref mH, .int zy, .int za, .int zb, .int zs, .int zq, .int zw, .int ze, .ref mY, .int zn, .ref mE, .int zm, .int zl, .ref mW, .int zk, .ref mO, .int zd, .ref y1, .ref y2, .ref y3, .ref y4, .ref mZ])), (mS, .inl (cI, 21, .inl eS)), (mX, .inl (cI, 6300, .inl eX))] (fun _ => True) 0 0 (fun (A : Nat → Prop) (r : Int32) (hh9 : Heap) => ∀ PZ9 : Prop, (∀ (ze' : Int32) (zp' : Int32) (eS' : Nat → Int32) (eX' : Nat → Int32) (zs' : Int32), kPD (dC, dI) vwCl A [(oM, .inr (12, [.ref mT, .int zt, .ref mS, .ref mX, .int zp', .int zf, .ref mL, .ref mB, .ref mD, .ref m1, .ref m2, .int zh, .ref mR, .int zr, .ref x1, .ref x2, .ref x3, .int zc, .ref mH, .int zy, .int za, .int zb, .int zs', .int zq, .int zw, .int ze', .ref mY, .int zn, .ref mE, .int zm, .int zl, .ref mW, .int zk, .ref mO, .int zd, .ref y1, .ref y2, .ref y3, .ref y4, .ref mZ])), (mS, .inl (cI, 21, .inl eS')), (mX, .inl (cI, 6300, .inl eX'))] hh9 → (0 ≤ zp'.toInt ∧ zp'.toInt ≤ 20) → (rg 0 300 eS') → (rg 0 65535 eX') → (0 ≤ zs'.toInt ∧ zs'.toInt ≤ 2000000) → (zs'.toInt ≤ zs.toInt + 1 ∧ zs.toInt ≤ zs'.toInt) → (F_st zs zs' eX eX' eS eS') → (F_tbR r zp zp' zf eS eS' eX eX') → (F_zs (-1) r zs zs') → PZ9) → PZ9) := by
  refine kMi_of (cc := cX12_back) (maxL := 3) (ret := (some .int)) (lv := [(0, .ref oM)]) (by decide +kernel) rfl rfl (Nat.le_of_ble_eq_true rfl) ?_
  intro p e s m below meth c A QQ ls hx hb hr hts hml hown hlocks hA hQQ hK hX hP hD hS hl
  have hown : s.vm.findClass RX12 = some m.cls := hown
  have hcf := k_cf hx hb hml hown hts
  have in_X12 : ∀ w ∈ wsX120, w ∈ wsX12_back := fun _ h => List.mem_cons_of_mem _ (List.mem_append_right _ (h))
  replace g_zt := hid g_zt
  replace g_zh := hid g_zh
  replace g_zr := hid g_zr
  replace g_zc := hid g_zc
  replace g_zy := hid g_zy
  replace g_za := hid g_za
  replace g_zb := hid g_zb
  replace g_zq := hid g_zq
  replace g_zn := hid g_zn
  replace g_zm := hid g_zm
  replace g_zk := hid g_zk
  refine lv_aload_n hx hb dX12_back_0 rfl (lv_at hl 0 rfl) ?_
  refine lv_iconst (v := 0) hx hb dX12_back_1 (by decide) ?_
  refine va_put (D := (dC, dI)) (ci := 12) (v := .int 0) (ty := .int) (C := RX12) (T := TX12) (N := 40) hx hb hts in_X12 tyX12 tyX12_ok nmX12 hown hK hP hD hS 0 rfl rfl 25 (Nat.le_of_ble_eq_true rfl) (hts (.fieldLink RX12 85 "TextMenderModel" "thrown" "I") (List.mem_of_getElem? (i := 1) rfl)) (fun _ h9 => h9) rfl (tyX12_ok 25 (Nat.le_of_ble_eq_true rfl)) rfl rfl (Nat.le_of_ble_eq_true rfl) dX12_back_2 (kW (wn := [(oM, .inr (12, [.ref mT, .int zt, .ref mS, .ref mX, .int zp, .int zf, .ref mL, .ref mB, .ref mD, .ref m1, .ref m2, .int zh, .ref mR, .int zr, .ref x1, .ref x2, .ref x3, .int zc, .ref mH, .int zy, .int za, .int zb, .int zs, .int zq, .int zw, .int 0, .ref mY, .int zn, .ref mE, .int zm, .int zl, .ref mW, .int zk, .ref mO, .int zd, .ref y1, .ref y2, .ref y3, .ref y4, .ref mZ])), (mS, .inl (cI, 21, .inl eS)), (mX, .inl (cI, 6300, .inl eX))]) rfl (fun H locs hPn hDn hSn => ?_))
  clear hP hD hS
  have hP := hPn
  have hD := hDn
  have hS := hSn
  clear hPn hDn hSn
  refine lv_aload_n hx hb dX12_back_5 rfl (lv_at hl 0 rfl) ?_
  refine va_get (D := (dC, dI)) (ci := 12) (v := .int zp) (C := RX12) (T := TX12) (N := 40) hx hb hts in_X12 hown hK hP 0 rfl rfl 4 (Nat.le_of_ble_eq_true rfl) (hts (.fieldLink RX12 142 "TextMenderModel" "past" "I") (List.mem_of_getElem? (i := 2) rfl)) (fun _ h9 => h9) rfl dX12_back_6 ?_
  refine lv_if_ne (tgt := 14) hx hb dX12_back_9 (by decide) (fun c_1 => ?_) (fun c_1 => ?_)
  · have tc_1 : ¬ zp.toInt = 0 := v_ne c_1
    refine lv_aload_n hx hb dX12_back_14 rfl (lv_at hl 0 rfl) ?_
    refine lv_dup hx hb dX12_back_15 rfl ?_
    refine va_get (D := (dC, dI)) (ci := 12) (v := .int zp) (C := RX12) (T := TX12) (N := 40) hx hb hts in_X12 hown hK hP 0 rfl rfl 4 (Nat.le_of_ble_eq_true rfl) (hts (.fieldLink RX12 142 "TextMenderModel" "past" "I") (List.mem_of_getElem? (i := 2) rfl)) (fun _ h9 => h9) rfl dX12_back_16 ?_
    refine lv_iconst (v := 1) hx hb dX12_back_19 (by decide) ?_
    refine lv_isub hx hb dX12_back_20 ?_
    refine lv_topi (fun x_2 ex_2 => ?_)
    have tx_2 : x_2.toInt = zp.toInt - 1 := v_subR (l2 := 1) (h2 := 1) ex_2 g_zp (by decide) (by decide) (by decide)
    refine va_put (D := (dC, dI)) (ci := 12) (v := .int x_2) (ty := .int) (C := RX12) (T := TX12) (N := 40) hx hb hts in_X12 tyX12 tyX12_ok nmX12 hown hK hP hD hS 0 rfl rfl 4 (Nat.le_of_ble_eq_true rfl) (hts (.fieldLink RX12 142 "TextMenderModel" "past" "I") (List.mem_of_getElem? (i := 2) rfl)) (fun _ h9 => h9) rfl (tyX12_ok 4 (Nat.le_of_ble_eq_true rfl)) rfl rfl (Nat.le_of_ble_eq_true rfl) dX12_back_21 (kW (wn := [(oM, .inr (12, [.ref mT, .int zt, .ref mS, .ref mX, .int x_2, .int zf, .ref mL, .ref mB, .ref mD, .ref m1, .ref m2, .int zh, .ref mR, .int zr, .ref x1, .ref x2, .ref x3, .int zc, .ref mH, .int zy, .int za, .int zb, .int zs, .int zq, .int zw, .int 0, .ref mY, .int zn, .ref mE, .int zm, .int zl, .ref mW, .int zk, .ref mO, .int zd, .ref y1, .ref y2, .ref y3, .ref y4, .ref mZ])), (mS, .inl (cI, 21, .inl eS)), (mX, .inl (cI, 6300, .inl eX))]) rfl (fun H locs hPn hDn hSn => ?_))
    clear hP hD hS
    have hP := hPn
    have hD := hDn
    have hS := hSn
    clear hPn hDn hSn
    refine lv_iconst (v := 1) hx hb dX12_back_24 (by decide) ?_
    refine lv_aload_n hx hb dX12_back_25 rfl (lv_at hl 0 rfl) ?_
    refine va_get (D := (dC, dI)) (ci := 12) (v := .int zf) (C := RX12) (T := TX12) (N := 40) hx hb hts in_X12 hown hK hP 0 rfl rfl 5 (Nat.le_of_ble_eq_true rfl) (hts (.fieldLink RX12 145 "TextMenderModel" "firstPast" "I") (List.mem_of_getElem? (i := 3) rfl)) (fun _ h9 => h9) rfl dX12_back_26 ?_
    refine lv_aload_n hx hb dX12_back_29 rfl (lv_at hl 0 rfl) ?_
    refine va_get (D := (dC, dI)) (ci := 12) (v := .int x_2) (C := RX12) (T := TX12) (N := 40) hx hb hts in_X12 hown hK hP 0 rfl rfl 4 (Nat.le_of_ble_eq_true rfl) (hts (.fieldLink RX12 142 "TextMenderModel" "past" "I") (List.mem_of_getElem? (i := 2) rfl)) (fun _ h9 => h9) rfl dX12_back_30 ?_
    refine lv_iadd hx hb dX12_back_33 ?_
    refine lv_topi (fun x_3 ex_3 => ?_)
    have tx_3 : x_3.toInt = zf.toInt + x_2.toInt := v_addR ex_3 g_zf (v_difR (l := (-1)) (h := 19) (l2 := 1) (h2 := 1) tx_2 g_zp (by decide) (by decide) (by decide)) (by decide) (by decide)
    refine lv_bipush (v := 20) hx hb dX12_back_34 (by decide) ?_
    refine lv_irem hx hb dX12_back_36 (by decide) ?_
    refine lv_topi (fun x_4 ex_4 => ?_)
    have tx_4 : x_4.toInt = x_3.toInt % 20 := v_rem ex_4 (by omega) (by decide)
    refine lv_iadd hx hb dX12_back_37 ?_
    refine lv_topi (fun x_5 ex_5 => ?_)
    have tx_5 : x_5.toInt = 1 + x_4.toInt := v_add ex_5 (by show -2147483648 ≤ 1 + x_4.toInt; omega) (by show 1 + x_4.toInt < 2147483648; omega)
    refine lv_istore_n (lv' := [(1, .int x_5), (0, .ref oM)]) hx hb dX12_back_38 rfl hl (by decide) rfl (fun ls hl => ?_)
    refine lv_aload_n hx hb dX12_back_39 rfl (lv_at hl 1 rfl) ?_
    refine va_get (D := (dC, dI)) (ci := 12) (v := .ref mS) (C := RX12) (T := TX12) (N := 40) hx hb hts in_X12 hown hK hP 0 rfl rfl 2 (Nat.le_of_ble_eq_true rfl) (hts (.fieldLink RX12 13 "TextMenderModel" "sizes" "[I") (List.mem_of_getElem? (i := 4) rfl)) (fun _ h9 => h9) rfl dX12_back_40 ?_
    refine lv_iconst (v := 0) hx hb dX12_back_43 (by decide) ?_
    refine lv_aload_n hx hb dX12_back_44 rfl (lv_at hl 1 rfl) ?_
    refine va_get (D := (dC, dI)) (ci := 12) (v := .ref mS) (C := RX12) (T := TX12) (N := 40) hx hb hts in_X12 hown hK hP 0 rfl rfl 2 (Nat.le_of_ble_eq_true rfl) (hts (.fieldLink RX12 13 "TextMenderModel" "sizes" "[I") (List.mem_of_getElem? (i := 4) rfl)) (fun _ h9 => h9) rfl dX12_back_45 ?_
    refine lv_iload_n hx hb dX12_back_48 rfl (lv_at hl 0 rfl) ?_
    refine va_iald hx hb hK hP 1 0 rfl rfl (v_in (by omega)) dX12_back_49 ?_
    refine lv_topi (fun x_6 ex_6 => ?_)
    have tx_6 : 0 ≤ x_6.toInt ∧ x_6.toInt ≤ 300 := rg_at g_eS ex_6
    obtain ⟨f_7, ef_7⟩ : ∃ g : Nat → Int32, g = upd eS (0 : Int32).toNatClampNeg x_6 := ⟨_, rfl⟩
    refine va_iast hx hb hK hP hD hS 1 0 rfl rfl (by unfold vp_in; decide) dX12_back_50 (kWf (g := f_7) (F := fun f_7 => [(oM, .inr (12, [.ref mT, .int zt, .ref mS, .ref mX, .int x_2, .int zf, .ref mL, .ref mB, .ref mD, .ref m1, .ref m2, .int zh, .ref mR, .int zr, .ref x1, .ref x2, .ref x3, .int zc, .ref mH, .int zy, .int za, .int zb, .int zs, .int zq, .int zw, .int 0, .ref mY, .int zn, .ref mE, .int zm, .int zl, .ref mW, .int zk, .ref mO, .int zd, .ref y1, .ref y2, .ref y3, .ref y4, .ref mZ])), (mS, .inl (cI, 21, .inl f_7)), (mX, .inl (cI, 6300, .inl eX))]) ef_7 rfl (fun H locs hPn hDn hSn => ?_))
    clear hP hD hS
    have hP := hPn
    have hD := hDn
    have hS := hSn
    clear hPn hDn hSn
    have g_f7 : rg 0 300 f_7 := rg_upd ef_7 g_eS (by omega)
    refine lv_iconst (v := 0) hx hb dX12_back_51 (by decide) ?_
    refine lv_istore_n (lv' := [(2, .int 0), (1, .int x_5), (0, .ref oM)]) hx hb dX12_back_52 rfl hl (by decide) rfl (fun ls hl => ?_)
    have LOOP_53 : ∀ (k_53 : Nat) (k : Int32) (eXa : Nat → Int32) (H : Heap) (locs : List Loc) (ls : Array Slot), MSd (300 - k.toInt : Int) k_53 → (0 ≤ k.toInt ∧ k.toInt ≤ 300) → (rg 0 65535 eXa) → (k.toInt ≤ x_6.toInt) → (CPB 0 k.toInt eX eXa (fun j => eX (300 * x_5.toNatClampNeg + j))) → va_P (dC, dI) vwCl [(oM, .inr (12, [.ref mT, .int zt, .ref mS, .ref mX, .int x_2, .int zf, .ref mL, .ref mB, .ref mD, .ref m1, .ref m2, .int zh, .ref mR, .int zr, .ref x1, .ref x2, .ref x3, .int zc, .ref mH, .int zy, .int za, .int zb, .int zs, .int zq, .int zw, .int 0, .ref mY, .int zn, .ref mE, .int zm, .int zl, .ref mW, .int zk, .ref mO, .int zd, .ref y1, .ref y2, .ref y3, .ref y4, .ref mZ])), (mS, .inl (cI, 21, .inl f_7)), (mX, .inl (cI, 6300, .inl eXa))] H → va_D A [(oM, .inr (12, [.ref mT, .int zt, .ref mS, .ref mX, .int x_2, .int zf, .ref mL, .ref mB, .ref mD, .ref m1, .ref m2, .int zh, .ref mR, .int zr, .ref x1, .ref x2, .ref x3, .int zc, .ref mH, .int zy, .int za, .int zb, .int zs, .int zq, .int zw, .int 0, .ref mY, .int zn, .ref mE, .int zm, .int zl, .ref mW, .int zk, .ref mO, .int zd, .ref y1, .ref y2, .ref y3, .ref y4, .ref mZ])), (mS, .inl (cI, 21, .inl f_7)), (mX, .inl (cI, 6300, .inl eXa))] → va_S A s.heap H locs → lv_has ls 3 [(2, .int k), (1, .int x_5), (0, .ref oM)] → W p l e (headSpec wsX12_back ({ frames := 0, cells := 0, slots := 0, locals := 0 } : Room)).room s m ([.ref oM] : List Value).toArray below meth c H locs 0 0 (MQ below QQ ([.ref oM] : List Value).toArray s 0 0 A) (F0 m 53 ls []) := by
      clear hP hD hS hl
      intro k_53
      induction k_53 with
      | zero =>
        intro k eXa H locs ls hm_53 g_k g_eXa hks hcb hP hD hS hl
        exact ms_0 hm_53
      | succ k_53 ih_53 =>
        intro k eXa H locs ls hm_53 g_k g_eXa hks hcb hP hD hS hl
        refine lv_iload_n hx hb dX12_back_53 rfl (lv_at hl 0 rfl) ?_
        refine lv_aload_n hx hb dX12_back_54 rfl (lv_at hl 2 rfl) ?_
        refine va_get (D := (dC, dI)) (ci := 12) (v := .ref mS) (C := RX12) (T := TX12) (N := 40) hx hb hts in_X12 hown hK hP 0 rfl rfl 2 (Nat.le_of_ble_eq_true rfl) (hts (.fieldLink RX12 13 "TextMenderModel" "sizes" "[I") (List.mem_of_getElem? (i := 4) rfl)) (fun _ h9 => h9) rfl dX12_back_55 ?_
        refine lv_iconst (v := 0) hx hb dX12_back_58 (by decide) ?_
        refine va_iald hx hb hK hP 1 0 rfl rfl (by unfold vp_in; decide) dX12_back_59 ?_
        refine lv_topi (fun x_8 ex_8 => ?_)
        have tx_8 : 0 ≤ x_8.toInt ∧ x_8.toInt ≤ 300 := rg_at g_f7 ex_8
        have hs_x_8 : x_8 = x_6 := ub0 ef_7 ex_8
        have hi_x_8 : x_8.toInt = x_6.toInt := v_eq hs_x_8
        refine lv_icmp_ge (tgt := 87) hx hb dX12_back_60 (by decide) (fun c_9 => ?_) (fun c_9 => ?_)
        · have tc_9 : x_8.toInt ≤ k.toInt := v_le c_9
          refine lv_aload_n hx hb dX12_back_87 rfl (lv_at hl 2 rfl) ?_
          refine lv_dup hx hb dX12_back_88 rfl ?_
          refine va_get (D := (dC, dI)) (ci := 12) (v := .int zs) (C := RX12) (T := TX12) (N := 40) hx hb hts in_X12 hown hK hP 0 rfl rfl 22 (Nat.le_of_ble_eq_true rfl) (hts (.fieldLink RX12 148 "TextMenderModel" "state" "I") (List.mem_of_getElem? (i := 6) rfl)) (fun _ h9 => h9) rfl dX12_back_89 ?_
          refine lv_iconst (v := 1) hx hb dX12_back_92 (by decide) ?_
          refine lv_iadd hx hb dX12_back_93 ?_
          refine lv_topi (fun x_10 ex_10 => ?_)
          have tx_10 : x_10.toInt = zs.toInt + 1 := v_addR (l2 := 1) (h2 := 1) ex_10 g_zs (by decide) (by decide) (by decide)
          refine va_put (D := (dC, dI)) (ci := 12) (v := .int x_10) (ty := .int) (C := RX12) (T := TX12) (N := 40) hx hb hts in_X12 tyX12 tyX12_ok nmX12 hown hK hP hD hS 0 rfl rfl 22 (Nat.le_of_ble_eq_true rfl) (hts (.fieldLink RX12 148 "TextMenderModel" "state" "I") (List.mem_of_getElem? (i := 6) rfl)) (fun _ h9 => h9) rfl (tyX12_ok 22 (Nat.le_of_ble_eq_true rfl)) rfl rfl (Nat.le_of_ble_eq_true rfl) dX12_back_94 (kW (wn := [(oM, .inr (12, [.ref mT, .int zt, .ref mS, .ref mX, .int x_2, .int zf, .ref mL, .ref mB, .ref mD, .ref m1, .ref m2, .int zh, .ref mR, .int zr, .ref x1, .ref x2, .ref x3, .int zc, .ref mH, .int zy, .int za, .int zb, .int x_10, .int zq, .int zw, .int 0, .ref mY, .int zn, .ref mE, .int zm, .int zl, .ref mW, .int zk, .ref mO, .int zd, .ref y1, .ref y2, .ref y3, .ref y4, .ref mZ])), (mS, .inl (cI, 21, .inl f_7)), (mX, .inl (cI, 6300, .inl eXa))]) rfl (fun H locs hPn hDn hSn => ?_))
          clear hP hD hS
          have hP := hPn
          have hD := hDn
          have hS := hSn
          clear hPn hDn hSn
          refine lv_aload_n hx hb dX12_back_97 rfl (lv_at hl 2 rfl) ?_
          refine va_get (D := (dC, dI)) (ci := 12) (v := .int x_2) (C := RX12) (T := TX12) (N := 40) hx hb hts in_X12 hown hK hP 0 rfl rfl 4 (Nat.le_of_ble_eq_true rfl) (hts (.fieldLink RX12 142 "TextMenderModel" "past" "I") (List.mem_of_getElem? (i := 2) rfl)) (fun _ h9 => h9) rfl dX12_back_98 ?_
          exact kl_i (v := x_2) hQQ hx hb hr hlocks hS dX12_back_101 (fun PZ9 kZ9 => kZ9 0 x_2 f_7 eXa x_10 (⟨hP, hD⟩) (by omega) (g_f7) (g_eXa) (by omega) (by show x_10.toInt ≤ zs.toInt + 1 ∧ zs.toInt ≤ x_10.toInt; omega) (by first | exact Or.inl (by omega) | exact Or.inr ⟨rfl, rfl, rfl⟩) (tbR_of (t := x_5) (by omega) (by omega) (by first | rfl | omega) (by omega) (by omega) ex_6 ef_7 hcb (by omega)) (by first | exact Or.inl ⟨by first | rfl | omega, rfl⟩ | exact Or.inr ⟨by first | decide | omega, by omega⟩))
        · have tc_9 : k.toInt < x_8.toInt := v_nle c_9
          refine lv_aload_n hx hb dX12_back_63 rfl (lv_at hl 2 rfl) ?_
          refine va_get (D := (dC, dI)) (ci := 12) (v := .ref mX) (C := RX12) (T := TX12) (N := 40) hx hb hts in_X12 hown hK hP 0 rfl rfl 3 (Nat.le_of_ble_eq_true rfl) (hts (.fieldLink RX12 16 "TextMenderModel" "texts" "[I") (List.mem_of_getElem? (i := 5) rfl)) (fun _ h9 => h9) rfl dX12_back_64 ?_
          refine lv_iload_n hx hb dX12_back_67 rfl (lv_at hl 0 rfl) ?_
          refine lv_aload_n hx hb dX12_back_68 rfl (lv_at hl 2 rfl) ?_
          refine va_get (D := (dC, dI)) (ci := 12) (v := .ref mX) (C := RX12) (T := TX12) (N := 40) hx hb hts in_X12 hown hK hP 0 rfl rfl 3 (Nat.le_of_ble_eq_true rfl) (hts (.fieldLink RX12 16 "TextMenderModel" "texts" "[I") (List.mem_of_getElem? (i := 5) rfl)) (fun _ h9 => h9) rfl dX12_back_69 ?_
          refine lv_sipush (v := 300) hx hb dX12_back_72 (by decide) ?_
          refine lv_iload_n hx hb dX12_back_75 rfl (lv_at hl 1 rfl) ?_
          refine lv_imul hx hb dX12_back_76 ?_
          refine lv_topi (fun x_11 ex_11 => ?_)
          have tx_11 : x_11.toInt = 300 * x_5.toInt := v_mul ex_11 (by show -2147483648 ≤ 300 * x_5.toInt; omega) (by show 300 * x_5.toInt < 2147483648; omega)
          refine lv_iload_n hx hb dX12_back_77 rfl (lv_at hl 0 rfl) ?_
          refine lv_iadd hx hb dX12_back_78 ?_
          refine lv_topi (fun x_12 ex_12 => ?_)
          have tx_12 : x_12.toInt = x_11.toInt + k.toInt := v_add ex_12 (by show -2147483648 ≤ x_11.toInt + k.toInt; omega) (by show x_11.toInt + k.toInt < 2147483648; omega)
          refine va_iald hx hb hK hP 2 0 rfl rfl (v_in (by omega)) dX12_back_79 ?_
          refine lv_topi (fun x_13 ex_13 => ?_)
          have tx_13 : 0 ≤ x_13.toInt ∧ x_13.toInt ≤ 65535 := rg_at g_eXa ex_13
          obtain ⟨f_14, ef_14⟩ : ∃ g : Nat → Int32, g = upd eXa (k : Int32).toNatClampNeg x_13 := ⟨_, rfl⟩
          refine va_iast hx hb hK hP hD hS 2 0 rfl rfl (v_inR g_k (by decide) (by decide)) dX12_back_80 (kWf (g := f_14) (F := fun f_14 => [(oM, .inr (12, [.ref mT, .int zt, .ref mS, .ref mX, .int x_2, .int zf, .ref mL, .ref mB, .ref mD, .ref m1, .ref m2, .int zh, .ref mR, .int zr, .ref x1, .ref x2, .ref x3, .int zc, .ref mH, .int zy, .int za, .int zb, .int zs, .int zq, .int zw, .int 0, .ref mY, .int zn, .ref mE, .int zm, .int zl, .ref mW, .int zk, .ref mO, .int zd, .ref y1, .ref y2, .ref y3, .ref y4, .ref mZ])), (mS, .inl (cI, 21, .inl f_7)), (mX, .inl (cI, 6300, .inl f_14))]) ef_14 rfl (fun H locs hPn hDn hSn => ?_))
          clear hP hD hS
          have hP := hPn
          have hD := hDn
          have hS := hSn
          clear hPn hDn hSn
          have g_f14 : rg 0 65535 f_14 := rg_upd ef_14 g_eXa (by omega)
          obtain ⟨x_15, ex_15⟩ : ∃ y : Int32, y = k + 1 := ⟨_, rfl⟩
          have tx_15 : x_15.toInt = k.toInt + 1 := v_addR (l2 := 1) (h2 := 1) ex_15 g_k (by decide) (by decide) (by decide)
          refine lv_iinc (v := x_15) (lv' := [(2, .int x_15), (1, .int x_5), (0, .ref oM)]) hx hb dX12_back_81 hl (k := 0) rfl (by rw [ex_15]; rfl) (by decide) rfl (fun ls hl => ?_)
          refine lv_goto (tgt := 53) hx hb dX12_back_84 (by decide) ?_
          exact ih_53 x_15 f_14 _ _ _ (ms_lt hm_53 (by show ((300 - x_15.toInt : Int)) < 300 - k.toInt; omega) (by show (0 : Int) < 300 - k.toInt; omega)) (by show 0 ≤ x_15.toInt ∧ x_15.toInt ≤ 300; omega) (g_f14) (by show x_15.toInt ≤ x_6.toInt; omega) (CPB_s (b := 0) hcb (by omega) (by omega) (ex_13.trans ((hcb.2 _ (by have c9 := v_clamp (x := x_12) (by omega); omega)).trans (by show eX _ = eX (300 * x_5.toNatClampNeg + k.toNatClampNeg); rw [ix_eq (x := x_12) (N := 300 * x_5.toNatClampNeg + k.toNatClampNeg) (by have c9 := v_clamp (x := k) (by omega); have c8 := v_clamp (x := x_5) (by omega); omega)]))) ef_14 (by omega) (by omega)) hP hD hS (lv_sub hl [0, 1, 2] rfl)
    exact LOOP_53 _ 0 eX _ _ _ (ms_s _) (by decide) (g_eX) (by show 0 ≤ x_6.toInt; omega) (CPB_0 (by decide)) hP hD hS (lv_sub hl [0, 1, 2] rfl)
  · have tc_1 : zp.toInt = 0 := v_eq c_1
    refine lv_iconst (v := (-1)) hx hb dX12_back_12 (by decide) ?_
    exact kl_i (v := (-1)) hQQ hx hb hr hlocks hS dX12_back_13 (fun PZ9 kZ9 => kZ9 0 zp eS eX zs (⟨hP, hD⟩) (g_zp) (g_eS) (g_eX) (g_zs) (by show zs.toInt ≤ zs.toInt + 1 ∧ zs.toInt ≤ zs.toInt; omega) (by first | exact Or.inl (by omega) | exact Or.inr ⟨rfl, rfl, rfl⟩) (Or.inr ⟨by omega, rfl, rfl, rfl, rfl⟩) (by first | exact Or.inl ⟨by first | rfl | omega, rfl⟩ | exact Or.inr ⟨by first | decide | omega, by omega⟩))

set_option maxHeartbeats 40000000 in
set_option maxRecDepth 100000 in
theorem f_X11_back (l : Launch) (dC : Nat → ClassId) (dI : Nat → Nat → Nat) (cI cS : ClassId) (sz : Nat) (oX : Nat) (nT : Nat) (nL : Nat) (nM : Nat) (oC : Nat) (oP : Nat) (oH : Nat) (oK : Nat) (oG : Nat) (oR : Nat) (oQ : Nat) (oW : Nat) (aL : Nat) (g1 : Nat) (g2 : Nat) (nw : Nat) (w1 : Nat) (w2 : Nat) (w3 : Nat) (o7 : Nat) (o8 : Nat) (o9 : Nat) (w4 : Nat) (w5 : Nat) (w6 : Nat) (w7 : Nat) (fa : Int32) (lL : Int32) (fL : Nat → Int32) (gn : Int32) (lG : Int32) (fG1 : Nat → Int32) (fG2 : Nat → Int32) (ke : Int32) (tl : Int32) (fsh : Int32) (wi : Int32) (ri : Int32) (fm : Int32) (lm : Int32) (g_lL : 0 ≤ lL.toInt ∧ lL.toInt ≤ 300) (g_gn : 0 ≤ gn.toInt ∧ gn.toInt ≤ 19) (g_lG : 0 ≤ lG.toInt ∧ lG.toInt ≤ 20) (g_fG2 : rg 0 300 fG2) (g_ke : 0 ≤ ke.toInt ∧ ke.toInt ≤ 200) (g_fsh : 0 ≤ fsh.toInt ∧ fsh.toInt ≤ 1) (g_fm : -1 ≤ fm.toInt ∧ fm.toInt ≤ 800) (g_lm : -1 ≤ lm.toInt ∧ lm.toInt ≤ 800) : kMi l yX11_back wsX11_back ({ frames := 2, cells := 0, slots := 0, locals := 43 } : Room) [.ref oX] sz (dC, dI) vwCl [(cI, .int), (cS, .short)] [(oX, .inr (11, [.ref nT, .ref nL, .ref nM, .ref oC, .ref oP, .ref oH, .ref oK, .ref oG, .ref oR, .ref oQ, .ref oW, .int fa])), (nL, .inr (5, [.ref aL, .int lL])), (aL, .inl (cI, 300, .inl fL)), (oG, .inr (0, [.ref g1, .ref g2, .int gn, .int lG])), (g1, .inl (cI, 6000, .inl fG1)), (g2, .inl (cI, 20, .inl fG2)), (oW, .inr (1, [.ref oC, .ref oK, .ref nw, .ref w1, .ref w2, .ref w3, .ref o7, .ref o8, .ref o9, .ref w4, .ref w5, .ref w6, .ref w7, .int ke, .int tl, .int fsh, .int wi, .int ri, .int fm, .int lm]))] (fun _ => True) 0 0 (fun (A : Nat → Prop) (r : Int32) (hh9 : Heap) => ∀ PZ9 : Prop, (∀ (lL' : Int32) (fL' : Nat → Int32) (fsh' : Int32) (gn' : Int32) (lG' : Int32), kPD (dC, dI) vwCl A [(oX, .inr (11, [.ref nT, .ref nL, .ref nM, .ref oC, .ref oP, .ref oH, .ref oK, .ref oG, .ref oR, .ref oQ, .ref oW, .int fa])), (nL, .inr (5, [.ref aL, .int lL'])), (aL, .inl (cI, 300, .inl fL')), (oG, .inr (0, [.ref g1, .ref g2, .int gn', .int lG'])), (g1, .inl (cI, 6000, .inl fG1)), (g2, .inl (cI, 20, .inl fG2)), (oW, .inr (1, [.ref oC, .ref oK, .ref nw, .ref w1, .ref w2, .ref w3, .ref o7, .ref o8, .ref o9, .ref w4, .ref w5, .ref w6, .ref w7, .int ke, .int tl, .int fsh', .int wi, .int ri, .int fm, .int lm]))] hh9 → (0 ≤ lL'.toInt ∧ lL'.toInt ≤ 300) → (0 ≤ fsh'.toInt ∧ fsh'.toInt ≤ 1) → (0 ≤ gn'.toInt ∧ gn'.toInt ≤ 19) → (0 ≤ lG'.toInt ∧ lG'.toInt ≤ 20) → (F_bk r gn gn' lG lG' lL lL' fG1 fG2 fL fL') → (F_fs (-1) r fsh fsh') → PZ9) → PZ9) := by
  refine kMi_of (cc := cX11_back) (maxL := 1) (ret := (some .int)) (lv := [(0, .ref oX)]) (by decide +kernel) rfl rfl (Nat.le_of_ble_eq_true rfl) ?_
  intro p e s m below meth c A QQ ls hx hb hr hts hml hown hlocks hA hQQ hK hX hP hD hS hl
  have hown : s.vm.findClass RX11 = some m.cls := hown
  have hcf := k_cf hx hb hml hown hts
  have in_X11 : ∀ w ∈ wsX110, w ∈ wsX11_back := fun _ h => List.mem_cons_of_mem _ (List.mem_append_left _ (List.mem_append_left _ (List.mem_append_left _ (List.mem_append_left _ (List.mem_append_left _ (List.mem_append_left _ (List.mem_append_right _ (h))))))))
  replace g_ke := hid g_ke
  replace g_fm := hid g_fm
  replace g_lm := hid g_lm
  refine lv_aload_n hx hb dX11_back_0 rfl (lv_at hl 0 rfl) ?_
  refine va_get (D := (dC, dI)) (ci := 11) (v := .ref oG) (C := RX11) (T := TX11) (N := 12) hx hb hts in_X11 hown hK hP 0 rfl rfl 7 (Nat.le_of_ble_eq_true rfl) (hts (.fieldLink RX11 59 "TextMender" "changes" "LTextMender$Changes;") (List.mem_of_getElem? (i := 1) rfl)) (fun _ h9 => h9) rfl dX11_back_1 ?_
  refine lv_aload_n hx hb dX11_back_4 rfl (lv_at hl 0 rfl) ?_
  refine va_get (D := (dC, dI)) (ci := 11) (v := .ref nL) (C := RX11) (T := TX11) (N := 12) hx hb hts in_X11 hown hK hP 0 rfl rfl 1 (Nat.le_of_ble_eq_true rfl) (hts (.fieldLink RX11 34 "TextMender" "letters" "LTextMender$Numbers;") (List.mem_of_getElem? (i := 2) rfl)) (fun _ h9 => h9) rfl dX11_back_5 ?_
  refine kV_i (rest := []) (q0 := 0) (ci := 0) hcf (f_X0_takeBack l dC dI cI cS s.heap.size oG nL g1 g2 aL gn lG fG1 fG2 lL fL (g_gn) (g_lG) (g_fG2) (g_lL)) kc_X0_takeBack gX11_back_X0_takeBack rfl rfl rfl ⟨Nat.le_of_ble_eq_true rfl, Nat.le_of_ble_eq_true rfl⟩ kX_t hK hP hD hS hA ([2, 3, 4, 0, 1].filterMap (fun j => (posT mk_137 0)[j]?)) (posF mk_137 0) (kCp (ws := [(nL, .inr (5, [.ref aL, .int lL])), (aL, .inl (cI, 300, .inl fL)), (oG, .inr (0, [.ref g1, .ref g2, .int gn, .int lG])), (g1, .inl (cI, 6000, .inl fG1)), (g2, .inl (cI, 20, .inl fG2))]) (kC_of mk_137 rfl rfl) rfl) (by decide +kernel) rfl rfl rfl hl rfl (Nat.le_of_ble_eq_true rfl) dX11_back_8 ⟨Nat.le_of_ble_eq_true rfl, Nat.le_of_ble_eq_true rfl⟩ (fun r_1 H locs hB hJ hSn => ?_)
  refine hB _ (fun gn_1 lG_1 ld_1 fd_1 hPD9 hf1_0 hf1_1 hf1_2 hf1_3 hf1_4 => ?_)
  clear hB
  obtain ⟨hPn, hDn⟩ := kJm (m := mk_137) hJ rfl hPD9.1 hPD9.2 [3, 4, 0, 1, 2] (by decide +kernel) (ws := [(nL, .inr (5, [.ref aL, .int ld_1])), (aL, .inl (cI, 300, .inl fd_1)), (oG, .inr (0, [.ref g1, .ref g2, .int gn_1, .int lG_1])), (g1, .inl (cI, 6000, .inl fG1)), (g2, .inl (cI, 20, .inl fG2))]) rfl (wn := [(oX, .inr (11, [.ref nT, .ref nL, .ref nM, .ref oC, .ref oP, .ref oH, .ref oK, .ref oG, .ref oR, .ref oQ, .ref oW, .int fa])), (nL, .inr (5, [.ref aL, .int ld_1])), (aL, .inl (cI, 300, .inl fd_1)), (oG, .inr (0, [.ref g1, .ref g2, .int gn_1, .int lG_1])), (g1, .inl (cI, 6000, .inl fG1)), (g2, .inl (cI, 20, .inl fG2)), (oW, .inr (1, [.ref oC, .ref oK, .ref nw, .ref w1, .ref w2, .ref w3, .ref o7, .ref o8, .ref o9, .ref w4, .ref w5, .ref w6, .ref w7, .int ke, .int tl, .int fsh, .int wi, .int ri, .int fm, .int lm]))]) rfl
  clear hP hD hS hJ hPD9
  have hP := hPn
  have hD := hDn
  have hS := hSn
  clear hPn hDn hSn
  refine lv_if_ne (tgt := 16) hx hb dX11_back_11 (by decide) (fun c_2 => ?_) (fun c_2 => ?_)
  · have tc_2 : ¬ r_1.toInt = 0 := v_ne c_2
    refine lv_aload_n hx hb dX11_back_16 rfl (lv_at hl 0 rfl) ?_
    refine va_get (D := (dC, dI)) (ci := 11) (v := .ref oW) (C := RX11) (T := TX11) (N := 12) hx hb hts in_X11 hown hK hP 0 rfl rfl 10 (Nat.le_of_ble_eq_true rfl) (hts (.fieldLink RX11 86 "TextMender" "choiceBook" "LTextMender$Choices;") (List.mem_of_getElem? (i := 3) rfl)) (fun _ h9 => h9) rfl dX11_back_17 ?_
    refine kV_v (rest := []) (q0 := 0) (ci := 1) hcf (f_X1_forgetFreshness l dC dI cI cS H.size oW oC oK nw w1 w2 w3 o7 o8 o9 w4 w5 w6 w7 ke tl fsh wi ri fm lm (g_ke) (g_fsh) (g_fm) (g_lm)) kc_X1_forgetFreshness gX11_back_X1_forgetFreshness rfl rfl rfl ⟨Nat.le_of_ble_eq_true rfl, Nat.le_of_ble_eq_true rfl⟩ kX_t hK hP hD hS hA (posT mk_112 0) (posF mk_112 0) (kC_of mk_112 rfl rfl) (by decide +kernel) rfl rfl rfl hl rfl (Nat.le_of_ble_eq_true rfl) dX11_back_20 ⟨Nat.le_of_ble_eq_true rfl, Nat.le_of_ble_eq_true rfl⟩ (fun H locs hB hJ hSn => ?_)
    refine hB _ (fun fsh_3 hPD9 hf3_0 hf3_1 => ?_)
    clear hB
    obtain ⟨hPn, hDn⟩ := kJi (m := mk_112) hJ rfl hPD9.1 hPD9.2 (wn := [(oX, .inr (11, [.ref nT, .ref nL, .ref nM, .ref oC, .ref oP, .ref oH, .ref oK, .ref oG, .ref oR, .ref oQ, .ref oW, .int fa])), (nL, .inr (5, [.ref aL, .int ld_1])), (aL, .inl (cI, 300, .inl fd_1)), (oG, .inr (0, [.ref g1, .ref g2, .int gn_1, .int lG_1])), (g1, .inl (cI, 6000, .inl fG1)), (g2, .inl (cI, 20, .inl fG2)), (oW, .inr (1, [.ref oC, .ref oK, .ref nw, .ref w1, .ref w2, .ref w3, .ref o7, .ref o8, .ref o9, .ref w4, .ref w5, .ref w6, .ref w7, .int ke, .int tl, .int fsh_3, .int wi, .int ri, .int fm, .int lm]))]) rfl
    clear hP hD hS hJ hPD9
    have hP := hPn
    have hD := hDn
    have hS := hSn
    clear hPn hDn hSn
    refine lv_aload_n hx hb dX11_back_23 rfl (lv_at hl 0 rfl) ?_
    refine va_get (D := (dC, dI)) (ci := 11) (v := .ref oG) (C := RX11) (T := TX11) (N := 12) hx hb hts in_X11 hown hK hP 0 rfl rfl 7 (Nat.le_of_ble_eq_true rfl) (hts (.fieldLink RX11 59 "TextMender" "changes" "LTextMender$Changes;") (List.mem_of_getElem? (i := 1) rfl)) (fun _ h9 => h9) rfl dX11_back_24 ?_
    refine kV_i (rest := []) (q0 := 0) (ci := 0) hcf (m_X0_length l dC dI cI cS H.size oG g1 g2 gn_1 lG_1 (hf1_0) (hf1_1)) kc_X0_length gX11_back_X0_length rfl rfl rfl ⟨Nat.le_of_ble_eq_true rfl, Nat.le_of_ble_eq_true rfl⟩ kX_t hK hP hD hS hA (posT mk_138 0) (posF mk_138 0) (kC_of mk_138 rfl rfl) (by decide +kernel) rfl rfl rfl hl rfl (Nat.le_of_ble_eq_true rfl) dX11_back_27 ⟨Nat.le_of_ble_eq_true rfl, Nat.le_of_ble_eq_true rfl⟩ (fun r_4 H locs hB hJ hSn => ?_)
    refine hB _ (fun hPD9 hf4_0 => ?_)
    clear hB
    obtain ⟨hPn, hDn⟩ := kJi (m := mk_138) hJ rfl hPD9.1 hPD9.2 (wn := [(oX, .inr (11, [.ref nT, .ref nL, .ref nM, .ref oC, .ref oP, .ref oH, .ref oK, .ref oG, .ref oR, .ref oQ, .ref oW, .int fa])), (nL, .inr (5, [.ref aL, .int ld_1])), (aL, .inl (cI, 300, .inl fd_1)), (oG, .inr (0, [.ref g1, .ref g2, .int gn_1, .int lG_1])), (g1, .inl (cI, 6000, .inl fG1)), (g2, .inl (cI, 20, .inl fG2)), (oW, .inr (1, [.ref oC, .ref oK, .ref nw, .ref w1, .ref w2, .ref w3, .ref o7, .ref o8, .ref o9, .ref w4, .ref w5, .ref w6, .ref w7, .int ke, .int tl, .int fsh_3, .int wi, .int ri, .int fm, .int lm]))]) rfl
    clear hP hD hS hJ hPD9
    have hP := hPn
    have hD := hDn
    have hS := hSn
    clear hPn hDn hSn
    rw [hf4_0]
    exact kl_i (v := lG_1) hQQ hx hb hr hlocks hS dX11_back_30 (fun PZ9 kZ9 => kZ9 ld_1 fd_1 fsh_3 gn_1 lG_1 (⟨hP, hD⟩) (hf1_2) (hf3_0) (hf1_0) (hf1_1) (⟨r_1, hf1_4, Or.inl ⟨by omega, by first | rfl | omega⟩⟩) (Or.inr ⟨by first | decide | omega, hf3_1⟩))
  · have tc_2 : r_1.toInt = 0 := v_eq c_2
    refine lv_iconst (v := (-1)) hx hb dX11_back_14 (by decide) ?_
    exact kl_i (v := (-1)) hQQ hx hb hr hlocks hS dX11_back_15 (fun PZ9 kZ9 => kZ9 ld_1 fd_1 fsh gn_1 lG_1 (⟨hP, hD⟩) (hf1_2) (g_fsh) (hf1_0) (hf1_1) (⟨r_1, hf1_4, Or.inr ⟨by omega, rfl⟩⟩) (Or.inl ⟨by first | rfl | omega, rfl⟩))

end

/-! 59k.a.rows -/
section
set_option maxRecDepth 100000 in
theorem dA213_cX11_passes : kDec cX11_passes [(0, .aload_n 0, 1), (1, .iconst (-1), 1), (2, .putfield 90, 3), (5, .iload_n 1, 1), (6, .invokestatic 117, 3), (9, .ifCond .eq 10, 3), (19, .iconst 0, 1), (20, .ireturn, 1), (12, .iload_n 2, 1), (13, .invokestatic 117, 3), (16, .ifCond .ne 5, 3), (21, .aload_n 0, 1), (22, .getfield 44, 3), (25, .iload_n 1, 1), (26, .iload_n 2, 1), (27, .aload_n 0, 1), (28, .getfield 34, 3), (31, .aload_n 0, 1), (32, .getfield 37, 3), (35, .invokevirtual 253, 3), (38, .istore_n 3, 1), (39, .aload_n 0, 1), (40, .aload_n 0, 1), (41, .getfield 44, 3)] = true := by decide +kernel
theorem dX11_passes_0 : decode cX11_passes 0 = .ok (.aload_n 0, 1) := kDec_at dA213_cX11_passes 0 rfl
theorem dX11_passes_1 : decode cX11_passes 1 = .ok (.iconst (-1), 1) := kDec_at dA213_cX11_passes 1 rfl
theorem dX11_passes_2 : decode cX11_passes 2 = .ok (.putfield 90, 3) := kDec_at dA213_cX11_passes 2 rfl
theorem dX11_passes_5 : decode cX11_passes 5 = .ok (.iload_n 1, 1) := kDec_at dA213_cX11_passes 3 rfl
theorem dX11_passes_6 : decode cX11_passes 6 = .ok (.invokestatic 117, 3) := kDec_at dA213_cX11_passes 4 rfl
theorem dX11_passes_9 : decode cX11_passes 9 = .ok (.ifCond .eq 10, 3) := kDec_at dA213_cX11_passes 5 rfl
theorem dX11_passes_19 : decode cX11_passes 19 = .ok (.iconst 0, 1) := kDec_at dA213_cX11_passes 6 rfl
theorem dX11_passes_20 : decode cX11_passes 20 = .ok (.ireturn, 1) := kDec_at dA213_cX11_passes 7 rfl
theorem dX11_passes_12 : decode cX11_passes 12 = .ok (.iload_n 2, 1) := kDec_at dA213_cX11_passes 8 rfl
theorem dX11_passes_13 : decode cX11_passes 13 = .ok (.invokestatic 117, 3) := kDec_at dA213_cX11_passes 9 rfl
theorem dX11_passes_16 : decode cX11_passes 16 = .ok (.ifCond .ne 5, 3) := kDec_at dA213_cX11_passes 10 rfl
theorem dX11_passes_21 : decode cX11_passes 21 = .ok (.aload_n 0, 1) := kDec_at dA213_cX11_passes 11 rfl
theorem dX11_passes_22 : decode cX11_passes 22 = .ok (.getfield 44, 3) := kDec_at dA213_cX11_passes 12 rfl
theorem dX11_passes_25 : decode cX11_passes 25 = .ok (.iload_n 1, 1) := kDec_at dA213_cX11_passes 13 rfl
theorem dX11_passes_26 : decode cX11_passes 26 = .ok (.iload_n 2, 1) := kDec_at dA213_cX11_passes 14 rfl
theorem dX11_passes_27 : decode cX11_passes 27 = .ok (.aload_n 0, 1) := kDec_at dA213_cX11_passes 15 rfl
theorem dX11_passes_28 : decode cX11_passes 28 = .ok (.getfield 34, 3) := kDec_at dA213_cX11_passes 16 rfl
theorem dX11_passes_31 : decode cX11_passes 31 = .ok (.aload_n 0, 1) := kDec_at dA213_cX11_passes 17 rfl
theorem dX11_passes_32 : decode cX11_passes 32 = .ok (.getfield 37, 3) := kDec_at dA213_cX11_passes 18 rfl
theorem dX11_passes_35 : decode cX11_passes 35 = .ok (.invokevirtual 253, 3) := kDec_at dA213_cX11_passes 19 rfl
theorem dX11_passes_38 : decode cX11_passes 38 = .ok (.istore_n 3, 1) := kDec_at dA213_cX11_passes 20 rfl
theorem dX11_passes_39 : decode cX11_passes 39 = .ok (.aload_n 0, 1) := kDec_at dA213_cX11_passes 21 rfl
theorem dX11_passes_40 : decode cX11_passes 40 = .ok (.aload_n 0, 1) := kDec_at dA213_cX11_passes 22 rfl
theorem dX11_passes_41 : decode cX11_passes 41 = .ok (.getfield 44, 3) := kDec_at dA213_cX11_passes 23 rfl
set_option maxRecDepth 20000 in
theorem ggX11_passes_X2_known : GoodIn wsX11_passes wsX2_known := goodIn_sub (fun _ h => List.mem_cons_of_mem _ (List.mem_append_left _ (List.mem_append_left _ (List.mem_append_right _ (h))))) gX2_known_all
set_option maxRecDepth 20000 in
theorem gX11_passes_X2_known : GoodIn wsX11_passes (va_wsS RX11 117 yX2_known wsX2_known) := goodIn_app (goodIn_r _ [5, 6, 7] rfl (by decide +kernel)) ggX11_passes_X2_known
set_option maxRecDepth 20000 in
theorem gX7_pass_all : wsX7_pass.all goodWord = true := by
  unfold wsX7_pass
  exact good_c (by decide +kernel) (good_a (good_a (good_a (good_a (good_a (good_a (good_a ((by decide +kernel)) gX7_clsall) gX5_clsall) gX2_clsall) gX10_clsall) gX7_write_all) gX7_readExactly_all) gX5_length_all)
set_option maxRecDepth 20000 in
theorem ggX11_passes_X7_pass : GoodIn wsX11_passes wsX7_pass := goodIn_sub (fun _ h => List.mem_cons_of_mem _ (List.mem_append_left _ (List.mem_append_right _ (h)))) gX7_pass_all
set_option maxRecDepth 20000 in
theorem gX11_passes_X7_pass : GoodIn wsX11_passes (wsV RX11 253 RX7 yX7_pass wsX7_pass) := goodIn_app (goodIn_r _ [8, 9, 10, 11] rfl (by decide +kernel)) ggX11_passes_X7_pass
set_option maxRecDepth 20000 in
theorem gX7_fault_all : wsX7_fault.all goodWord = true := by
  unfold wsX7_fault
  exact good_c (by decide +kernel) (good_a ((by decide +kernel)) gX7_clsall)
set_option maxRecDepth 20000 in
theorem ggX11_passes_X7_fault : GoodIn wsX11_passes wsX7_fault := goodIn_sub (fun _ h => List.mem_cons_of_mem _ (List.mem_append_right _ (h))) gX7_fault_all
set_option maxRecDepth 20000 in
theorem gX11_passes_X7_fault : GoodIn wsX11_passes (wsV RX11 127 RX7 yX7_fault wsX7_fault) := goodIn_app (goodIn_r _ [12, 13, 14, 11] rfl (by decide +kernel)) ggX11_passes_X7_fault
set_option maxRecDepth 100000 in
theorem dA214_cX11_passes : kDec cX11_passes [(44, .invokevirtual 127, 3), (47, .putfield 90, 3), (50, .iload_n 3, 1), (51, .ireturn, 1)] = true := by decide +kernel
theorem dX11_passes_44 : decode cX11_passes 44 = .ok (.invokevirtual 127, 3) := kDec_at dA214_cX11_passes 0 rfl
theorem dX11_passes_47 : decode cX11_passes 47 = .ok (.putfield 90, 3) := kDec_at dA214_cX11_passes 1 rfl
theorem dX11_passes_50 : decode cX11_passes 50 = .ok (.iload_n 3, 1) := kDec_at dA214_cX11_passes 2 rfl
theorem dX11_passes_51 : decode cX11_passes 51 = .ok (.ireturn, 1) := kDec_at dA214_cX11_passes 3 rfl
set_option maxRecDepth 100000 in
theorem dA215_cX11_harm : kDec cX11_harm [(0, .aload_n 0, 1), (1, .iload_n 1, 1), (2, .iload_n 2, 1), (3, .invokevirtual 177, 3), (6, .ifCond .eq 14, 3), (20, .iconst (-1), 1), (21, .ireturn, 1), (9, .aload_n 0, 1), (10, .aload_n 0, 1), (11, .getfield 37, 3), (14, .invokevirtual 113, 3), (17, .goto 4, 3)] = true := by decide +kernel
theorem dX11_harm_0 : decode cX11_harm 0 = .ok (.aload_n 0, 1) := kDec_at dA215_cX11_harm 0 rfl
theorem dX11_harm_1 : decode cX11_harm 1 = .ok (.iload_n 1, 1) := kDec_at dA215_cX11_harm 1 rfl
theorem dX11_harm_2 : decode cX11_harm 2 = .ok (.iload_n 2, 1) := kDec_at dA215_cX11_harm 2 rfl
theorem dX11_harm_3 : decode cX11_harm 3 = .ok (.invokevirtual 177, 3) := kDec_at dA215_cX11_harm 3 rfl
theorem dX11_harm_6 : decode cX11_harm 6 = .ok (.ifCond .eq 14, 3) := kDec_at dA215_cX11_harm 4 rfl
theorem dX11_harm_20 : decode cX11_harm 20 = .ok (.iconst (-1), 1) := kDec_at dA215_cX11_harm 5 rfl
theorem dX11_harm_21 : decode cX11_harm 21 = .ok (.ireturn, 1) := kDec_at dA215_cX11_harm 6 rfl
theorem dX11_harm_9 : decode cX11_harm 9 = .ok (.aload_n 0, 1) := kDec_at dA215_cX11_harm 7 rfl
theorem dX11_harm_10 : decode cX11_harm 10 = .ok (.aload_n 0, 1) := kDec_at dA215_cX11_harm 8 rfl
theorem dX11_harm_11 : decode cX11_harm 11 = .ok (.getfield 37, 3) := kDec_at dA215_cX11_harm 9 rfl
theorem dX11_harm_14 : decode cX11_harm 14 = .ok (.invokevirtual 113, 3) := kDec_at dA215_cX11_harm 10 rfl
theorem dX11_harm_17 : decode cX11_harm 17 = .ok (.goto 4, 3) := kDec_at dA215_cX11_harm 11 rfl
set_option maxRecDepth 20000 in
theorem gX11_clsall : wsX110.all goodWord = true := by decide +kernel
set_option maxRecDepth 20000 in
theorem gX11_passes_all : wsX11_passes.all goodWord = true := by
  unfold wsX11_passes
  exact good_c (by decide +kernel) (good_a (good_a (good_a (good_a (good_a (good_a (good_a (good_a ((by decide +kernel)) gX11_clsall) gX7_clsall) gX5_clsall) gX2_clsall) gX10_clsall) gX2_known_all) gX7_pass_all) gX7_fault_all)
set_option maxRecDepth 20000 in
theorem ggX11_harm_X11_passes : GoodIn wsX11_harm wsX11_passes := goodIn_sub (fun _ h => List.mem_cons_of_mem _ (List.mem_append_left _ (List.mem_append_right _ (h)))) gX11_passes_all
set_option maxRecDepth 20000 in
theorem gX11_harm_X11_passes : GoodIn wsX11_harm (wsV RX11 177 RX11 yX11_passes wsX11_passes) := goodIn_app (goodIn_r _ [2, 3, 4, 5] rfl (by decide +kernel)) ggX11_harm_X11_passes
set_option maxRecDepth 20000 in
theorem gX11_become_all : wsX11_become.all goodWord = true := by
  unfold wsX11_become
  exact good_c (by decide +kernel) (good_a (good_a (good_a (good_a (good_a (good_a (good_a (good_a ((by decide +kernel)) gX11_clsall) gX0_clsall) gX5_clsall) gX1_clsall) gX0_remember_all) gX5_takeAll_all) gX1_forgetFreshness_all) gX5_length_all)
set_option maxRecDepth 20000 in
theorem ggX11_harm_X11_become : GoodIn wsX11_harm wsX11_become := goodIn_sub (fun _ h => List.mem_cons_of_mem _ (List.mem_append_right _ (h))) gX11_become_all
set_option maxRecDepth 20000 in
theorem gX11_harm_X11_become : GoodIn wsX11_harm (wsV RX11 113 RX11 yX11_become wsX11_become) := goodIn_app (goodIn_r _ [6, 7, 8, 5] rfl (by decide +kernel)) ggX11_harm_X11_become
set_option maxRecDepth 100000 in
theorem dA216_cX11_undo : kDec cX11_undo [(0, .aload_n 0, 1), (1, .iload_n 2, 1), (2, .iload_n 1, 1), (3, .invokevirtual 177, 3), (6, .ifCond .eq 14, 3), (20, .iconst (-1), 1), (21, .ireturn, 1), (9, .aload_n 0, 1), (10, .aload_n 0, 1), (11, .getfield 37, 3), (14, .invokevirtual 113, 3), (17, .goto 4, 3)] = true := by decide +kernel
theorem dX11_undo_0 : decode cX11_undo 0 = .ok (.aload_n 0, 1) := kDec_at dA216_cX11_undo 0 rfl
theorem dX11_undo_1 : decode cX11_undo 1 = .ok (.iload_n 2, 1) := kDec_at dA216_cX11_undo 1 rfl
theorem dX11_undo_2 : decode cX11_undo 2 = .ok (.iload_n 1, 1) := kDec_at dA216_cX11_undo 2 rfl
theorem dX11_undo_3 : decode cX11_undo 3 = .ok (.invokevirtual 177, 3) := kDec_at dA216_cX11_undo 3 rfl
theorem dX11_undo_6 : decode cX11_undo 6 = .ok (.ifCond .eq 14, 3) := kDec_at dA216_cX11_undo 4 rfl
theorem dX11_undo_20 : decode cX11_undo 20 = .ok (.iconst (-1), 1) := kDec_at dA216_cX11_undo 5 rfl
theorem dX11_undo_21 : decode cX11_undo 21 = .ok (.ireturn, 1) := kDec_at dA216_cX11_undo 6 rfl
theorem dX11_undo_9 : decode cX11_undo 9 = .ok (.aload_n 0, 1) := kDec_at dA216_cX11_undo 7 rfl
theorem dX11_undo_10 : decode cX11_undo 10 = .ok (.aload_n 0, 1) := kDec_at dA216_cX11_undo 8 rfl
theorem dX11_undo_11 : decode cX11_undo 11 = .ok (.getfield 37, 3) := kDec_at dA216_cX11_undo 9 rfl
theorem dX11_undo_14 : decode cX11_undo 14 = .ok (.invokevirtual 113, 3) := kDec_at dA216_cX11_undo 10 rfl
theorem dX11_undo_17 : decode cX11_undo 17 = .ok (.goto 4, 3) := kDec_at dA216_cX11_undo 11 rfl
set_option maxRecDepth 20000 in
theorem ggX11_undo_X11_passes : GoodIn wsX11_undo wsX11_passes := goodIn_sub (fun _ h => List.mem_cons_of_mem _ (List.mem_append_left _ (List.mem_append_right _ (h)))) gX11_passes_all
set_option maxRecDepth 20000 in
theorem gX11_undo_X11_passes : GoodIn wsX11_undo (wsV RX11 177 RX11 yX11_passes wsX11_passes) := goodIn_app (goodIn_r _ [2, 3, 4, 5] rfl (by decide +kernel)) ggX11_undo_X11_passes
set_option maxRecDepth 20000 in
theorem ggX11_undo_X11_become : GoodIn wsX11_undo wsX11_become := goodIn_sub (fun _ h => List.mem_cons_of_mem _ (List.mem_append_right _ (h))) gX11_become_all
set_option maxRecDepth 20000 in
theorem gX11_undo_X11_become : GoodIn wsX11_undo (wsV RX11 113 RX11 yX11_become wsX11_become) := goodIn_app (goodIn_r _ [6, 7, 8, 5] rfl (by decide +kernel)) ggX11_undo_X11_become

end
