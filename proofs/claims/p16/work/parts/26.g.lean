/-! 59d.dec -/
section
set_option maxHeartbeats 40000000 in
set_option maxRecDepth 100000 in
theorem f_X12_byteAt (l : Launch) (dC : Nat → ClassId) (dI : Nat → Nat → Nat) (cI cS : ClassId) (sz : Nat) (oM : Nat) (mT : Nat) (mS : Nat) (mX : Nat) (mL : Nat) (mB : Nat) (mD : Nat) (m1 : Nat) (m2 : Nat) (mR : Nat) (x1 : Nat) (x2 : Nat) (x3 : Nat) (mH : Nat) (mY : Nat) (mE : Nat) (mW : Nat) (mO : Nat) (y1 : Nat) (y2 : Nat) (y3 : Nat) (y4 : Nat) (mZ : Nat) (zt : Int32) (zp : Int32) (zf : Int32) (zh : Int32) (zr : Int32) (zc : Int32) (zy : Int32) (za : Int32) (zb : Int32) (zs : Int32) (zq : Int32) (zw : Int32) (ze : Int32) (zn : Int32) (zm : Int32) (zl : Int32) (zk : Int32) (zd : Int32) (eY : Nat → Int32) (q : Int32) (g_zt : 0 ≤ zt.toInt ∧ zt.toInt ≤ 900) (g_zp : 0 ≤ zp.toInt ∧ zp.toInt ≤ 20) (g_zf : 0 ≤ zf.toInt ∧ zf.toInt ≤ 19) (g_zh : 0 ≤ zh.toInt ∧ zh.toInt ≤ 6) (g_zr : 0 ≤ zr.toInt ∧ zr.toInt ≤ 258) (g_zc : 0 ≤ zc.toInt ∧ zc.toInt ≤ 300) (g_zy : 0 ≤ zy.toInt ∧ zy.toInt ≤ 65536) (g_za : 0 ≤ za.toInt ∧ za.toInt ≤ 5) (g_zb : 0 ≤ zb.toInt ∧ zb.toInt ≤ 5) (g_zs : 0 ≤ zs.toInt ∧ zs.toInt ≤ 2000000) (g_zq : -1 ≤ zq.toInt ∧ zq.toInt ≤ 2000000) (g_zn : 0 ≤ zn.toInt ∧ zn.toInt ≤ 2600) (g_zm : 0 ≤ zm.toInt ∧ zm.toInt ≤ 2600) (g_zk : 0 ≤ zk.toInt ∧ zk.toInt ≤ 300) (g_eY : rg 0 255 eY) (g_q : 0 ≤ q.toInt ∧ q.toInt ≤ 2700) : kMi l yX12_byteAt wsX12_byteAt ({ frames := 0, cells := 0, slots := 0, locals := 0 } : Room) [.ref oM, .int q] sz (dC, dI) vwCl [(cI, .int), (cS, .short)] [(oM, .inr (12, [.ref mT, .int zt, .ref mS, .ref mX, .int zp, .int zf, .ref mL, .ref mB, .ref mD, .ref m1, .ref m2, .int zh, .ref mR, .int zr, .ref x1, .ref x2, .ref x3, .int zc, .ref mH, .int zy, .int za, .int zb, .int zs, .int zq, .int zw, .int ze, .ref mY, .int zn, .ref mE, .int zm, .int zl, .ref mW, .int zk, .ref mO, .int zd, .ref y1, .ref y2, .ref y3, .ref y4, .ref mZ])), (mY, .inl (cI, 2600, .inl eY))] (fun _ => True) 0 0 (fun (A : Nat → Prop) (r : Int32) (hh9 : Heap) => ∀ PZ9 : Prop, (kPD (dC, dI) vwCl A [(oM, .inr (12, [.ref mT, .int zt, .ref mS, .ref mX, .int zp, .int zf, .ref mL, .ref mB, .ref mD, .ref m1, .ref m2, .int zh, .ref mR, .int zr, .ref x1, .ref x2, .ref x3, .int zc, .ref mH, .int zy, .int za, .int zb, .int zs, .int zq, .int zw, .int ze, .ref mY, .int zn, .ref mE, .int zm, .int zl, .ref mW, .int zk, .ref mO, .int zd, .ref y1, .ref y2, .ref y3, .ref y4, .ref mZ])), (mY, .inl (cI, 2600, .inl eY))] hh9 → (-1 ≤ r.toInt ∧ r.toInt ≤ 255) → ((q.toInt < zn.toInt ∧ 0 ≤ r.toInt) ∨ (zn.toInt ≤ q.toInt ∧ r.toInt = -1)) → (r.toInt = bt eY zn.toInt q.toNatClampNeg) → PZ9) → PZ9) := by
  refine kMi_of (cc := cX12_byteAt) (maxL := 2) (ret := (some .int)) (lv := [(0, .ref oM), (1, .int q)]) (by decide +kernel) rfl rfl (Nat.le_of_ble_eq_true rfl) ?_
  intro p e s m below meth c A QQ ls hx hb hr hts hml hown hlocks hA hQQ hK hX hP hD hS hl
  have hown : s.vm.findClass RX12 = some m.cls := hown
  have hcf := k_cf hx hb hml hown hts
  have in_X12 : ∀ w ∈ wsX120, w ∈ wsX12_byteAt := fun _ h => List.mem_cons_of_mem _ (List.mem_append_right _ (h))
  replace g_zt := hid g_zt
  replace g_zp := hid g_zp
  replace g_zf := hid g_zf
  replace g_zh := hid g_zh
  replace g_zr := hid g_zr
  replace g_zc := hid g_zc
  replace g_zy := hid g_zy
  replace g_za := hid g_za
  replace g_zb := hid g_zb
  replace g_zs := hid g_zs
  replace g_zq := hid g_zq
  replace g_zm := hid g_zm
  replace g_zk := hid g_zk
  refine lv_iload_n hx hb dX12_byteAt_0 rfl (lv_at hl 1 rfl) ?_
  refine lv_aload_n hx hb dX12_byteAt_1 rfl (lv_at hl 0 rfl) ?_
  refine va_get (D := (dC, dI)) (ci := 12) (v := .int zn) (C := RX12) (T := TX12) (N := 40) hx hb hts in_X12 hown hK hP 0 rfl rfl 27 (Nat.le_of_ble_eq_true rfl) (hts (.fieldLink RX12 91 "TextMenderModel" "byteMany" "I") (List.mem_of_getElem? (i := 1) rfl)) (fun _ h9 => h9) rfl dX12_byteAt_2 ?_
  refine lv_icmp_ge (tgt := 17) hx hb dX12_byteAt_5 (by decide) (fun c_1 => ?_) (fun c_1 => ?_)
  · have tc_1 : zn.toInt ≤ q.toInt := v_le c_1
    refine lv_iconst (v := (-1)) hx hb dX12_byteAt_17 (by decide) ?_
    exact kl_i (v := (-1)) hQQ hx hb hr hlocks hS dX12_byteAt_18 (fun PZ9 kZ9 => kZ9 (⟨hP, hD⟩) (by decide) (by show (q.toInt < zn.toInt ∧ 0 ≤ (-1)) ∨ (zn.toInt ≤ q.toInt ∧ (-1) = -1); omega) (by rw [bt_out (by have c9 := v_clamp (x := q) (by omega); omega)]; rfl))
  · have tc_1 : q.toInt < zn.toInt := v_nle c_1
    refine lv_aload_n hx hb dX12_byteAt_8 rfl (lv_at hl 0 rfl) ?_
    refine va_get (D := (dC, dI)) (ci := 12) (v := .ref mY) (C := RX12) (T := TX12) (N := 40) hx hb hts in_X12 hown hK hP 0 rfl rfl 26 (Nat.le_of_ble_eq_true rfl) (hts (.fieldLink RX12 58 "TextMenderModel" "bytes" "[I") (List.mem_of_getElem? (i := 2) rfl)) (fun _ h9 => h9) rfl dX12_byteAt_9 ?_
    refine lv_iload_n hx hb dX12_byteAt_12 rfl (lv_at hl 1 rfl) ?_
    refine va_iald hx hb hK hP 1 0 rfl rfl (v_in (by omega)) dX12_byteAt_13 ?_
    refine lv_topi (fun x_2 ex_2 => ?_)
    have tx_2 : 0 ≤ x_2.toInt ∧ x_2.toInt ≤ 255 := rg_at g_eY ex_2
    refine lv_goto (tgt := 18) hx hb dX12_byteAt_14 (by decide) ?_
    exact kl_i (v := x_2) hQQ hx hb hr hlocks hS dX12_byteAt_18 (fun PZ9 kZ9 => kZ9 (⟨hP, hD⟩) (v_rr tx_2 (by decide) (by decide)) (by show (q.toInt < zn.toInt ∧ 0 ≤ x_2.toInt) ∨ (zn.toInt ≤ q.toInt ∧ x_2.toInt = -1); omega) (rd_bt ex_2 (by have c9 := v_clamp (x := q) (by omega); omega) (by have c9 := v_clamp (x := q) (by omega); omega)))

set_option maxHeartbeats 40000000 in
set_option maxRecDepth 100000 in
theorem f_X12_readAt (l : Launch) (dC : Nat → ClassId) (dI : Nat → Nat → Nat) (cI cS : ClassId) (sz : Nat) (oM : Nat) (mT : Nat) (mS : Nat) (mX : Nat) (mL : Nat) (mB : Nat) (mD : Nat) (m1 : Nat) (m2 : Nat) (mR : Nat) (x1 : Nat) (x2 : Nat) (x3 : Nat) (mH : Nat) (mY : Nat) (mE : Nat) (mW : Nat) (mO : Nat) (y1 : Nat) (y2 : Nat) (y3 : Nat) (y4 : Nat) (mZ : Nat) (zt : Int32) (zp : Int32) (zf : Int32) (zh : Int32) (zr : Int32) (zc : Int32) (zy : Int32) (za : Int32) (zb : Int32) (zs : Int32) (zq : Int32) (zw : Int32) (ze : Int32) (zn : Int32) (zm : Int32) (zl : Int32) (zk : Int32) (zd : Int32) (eY : Nat → Int32) (eL : Nat → Int32) (cd : Int32) (q : Int32) (g_zt : 0 ≤ zt.toInt ∧ zt.toInt ≤ 900) (g_zp : 0 ≤ zp.toInt ∧ zp.toInt ≤ 20) (g_zf : 0 ≤ zf.toInt ∧ zf.toInt ≤ 19) (g_zh : 0 ≤ zh.toInt ∧ zh.toInt ≤ 6) (g_zr : 0 ≤ zr.toInt ∧ zr.toInt ≤ 258) (g_zc : 0 ≤ zc.toInt ∧ zc.toInt ≤ 300) (g_zy : 0 ≤ zy.toInt ∧ zy.toInt ≤ 65536) (g_za : 0 ≤ za.toInt ∧ za.toInt ≤ 5) (g_zb : 0 ≤ zb.toInt ∧ zb.toInt ≤ 5) (g_zs : 0 ≤ zs.toInt ∧ zs.toInt ≤ 2000000) (g_zq : -1 ≤ zq.toInt ∧ zq.toInt ≤ 2000000) (g_zn : 0 ≤ zn.toInt ∧ zn.toInt ≤ 2600) (g_zm : 0 ≤ zm.toInt ∧ zm.toInt ≤ 2600) (g_zk : 0 ≤ zk.toInt ∧ zk.toInt ≤ 300) (g_eY : rg 0 255 eY) (g_eL : rg (-1) 65535 eL) (g_cd : 0 ≤ cd.toInt ∧ cd.toInt ≤ 5) (g_q : 0 ≤ q.toInt ∧ q.toInt ≤ 2599) (hqn : q.toInt < zn.toInt) : kMi l yX12_readAt wsX12_readAt ({ frames := 1, cells := 0, slots := 0, locals := 21 } : Room) [.ref oM, .int cd, .int q] sz (dC, dI) vwCl [(cI, .int), (cS, .short)] [(oM, .inr (12, [.ref mT, .int zt, .ref mS, .ref mX, .int zp, .int zf, .ref mL, .ref mB, .ref mD, .ref m1, .ref m2, .int zh, .ref mR, .int zr, .ref x1, .ref x2, .ref x3, .int zc, .ref mH, .int zy, .int za, .int zb, .int zs, .int zq, .int zw, .int ze, .ref mY, .int zn, .ref mE, .int zm, .int zl, .ref mW, .int zk, .ref mO, .int zd, .ref y1, .ref y2, .ref y3, .ref y4, .ref mZ])), (mY, .inl (cI, 2600, .inl eY)), (mL, .inl (cI, 512, .inl eL))] (fun _ => True) 0 0 (fun (A : Nat → Prop) (r : Int32) (hh9 : Heap) => ∀ PZ9 : Prop, (∀ (zd' : Int32), kPD (dC, dI) vwCl A [(oM, .inr (12, [.ref mT, .int zt, .ref mS, .ref mX, .int zp, .int zf, .ref mL, .ref mB, .ref mD, .ref m1, .ref m2, .int zh, .ref mR, .int zr, .ref x1, .ref x2, .ref x3, .int zc, .ref mH, .int zy, .int za, .int zb, .int zs, .int zq, .int zw, .int ze, .ref mY, .int zn, .ref mE, .int zm, .int zl, .ref mW, .int zk, .ref mO, .int zd', .ref y1, .ref y2, .ref y3, .ref y4, .ref mZ])), (mY, .inl (cI, 2600, .inl eY)), (mL, .inl (cI, 512, .inl eL))] hh9 → (0 ≤ r.toInt ∧ r.toInt ≤ 9) → (r.toInt = 0 ∨ (0 ≤ zd'.toInt ∧ zd'.toInt ≤ 65535)) → (F_ra r cd zd' (fun k => eL k) (fun k => eL (256 + k)) eY zn.toInt q.toNatClampNeg) → PZ9) → PZ9) := by
  refine kMi_of (cc := cX12_readAt) (maxL := 7) (ret := (some .int)) (lv := [(0, .ref oM), (1, .int cd), (2, .int q)]) (by decide +kernel) rfl rfl (Nat.le_of_ble_eq_true rfl) ?_
  intro p e s m below meth c A QQ ls hx hb hr hts hml hown hlocks hA hQQ hK hX hP hD hS hl
  have hown : s.vm.findClass RX12 = some m.cls := hown
  have hcf := k_cf hx hb hml hown hts
  have in_X12 : ∀ w ∈ wsX120, w ∈ wsX12_readAt := fun _ h => List.mem_cons_of_mem _ (List.mem_append_left _ (List.mem_append_left _ (List.mem_append_left _ (List.mem_append_right _ (h)))))
  replace g_zt := hid g_zt
  replace g_zp := hid g_zp
  replace g_zf := hid g_zf
  replace g_zh := hid g_zh
  replace g_zr := hid g_zr
  replace g_zc := hid g_zc
  replace g_zy := hid g_zy
  replace g_za := hid g_za
  replace g_zb := hid g_zb
  replace g_zs := hid g_zs
  replace g_zq := hid g_zq
  replace g_zm := hid g_zm
  replace g_zk := hid g_zk
  have c0 := v_clamp (x := q) (by omega)
  have z0 : (0 : Int32).toInt = 0 := rfl
  refine lv_aload_n hx hb dX12_readAt_0 rfl (lv_at hl 0 rfl) ?_
  refine va_get (D := (dC, dI)) (ci := 12) (v := .ref mY) (C := RX12) (T := TX12) (N := 40) hx hb hts in_X12 hown hK hP 0 rfl rfl 26 (Nat.le_of_ble_eq_true rfl) (hts (.fieldLink RX12 58 "TextMenderModel" "bytes" "[I") (List.mem_of_getElem? (i := 1) rfl)) (fun _ h9 => h9) rfl dX12_readAt_1 ?_
  refine lv_iload_n hx hb dX12_readAt_4 rfl (lv_at hl 2 rfl) ?_
  refine va_iald hx hb hK hP 1 0 rfl rfl (v_inR g_q (by decide) (by decide)) dX12_readAt_5 ?_
  refine lv_topi (fun x_1 ex_1 => ?_)
  have tx_1 : 0 ≤ x_1.toInt ∧ x_1.toInt ≤ 255 := rg_at g_eY ex_1
  have hb0 : x_1.toInt = bt eY zn.toInt q.toNatClampNeg := rd_bt ex_1 (by omega) (by omega)
  refine lv_istore_n (lv' := [(3, .int x_1), (0, .ref oM), (1, .int cd), (2, .int q)]) hx hb dX12_readAt_6 rfl hl (by decide) rfl (fun ls hl => ?_)
  refine lv_aload_n hx hb dX12_readAt_7 rfl (lv_at hl 1 rfl) ?_
  refine lv_iload_n hx hb dX12_readAt_8 rfl (lv_at hl 0 rfl) ?_
  refine va_put (D := (dC, dI)) (ci := 12) (v := .int x_1) (ty := .int) (C := RX12) (T := TX12) (N := 40) hx hb hts in_X12 tyX12 tyX12_ok nmX12 hown hK hP hD hS 0 rfl rfl 34 (Nat.le_of_ble_eq_true rfl) (hts (.fieldLink RX12 105 "TextMenderModel" "readLetter" "I") (List.mem_of_getElem? (i := 2) rfl)) (fun _ h9 => h9) rfl (tyX12_ok 34 (Nat.le_of_ble_eq_true rfl)) rfl rfl (Nat.le_of_ble_eq_true rfl) dX12_readAt_9 (kW (wn := [(oM, .inr (12, [.ref mT, .int zt, .ref mS, .ref mX, .int zp, .int zf, .ref mL, .ref mB, .ref mD, .ref m1, .ref m2, .int zh, .ref mR, .int zr, .ref x1, .ref x2, .ref x3, .int zc, .ref mH, .int zy, .int za, .int zb, .int zs, .int zq, .int zw, .int ze, .ref mY, .int zn, .ref mE, .int zm, .int zl, .ref mW, .int zk, .ref mO, .int x_1, .ref y1, .ref y2, .ref y3, .ref y4, .ref mZ])), (mY, .inl (cI, 2600, .inl eY)), (mL, .inl (cI, 512, .inl eL))]) rfl (fun H locs hPn hDn hSn => ?_))
  clear hP hD hS
  have hP := hPn
  have hD := hDn
  have hS := hSn
  clear hPn hDn hSn
  refine lv_iload_n hx hb dX12_readAt_12 rfl (lv_at hl 2 rfl) ?_
  refine lv_iconst (v := 2) hx hb dX12_readAt_13 (by decide) ?_
  refine lv_icmp_ge (tgt := 39) hx hb dX12_readAt_14 (by decide) (fun c_2 => ?_) (fun c_2 => ?_)
  · have tc_2 : 2 ≤ cd.toInt := v_le c_2
    refine lv_iload_n hx hb dX12_readAt_39 rfl (lv_at hl 2 rfl) ?_
    refine lv_iconst (v := 3) hx hb dX12_readAt_40 (by decide) ?_
    refine lv_icmp_le (tgt := 76) hx hb dX12_readAt_41 (by decide) (fun c_3 => ?_) (fun c_3 => ?_)
    · have tc_3 : cd.toInt ≤ 3 := v_le c_3
      refine lv_iload_n hx hb dX12_readAt_76 rfl (lv_at hl 0 rfl) ?_
      refine lv_bipush (v := 127) hx hb dX12_readAt_77 (by decide) ?_
      refine lv_icmp_le (tgt := 89) hx hb dX12_readAt_79 (by decide) (fun c_4 => ?_) (fun c_4 => ?_)
      · have tc_4 : x_1.toInt ≤ 127 := v_le c_4
        refine lv_iload_n hx hb dX12_readAt_89 rfl (lv_at hl 0 rfl) ?_
        refine lv_sipush (v := 128) hx hb dX12_readAt_90 (by decide) ?_
        refine lv_icmp_ge (tgt := 109) hx hb dX12_readAt_93 (by decide) (fun c_5 => by exfalso; have tc_5 : 128 ≤ x_1.toInt := v_le c_5; omega) (fun c_5 => ?_)
        have tc_5 : x_1.toInt < 128 := v_nle c_5
        refine lv_iload_n hx hb dX12_readAt_96 rfl (lv_at hl 2 rfl) ?_
        refine lv_iconst (v := 2) hx hb dX12_readAt_97 (by decide) ?_
        refine lv_icmp_eq (tgt := 107) hx hb dX12_readAt_98 (by decide) (fun c_6 => ?_) (fun c_6 => ?_)
        · have tc_6 : cd.toInt = 2 := v_eq c_6
          refine lv_iconst (v := 1) hx hb dX12_readAt_107 (by decide) ?_
          exact kl_i (v := 1) hQQ hx hb hr hlocks hS dX12_readAt_108 (fun PZ9 kZ9 => kZ9 x_1 (⟨hP, hD⟩) (by decide) (by show 1 = 0 ∨ (0 ≤ x_1.toInt ∧ x_1.toInt ≤ 65535); omega) (Or.inl ⟨1, rfl, by omega, Or.inl ⟨rfl, (by rw [← ex_1]; first | (unfold alF; (repeat (first | rw [if_neg (by omega)] | rw [if_pos (by omega)])); done) | (exfalso; omega)), v_nn (by omega)⟩⟩))
        · have tc_6 : ¬ cd.toInt = 2 := v_ne c_6
          refine lv_iload_n hx hb dX12_readAt_101 rfl (lv_at hl 0 rfl) ?_
          refine lv_bipush (v := 38) hx hb dX12_readAt_102 (by decide) ?_
          refine lv_icmp_eq (tgt := 109) hx hb dX12_readAt_104 (by decide) (fun c_7 => ?_) (fun c_7 => ?_)
          · have tc_7 : x_1.toInt = 38 := v_eq c_7
            refine lv_iload_n hx hb dX12_readAt_109 rfl (lv_at hl 2 rfl) ?_
            refine lv_iconst (v := 2) hx hb dX12_readAt_110 (by decide) ?_
            refine lv_icmp_ne (tgt := 264) hx hb dX12_readAt_111 (by decide) (fun c_8 => ?_) (fun c_8 => by exfalso; have tc_8 : cd.toInt = 2 := v_eq c_8; omega)
            have tc_8 : ¬ cd.toInt = 2 := v_ne c_8
            refine lv_aload_n hx hb dX12_readAt_264 rfl (lv_at hl 1 rfl) ?_
            refine lv_iload_n hx hb dX12_readAt_265 rfl (lv_at hl 3 rfl) ?_
            refine lv_iconst (v := 1) hx hb dX12_readAt_266 (by decide) ?_
            refine lv_iadd hx hb dX12_readAt_267 ?_
            refine lv_topi (fun x_9 ex_9 => ?_)
            have tx_9 : x_9.toInt = q.toInt + 1 := v_addR (l2 := 1) (h2 := 1) ex_9 g_q (by decide) (by decide) (by decide)
            refine kV_i (rest := []) (q0 := 0) (ci := 12) hcf (f_X12_byteAt l dC dI cI cS H.size oM mT mS mX mL mB mD m1 m2 mR x1 x2 x3 mH mY mE mW mO y1 y2 y3 y4 mZ zt zp zf zh zr zc zy za zb zs zq zw ze zn zm zl zk x_1 eY x_9 (g_zt) (g_zp) (g_zf) (g_zh) (g_zr) (g_zc) (g_zy) (g_za) (g_zb) (g_zs) (g_zq) (g_zn) (g_zm) (g_zk) (g_eY) (v_rr (v_sumR (l := 1) (h := 2600) (l2 := 1) (h2 := 1) tx_9 g_q (by decide) (by decide) (by decide)) (by decide) (by decide))) kc_X12_byteAt gX12_readAt_X12_byteAt rfl rfl rfl ⟨Nat.le_of_ble_eq_true rfl, Nat.le_of_ble_eq_true rfl⟩ kX_t hK hP hD hS hA [0, 1] [2] rfl (by decide +kernel) rfl rfl rfl hl rfl (Nat.le_of_ble_eq_true rfl) dX12_readAt_268 ⟨Nat.le_of_ble_eq_true rfl, Nat.le_of_ble_eq_true rfl⟩ (fun r_10 H locs hB hJ hSn => ?_)
            refine hB _ (fun hPD9 hf10_0 hf10_1 hf10_2 => ?_)
            clear hB
            obtain ⟨hPn, hDn⟩ := hJ _ hPD9.1 hPD9.2 [(mL, .inl (cI, 512, .inl eL)), (oM, .inr (12, [.ref mT, .int zt, .ref mS, .ref mX, .int zp, .int zf, .ref mL, .ref mB, .ref mD, .ref m1, .ref m2, .int zh, .ref mR, .int zr, .ref x1, .ref x2, .ref x3, .int zc, .ref mH, .int zy, .int za, .int zb, .int zs, .int zq, .int zw, .int ze, .ref mY, .int zn, .ref mE, .int zm, .int zl, .ref mW, .int zk, .ref mO, .int x_1, .ref y1, .ref y2, .ref y3, .ref y4, .ref mZ])), (mY, .inl (cI, 2600, .inl eY))] rfl
            clear hP hD hS hJ hPD9
            have hP := hPn
            have hD := hDn
            have hS := hSn
            clear hPn hDn hSn
            have hb10 : r_10.toInt = bt eY zn.toInt (q.toNatClampNeg + 1) := bt_ix (k := q.toNatClampNeg + 1) hf10_2 (by omega)
            refine lv_bipush (v := 35) hx hb dX12_readAt_271 (by decide) ?_
            refine lv_icmp_eq (tgt := 278) hx hb dX12_readAt_273 (by decide) (fun c_11 => ?_) (fun c_11 => ?_)
            · have tc_11 : r_10.toInt = 35 := v_eq c_11
              refine lv_iload_n hx hb dX12_readAt_278 rfl (lv_at hl 3 rfl) ?_
              refine lv_iconst (v := 2) hx hb dX12_readAt_279 (by decide) ?_
              refine lv_iadd hx hb dX12_readAt_280 ?_
              refine lv_topi (fun x_12 ex_12 => ?_)
              have tx_12 : x_12.toInt = q.toInt + 2 := v_addR (l2 := 2) (h2 := 2) ex_12 g_q (by decide) (by decide) (by decide)
              refine lv_istore (lv' := [(4, .int x_12), (3, .int x_1), (0, .ref oM), (1, .int cd), (2, .int q)]) hx hb dX12_readAt_281 hl (by decide) rfl (fun ls hl => ?_)
              refine lv_iconst (v := 0) hx hb dX12_readAt_283 (by decide) ?_
              refine lv_istore (lv' := [(5, .int 0), (4, .int x_12), (3, .int x_1), (0, .ref oM), (1, .int cd), (2, .int q)]) hx hb dX12_readAt_284 hl (by decide) rfl (fun ls hl => ?_)
              have LOOP_286 : ∀ (k_286 : Nat) (qq : Int32) (x : Int32) (H : Heap) (locs : List Loc) (ls : Array Slot), MSd (q.toInt + 8 - qq.toInt : Int) k_286 → (2 ≤ qq.toInt ∧ qq.toInt ≤ 2608) → (0 ≤ x.toInt ∧ x.toInt ≤ 999999) → (q.toInt + 2 ≤ qq.toInt ∧ qq.toInt ≤ q.toInt + 8) → (NJ (bo eY zn.toInt q.toNatClampNeg) (qq.toInt - q.toInt - 2).toNat x.toInt) → va_P (dC, dI) vwCl [(mL, .inl (cI, 512, .inl eL)), (oM, .inr (12, [.ref mT, .int zt, .ref mS, .ref mX, .int zp, .int zf, .ref mL, .ref mB, .ref mD, .ref m1, .ref m2, .int zh, .ref mR, .int zr, .ref x1, .ref x2, .ref x3, .int zc, .ref mH, .int zy, .int za, .int zb, .int zs, .int zq, .int zw, .int ze, .ref mY, .int zn, .ref mE, .int zm, .int zl, .ref mW, .int zk, .ref mO, .int x_1, .ref y1, .ref y2, .ref y3, .ref y4, .ref mZ])), (mY, .inl (cI, 2600, .inl eY))] H → va_D A [(mL, .inl (cI, 512, .inl eL)), (oM, .inr (12, [.ref mT, .int zt, .ref mS, .ref mX, .int zp, .int zf, .ref mL, .ref mB, .ref mD, .ref m1, .ref m2, .int zh, .ref mR, .int zr, .ref x1, .ref x2, .ref x3, .int zc, .ref mH, .int zy, .int za, .int zb, .int zs, .int zq, .int zw, .int ze, .ref mY, .int zn, .ref mE, .int zm, .int zl, .ref mW, .int zk, .ref mO, .int x_1, .ref y1, .ref y2, .ref y3, .ref y4, .ref mZ])), (mY, .inl (cI, 2600, .inl eY))] → va_S A s.heap H locs → lv_has ls 7 [(5, .int x), (4, .int qq), (3, .int x_1), (0, .ref oM), (1, .int cd), (2, .int q)] → W p l e (headSpec wsX12_readAt ({ frames := 1, cells := 0, slots := 0, locals := 21 } : Room)).room s m ([.ref oM, .int cd, .int q] : List Value).toArray below meth c H locs 0 0 (MQ below QQ ([.ref oM, .int cd, .int q] : List Value).toArray s 0 0 A) (F0 m 286 ls []) := by
                clear hP hD hS hl
                intro k_286
                induction k_286 with
                | zero =>
                  intro qq x H locs ls hm_286 g_qq g_x hqq hnj hP hD hS hl
                  exact ms_0 hm_286
                | succ k_286 ih_286 =>
                  intro qq x H locs ls hm_286 g_qq g_x hqq hnj hP hD hS hl
                  refine lv_aload_n hx hb dX12_readAt_286 rfl (lv_at hl 3 rfl) ?_
                  refine lv_iload hx hb dX12_readAt_287 (lv_at hl 1 rfl) ?_
                  refine kV_i (rest := []) (q0 := 0) (ci := 12) hcf (f_X12_byteAt l dC dI cI cS H.size oM mT mS mX mL mB mD m1 m2 mR x1 x2 x3 mH mY mE mW mO y1 y2 y3 y4 mZ zt zp zf zh zr zc zy za zb zs zq zw ze zn zm zl zk x_1 eY qq (g_zt) (g_zp) (g_zf) (g_zh) (g_zr) (g_zc) (g_zy) (g_za) (g_zb) (g_zs) (g_zq) (g_zn) (g_zm) (g_zk) (g_eY) (v_rr g_qq (by decide) (by decide))) kc_X12_byteAt gX12_readAt_X12_byteAt rfl rfl rfl ⟨Nat.le_of_ble_eq_true rfl, Nat.le_of_ble_eq_true rfl⟩ kX_t hK hP hD hS hA [1, 2] [0] rfl (by decide +kernel) rfl rfl rfl hl rfl (Nat.le_of_ble_eq_true rfl) dX12_readAt_289 ⟨Nat.le_of_ble_eq_true rfl, Nat.le_of_ble_eq_true rfl⟩ (fun r_13 H locs hB hJ hSn => ?_)
                  refine hB _ (fun hPD9 hf13_0 hf13_1 hf13_2 => ?_)
                  clear hB
                  obtain ⟨hPn, hDn⟩ := hJ _ hPD9.1 hPD9.2 [(mL, .inl (cI, 512, .inl eL)), (oM, .inr (12, [.ref mT, .int zt, .ref mS, .ref mX, .int zp, .int zf, .ref mL, .ref mB, .ref mD, .ref m1, .ref m2, .int zh, .ref mR, .int zr, .ref x1, .ref x2, .ref x3, .int zc, .ref mH, .int zy, .int za, .int zb, .int zs, .int zq, .int zw, .int ze, .ref mY, .int zn, .ref mE, .int zm, .int zl, .ref mW, .int zk, .ref mO, .int x_1, .ref y1, .ref y2, .ref y3, .ref y4, .ref mZ])), (mY, .inl (cI, 2600, .inl eY))] rfl
                  clear hP hD hS hJ hPD9
                  have hP := hPn
                  have hD := hDn
                  have hS := hSn
                  clear hPn hDn hSn
                  have hb13 : r_13.toInt = bo eY zn.toInt q.toNatClampNeg (2 + (qq.toInt - q.toInt - 2).toNat) := bt_ix (k := q.toNatClampNeg + (2 + (qq.toInt - q.toInt - 2).toNat)) hf13_2 (by omega)
                  refine lv_bipush (v := 48) hx hb dX12_readAt_292 (by decide) ?_
                  refine lv_icmp_lt (tgt := 356) hx hb dX12_readAt_294 (by decide) (fun c_14 => ?_) (fun c_14 => ?_)
                  · have tc_14 : r_13.toInt < 48 := v_lt c_14
                    have hnr9 := NJ_r hnj
                    refine lv_aload_n hx hb dX12_readAt_356 rfl (lv_at hl 3 rfl) ?_
                    refine lv_iload hx hb dX12_readAt_357 (lv_at hl 0 rfl) ?_
                    refine va_put (D := (dC, dI)) (ci := 12) (v := .int x) (ty := .int) (C := RX12) (T := TX12) (N := 40) hx hb hts in_X12 tyX12 tyX12_ok nmX12 hown hK hP hD hS 1 rfl rfl 34 (Nat.le_of_ble_eq_true rfl) (hts (.fieldLink RX12 105 "TextMenderModel" "readLetter" "I") (List.mem_of_getElem? (i := 2) rfl)) (fun _ h9 => h9) rfl (tyX12_ok 34 (Nat.le_of_ble_eq_true rfl)) rfl rfl (Nat.le_of_ble_eq_true rfl) dX12_readAt_359 (kW (wn := [(mL, .inl (cI, 512, .inl eL)), (oM, .inr (12, [.ref mT, .int zt, .ref mS, .ref mX, .int zp, .int zf, .ref mL, .ref mB, .ref mD, .ref m1, .ref m2, .int zh, .ref mR, .int zr, .ref x1, .ref x2, .ref x3, .int zc, .ref mH, .int zy, .int za, .int zb, .int zs, .int zq, .int zw, .int ze, .ref mY, .int zn, .ref mE, .int zm, .int zl, .ref mW, .int zk, .ref mO, .int x, .ref y1, .ref y2, .ref y3, .ref y4, .ref mZ])), (mY, .inl (cI, 2600, .inl eY))]) rfl (fun H locs hPn hDn hSn => ?_))
                    clear hP hD hS
                    have hP := hPn
                    have hD := hDn
                    have hS := hSn
                    clear hPn hDn hSn
                    refine lv_iload hx hb dX12_readAt_362 (lv_at hl 1 rfl) ?_
                    refine lv_iload_n hx hb dX12_readAt_364 rfl (lv_at hl 5 rfl) ?_
                    refine lv_iconst (v := 2) hx hb dX12_readAt_365 (by decide) ?_
                    refine lv_iadd hx hb dX12_readAt_366 ?_
                    refine lv_topi (fun x_15 ex_15 => ?_)
                    have tx_15 : x_15.toInt = q.toInt + 2 := v_addR (l2 := 2) (h2 := 2) ex_15 g_q (by decide) (by decide) (by decide)
                    refine lv_icmp_le (tgt := 407) hx hb dX12_readAt_367 (by decide) (fun c_16 => ?_) (fun c_16 => ?_)
                    · have tc_16 : qq.toInt ≤ x_15.toInt := v_le c_16
                      refine lv_iconst (v := 0) hx hb dX12_readAt_407 (by decide) ?_
                      refine lv_istore (lv' := [(6, .int 0), (5, .int x), (4, .int qq), (3, .int x_1), (0, .ref oM), (1, .int cd), (2, .int q)]) hx hb dX12_readAt_408 hl (by decide) rfl (fun ls hl => ?_)
                      refine lv_iload hx hb dX12_readAt_410 (lv_at hl 0 rfl) ?_
                      refine lv_if_eq (tgt := 424) hx hb dX12_readAt_412 (by decide) (fun c_17 => ?_) (fun c_17 => absurd c_17 (by decide))
                      refine lv_iconst (v := 0) hx hb dX12_readAt_424 (by decide) ?_
                      exact kl_i (v := 0) hQQ hx hb hr hlocks hS dX12_readAt_425 (fun PZ9 kZ9 => kZ9 x (kPD_sub hP hD [1, 2, 0] (by decide +kernel) rfl) (by decide) (by show 0 = 0 ∨ (0 ≤ x.toInt ∧ x.toInt ≤ 65535); omega) (Or.inr ⟨rfl, Dec_no (by rw [← ex_1]; exact al3 (by omega) (by omega)) (fun e9 _ _ _ => by omega) (fun _ => by first | exact NJ_no (B := bo eY zn.toInt q.toNatClampNeg) hnj hb13 (by omega) | exact NJ_no0 (B := bo eY zn.toInt q.toNatClampNeg) hnj (by omega) (by omega))⟩))
                    · have tc_16 : x_15.toInt < qq.toInt := v_nle c_16
                      refine lv_aload_n hx hb dX12_readAt_370 rfl (lv_at hl 3 rfl) ?_
                      refine lv_iload hx hb dX12_readAt_371 (lv_at hl 1 rfl) ?_
                      refine kV_i (rest := []) (q0 := 0) (ci := 12) hcf (f_X12_byteAt l dC dI cI cS H.size oM mT mS mX mL mB mD m1 m2 mR x1 x2 x3 mH mY mE mW mO y1 y2 y3 y4 mZ zt zp zf zh zr zc zy za zb zs zq zw ze zn zm zl zk x eY qq (g_zt) (g_zp) (g_zf) (g_zh) (g_zr) (g_zc) (g_zy) (g_za) (g_zb) (g_zs) (g_zq) (g_zn) (g_zm) (g_zk) (g_eY) (v_rr g_qq (by decide) (by decide))) kc_X12_byteAt gX12_readAt_X12_byteAt rfl rfl rfl ⟨Nat.le_of_ble_eq_true rfl, Nat.le_of_ble_eq_true rfl⟩ kX_t hK hP hD hS hA [1, 2] [0] rfl (by decide +kernel) rfl rfl rfl hl rfl (Nat.le_of_ble_eq_true rfl) dX12_readAt_373 ⟨Nat.le_of_ble_eq_true rfl, Nat.le_of_ble_eq_true rfl⟩ (fun r_18 H locs hB hJ hSn => ?_)
                      refine hB _ (fun hPD9 hf18_0 hf18_1 hf18_2 => ?_)
                      clear hB
                      obtain ⟨hPn, hDn⟩ := hJ _ hPD9.1 hPD9.2 [(mL, .inl (cI, 512, .inl eL)), (oM, .inr (12, [.ref mT, .int zt, .ref mS, .ref mX, .int zp, .int zf, .ref mL, .ref mB, .ref mD, .ref m1, .ref m2, .int zh, .ref mR, .int zr, .ref x1, .ref x2, .ref x3, .int zc, .ref mH, .int zy, .int za, .int zb, .int zs, .int zq, .int zw, .int ze, .ref mY, .int zn, .ref mE, .int zm, .int zl, .ref mW, .int zk, .ref mO, .int x, .ref y1, .ref y2, .ref y3, .ref y4, .ref mZ])), (mY, .inl (cI, 2600, .inl eY))] rfl
                      clear hP hD hS hJ hPD9
                      have hP := hPn
                      have hD := hDn
                      have hS := hSn
                      clear hPn hDn hSn
                      have hb18 : r_18.toInt = bo eY zn.toInt q.toNatClampNeg (2 + (qq.toInt - q.toInt - 2).toNat) := bt_ix (k := q.toNatClampNeg + (2 + (qq.toInt - q.toInt - 2).toNat)) hf18_2 (by omega)
                      refine lv_bipush (v := 59) hx hb dX12_readAt_376 (by decide) ?_
                      refine lv_icmp_ne (tgt := 407) hx hb dX12_readAt_378 (by decide) (fun c_19 => ?_) (fun c_19 => ?_)
                      · have tc_19 : ¬ r_18.toInt = 59 := v_ne c_19
                        refine lv_iconst (v := 0) hx hb dX12_readAt_407 (by decide) ?_
                        refine lv_istore (lv' := [(6, .int 0), (5, .int x), (4, .int qq), (3, .int x_1), (0, .ref oM), (1, .int cd), (2, .int q)]) hx hb dX12_readAt_408 hl (by decide) rfl (fun ls hl => ?_)
                        refine lv_iload hx hb dX12_readAt_410 (lv_at hl 0 rfl) ?_
                        refine lv_if_eq (tgt := 424) hx hb dX12_readAt_412 (by decide) (fun c_20 => ?_) (fun c_20 => absurd c_20 (by decide))
                        refine lv_iconst (v := 0) hx hb dX12_readAt_424 (by decide) ?_
                        exact kl_i (v := 0) hQQ hx hb hr hlocks hS dX12_readAt_425 (fun PZ9 kZ9 => kZ9 x (kPD_sub hP hD [1, 2, 0] (by decide +kernel) rfl) (by decide) (by show 0 = 0 ∨ (0 ≤ x.toInt ∧ x.toInt ≤ 65535); omega) (Or.inr ⟨rfl, Dec_no (by rw [← ex_1]; exact al3 (by omega) (by omega)) (fun e9 _ _ _ => by omega) (fun _ => by first | exact NJ_no (B := bo eY zn.toInt q.toNatClampNeg) hnj hb18 (by omega) | exact NJ_no0 (B := bo eY zn.toInt q.toNatClampNeg) hnj (by omega) (by omega))⟩))
                      · have tc_19 : r_18.toInt = 59 := v_eq c_19
                        refine lv_iload hx hb dX12_readAt_381 (lv_at hl 0 rfl) ?_
                        refine kS_i (rest := []) hcf (m_X12_isLetter l dC dI cI cS H.size x ) kc_X12_isLetter gX12_readAt_X12_isLetter rfl rfl ⟨Nat.le_of_ble_eq_true rfl, Nat.le_of_ble_eq_true rfl⟩ kX_t hK hP hD hS hA [] [0, 1, 2] rfl (by decide +kernel) rfl hl rfl (Nat.le_of_ble_eq_true rfl) dX12_readAt_383 ⟨Nat.le_of_ble_eq_true rfl, Nat.le_of_ble_eq_true rfl⟩ (fun r_21 H locs hB hJ hSn => ?_)
                        refine hB _ (fun hPD9 hf21_0 hf21_1 => ?_)
                        clear hB
                        obtain ⟨hPn, hDn⟩ := hJ _ hPD9.1 hPD9.2 [(mL, .inl (cI, 512, .inl eL)), (oM, .inr (12, [.ref mT, .int zt, .ref mS, .ref mX, .int zp, .int zf, .ref mL, .ref mB, .ref mD, .ref m1, .ref m2, .int zh, .ref mR, .int zr, .ref x1, .ref x2, .ref x3, .int zc, .ref mH, .int zy, .int za, .int zb, .int zs, .int zq, .int zw, .int ze, .ref mY, .int zn, .ref mE, .int zm, .int zl, .ref mW, .int zk, .ref mO, .int x, .ref y1, .ref y2, .ref y3, .ref y4, .ref mZ])), (mY, .inl (cI, 2600, .inl eY))] rfl
                        clear hP hD hS hJ hPD9
                        have hP := hPn
                        have hD := hDn
                        have hS := hSn
                        clear hPn hDn hSn
                        refine lv_if_eq (tgt := 407) hx hb dX12_readAt_386 (by decide) (fun c_22 => ?_) (fun c_22 => ?_)
                        · have tc_22 : r_21.toInt = 0 := v_eq c_22
                          refine lv_iconst (v := 0) hx hb dX12_readAt_407 (by decide) ?_
                          refine lv_istore (lv' := [(6, .int 0), (5, .int x), (4, .int qq), (3, .int x_1), (0, .ref oM), (1, .int cd), (2, .int q)]) hx hb dX12_readAt_408 hl (by decide) rfl (fun ls hl => ?_)
                          refine lv_iload hx hb dX12_readAt_410 (lv_at hl 0 rfl) ?_
                          refine lv_if_eq (tgt := 424) hx hb dX12_readAt_412 (by decide) (fun c_23 => ?_) (fun c_23 => absurd c_23 (by decide))
                          refine lv_iconst (v := 0) hx hb dX12_readAt_424 (by decide) ?_
                          exact kl_i (v := 0) hQQ hx hb hr hlocks hS dX12_readAt_425 (fun PZ9 kZ9 => kZ9 x (kPD_sub hP hD [1, 2, 0] (by decide +kernel) rfl) (by decide) (by show 0 = 0 ∨ (0 ≤ x.toInt ∧ x.toInt ≤ 65535); omega) (Or.inr ⟨rfl, Dec_no (by rw [← ex_1]; exact al3 (by omega) (by omega)) (fun e9 _ _ _ => by omega) (fun _ => by first | exact NJ_no (B := bo eY zn.toInt q.toNatClampNeg) hnj hb18 (by omega) | exact NJ_no0 (B := bo eY zn.toInt q.toNatClampNeg) hnj (by omega) (by omega))⟩))
                        · have tc_22 : ¬ r_21.toInt = 0 := v_ne c_22
                          refine lv_iload hx hb dX12_readAt_389 (lv_at hl 0 rfl) ?_
                          refine lv_bipush (v := 38) hx hb dX12_readAt_391 (by decide) ?_
                          refine lv_icmp_eq (tgt := 403) hx hb dX12_readAt_393 (by decide) (fun c_24 => ?_) (fun c_24 => ?_)
                          · have tc_24 : x.toInt = 38 := v_eq c_24
                            refine lv_iconst (v := 1) hx hb dX12_readAt_403 (by decide) ?_
                            refine lv_goto (tgt := 408) hx hb dX12_readAt_404 (by decide) ?_
                            refine lv_istore (lv' := [(6, .int 1), (5, .int x), (4, .int qq), (3, .int x_1), (0, .ref oM), (1, .int cd), (2, .int q)]) hx hb dX12_readAt_408 hl (by decide) rfl (fun ls hl => ?_)
                            refine lv_iload hx hb dX12_readAt_410 (lv_at hl 0 rfl) ?_
                            refine lv_if_eq (tgt := 424) hx hb dX12_readAt_412 (by decide) (fun c_25 => absurd c_25 (by decide)) (fun c_25 => ?_)
                            refine lv_iload hx hb dX12_readAt_415 (lv_at hl 2 rfl) ?_
                            refine lv_iload_n hx hb dX12_readAt_417 rfl (lv_at hl 6 rfl) ?_
                            refine lv_isub hx hb dX12_readAt_418 ?_
                            refine lv_topi (fun x_26 ex_26 => ?_)
                            have tx_26 : x_26.toInt = qq.toInt - q.toInt := v_subR ex_26 g_qq g_q (by decide) (by decide)
                            refine lv_iconst (v := 1) hx hb dX12_readAt_419 (by decide) ?_
                            refine lv_iadd hx hb dX12_readAt_420 ?_
                            refine lv_topi (fun x_27 ex_27 => ?_)
                            have tx_27 : x_27.toInt = x_26.toInt + 1 := v_addR (l2 := 1) (h2 := 1) ex_27 (v_difR (l := (-2597)) (h := 2608) tx_26 g_qq g_q (by decide) (by decide)) (by decide) (by decide) (by decide)
                            refine lv_goto (tgt := 425) hx hb dX12_readAt_421 (by decide) ?_
                            exact kl_i (v := x_27) hQQ hx hb hr hlocks hS dX12_readAt_425 (fun PZ9 kZ9 => kZ9 x (kPD_sub hP hD [1, 2, 0] (by decide +kernel) rfl) (by omega) (by show x_27.toInt = 0 ∨ (0 ≤ x.toInt ∧ x.toInt ≤ 65535); omega) (Or.inl ⟨(qq.toInt - q.toInt - 2).toNat + 3, by omega, by omega, Or.inr (Or.inr ⟨by omega, NJ_of (B := bo eY zn.toInt q.toNatClampNeg) hnj (by rw [← hb18]; omega) (by show bt eY zn.toInt q.toNatClampNeg = 38; omega) (by show bt eY zn.toInt (q.toNatClampNeg + 1) = 35; omega) (by omega) (by omega) (by omega) (by omega)⟩)⟩))
                          · have tc_24 : ¬ x.toInt = 38 := v_ne c_24
                            refine lv_iload hx hb dX12_readAt_396 (lv_at hl 0 rfl) ?_
                            refine lv_bipush (v := 127) hx hb dX12_readAt_398 (by decide) ?_
                            refine lv_icmp_le (tgt := 407) hx hb dX12_readAt_400 (by decide) (fun c_28 => ?_) (fun c_28 => ?_)
                            · have tc_28 : x.toInt ≤ 127 := v_le c_28
                              refine lv_iconst (v := 0) hx hb dX12_readAt_407 (by decide) ?_
                              refine lv_istore (lv' := [(6, .int 0), (5, .int x), (4, .int qq), (3, .int x_1), (0, .ref oM), (1, .int cd), (2, .int q)]) hx hb dX12_readAt_408 hl (by decide) rfl (fun ls hl => ?_)
                              refine lv_iload hx hb dX12_readAt_410 (lv_at hl 0 rfl) ?_
                              refine lv_if_eq (tgt := 424) hx hb dX12_readAt_412 (by decide) (fun c_29 => ?_) (fun c_29 => absurd c_29 (by decide))
                              refine lv_iconst (v := 0) hx hb dX12_readAt_424 (by decide) ?_
                              exact kl_i (v := 0) hQQ hx hb hr hlocks hS dX12_readAt_425 (fun PZ9 kZ9 => kZ9 x (kPD_sub hP hD [1, 2, 0] (by decide +kernel) rfl) (by decide) (by show 0 = 0 ∨ (0 ≤ x.toInt ∧ x.toInt ≤ 65535); omega) (Or.inr ⟨rfl, Dec_no (by rw [← ex_1]; exact al3 (by omega) (by omega)) (fun e9 _ _ _ => by omega) (fun _ => by first | exact NJ_no (B := bo eY zn.toInt q.toNatClampNeg) hnj hb18 (by omega) | exact NJ_no0 (B := bo eY zn.toInt q.toNatClampNeg) hnj (by omega) (by omega))⟩))
                            · have tc_28 : 127 < x.toInt := v_nle c_28
                              refine lv_iconst (v := 1) hx hb dX12_readAt_403 (by decide) ?_
                              refine lv_goto (tgt := 408) hx hb dX12_readAt_404 (by decide) ?_
                              refine lv_istore (lv' := [(6, .int 1), (5, .int x), (4, .int qq), (3, .int x_1), (0, .ref oM), (1, .int cd), (2, .int q)]) hx hb dX12_readAt_408 hl (by decide) rfl (fun ls hl => ?_)
                              refine lv_iload hx hb dX12_readAt_410 (lv_at hl 0 rfl) ?_
                              refine lv_if_eq (tgt := 424) hx hb dX12_readAt_412 (by decide) (fun c_30 => absurd c_30 (by decide)) (fun c_30 => ?_)
                              refine lv_iload hx hb dX12_readAt_415 (lv_at hl 2 rfl) ?_
                              refine lv_iload_n hx hb dX12_readAt_417 rfl (lv_at hl 6 rfl) ?_
                              refine lv_isub hx hb dX12_readAt_418 ?_
                              refine lv_topi (fun x_31 ex_31 => ?_)
                              have tx_31 : x_31.toInt = qq.toInt - q.toInt := v_subR ex_31 g_qq g_q (by decide) (by decide)
                              refine lv_iconst (v := 1) hx hb dX12_readAt_419 (by decide) ?_
                              refine lv_iadd hx hb dX12_readAt_420 ?_
                              refine lv_topi (fun x_32 ex_32 => ?_)
                              have tx_32 : x_32.toInt = x_31.toInt + 1 := v_addR (l2 := 1) (h2 := 1) ex_32 (v_difR (l := (-2597)) (h := 2608) tx_31 g_qq g_q (by decide) (by decide)) (by decide) (by decide) (by decide)
                              refine lv_goto (tgt := 425) hx hb dX12_readAt_421 (by decide) ?_
                              exact kl_i (v := x_32) hQQ hx hb hr hlocks hS dX12_readAt_425 (fun PZ9 kZ9 => kZ9 x (kPD_sub hP hD [1, 2, 0] (by decide +kernel) rfl) (by omega) (by show x_32.toInt = 0 ∨ (0 ≤ x.toInt ∧ x.toInt ≤ 65535); omega) (Or.inl ⟨(qq.toInt - q.toInt - 2).toNat + 3, by omega, by omega, Or.inr (Or.inr ⟨by omega, NJ_of (B := bo eY zn.toInt q.toNatClampNeg) hnj (by rw [← hb18]; omega) (by show bt eY zn.toInt q.toNatClampNeg = 38; omega) (by show bt eY zn.toInt (q.toNatClampNeg + 1) = 35; omega) (by omega) (by omega) (by omega) (by omega)⟩)⟩))
                  · have tc_14 : 48 ≤ r_13.toInt := v_nlt c_14
                    refine lv_aload_n hx hb dX12_readAt_297 rfl (lv_at hl 3 rfl) ?_
                    refine lv_iload hx hb dX12_readAt_298 (lv_at hl 1 rfl) ?_
                    refine kV_i (rest := []) (q0 := 0) (ci := 12) hcf (f_X12_byteAt l dC dI cI cS H.size oM mT mS mX mL mB mD m1 m2 mR x1 x2 x3 mH mY mE mW mO y1 y2 y3 y4 mZ zt zp zf zh zr zc zy za zb zs zq zw ze zn zm zl zk x_1 eY qq (g_zt) (g_zp) (g_zf) (g_zh) (g_zr) (g_zc) (g_zy) (g_za) (g_zb) (g_zs) (g_zq) (g_zn) (g_zm) (g_zk) (g_eY) (v_rr g_qq (by decide) (by decide))) kc_X12_byteAt gX12_readAt_X12_byteAt rfl rfl rfl ⟨Nat.le_of_ble_eq_true rfl, Nat.le_of_ble_eq_true rfl⟩ kX_t hK hP hD hS hA [1, 2] [0] rfl (by decide +kernel) rfl rfl rfl hl rfl (Nat.le_of_ble_eq_true rfl) dX12_readAt_300 ⟨Nat.le_of_ble_eq_true rfl, Nat.le_of_ble_eq_true rfl⟩ (fun r_33 H locs hB hJ hSn => ?_)
                    refine hB _ (fun hPD9 hf33_0 hf33_1 hf33_2 => ?_)
                    clear hB
                    obtain ⟨hPn, hDn⟩ := hJ _ hPD9.1 hPD9.2 [(mL, .inl (cI, 512, .inl eL)), (oM, .inr (12, [.ref mT, .int zt, .ref mS, .ref mX, .int zp, .int zf, .ref mL, .ref mB, .ref mD, .ref m1, .ref m2, .int zh, .ref mR, .int zr, .ref x1, .ref x2, .ref x3, .int zc, .ref mH, .int zy, .int za, .int zb, .int zs, .int zq, .int zw, .int ze, .ref mY, .int zn, .ref mE, .int zm, .int zl, .ref mW, .int zk, .ref mO, .int x_1, .ref y1, .ref y2, .ref y3, .ref y4, .ref mZ])), (mY, .inl (cI, 2600, .inl eY))] rfl
                    clear hP hD hS hJ hPD9
                    have hP := hPn
                    have hD := hDn
                    have hS := hSn
                    clear hPn hDn hSn
                    have hb33 : r_33.toInt = bo eY zn.toInt q.toNatClampNeg (2 + (qq.toInt - q.toInt - 2).toNat) := bt_ix (k := q.toNatClampNeg + (2 + (qq.toInt - q.toInt - 2).toNat)) hf33_2 (by omega)
                    refine lv_bipush (v := 57) hx hb dX12_readAt_303 (by decide) ?_
                    refine lv_icmp_gt (tgt := 356) hx hb dX12_readAt_305 (by decide) (fun c_34 => ?_) (fun c_34 => ?_)
                    · have tc_34 : 57 < r_33.toInt := v_lt c_34
                      have hnr9 := NJ_r hnj
                      refine lv_aload_n hx hb dX12_readAt_356 rfl (lv_at hl 3 rfl) ?_
                      refine lv_iload hx hb dX12_readAt_357 (lv_at hl 0 rfl) ?_
                      refine va_put (D := (dC, dI)) (ci := 12) (v := .int x) (ty := .int) (C := RX12) (T := TX12) (N := 40) hx hb hts in_X12 tyX12 tyX12_ok nmX12 hown hK hP hD hS 1 rfl rfl 34 (Nat.le_of_ble_eq_true rfl) (hts (.fieldLink RX12 105 "TextMenderModel" "readLetter" "I") (List.mem_of_getElem? (i := 2) rfl)) (fun _ h9 => h9) rfl (tyX12_ok 34 (Nat.le_of_ble_eq_true rfl)) rfl rfl (Nat.le_of_ble_eq_true rfl) dX12_readAt_359 (kW (wn := [(mL, .inl (cI, 512, .inl eL)), (oM, .inr (12, [.ref mT, .int zt, .ref mS, .ref mX, .int zp, .int zf, .ref mL, .ref mB, .ref mD, .ref m1, .ref m2, .int zh, .ref mR, .int zr, .ref x1, .ref x2, .ref x3, .int zc, .ref mH, .int zy, .int za, .int zb, .int zs, .int zq, .int zw, .int ze, .ref mY, .int zn, .ref mE, .int zm, .int zl, .ref mW, .int zk, .ref mO, .int x, .ref y1, .ref y2, .ref y3, .ref y4, .ref mZ])), (mY, .inl (cI, 2600, .inl eY))]) rfl (fun H locs hPn hDn hSn => ?_))
                      clear hP hD hS
                      have hP := hPn
                      have hD := hDn
                      have hS := hSn
                      clear hPn hDn hSn
                      refine lv_iload hx hb dX12_readAt_362 (lv_at hl 1 rfl) ?_
                      refine lv_iload_n hx hb dX12_readAt_364 rfl (lv_at hl 5 rfl) ?_
                      refine lv_iconst (v := 2) hx hb dX12_readAt_365 (by decide) ?_
                      refine lv_iadd hx hb dX12_readAt_366 ?_
                      refine lv_topi (fun x_35 ex_35 => ?_)
                      have tx_35 : x_35.toInt = q.toInt + 2 := v_addR (l2 := 2) (h2 := 2) ex_35 g_q (by decide) (by decide) (by decide)
                      refine lv_icmp_le (tgt := 407) hx hb dX12_readAt_367 (by decide) (fun c_36 => ?_) (fun c_36 => ?_)
                      · have tc_36 : qq.toInt ≤ x_35.toInt := v_le c_36
                        refine lv_iconst (v := 0) hx hb dX12_readAt_407 (by decide) ?_
                        refine lv_istore (lv' := [(6, .int 0), (5, .int x), (4, .int qq), (3, .int x_1), (0, .ref oM), (1, .int cd), (2, .int q)]) hx hb dX12_readAt_408 hl (by decide) rfl (fun ls hl => ?_)
                        refine lv_iload hx hb dX12_readAt_410 (lv_at hl 0 rfl) ?_
                        refine lv_if_eq (tgt := 424) hx hb dX12_readAt_412 (by decide) (fun c_37 => ?_) (fun c_37 => absurd c_37 (by decide))
                        refine lv_iconst (v := 0) hx hb dX12_readAt_424 (by decide) ?_
                        exact kl_i (v := 0) hQQ hx hb hr hlocks hS dX12_readAt_425 (fun PZ9 kZ9 => kZ9 x (kPD_sub hP hD [1, 2, 0] (by decide +kernel) rfl) (by decide) (by show 0 = 0 ∨ (0 ≤ x.toInt ∧ x.toInt ≤ 65535); omega) (Or.inr ⟨rfl, Dec_no (by rw [← ex_1]; exact al3 (by omega) (by omega)) (fun e9 _ _ _ => by omega) (fun _ => by first | exact NJ_no (B := bo eY zn.toInt q.toNatClampNeg) hnj hb33 (by omega) | exact NJ_no0 (B := bo eY zn.toInt q.toNatClampNeg) hnj (by omega) (by omega))⟩))
                      · have tc_36 : x_35.toInt < qq.toInt := v_nle c_36
                        refine lv_aload_n hx hb dX12_readAt_370 rfl (lv_at hl 3 rfl) ?_
                        refine lv_iload hx hb dX12_readAt_371 (lv_at hl 1 rfl) ?_
                        refine kV_i (rest := []) (q0 := 0) (ci := 12) hcf (f_X12_byteAt l dC dI cI cS H.size oM mT mS mX mL mB mD m1 m2 mR x1 x2 x3 mH mY mE mW mO y1 y2 y3 y4 mZ zt zp zf zh zr zc zy za zb zs zq zw ze zn zm zl zk x eY qq (g_zt) (g_zp) (g_zf) (g_zh) (g_zr) (g_zc) (g_zy) (g_za) (g_zb) (g_zs) (g_zq) (g_zn) (g_zm) (g_zk) (g_eY) (v_rr g_qq (by decide) (by decide))) kc_X12_byteAt gX12_readAt_X12_byteAt rfl rfl rfl ⟨Nat.le_of_ble_eq_true rfl, Nat.le_of_ble_eq_true rfl⟩ kX_t hK hP hD hS hA [1, 2] [0] rfl (by decide +kernel) rfl rfl rfl hl rfl (Nat.le_of_ble_eq_true rfl) dX12_readAt_373 ⟨Nat.le_of_ble_eq_true rfl, Nat.le_of_ble_eq_true rfl⟩ (fun r_38 H locs hB hJ hSn => ?_)
                        refine hB _ (fun hPD9 hf38_0 hf38_1 hf38_2 => ?_)
                        clear hB
                        obtain ⟨hPn, hDn⟩ := hJ _ hPD9.1 hPD9.2 [(mL, .inl (cI, 512, .inl eL)), (oM, .inr (12, [.ref mT, .int zt, .ref mS, .ref mX, .int zp, .int zf, .ref mL, .ref mB, .ref mD, .ref m1, .ref m2, .int zh, .ref mR, .int zr, .ref x1, .ref x2, .ref x3, .int zc, .ref mH, .int zy, .int za, .int zb, .int zs, .int zq, .int zw, .int ze, .ref mY, .int zn, .ref mE, .int zm, .int zl, .ref mW, .int zk, .ref mO, .int x, .ref y1, .ref y2, .ref y3, .ref y4, .ref mZ])), (mY, .inl (cI, 2600, .inl eY))] rfl
                        clear hP hD hS hJ hPD9
                        have hP := hPn
                        have hD := hDn
                        have hS := hSn
                        clear hPn hDn hSn
                        have hb38 : r_38.toInt = bo eY zn.toInt q.toNatClampNeg (2 + (qq.toInt - q.toInt - 2).toNat) := bt_ix (k := q.toNatClampNeg + (2 + (qq.toInt - q.toInt - 2).toNat)) hf38_2 (by omega)
                        refine lv_bipush (v := 59) hx hb dX12_readAt_376 (by decide) ?_
                        refine lv_icmp_ne (tgt := 407) hx hb dX12_readAt_378 (by decide) (fun c_39 => ?_) (fun c_39 => ?_)
                        · have tc_39 : ¬ r_38.toInt = 59 := v_ne c_39
                          refine lv_iconst (v := 0) hx hb dX12_readAt_407 (by decide) ?_
                          refine lv_istore (lv' := [(6, .int 0), (5, .int x), (4, .int qq), (3, .int x_1), (0, .ref oM), (1, .int cd), (2, .int q)]) hx hb dX12_readAt_408 hl (by decide) rfl (fun ls hl => ?_)
                          refine lv_iload hx hb dX12_readAt_410 (lv_at hl 0 rfl) ?_
                          refine lv_if_eq (tgt := 424) hx hb dX12_readAt_412 (by decide) (fun c_40 => ?_) (fun c_40 => absurd c_40 (by decide))
                          refine lv_iconst (v := 0) hx hb dX12_readAt_424 (by decide) ?_
                          exact kl_i (v := 0) hQQ hx hb hr hlocks hS dX12_readAt_425 (fun PZ9 kZ9 => kZ9 x (kPD_sub hP hD [1, 2, 0] (by decide +kernel) rfl) (by decide) (by show 0 = 0 ∨ (0 ≤ x.toInt ∧ x.toInt ≤ 65535); omega) (Or.inr ⟨rfl, Dec_no (by rw [← ex_1]; exact al3 (by omega) (by omega)) (fun e9 _ _ _ => by omega) (fun _ => by first | exact NJ_no (B := bo eY zn.toInt q.toNatClampNeg) hnj hb38 (by omega) | exact NJ_no0 (B := bo eY zn.toInt q.toNatClampNeg) hnj (by omega) (by omega))⟩))
                        · have tc_39 : r_38.toInt = 59 := v_eq c_39
                          refine lv_iload hx hb dX12_readAt_381 (lv_at hl 0 rfl) ?_
                          refine kS_i (rest := []) hcf (m_X12_isLetter l dC dI cI cS H.size x ) kc_X12_isLetter gX12_readAt_X12_isLetter rfl rfl ⟨Nat.le_of_ble_eq_true rfl, Nat.le_of_ble_eq_true rfl⟩ kX_t hK hP hD hS hA [] [0, 1, 2] rfl (by decide +kernel) rfl hl rfl (Nat.le_of_ble_eq_true rfl) dX12_readAt_383 ⟨Nat.le_of_ble_eq_true rfl, Nat.le_of_ble_eq_true rfl⟩ (fun r_41 H locs hB hJ hSn => ?_)
                          refine hB _ (fun hPD9 hf41_0 hf41_1 => ?_)
                          clear hB
                          obtain ⟨hPn, hDn⟩ := hJ _ hPD9.1 hPD9.2 [(mL, .inl (cI, 512, .inl eL)), (oM, .inr (12, [.ref mT, .int zt, .ref mS, .ref mX, .int zp, .int zf, .ref mL, .ref mB, .ref mD, .ref m1, .ref m2, .int zh, .ref mR, .int zr, .ref x1, .ref x2, .ref x3, .int zc, .ref mH, .int zy, .int za, .int zb, .int zs, .int zq, .int zw, .int ze, .ref mY, .int zn, .ref mE, .int zm, .int zl, .ref mW, .int zk, .ref mO, .int x, .ref y1, .ref y2, .ref y3, .ref y4, .ref mZ])), (mY, .inl (cI, 2600, .inl eY))] rfl
                          clear hP hD hS hJ hPD9
                          have hP := hPn
                          have hD := hDn
                          have hS := hSn
                          clear hPn hDn hSn
                          refine lv_if_eq (tgt := 407) hx hb dX12_readAt_386 (by decide) (fun c_42 => ?_) (fun c_42 => ?_)
                          · have tc_42 : r_41.toInt = 0 := v_eq c_42
                            refine lv_iconst (v := 0) hx hb dX12_readAt_407 (by decide) ?_
                            refine lv_istore (lv' := [(6, .int 0), (5, .int x), (4, .int qq), (3, .int x_1), (0, .ref oM), (1, .int cd), (2, .int q)]) hx hb dX12_readAt_408 hl (by decide) rfl (fun ls hl => ?_)
                            refine lv_iload hx hb dX12_readAt_410 (lv_at hl 0 rfl) ?_
                            refine lv_if_eq (tgt := 424) hx hb dX12_readAt_412 (by decide) (fun c_43 => ?_) (fun c_43 => absurd c_43 (by decide))
                            refine lv_iconst (v := 0) hx hb dX12_readAt_424 (by decide) ?_
                            exact kl_i (v := 0) hQQ hx hb hr hlocks hS dX12_readAt_425 (fun PZ9 kZ9 => kZ9 x (kPD_sub hP hD [1, 2, 0] (by decide +kernel) rfl) (by decide) (by show 0 = 0 ∨ (0 ≤ x.toInt ∧ x.toInt ≤ 65535); omega) (Or.inr ⟨rfl, Dec_no (by rw [← ex_1]; exact al3 (by omega) (by omega)) (fun e9 _ _ _ => by omega) (fun _ => by first | exact NJ_no (B := bo eY zn.toInt q.toNatClampNeg) hnj hb38 (by omega) | exact NJ_no0 (B := bo eY zn.toInt q.toNatClampNeg) hnj (by omega) (by omega))⟩))
                          · have tc_42 : ¬ r_41.toInt = 0 := v_ne c_42
                            refine lv_iload hx hb dX12_readAt_389 (lv_at hl 0 rfl) ?_
                            refine lv_bipush (v := 38) hx hb dX12_readAt_391 (by decide) ?_
                            refine lv_icmp_eq (tgt := 403) hx hb dX12_readAt_393 (by decide) (fun c_44 => ?_) (fun c_44 => ?_)
                            · have tc_44 : x.toInt = 38 := v_eq c_44
                              refine lv_iconst (v := 1) hx hb dX12_readAt_403 (by decide) ?_
                              refine lv_goto (tgt := 408) hx hb dX12_readAt_404 (by decide) ?_
                              refine lv_istore (lv' := [(6, .int 1), (5, .int x), (4, .int qq), (3, .int x_1), (0, .ref oM), (1, .int cd), (2, .int q)]) hx hb dX12_readAt_408 hl (by decide) rfl (fun ls hl => ?_)
                              refine lv_iload hx hb dX12_readAt_410 (lv_at hl 0 rfl) ?_
                              refine lv_if_eq (tgt := 424) hx hb dX12_readAt_412 (by decide) (fun c_45 => absurd c_45 (by decide)) (fun c_45 => ?_)
                              refine lv_iload hx hb dX12_readAt_415 (lv_at hl 2 rfl) ?_
                              refine lv_iload_n hx hb dX12_readAt_417 rfl (lv_at hl 6 rfl) ?_
                              refine lv_isub hx hb dX12_readAt_418 ?_
                              refine lv_topi (fun x_46 ex_46 => ?_)
                              have tx_46 : x_46.toInt = qq.toInt - q.toInt := v_subR ex_46 g_qq g_q (by decide) (by decide)
                              refine lv_iconst (v := 1) hx hb dX12_readAt_419 (by decide) ?_
                              refine lv_iadd hx hb dX12_readAt_420 ?_
                              refine lv_topi (fun x_47 ex_47 => ?_)
                              have tx_47 : x_47.toInt = x_46.toInt + 1 := v_addR (l2 := 1) (h2 := 1) ex_47 (v_difR (l := (-2597)) (h := 2608) tx_46 g_qq g_q (by decide) (by decide)) (by decide) (by decide) (by decide)
                              refine lv_goto (tgt := 425) hx hb dX12_readAt_421 (by decide) ?_
                              exact kl_i (v := x_47) hQQ hx hb hr hlocks hS dX12_readAt_425 (fun PZ9 kZ9 => kZ9 x (kPD_sub hP hD [1, 2, 0] (by decide +kernel) rfl) (by omega) (by show x_47.toInt = 0 ∨ (0 ≤ x.toInt ∧ x.toInt ≤ 65535); omega) (Or.inl ⟨(qq.toInt - q.toInt - 2).toNat + 3, by omega, by omega, Or.inr (Or.inr ⟨by omega, NJ_of (B := bo eY zn.toInt q.toNatClampNeg) hnj (by rw [← hb38]; omega) (by show bt eY zn.toInt q.toNatClampNeg = 38; omega) (by show bt eY zn.toInt (q.toNatClampNeg + 1) = 35; omega) (by omega) (by omega) (by omega) (by omega)⟩)⟩))
                            · have tc_44 : ¬ x.toInt = 38 := v_ne c_44
                              refine lv_iload hx hb dX12_readAt_396 (lv_at hl 0 rfl) ?_
                              refine lv_bipush (v := 127) hx hb dX12_readAt_398 (by decide) ?_
                              refine lv_icmp_le (tgt := 407) hx hb dX12_readAt_400 (by decide) (fun c_48 => ?_) (fun c_48 => ?_)
                              · have tc_48 : x.toInt ≤ 127 := v_le c_48
                                refine lv_iconst (v := 0) hx hb dX12_readAt_407 (by decide) ?_
                                refine lv_istore (lv' := [(6, .int 0), (5, .int x), (4, .int qq), (3, .int x_1), (0, .ref oM), (1, .int cd), (2, .int q)]) hx hb dX12_readAt_408 hl (by decide) rfl (fun ls hl => ?_)
                                refine lv_iload hx hb dX12_readAt_410 (lv_at hl 0 rfl) ?_
                                refine lv_if_eq (tgt := 424) hx hb dX12_readAt_412 (by decide) (fun c_49 => ?_) (fun c_49 => absurd c_49 (by decide))
                                refine lv_iconst (v := 0) hx hb dX12_readAt_424 (by decide) ?_
                                exact kl_i (v := 0) hQQ hx hb hr hlocks hS dX12_readAt_425 (fun PZ9 kZ9 => kZ9 x (kPD_sub hP hD [1, 2, 0] (by decide +kernel) rfl) (by decide) (by show 0 = 0 ∨ (0 ≤ x.toInt ∧ x.toInt ≤ 65535); omega) (Or.inr ⟨rfl, Dec_no (by rw [← ex_1]; exact al3 (by omega) (by omega)) (fun e9 _ _ _ => by omega) (fun _ => by first | exact NJ_no (B := bo eY zn.toInt q.toNatClampNeg) hnj hb38 (by omega) | exact NJ_no0 (B := bo eY zn.toInt q.toNatClampNeg) hnj (by omega) (by omega))⟩))
                              · have tc_48 : 127 < x.toInt := v_nle c_48
                                refine lv_iconst (v := 1) hx hb dX12_readAt_403 (by decide) ?_
                                refine lv_goto (tgt := 408) hx hb dX12_readAt_404 (by decide) ?_
                                refine lv_istore (lv' := [(6, .int 1), (5, .int x), (4, .int qq), (3, .int x_1), (0, .ref oM), (1, .int cd), (2, .int q)]) hx hb dX12_readAt_408 hl (by decide) rfl (fun ls hl => ?_)
                                refine lv_iload hx hb dX12_readAt_410 (lv_at hl 0 rfl) ?_
                                refine lv_if_eq (tgt := 424) hx hb dX12_readAt_412 (by decide) (fun c_50 => absurd c_50 (by decide)) (fun c_50 => ?_)
                                refine lv_iload hx hb dX12_readAt_415 (lv_at hl 2 rfl) ?_
                                refine lv_iload_n hx hb dX12_readAt_417 rfl (lv_at hl 6 rfl) ?_
                                refine lv_isub hx hb dX12_readAt_418 ?_
                                refine lv_topi (fun x_51 ex_51 => ?_)
                                have tx_51 : x_51.toInt = qq.toInt - q.toInt := v_subR ex_51 g_qq g_q (by decide) (by decide)
                                refine lv_iconst (v := 1) hx hb dX12_readAt_419 (by decide) ?_
                                refine lv_iadd hx hb dX12_readAt_420 ?_
                                refine lv_topi (fun x_52 ex_52 => ?_)
                                have tx_52 : x_52.toInt = x_51.toInt + 1 := v_addR (l2 := 1) (h2 := 1) ex_52 (v_difR (l := (-2597)) (h := 2608) tx_51 g_qq g_q (by decide) (by decide)) (by decide) (by decide) (by decide)
                                refine lv_goto (tgt := 425) hx hb dX12_readAt_421 (by decide) ?_
                                exact kl_i (v := x_52) hQQ hx hb hr hlocks hS dX12_readAt_425 (fun PZ9 kZ9 => kZ9 x (kPD_sub hP hD [1, 2, 0] (by decide +kernel) rfl) (by omega) (by show x_52.toInt = 0 ∨ (0 ≤ x.toInt ∧ x.toInt ≤ 65535); omega) (Or.inl ⟨(qq.toInt - q.toInt - 2).toNat + 3, by omega, by omega, Or.inr (Or.inr ⟨by omega, NJ_of (B := bo eY zn.toInt q.toNatClampNeg) hnj (by rw [← hb38]; omega) (by show bt eY zn.toInt q.toNatClampNeg = 38; omega) (by show bt eY zn.toInt (q.toNatClampNeg + 1) = 35; omega) (by omega) (by omega) (by omega) (by omega)⟩)⟩))
                    · have tc_34 : r_33.toInt ≤ 57 := v_nlt c_34
                      have hnr := NJ_r hnj
                      refine lv_iload hx hb dX12_readAt_308 (lv_at hl 1 rfl) ?_
                      refine lv_iload_n hx hb dX12_readAt_310 rfl (lv_at hl 5 rfl) ?_
                      refine lv_isub hx hb dX12_readAt_311 ?_
                      refine lv_topi (fun x_53 ex_53 => ?_)
                      have tx_53 : x_53.toInt = qq.toInt - q.toInt := v_subR ex_53 g_qq g_q (by decide) (by decide)
                      refine lv_bipush (v := 8) hx hb dX12_readAt_312 (by decide) ?_
                      refine lv_icmp_ge (tgt := 356) hx hb dX12_readAt_314 (by decide) (fun c_54 => ?_) (fun c_54 => ?_)
                      · have tc_54 : 8 ≤ x_53.toInt := v_le c_54
                        have hnr9 := NJ_r hnj
                        refine lv_aload_n hx hb dX12_readAt_356 rfl (lv_at hl 3 rfl) ?_
                        refine lv_iload hx hb dX12_readAt_357 (lv_at hl 0 rfl) ?_
                        refine va_put (D := (dC, dI)) (ci := 12) (v := .int x) (ty := .int) (C := RX12) (T := TX12) (N := 40) hx hb hts in_X12 tyX12 tyX12_ok nmX12 hown hK hP hD hS 1 rfl rfl 34 (Nat.le_of_ble_eq_true rfl) (hts (.fieldLink RX12 105 "TextMenderModel" "readLetter" "I") (List.mem_of_getElem? (i := 2) rfl)) (fun _ h9 => h9) rfl (tyX12_ok 34 (Nat.le_of_ble_eq_true rfl)) rfl rfl (Nat.le_of_ble_eq_true rfl) dX12_readAt_359 (kW (wn := [(mL, .inl (cI, 512, .inl eL)), (oM, .inr (12, [.ref mT, .int zt, .ref mS, .ref mX, .int zp, .int zf, .ref mL, .ref mB, .ref mD, .ref m1, .ref m2, .int zh, .ref mR, .int zr, .ref x1, .ref x2, .ref x3, .int zc, .ref mH, .int zy, .int za, .int zb, .int zs, .int zq, .int zw, .int ze, .ref mY, .int zn, .ref mE, .int zm, .int zl, .ref mW, .int zk, .ref mO, .int x, .ref y1, .ref y2, .ref y3, .ref y4, .ref mZ])), (mY, .inl (cI, 2600, .inl eY))]) rfl (fun H locs hPn hDn hSn => ?_))
                        clear hP hD hS
                        have hP := hPn
                        have hD := hDn
                        have hS := hSn
                        clear hPn hDn hSn
                        refine lv_iload hx hb dX12_readAt_362 (lv_at hl 1 rfl) ?_
                        refine lv_iload_n hx hb dX12_readAt_364 rfl (lv_at hl 5 rfl) ?_
                        refine lv_iconst (v := 2) hx hb dX12_readAt_365 (by decide) ?_
                        refine lv_iadd hx hb dX12_readAt_366 ?_
                        refine lv_topi (fun x_55 ex_55 => ?_)
                        have tx_55 : x_55.toInt = q.toInt + 2 := v_addR (l2 := 2) (h2 := 2) ex_55 g_q (by decide) (by decide) (by decide)
                        refine lv_icmp_le (tgt := 407) hx hb dX12_readAt_367 (by decide) (fun c_56 => ?_) (fun c_56 => ?_)
                        · have tc_56 : qq.toInt ≤ x_55.toInt := v_le c_56
                          refine lv_iconst (v := 0) hx hb dX12_readAt_407 (by decide) ?_
                          refine lv_istore (lv' := [(6, .int 0), (5, .int x), (4, .int qq), (3, .int x_1), (0, .ref oM), (1, .int cd), (2, .int q)]) hx hb dX12_readAt_408 hl (by decide) rfl (fun ls hl => ?_)
                          refine lv_iload hx hb dX12_readAt_410 (lv_at hl 0 rfl) ?_
                          refine lv_if_eq (tgt := 424) hx hb dX12_readAt_412 (by decide) (fun c_57 => ?_) (fun c_57 => absurd c_57 (by decide))
                          refine lv_iconst (v := 0) hx hb dX12_readAt_424 (by decide) ?_
                          exact kl_i (v := 0) hQQ hx hb hr hlocks hS dX12_readAt_425 (fun PZ9 kZ9 => kZ9 x (kPD_sub hP hD [1, 2, 0] (by decide +kernel) rfl) (by decide) (by show 0 = 0 ∨ (0 ≤ x.toInt ∧ x.toInt ≤ 65535); omega) (Or.inr ⟨rfl, Dec_no (by rw [← ex_1]; exact al3 (by omega) (by omega)) (fun e9 _ _ _ => by omega) (fun _ => by first | exact NJ_no (B := bo eY zn.toInt q.toNatClampNeg) hnj hb33 (by omega) | exact NJ_no0 (B := bo eY zn.toInt q.toNatClampNeg) hnj (by omega) (by omega))⟩))
                        · have tc_56 : x_55.toInt < qq.toInt := v_nle c_56
                          refine lv_aload_n hx hb dX12_readAt_370 rfl (lv_at hl 3 rfl) ?_
                          refine lv_iload hx hb dX12_readAt_371 (lv_at hl 1 rfl) ?_
                          refine kV_i (rest := []) (q0 := 0) (ci := 12) hcf (f_X12_byteAt l dC dI cI cS H.size oM mT mS mX mL mB mD m1 m2 mR x1 x2 x3 mH mY mE mW mO y1 y2 y3 y4 mZ zt zp zf zh zr zc zy za zb zs zq zw ze zn zm zl zk x eY qq (g_zt) (g_zp) (g_zf) (g_zh) (g_zr) (g_zc) (g_zy) (g_za) (g_zb) (g_zs) (g_zq) (g_zn) (g_zm) (g_zk) (g_eY) (v_rr g_qq (by decide) (by decide))) kc_X12_byteAt gX12_readAt_X12_byteAt rfl rfl rfl ⟨Nat.le_of_ble_eq_true rfl, Nat.le_of_ble_eq_true rfl⟩ kX_t hK hP hD hS hA [1, 2] [0] rfl (by decide +kernel) rfl rfl rfl hl rfl (Nat.le_of_ble_eq_true rfl) dX12_readAt_373 ⟨Nat.le_of_ble_eq_true rfl, Nat.le_of_ble_eq_true rfl⟩ (fun r_58 H locs hB hJ hSn => ?_)
                          refine hB _ (fun hPD9 hf58_0 hf58_1 hf58_2 => ?_)
                          clear hB
                          obtain ⟨hPn, hDn⟩ := hJ _ hPD9.1 hPD9.2 [(mL, .inl (cI, 512, .inl eL)), (oM, .inr (12, [.ref mT, .int zt, .ref mS, .ref mX, .int zp, .int zf, .ref mL, .ref mB, .ref mD, .ref m1, .ref m2, .int zh, .ref mR, .int zr, .ref x1, .ref x2, .ref x3, .int zc, .ref mH, .int zy, .int za, .int zb, .int zs, .int zq, .int zw, .int ze, .ref mY, .int zn, .ref mE, .int zm, .int zl, .ref mW, .int zk, .ref mO, .int x, .ref y1, .ref y2, .ref y3, .ref y4, .ref mZ])), (mY, .inl (cI, 2600, .inl eY))] rfl
                          clear hP hD hS hJ hPD9
                          have hP := hPn
                          have hD := hDn
                          have hS := hSn
                          clear hPn hDn hSn
                          have hb58 : r_58.toInt = bo eY zn.toInt q.toNatClampNeg (2 + (qq.toInt - q.toInt - 2).toNat) := bt_ix (k := q.toNatClampNeg + (2 + (qq.toInt - q.toInt - 2).toNat)) hf58_2 (by omega)
                          refine lv_bipush (v := 59) hx hb dX12_readAt_376 (by decide) ?_
                          refine lv_icmp_ne (tgt := 407) hx hb dX12_readAt_378 (by decide) (fun c_59 => ?_) (fun c_59 => ?_)
                          · have tc_59 : ¬ r_58.toInt = 59 := v_ne c_59
                            refine lv_iconst (v := 0) hx hb dX12_readAt_407 (by decide) ?_
                            refine lv_istore (lv' := [(6, .int 0), (5, .int x), (4, .int qq), (3, .int x_1), (0, .ref oM), (1, .int cd), (2, .int q)]) hx hb dX12_readAt_408 hl (by decide) rfl (fun ls hl => ?_)
                            refine lv_iload hx hb dX12_readAt_410 (lv_at hl 0 rfl) ?_
                            refine lv_if_eq (tgt := 424) hx hb dX12_readAt_412 (by decide) (fun c_60 => ?_) (fun c_60 => absurd c_60 (by decide))
                            refine lv_iconst (v := 0) hx hb dX12_readAt_424 (by decide) ?_
                            exact kl_i (v := 0) hQQ hx hb hr hlocks hS dX12_readAt_425 (fun PZ9 kZ9 => kZ9 x (kPD_sub hP hD [1, 2, 0] (by decide +kernel) rfl) (by decide) (by show 0 = 0 ∨ (0 ≤ x.toInt ∧ x.toInt ≤ 65535); omega) (Or.inr ⟨rfl, Dec_no (by rw [← ex_1]; exact al3 (by omega) (by omega)) (fun e9 _ _ _ => by omega) (fun _ => by first | exact NJ_no (B := bo eY zn.toInt q.toNatClampNeg) hnj hb58 (by omega) | exact NJ_no0 (B := bo eY zn.toInt q.toNatClampNeg) hnj (by omega) (by omega))⟩))
                          · have tc_59 : r_58.toInt = 59 := v_eq c_59
                            refine lv_iload hx hb dX12_readAt_381 (lv_at hl 0 rfl) ?_
                            refine kS_i (rest := []) hcf (m_X12_isLetter l dC dI cI cS H.size x ) kc_X12_isLetter gX12_readAt_X12_isLetter rfl rfl ⟨Nat.le_of_ble_eq_true rfl, Nat.le_of_ble_eq_true rfl⟩ kX_t hK hP hD hS hA [] [0, 1, 2] rfl (by decide +kernel) rfl hl rfl (Nat.le_of_ble_eq_true rfl) dX12_readAt_383 ⟨Nat.le_of_ble_eq_true rfl, Nat.le_of_ble_eq_true rfl⟩ (fun r_61 H locs hB hJ hSn => ?_)
                            refine hB _ (fun hPD9 hf61_0 hf61_1 => ?_)
                            clear hB
                            obtain ⟨hPn, hDn⟩ := hJ _ hPD9.1 hPD9.2 [(mL, .inl (cI, 512, .inl eL)), (oM, .inr (12, [.ref mT, .int zt, .ref mS, .ref mX, .int zp, .int zf, .ref mL, .ref mB, .ref mD, .ref m1, .ref m2, .int zh, .ref mR, .int zr, .ref x1, .ref x2, .ref x3, .int zc, .ref mH, .int zy, .int za, .int zb, .int zs, .int zq, .int zw, .int ze, .ref mY, .int zn, .ref mE, .int zm, .int zl, .ref mW, .int zk, .ref mO, .int x, .ref y1, .ref y2, .ref y3, .ref y4, .ref mZ])), (mY, .inl (cI, 2600, .inl eY))] rfl
                            clear hP hD hS hJ hPD9
                            have hP := hPn
                            have hD := hDn
                            have hS := hSn
                            clear hPn hDn hSn
                            refine lv_if_eq (tgt := 407) hx hb dX12_readAt_386 (by decide) (fun c_62 => ?_) (fun c_62 => ?_)
                            · have tc_62 : r_61.toInt = 0 := v_eq c_62
                              refine lv_iconst (v := 0) hx hb dX12_readAt_407 (by decide) ?_
                              refine lv_istore (lv' := [(6, .int 0), (5, .int x), (4, .int qq), (3, .int x_1), (0, .ref oM), (1, .int cd), (2, .int q)]) hx hb dX12_readAt_408 hl (by decide) rfl (fun ls hl => ?_)
                              refine lv_iload hx hb dX12_readAt_410 (lv_at hl 0 rfl) ?_
                              refine lv_if_eq (tgt := 424) hx hb dX12_readAt_412 (by decide) (fun c_63 => ?_) (fun c_63 => absurd c_63 (by decide))
                              refine lv_iconst (v := 0) hx hb dX12_readAt_424 (by decide) ?_
                              exact kl_i (v := 0) hQQ hx hb hr hlocks hS dX12_readAt_425 (fun PZ9 kZ9 => kZ9 x (kPD_sub hP hD [1, 2, 0] (by decide +kernel) rfl) (by decide) (by show 0 = 0 ∨ (0 ≤ x.toInt ∧ x.toInt ≤ 65535); omega) (Or.inr ⟨rfl, Dec_no (by rw [← ex_1]; exact al3 (by omega) (by omega)) (fun e9 _ _ _ => by omega) (fun _ => by first | exact NJ_no (B := bo eY zn.toInt q.toNatClampNeg) hnj hb58 (by omega) | exact NJ_no0 (B := bo eY zn.toInt q.toNatClampNeg) hnj (by omega) (by omega))⟩))
                            · have tc_62 : ¬ r_61.toInt = 0 := v_ne c_62
                              refine lv_iload hx hb dX12_readAt_389 (lv_at hl 0 rfl) ?_
                              refine lv_bipush (v := 38) hx hb dX12_readAt_391 (by decide) ?_
                              refine lv_icmp_eq (tgt := 403) hx hb dX12_readAt_393 (by decide) (fun c_64 => ?_) (fun c_64 => ?_)
                              · have tc_64 : x.toInt = 38 := v_eq c_64
                                refine lv_iconst (v := 1) hx hb dX12_readAt_403 (by decide) ?_
                                refine lv_goto (tgt := 408) hx hb dX12_readAt_404 (by decide) ?_
                                refine lv_istore (lv' := [(6, .int 1), (5, .int x), (4, .int qq), (3, .int x_1), (0, .ref oM), (1, .int cd), (2, .int q)]) hx hb dX12_readAt_408 hl (by decide) rfl (fun ls hl => ?_)
                                refine lv_iload hx hb dX12_readAt_410 (lv_at hl 0 rfl) ?_
                                refine lv_if_eq (tgt := 424) hx hb dX12_readAt_412 (by decide) (fun c_65 => absurd c_65 (by decide)) (fun c_65 => ?_)
                                refine lv_iload hx hb dX12_readAt_415 (lv_at hl 2 rfl) ?_
                                refine lv_iload_n hx hb dX12_readAt_417 rfl (lv_at hl 6 rfl) ?_
                                refine lv_isub hx hb dX12_readAt_418 ?_
                                refine lv_topi (fun x_66 ex_66 => ?_)
                                have tx_66 : x_66.toInt = qq.toInt - q.toInt := v_subR ex_66 g_qq g_q (by decide) (by decide)
                                refine lv_iconst (v := 1) hx hb dX12_readAt_419 (by decide) ?_
                                refine lv_iadd hx hb dX12_readAt_420 ?_
                                refine lv_topi (fun x_67 ex_67 => ?_)
                                have tx_67 : x_67.toInt = x_66.toInt + 1 := v_addR (l2 := 1) (h2 := 1) ex_67 (v_difR (l := (-2597)) (h := 2608) tx_66 g_qq g_q (by decide) (by decide)) (by decide) (by decide) (by decide)
                                refine lv_goto (tgt := 425) hx hb dX12_readAt_421 (by decide) ?_
                                exact kl_i (v := x_67) hQQ hx hb hr hlocks hS dX12_readAt_425 (fun PZ9 kZ9 => kZ9 x (kPD_sub hP hD [1, 2, 0] (by decide +kernel) rfl) (by omega) (by show x_67.toInt = 0 ∨ (0 ≤ x.toInt ∧ x.toInt ≤ 65535); omega) (Or.inl ⟨(qq.toInt - q.toInt - 2).toNat + 3, by omega, by omega, Or.inr (Or.inr ⟨by omega, NJ_of (B := bo eY zn.toInt q.toNatClampNeg) hnj (by rw [← hb58]; omega) (by show bt eY zn.toInt q.toNatClampNeg = 38; omega) (by show bt eY zn.toInt (q.toNatClampNeg + 1) = 35; omega) (by omega) (by omega) (by omega) (by omega)⟩)⟩))
                              · have tc_64 : ¬ x.toInt = 38 := v_ne c_64
                                refine lv_iload hx hb dX12_readAt_396 (lv_at hl 0 rfl) ?_
                                refine lv_bipush (v := 127) hx hb dX12_readAt_398 (by decide) ?_
                                refine lv_icmp_le (tgt := 407) hx hb dX12_readAt_400 (by decide) (fun c_68 => ?_) (fun c_68 => ?_)
                                · have tc_68 : x.toInt ≤ 127 := v_le c_68
                                  refine lv_iconst (v := 0) hx hb dX12_readAt_407 (by decide) ?_
                                  refine lv_istore (lv' := [(6, .int 0), (5, .int x), (4, .int qq), (3, .int x_1), (0, .ref oM), (1, .int cd), (2, .int q)]) hx hb dX12_readAt_408 hl (by decide) rfl (fun ls hl => ?_)
                                  refine lv_iload hx hb dX12_readAt_410 (lv_at hl 0 rfl) ?_
                                  refine lv_if_eq (tgt := 424) hx hb dX12_readAt_412 (by decide) (fun c_69 => ?_) (fun c_69 => absurd c_69 (by decide))
                                  refine lv_iconst (v := 0) hx hb dX12_readAt_424 (by decide) ?_
                                  exact kl_i (v := 0) hQQ hx hb hr hlocks hS dX12_readAt_425 (fun PZ9 kZ9 => kZ9 x (kPD_sub hP hD [1, 2, 0] (by decide +kernel) rfl) (by decide) (by show 0 = 0 ∨ (0 ≤ x.toInt ∧ x.toInt ≤ 65535); omega) (Or.inr ⟨rfl, Dec_no (by rw [← ex_1]; exact al3 (by omega) (by omega)) (fun e9 _ _ _ => by omega) (fun _ => by first | exact NJ_no (B := bo eY zn.toInt q.toNatClampNeg) hnj hb58 (by omega) | exact NJ_no0 (B := bo eY zn.toInt q.toNatClampNeg) hnj (by omega) (by omega))⟩))
                                · have tc_68 : 127 < x.toInt := v_nle c_68
                                  refine lv_iconst (v := 1) hx hb dX12_readAt_403 (by decide) ?_
                                  refine lv_goto (tgt := 408) hx hb dX12_readAt_404 (by decide) ?_
                                  refine lv_istore (lv' := [(6, .int 1), (5, .int x), (4, .int qq), (3, .int x_1), (0, .ref oM), (1, .int cd), (2, .int q)]) hx hb dX12_readAt_408 hl (by decide) rfl (fun ls hl => ?_)
                                  refine lv_iload hx hb dX12_readAt_410 (lv_at hl 0 rfl) ?_
                                  refine lv_if_eq (tgt := 424) hx hb dX12_readAt_412 (by decide) (fun c_70 => absurd c_70 (by decide)) (fun c_70 => ?_)
                                  refine lv_iload hx hb dX12_readAt_415 (lv_at hl 2 rfl) ?_
                                  refine lv_iload_n hx hb dX12_readAt_417 rfl (lv_at hl 6 rfl) ?_
                                  refine lv_isub hx hb dX12_readAt_418 ?_
                                  refine lv_topi (fun x_71 ex_71 => ?_)
                                  have tx_71 : x_71.toInt = qq.toInt - q.toInt := v_subR ex_71 g_qq g_q (by decide) (by decide)
                                  refine lv_iconst (v := 1) hx hb dX12_readAt_419 (by decide) ?_
                                  refine lv_iadd hx hb dX12_readAt_420 ?_
                                  refine lv_topi (fun x_72 ex_72 => ?_)
                                  have tx_72 : x_72.toInt = x_71.toInt + 1 := v_addR (l2 := 1) (h2 := 1) ex_72 (v_difR (l := (-2597)) (h := 2608) tx_71 g_qq g_q (by decide) (by decide)) (by decide) (by decide) (by decide)
                                  refine lv_goto (tgt := 425) hx hb dX12_readAt_421 (by decide) ?_
                                  exact kl_i (v := x_72) hQQ hx hb hr hlocks hS dX12_readAt_425 (fun PZ9 kZ9 => kZ9 x (kPD_sub hP hD [1, 2, 0] (by decide +kernel) rfl) (by omega) (by show x_72.toInt = 0 ∨ (0 ≤ x.toInt ∧ x.toInt ≤ 65535); omega) (Or.inl ⟨(qq.toInt - q.toInt - 2).toNat + 3, by omega, by omega, Or.inr (Or.inr ⟨by omega, NJ_of (B := bo eY zn.toInt q.toNatClampNeg) hnj (by rw [← hb58]; omega) (by show bt eY zn.toInt q.toNatClampNeg = 38; omega) (by show bt eY zn.toInt (q.toNatClampNeg + 1) = 35; omega) (by omega) (by omega) (by omega) (by omega)⟩)⟩))
                      · have tc_54 : x_53.toInt < 8 := v_nle c_54
                        refine lv_iload hx hb dX12_readAt_317 (lv_at hl 0 rfl) ?_
                        refine lv_if_ne (tgt := 332) hx hb dX12_readAt_319 (by decide) (fun c_73 => ?_) (fun c_73 => ?_)
                        · have tc_73 : ¬ x.toInt = 0 := v_ne c_73
                          refine lv_bipush (v := 10) hx hb dX12_readAt_332 (by decide) ?_
                          refine lv_iload hx hb dX12_readAt_334 (lv_at hl 0 rfl) ?_
                          refine lv_imul hx hb dX12_readAt_336 ?_
                          refine lv_topi (fun x_74 ex_74 => ?_)
                          have tx_74 : x_74.toInt = 10 * x.toInt := v_mul ex_74 (by show -2147483648 ≤ 10 * x.toInt; omega) (by show 10 * x.toInt < 2147483648; omega)
                          refine lv_aload_n hx hb dX12_readAt_337 rfl (lv_at hl 3 rfl) ?_
                          refine va_get (D := (dC, dI)) (ci := 12) (v := .ref mY) (C := RX12) (T := TX12) (N := 40) hx hb hts in_X12 hown hK hP 1 rfl rfl 26 (Nat.le_of_ble_eq_true rfl) (hts (.fieldLink RX12 58 "TextMenderModel" "bytes" "[I") (List.mem_of_getElem? (i := 1) rfl)) (fun _ h9 => h9) rfl dX12_readAt_338 ?_
                          refine lv_iload hx hb dX12_readAt_341 (lv_at hl 1 rfl) ?_
                          refine va_iald hx hb hK hP 2 0 rfl rfl (v_in (by omega)) dX12_readAt_343 ?_
                          refine lv_topi (fun x_75 ex_75 => ?_)
                          have tx_75 : 0 ≤ x_75.toInt ∧ x_75.toInt ≤ 255 := rg_at g_eY ex_75
                          have hbx_x_75 : x_75.toInt = bo eY zn.toInt q.toNatClampNeg (2 + (qq.toInt - q.toInt - 2).toNat) := rd_bt (k := q.toNatClampNeg + (2 + (qq.toInt - q.toInt - 2).toNat)) ex_75 (by omega) (by omega)
                          refine lv_iadd hx hb dX12_readAt_344 ?_
                          refine lv_topi (fun x_76 ex_76 => ?_)
                          have tx_76 : x_76.toInt = x_74.toInt + x_75.toInt := v_add ex_76 (by show -2147483648 ≤ x_74.toInt + x_75.toInt; omega) (by show x_74.toInt + x_75.toInt < 2147483648; omega)
                          refine lv_bipush (v := 48) hx hb dX12_readAt_345 (by decide) ?_
                          refine lv_isub hx hb dX12_readAt_347 ?_
                          refine lv_topi (fun x_77 ex_77 => ?_)
                          have tx_77 : x_77.toInt = x_76.toInt - 48 := v_sub ex_77 (by show -2147483648 ≤ x_76.toInt - 48; omega) (by show x_76.toInt - 48 < 2147483648; omega)
                          refine lv_istore (lv' := [(5, .int x_77), (4, .int qq), (3, .int x_1), (0, .ref oM), (1, .int cd), (2, .int q)]) hx hb dX12_readAt_348 hl (by decide) rfl (fun ls hl => ?_)
                          obtain ⟨x_78, ex_78⟩ : ∃ y : Int32, y = qq + 1 := ⟨_, rfl⟩
                          have tx_78 : x_78.toInt = qq.toInt + 1 := v_addR (l2 := 1) (h2 := 1) ex_78 g_qq (by decide) (by decide) (by decide)
                          refine lv_iinc (v := x_78) (lv' := [(4, .int x_78), (5, .int x_77), (3, .int x_1), (0, .ref oM), (1, .int cd), (2, .int q)]) hx hb dX12_readAt_350 hl (k := 1) rfl (by rw [ex_78]; rfl) (by decide) rfl (fun ls hl => ?_)
                          refine lv_goto (tgt := 286) hx hb dX12_readAt_353 (by decide) ?_
                          exact ih_286 x_78 x_77 _ _ _ (ms_lt hm_286 (by show ((q.toInt + 8 - x_78.toInt : Int)) < q.toInt + 8 - qq.toInt; omega) (by show (0 : Int) < q.toInt + 8 - qq.toInt; omega)) (by show 2 ≤ x_78.toInt ∧ x_78.toInt ≤ 2608; omega) (by show 0 ≤ x_77.toInt ∧ x_77.toInt ≤ 999999; omega) (by show q.toInt + 2 ≤ x_78.toInt ∧ x_78.toInt ≤ q.toInt + 8; omega) (NJ_s hnj hbx_x_75 (by omega) (by omega) (by omega) (by omega) (by omega)) hP hD hS (lv_sub hl [1, 0, 2, 3, 4, 5] rfl)
                        · have tc_73 : x.toInt = 0 := v_eq c_73
                          refine lv_iload hx hb dX12_readAt_322 (lv_at hl 1 rfl) ?_
                          refine lv_iload_n hx hb dX12_readAt_324 rfl (lv_at hl 5 rfl) ?_
                          refine lv_iconst (v := 2) hx hb dX12_readAt_325 (by decide) ?_
                          refine lv_iadd hx hb dX12_readAt_326 ?_
                          refine lv_topi (fun x_79 ex_79 => ?_)
                          have tx_79 : x_79.toInt = q.toInt + 2 := v_addR (l2 := 2) (h2 := 2) ex_79 g_q (by decide) (by decide) (by decide)
                          refine lv_icmp_le (tgt := 332) hx hb dX12_readAt_327 (by decide) (fun c_80 => ?_) (fun c_80 => ?_)
                          · have tc_80 : qq.toInt ≤ x_79.toInt := v_le c_80
                            refine lv_bipush (v := 10) hx hb dX12_readAt_332 (by decide) ?_
                            refine lv_iload hx hb dX12_readAt_334 (lv_at hl 0 rfl) ?_
                            refine lv_imul hx hb dX12_readAt_336 ?_
                            refine lv_topi (fun x_81 ex_81 => ?_)
                            have tx_81 : x_81.toInt = 10 * x.toInt := v_mul ex_81 (by show -2147483648 ≤ 10 * x.toInt; omega) (by show 10 * x.toInt < 2147483648; omega)
                            refine lv_aload_n hx hb dX12_readAt_337 rfl (lv_at hl 3 rfl) ?_
                            refine va_get (D := (dC, dI)) (ci := 12) (v := .ref mY) (C := RX12) (T := TX12) (N := 40) hx hb hts in_X12 hown hK hP 1 rfl rfl 26 (Nat.le_of_ble_eq_true rfl) (hts (.fieldLink RX12 58 "TextMenderModel" "bytes" "[I") (List.mem_of_getElem? (i := 1) rfl)) (fun _ h9 => h9) rfl dX12_readAt_338 ?_
                            refine lv_iload hx hb dX12_readAt_341 (lv_at hl 1 rfl) ?_
                            refine va_iald hx hb hK hP 2 0 rfl rfl (v_in (by omega)) dX12_readAt_343 ?_
                            refine lv_topi (fun x_82 ex_82 => ?_)
                            have tx_82 : 0 ≤ x_82.toInt ∧ x_82.toInt ≤ 255 := rg_at g_eY ex_82
                            have hbx_x_82 : x_82.toInt = bo eY zn.toInt q.toNatClampNeg (2 + (qq.toInt - q.toInt - 2).toNat) := rd_bt (k := q.toNatClampNeg + (2 + (qq.toInt - q.toInt - 2).toNat)) ex_82 (by omega) (by omega)
                            refine lv_iadd hx hb dX12_readAt_344 ?_
                            refine lv_topi (fun x_83 ex_83 => ?_)
                            have tx_83 : x_83.toInt = x_81.toInt + x_82.toInt := v_add ex_83 (by show -2147483648 ≤ x_81.toInt + x_82.toInt; omega) (by show x_81.toInt + x_82.toInt < 2147483648; omega)
                            refine lv_bipush (v := 48) hx hb dX12_readAt_345 (by decide) ?_
                            refine lv_isub hx hb dX12_readAt_347 ?_
                            refine lv_topi (fun x_84 ex_84 => ?_)
                            have tx_84 : x_84.toInt = x_83.toInt - 48 := v_sub ex_84 (by show -2147483648 ≤ x_83.toInt - 48; omega) (by show x_83.toInt - 48 < 2147483648; omega)
                            refine lv_istore (lv' := [(5, .int x_84), (4, .int qq), (3, .int x_1), (0, .ref oM), (1, .int cd), (2, .int q)]) hx hb dX12_readAt_348 hl (by decide) rfl (fun ls hl => ?_)
                            obtain ⟨x_85, ex_85⟩ : ∃ y : Int32, y = qq + 1 := ⟨_, rfl⟩
                            have tx_85 : x_85.toInt = qq.toInt + 1 := v_addR (l2 := 1) (h2 := 1) ex_85 g_qq (by decide) (by decide) (by decide)
                            refine lv_iinc (v := x_85) (lv' := [(4, .int x_85), (5, .int x_84), (3, .int x_1), (0, .ref oM), (1, .int cd), (2, .int q)]) hx hb dX12_readAt_350 hl (k := 1) rfl (by rw [ex_85]; rfl) (by decide) rfl (fun ls hl => ?_)
                            refine lv_goto (tgt := 286) hx hb dX12_readAt_353 (by decide) ?_
                            exact ih_286 x_85 x_84 _ _ _ (ms_lt hm_286 (by show ((q.toInt + 8 - x_85.toInt : Int)) < q.toInt + 8 - qq.toInt; omega) (by show (0 : Int) < q.toInt + 8 - qq.toInt; omega)) (by show 2 ≤ x_85.toInt ∧ x_85.toInt ≤ 2608; omega) (by show 0 ≤ x_84.toInt ∧ x_84.toInt ≤ 999999; omega) (by show q.toInt + 2 ≤ x_85.toInt ∧ x_85.toInt ≤ q.toInt + 8; omega) (NJ_s hnj hbx_x_82 (by omega) (by omega) (by omega) (by omega) (by omega)) hP hD hS (lv_sub hl [1, 0, 2, 3, 4, 5] rfl)
                          · have tc_80 : x_79.toInt < qq.toInt := v_nle c_80
                            refine lv_iconst (v := 0) hx hb dX12_readAt_330 (by decide) ?_
                            exact kl_i (v := 0) hQQ hx hb hr hlocks hS dX12_readAt_331 (fun PZ9 kZ9 => kZ9 x_1 (kPD_sub hP hD [1, 2, 0] (by decide +kernel) rfl) (by decide) (by show 0 = 0 ∨ (0 ≤ x_1.toInt ∧ x_1.toInt ≤ 65535); omega) (Or.inr ⟨rfl, Dec_no (by rw [← ex_1]; exact al3 (by omega) (by omega)) (fun e9 _ _ _ => by omega) (fun _ => by first | exact NJ_no (B := bo eY zn.toInt q.toNatClampNeg) hnj hb33 (by omega) | exact NJ_no0 (B := bo eY zn.toInt q.toNatClampNeg) hnj (by omega) (by omega))⟩))
              exact LOOP_286 _ x_12 0 _ _ _ (ms_s _) (v_rr (v_sumR (l := 2) (h := 2601) (l2 := 2) (h2 := 2) tx_12 g_q (by decide) (by decide) (by decide)) (by decide) (by decide)) (by decide) (by show q.toInt + 2 ≤ x_12.toInt ∧ x_12.toInt ≤ q.toInt + 8; omega) (Or.inl (NI_0 (by omega) rfl)) hP hD hS (lv_sub hl [0, 1, 2, 3, 4, 5] rfl)
            · have tc_11 : ¬ r_10.toInt = 35 := v_ne c_11
              refine lv_iconst (v := 0) hx hb dX12_readAt_276 (by decide) ?_
              exact kl_i (v := 0) hQQ hx hb hr hlocks hS dX12_readAt_277 (fun PZ9 kZ9 => kZ9 x_1 (kPD_sub hP hD [1, 2, 0] (by decide +kernel) rfl) (by decide) (by show 0 = 0 ∨ (0 ≤ x_1.toInt ∧ x_1.toInt ≤ 65535); omega) (Or.inr ⟨rfl, Dec_no (by rw [← ex_1]; first | (unfold alF; (repeat (first | rw [if_neg (by omega)] | rw [if_pos (by omega)])); done) | (exfalso; omega)) (fun e9 l9 x9 h9 => by unfold DMa DM at h9; omega) (fun e9 l9 x9 h9 => by unfold DNa DN at h9; omega)⟩))
          · have tc_7 : ¬ x_1.toInt = 38 := v_ne c_7
            refine lv_iconst (v := 1) hx hb dX12_readAt_107 (by decide) ?_
            exact kl_i (v := 1) hQQ hx hb hr hlocks hS dX12_readAt_108 (fun PZ9 kZ9 => kZ9 x_1 (⟨hP, hD⟩) (by decide) (by show 1 = 0 ∨ (0 ≤ x_1.toInt ∧ x_1.toInt ≤ 65535); omega) (Or.inl ⟨1, rfl, by omega, Or.inl ⟨rfl, (by rw [← ex_1]; first | (unfold alF; (repeat (first | rw [if_neg (by omega)] | rw [if_pos (by omega)])); done) | (exfalso; omega)), v_nn (by omega)⟩⟩))
      · have tc_4 : 127 < x_1.toInt := v_nle c_4
        refine lv_iload_n hx hb dX12_readAt_82 rfl (lv_at hl 2 rfl) ?_
        refine lv_iconst (v := 3) hx hb dX12_readAt_83 (by decide) ?_
        refine lv_icmp_ne (tgt := 89) hx hb dX12_readAt_84 (by decide) (fun c_86 => ?_) (fun c_86 => ?_)
        · have tc_86 : ¬ cd.toInt = 3 := v_ne c_86
          refine lv_iload_n hx hb dX12_readAt_89 rfl (lv_at hl 0 rfl) ?_
          refine lv_sipush (v := 128) hx hb dX12_readAt_90 (by decide) ?_
          refine lv_icmp_ge (tgt := 109) hx hb dX12_readAt_93 (by decide) (fun c_87 => ?_) (fun c_87 => by exfalso; have tc_87 : x_1.toInt < 128 := v_nle c_87; omega)
          have tc_87 : 128 ≤ x_1.toInt := v_le c_87
          refine lv_iload_n hx hb dX12_readAt_109 rfl (lv_at hl 2 rfl) ?_
          refine lv_iconst (v := 2) hx hb dX12_readAt_110 (by decide) ?_
          refine lv_icmp_ne (tgt := 264) hx hb dX12_readAt_111 (by decide) (fun c_88 => by exfalso; have tc_88 : ¬ cd.toInt = 2 := v_ne c_88; omega) (fun c_88 => ?_)
          have tc_88 : cd.toInt = 2 := v_eq c_88
          refine lv_aload_n hx hb dX12_readAt_114 rfl (lv_at hl 1 rfl) ?_
          refine lv_iload_n hx hb dX12_readAt_115 rfl (lv_at hl 3 rfl) ?_
          refine lv_iconst (v := 1) hx hb dX12_readAt_116 (by decide) ?_
          refine lv_iadd hx hb dX12_readAt_117 ?_
          refine lv_topi (fun x_89 ex_89 => ?_)
          have tx_89 : x_89.toInt = q.toInt + 1 := v_addR (l2 := 1) (h2 := 1) ex_89 g_q (by decide) (by decide) (by decide)
          refine kV_i (rest := []) (q0 := 0) (ci := 12) hcf (f_X12_byteAt l dC dI cI cS H.size oM mT mS mX mL mB mD m1 m2 mR x1 x2 x3 mH mY mE mW mO y1 y2 y3 y4 mZ zt zp zf zh zr zc zy za zb zs zq zw ze zn zm zl zk x_1 eY x_89 (g_zt) (g_zp) (g_zf) (g_zh) (g_zr) (g_zc) (g_zy) (g_za) (g_zb) (g_zs) (g_zq) (g_zn) (g_zm) (g_zk) (g_eY) (v_rr (v_sumR (l := 1) (h := 2600) (l2 := 1) (h2 := 1) tx_89 g_q (by decide) (by decide) (by decide)) (by decide) (by decide))) kc_X12_byteAt gX12_readAt_X12_byteAt rfl rfl rfl ⟨Nat.le_of_ble_eq_true rfl, Nat.le_of_ble_eq_true rfl⟩ kX_t hK hP hD hS hA [0, 1] [2] rfl (by decide +kernel) rfl rfl rfl hl rfl (Nat.le_of_ble_eq_true rfl) dX12_readAt_118 ⟨Nat.le_of_ble_eq_true rfl, Nat.le_of_ble_eq_true rfl⟩ (fun r_90 H locs hB hJ hSn => ?_)
          refine hB _ (fun hPD9 hf90_0 hf90_1 hf90_2 => ?_)
          clear hB
          obtain ⟨hPn, hDn⟩ := hJ _ hPD9.1 hPD9.2 [(mL, .inl (cI, 512, .inl eL)), (oM, .inr (12, [.ref mT, .int zt, .ref mS, .ref mX, .int zp, .int zf, .ref mL, .ref mB, .ref mD, .ref m1, .ref m2, .int zh, .ref mR, .int zr, .ref x1, .ref x2, .ref x3, .int zc, .ref mH, .int zy, .int za, .int zb, .int zs, .int zq, .int zw, .int ze, .ref mY, .int zn, .ref mE, .int zm, .int zl, .ref mW, .int zk, .ref mO, .int x_1, .ref y1, .ref y2, .ref y3, .ref y4, .ref mZ])), (mY, .inl (cI, 2600, .inl eY))] rfl
          clear hP hD hS hJ hPD9
          have hP := hPn
          have hD := hDn
          have hS := hSn
          clear hPn hDn hSn
          have hb90 : r_90.toInt = bt eY zn.toInt (q.toNatClampNeg + 1) := bt_ix (k := q.toNatClampNeg + 1) hf90_2 (by omega)
          refine lv_istore (lv' := [(4, .int r_90), (3, .int x_1), (0, .ref oM), (1, .int cd), (2, .int q)]) hx hb dX12_readAt_121 hl (by decide) rfl (fun ls hl => ?_)
          refine lv_iload_n hx hb dX12_readAt_123 rfl (lv_at hl 1 rfl) ?_
          refine lv_sipush (v := 192) hx hb dX12_readAt_124 (by decide) ?_
          refine lv_icmp_lt (tgt := 145) hx hb dX12_readAt_127 (by decide) (fun c_91 => ?_) (fun c_91 => ?_)
          · have tc_91 : x_1.toInt < 192 := v_lt c_91
            refine lv_iconst (v := 0) hx hb dX12_readAt_145 (by decide) ?_
            exact kl_i (v := 0) hQQ hx hb hr hlocks hS dX12_readAt_146 (fun PZ9 kZ9 => kZ9 x_1 (kPD_sub hP hD [1, 2, 0] (by decide +kernel) rfl) (by decide) (by show 0 = 0 ∨ (0 ≤ x_1.toInt ∧ x_1.toInt ≤ 65535); omega) (Or.inr ⟨rfl, Dec_no (by rw [← ex_1]; first | (unfold alF; (repeat (first | rw [if_neg (by omega)] | rw [if_pos (by omega)])); done) | (exfalso; omega)) (fun e9 l9 x9 h9 => by unfold DMa DM at h9; omega) (fun e9 l9 x9 h9 => by unfold DNa DN at h9; omega)⟩))
          · have tc_91 : 192 ≤ x_1.toInt := v_nlt c_91
            refine lv_iload_n hx hb dX12_readAt_130 rfl (lv_at hl 1 rfl) ?_
            refine lv_sipush (v := 239) hx hb dX12_readAt_131 (by decide) ?_
            refine lv_icmp_gt (tgt := 145) hx hb dX12_readAt_134 (by decide) (fun c_92 => ?_) (fun c_92 => ?_)
            · have tc_92 : 239 < x_1.toInt := v_lt c_92
              refine lv_iconst (v := 0) hx hb dX12_readAt_145 (by decide) ?_
              exact kl_i (v := 0) hQQ hx hb hr hlocks hS dX12_readAt_146 (fun PZ9 kZ9 => kZ9 x_1 (kPD_sub hP hD [1, 2, 0] (by decide +kernel) rfl) (by decide) (by show 0 = 0 ∨ (0 ≤ x_1.toInt ∧ x_1.toInt ≤ 65535); omega) (Or.inr ⟨rfl, Dec_no (by rw [← ex_1]; first | (unfold alF; (repeat (first | rw [if_neg (by omega)] | rw [if_pos (by omega)])); done) | (exfalso; omega)) (fun e9 l9 x9 h9 => by unfold DMa DM at h9; omega) (fun e9 l9 x9 h9 => by unfold DNa DN at h9; omega)⟩))
            · have tc_92 : x_1.toInt ≤ 239 := v_nlt c_92
              refine lv_iload hx hb dX12_readAt_137 (lv_at hl 0 rfl) ?_
              refine kS_i (rest := []) hcf (m_X12_goesOn l dC dI cI cS H.size r_90 ) kc_X12_goesOn gX12_readAt_X12_goesOn rfl rfl ⟨Nat.le_of_ble_eq_true rfl, Nat.le_of_ble_eq_true rfl⟩ kX_t hK hP hD hS hA [] [0, 1, 2] rfl (by decide +kernel) rfl hl rfl (Nat.le_of_ble_eq_true rfl) dX12_readAt_139 ⟨Nat.le_of_ble_eq_true rfl, Nat.le_of_ble_eq_true rfl⟩ (fun r_93 H locs hB hJ hSn => ?_)
              refine hB _ (fun hPD9 hf93_0 hf93_1 => ?_)
              clear hB
              obtain ⟨hPn, hDn⟩ := hJ _ hPD9.1 hPD9.2 [(mL, .inl (cI, 512, .inl eL)), (oM, .inr (12, [.ref mT, .int zt, .ref mS, .ref mX, .int zp, .int zf, .ref mL, .ref mB, .ref mD, .ref m1, .ref m2, .int zh, .ref mR, .int zr, .ref x1, .ref x2, .ref x3, .int zc, .ref mH, .int zy, .int za, .int zb, .int zs, .int zq, .int zw, .int ze, .ref mY, .int zn, .ref mE, .int zm, .int zl, .ref mW, .int zk, .ref mO, .int x_1, .ref y1, .ref y2, .ref y3, .ref y4, .ref mZ])), (mY, .inl (cI, 2600, .inl eY))] rfl
              clear hP hD hS hJ hPD9
              have hP := hPn
              have hD := hDn
              have hS := hSn
              clear hPn hDn hSn
              refine lv_if_ne (tgt := 147) hx hb dX12_readAt_142 (by decide) (fun c_94 => ?_) (fun c_94 => ?_)
              · have tc_94 : ¬ r_93.toInt = 0 := v_ne c_94
                refine lv_iload_n hx hb dX12_readAt_147 rfl (lv_at hl 1 rfl) ?_
                refine lv_sipush (v := 224) hx hb dX12_readAt_148 (by decide) ?_
                refine lv_icmp_ge (tgt := 189) hx hb dX12_readAt_151 (by decide) (fun c_95 => ?_) (fun c_95 => ?_)
                · have tc_95 : 224 ≤ x_1.toInt := v_le c_95
                  refine lv_aload_n hx hb dX12_readAt_189 rfl (lv_at hl 2 rfl) ?_
                  refine lv_iload_n hx hb dX12_readAt_190 rfl (lv_at hl 4 rfl) ?_
                  refine lv_iconst (v := 2) hx hb dX12_readAt_191 (by decide) ?_
                  refine lv_iadd hx hb dX12_readAt_192 ?_
                  refine lv_topi (fun x_96 ex_96 => ?_)
                  have tx_96 : x_96.toInt = q.toInt + 2 := v_addR (l2 := 2) (h2 := 2) ex_96 g_q (by decide) (by decide) (by decide)
                  refine kV_i (rest := []) (q0 := 0) (ci := 12) hcf (f_X12_byteAt l dC dI cI cS H.size oM mT mS mX mL mB mD m1 m2 mR x1 x2 x3 mH mY mE mW mO y1 y2 y3 y4 mZ zt zp zf zh zr zc zy za zb zs zq zw ze zn zm zl zk x_1 eY x_96 (g_zt) (g_zp) (g_zf) (g_zh) (g_zr) (g_zc) (g_zy) (g_za) (g_zb) (g_zs) (g_zq) (g_zn) (g_zm) (g_zk) (g_eY) (v_rr (v_sumR (l := 2) (h := 2601) (l2 := 2) (h2 := 2) tx_96 g_q (by decide) (by decide) (by decide)) (by decide) (by decide))) kc_X12_byteAt gX12_readAt_X12_byteAt rfl rfl rfl ⟨Nat.le_of_ble_eq_true rfl, Nat.le_of_ble_eq_true rfl⟩ kX_t hK hP hD hS hA [1, 2] [0] rfl (by decide +kernel) rfl rfl rfl hl rfl (Nat.le_of_ble_eq_true rfl) dX12_readAt_193 ⟨Nat.le_of_ble_eq_true rfl, Nat.le_of_ble_eq_true rfl⟩ (fun r_97 H locs hB hJ hSn => ?_)
                  refine hB _ (fun hPD9 hf97_0 hf97_1 hf97_2 => ?_)
                  clear hB
                  obtain ⟨hPn, hDn⟩ := hJ _ hPD9.1 hPD9.2 [(mL, .inl (cI, 512, .inl eL)), (oM, .inr (12, [.ref mT, .int zt, .ref mS, .ref mX, .int zp, .int zf, .ref mL, .ref mB, .ref mD, .ref m1, .ref m2, .int zh, .ref mR, .int zr, .ref x1, .ref x2, .ref x3, .int zc, .ref mH, .int zy, .int za, .int zb, .int zs, .int zq, .int zw, .int ze, .ref mY, .int zn, .ref mE, .int zm, .int zl, .ref mW, .int zk, .ref mO, .int x_1, .ref y1, .ref y2, .ref y3, .ref y4, .ref mZ])), (mY, .inl (cI, 2600, .inl eY))] rfl
                  clear hP hD hS hJ hPD9
                  have hP := hPn
                  have hD := hDn
                  have hS := hSn
                  clear hPn hDn hSn
                  have hb97 : r_97.toInt = bt eY zn.toInt (q.toNatClampNeg + 2) := bt_ix (k := q.toNatClampNeg + 2) hf97_2 (by omega)
                  refine lv_istore (lv' := [(5, .int r_97), (4, .int r_90), (3, .int x_1), (0, .ref oM), (1, .int cd), (2, .int q)]) hx hb dX12_readAt_196 hl (by decide) rfl (fun ls hl => ?_)
                  refine lv_iload hx hb dX12_readAt_198 (lv_at hl 0 rfl) ?_
                  refine kS_i (rest := []) hcf (m_X12_goesOn l dC dI cI cS H.size r_97 ) kc_X12_goesOn gX12_readAt_X12_goesOn rfl rfl ⟨Nat.le_of_ble_eq_true rfl, Nat.le_of_ble_eq_true rfl⟩ kX_t hK hP hD hS hA [] [0, 1, 2] rfl (by decide +kernel) rfl hl rfl (Nat.le_of_ble_eq_true rfl) dX12_readAt_200 ⟨Nat.le_of_ble_eq_true rfl, Nat.le_of_ble_eq_true rfl⟩ (fun r_98 H locs hB hJ hSn => ?_)
                  refine hB _ (fun hPD9 hf98_0 hf98_1 => ?_)
                  clear hB
                  obtain ⟨hPn, hDn⟩ := hJ _ hPD9.1 hPD9.2 [(mL, .inl (cI, 512, .inl eL)), (oM, .inr (12, [.ref mT, .int zt, .ref mS, .ref mX, .int zp, .int zf, .ref mL, .ref mB, .ref mD, .ref m1, .ref m2, .int zh, .ref mR, .int zr, .ref x1, .ref x2, .ref x3, .int zc, .ref mH, .int zy, .int za, .int zb, .int zs, .int zq, .int zw, .int ze, .ref mY, .int zn, .ref mE, .int zm, .int zl, .ref mW, .int zk, .ref mO, .int x_1, .ref y1, .ref y2, .ref y3, .ref y4, .ref mZ])), (mY, .inl (cI, 2600, .inl eY))] rfl
                  clear hP hD hS hJ hPD9
                  have hP := hPn
                  have hD := hDn
                  have hS := hSn
                  clear hPn hDn hSn
                  refine lv_if_ne (tgt := 208) hx hb dX12_readAt_203 (by decide) (fun c_99 => ?_) (fun c_99 => ?_)
                  · have tc_99 : ¬ r_98.toInt = 0 := v_ne c_99
                    refine lv_aload_n hx hb dX12_readAt_208 rfl (lv_at hl 3 rfl) ?_
                    refine lv_iload_n hx hb dX12_readAt_209 rfl (lv_at hl 2 rfl) ?_
                    refine lv_sipush (v := 224) hx hb dX12_readAt_210 (by decide) ?_
                    refine lv_isub hx hb dX12_readAt_213 ?_
                    refine lv_topi (fun x_100 ex_100 => ?_)
                    have tx_100 : x_100.toInt = x_1.toInt - 224 := v_subR (l2 := 224) (h2 := 224) ex_100 tx_1 (by decide) (by decide) (by decide)
                    refine lv_sipush (v := 4096) hx hb dX12_readAt_214 (by decide) ?_
                    refine lv_imul hx hb dX12_readAt_217 ?_
                    refine lv_topi (fun x_101 ex_101 => ?_)
                    have tx_101 : x_101.toInt = x_100.toInt * 4096 := v_mul ex_101 (by show -2147483648 ≤ x_100.toInt * 4096; omega) (by show x_100.toInt * 4096 < 2147483648; omega)
                    refine lv_iload hx hb dX12_readAt_218 (lv_at hl 1 rfl) ?_
                    refine lv_sipush (v := 128) hx hb dX12_readAt_220 (by decide) ?_
                    refine lv_isub hx hb dX12_readAt_223 ?_
                    refine lv_topi (fun x_102 ex_102 => ?_)
                    have tx_102 : x_102.toInt = r_90.toInt - 128 := v_subR (l2 := 128) (h2 := 128) ex_102 hf90_0 (by decide) (by decide) (by decide)
                    refine lv_bipush (v := 64) hx hb dX12_readAt_224 (by decide) ?_
                    refine lv_imul hx hb dX12_readAt_226 ?_
                    refine lv_topi (fun x_103 ex_103 => ?_)
                    have tx_103 : x_103.toInt = x_102.toInt * 64 := v_mul ex_103 (by show -2147483648 ≤ x_102.toInt * 64; omega) (by show x_102.toInt * 64 < 2147483648; omega)
                    refine lv_iadd hx hb dX12_readAt_227 ?_
                    refine lv_topi (fun x_104 ex_104 => ?_)
                    have tx_104 : x_104.toInt = x_101.toInt + x_103.toInt := v_add ex_104 (by show -2147483648 ≤ x_101.toInt + x_103.toInt; omega) (by show x_101.toInt + x_103.toInt < 2147483648; omega)
                    refine lv_iload hx hb dX12_readAt_228 (lv_at hl 0 rfl) ?_
                    refine lv_iadd hx hb dX12_readAt_230 ?_
                    refine lv_topi (fun x_105 ex_105 => ?_)
                    have tx_105 : x_105.toInt = x_104.toInt + r_97.toInt := v_add ex_105 (by show -2147483648 ≤ x_104.toInt + r_97.toInt; omega) (by show x_104.toInt + r_97.toInt < 2147483648; omega)
                    refine lv_sipush (v := 128) hx hb dX12_readAt_231 (by decide) ?_
                    refine lv_isub hx hb dX12_readAt_234 ?_
                    refine lv_topi (fun x_106 ex_106 => ?_)
                    have tx_106 : x_106.toInt = x_105.toInt - 128 := v_sub ex_106 (by show -2147483648 ≤ x_105.toInt - 128; omega) (by show x_105.toInt - 128 < 2147483648; omega)
                    refine va_put (D := (dC, dI)) (ci := 12) (v := .int x_106) (ty := .int) (C := RX12) (T := TX12) (N := 40) hx hb hts in_X12 tyX12 tyX12_ok nmX12 hown hK hP hD hS 1 rfl rfl 34 (Nat.le_of_ble_eq_true rfl) (hts (.fieldLink RX12 105 "TextMenderModel" "readLetter" "I") (List.mem_of_getElem? (i := 2) rfl)) (fun _ h9 => h9) rfl (tyX12_ok 34 (Nat.le_of_ble_eq_true rfl)) rfl rfl (Nat.le_of_ble_eq_true rfl) dX12_readAt_235 (kW (wn := [(mL, .inl (cI, 512, .inl eL)), (oM, .inr (12, [.ref mT, .int zt, .ref mS, .ref mX, .int zp, .int zf, .ref mL, .ref mB, .ref mD, .ref m1, .ref m2, .int zh, .ref mR, .int zr, .ref x1, .ref x2, .ref x3, .int zc, .ref mH, .int zy, .int za, .int zb, .int zs, .int zq, .int zw, .int ze, .ref mY, .int zn, .ref mE, .int zm, .int zl, .ref mW, .int zk, .ref mO, .int x_106, .ref y1, .ref y2, .ref y3, .ref y4, .ref mZ])), (mY, .inl (cI, 2600, .inl eY))]) rfl (fun H locs hPn hDn hSn => ?_))
                    clear hP hD hS
                    have hP := hPn
                    have hD := hDn
                    have hS := hSn
                    clear hPn hDn hSn
                    refine lv_aload_n hx hb dX12_readAt_238 rfl (lv_at hl 3 rfl) ?_
                    refine va_get (D := (dC, dI)) (ci := 12) (v := .int x_106) (C := RX12) (T := TX12) (N := 40) hx hb hts in_X12 hown hK hP 1 rfl rfl 34 (Nat.le_of_ble_eq_true rfl) (hts (.fieldLink RX12 105 "TextMenderModel" "readLetter" "I") (List.mem_of_getElem? (i := 2) rfl)) (fun _ h9 => h9) rfl dX12_readAt_239 ?_
                    refine lv_sipush (v := 2048) hx hb dX12_readAt_242 (by decide) ?_
                    refine lv_icmp_lt (tgt := 258) hx hb dX12_readAt_245 (by decide) (fun c_107 => ?_) (fun c_107 => ?_)
                    · have tc_107 : x_106.toInt < 2048 := v_lt c_107
                      refine lv_iconst (v := 0) hx hb dX12_readAt_258 (by decide) ?_
                      refine lv_goto (tgt := 263) hx hb dX12_readAt_259 (by decide) ?_
                      exact kl_i (v := 0) hQQ hx hb hr hlocks hS dX12_readAt_263 (fun PZ9 kZ9 => kZ9 x_106 (kPD_sub hP hD [1, 2, 0] (by decide +kernel) rfl) (by decide) (by show 0 = 0 ∨ (0 ≤ x_106.toInt ∧ x_106.toInt ≤ 65535); omega) (Or.inr ⟨rfl, Dec_no (by rw [← ex_1]; first | (unfold alF; (repeat (first | rw [if_neg (by omega)] | rw [if_pos (by omega)])); done) | (exfalso; omega)) (fun e9 l9 x9 h9 => by unfold DMa DM at h9; omega) (fun e9 l9 x9 h9 => by unfold DNa DN at h9; omega)⟩))
                    · have tc_107 : 2048 ≤ x_106.toInt := v_nlt c_107
                      refine lv_aload_n hx hb dX12_readAt_248 rfl (lv_at hl 3 rfl) ?_
                      refine va_get (D := (dC, dI)) (ci := 12) (v := .int x_106) (C := RX12) (T := TX12) (N := 40) hx hb hts in_X12 hown hK hP 1 rfl rfl 34 (Nat.le_of_ble_eq_true rfl) (hts (.fieldLink RX12 105 "TextMenderModel" "readLetter" "I") (List.mem_of_getElem? (i := 2) rfl)) (fun _ h9 => h9) rfl dX12_readAt_249 ?_
                      refine kS_i (rest := []) hcf (m_X12_isLetter l dC dI cI cS H.size x_106 ) kc_X12_isLetter gX12_readAt_X12_isLetter rfl rfl ⟨Nat.le_of_ble_eq_true rfl, Nat.le_of_ble_eq_true rfl⟩ kX_t hK hP hD hS hA [] [0, 1, 2] rfl (by decide +kernel) rfl hl rfl (Nat.le_of_ble_eq_true rfl) dX12_readAt_252 ⟨Nat.le_of_ble_eq_true rfl, Nat.le_of_ble_eq_true rfl⟩ (fun r_108 H locs hB hJ hSn => ?_)
                      refine hB _ (fun hPD9 hf108_0 hf108_1 => ?_)
                      clear hB
                      obtain ⟨hPn, hDn⟩ := hJ _ hPD9.1 hPD9.2 [(mL, .inl (cI, 512, .inl eL)), (oM, .inr (12, [.ref mT, .int zt, .ref mS, .ref mX, .int zp, .int zf, .ref mL, .ref mB, .ref mD, .ref m1, .ref m2, .int zh, .ref mR, .int zr, .ref x1, .ref x2, .ref x3, .int zc, .ref mH, .int zy, .int za, .int zb, .int zs, .int zq, .int zw, .int ze, .ref mY, .int zn, .ref mE, .int zm, .int zl, .ref mW, .int zk, .ref mO, .int x_106, .ref y1, .ref y2, .ref y3, .ref y4, .ref mZ])), (mY, .inl (cI, 2600, .inl eY))] rfl
                      clear hP hD hS hJ hPD9
                      have hP := hPn
                      have hD := hDn
                      have hS := hSn
                      clear hPn hDn hSn
                      refine lv_if_ne (tgt := 262) hx hb dX12_readAt_255 (by decide) (fun c_109 => ?_) (fun c_109 => ?_)
                      · have tc_109 : ¬ r_108.toInt = 0 := v_ne c_109
                        refine lv_iconst (v := 3) hx hb dX12_readAt_262 (by decide) ?_
                        exact kl_i (v := 3) hQQ hx hb hr hlocks hS dX12_readAt_263 (fun PZ9 kZ9 => kZ9 x_106 (kPD_sub hP hD [1, 2, 0] (by decide +kernel) rfl) (by decide) (by show 3 = 0 ∨ (0 ≤ x_106.toInt ∧ x_106.toInt ≤ 65535); omega) (Or.inl ⟨3, rfl, by omega, Or.inr (Or.inl ⟨by omega, by unfold DMa DM; omega⟩)⟩))
                      · have tc_109 : r_108.toInt = 0 := v_eq c_109
                        refine lv_iconst (v := 0) hx hb dX12_readAt_258 (by decide) ?_
                        refine lv_goto (tgt := 263) hx hb dX12_readAt_259 (by decide) ?_
                        exact kl_i (v := 0) hQQ hx hb hr hlocks hS dX12_readAt_263 (fun PZ9 kZ9 => kZ9 x_106 (kPD_sub hP hD [1, 2, 0] (by decide +kernel) rfl) (by decide) (by show 0 = 0 ∨ (0 ≤ x_106.toInt ∧ x_106.toInt ≤ 65535); omega) (Or.inr ⟨rfl, Dec_no (by rw [← ex_1]; first | (unfold alF; (repeat (first | rw [if_neg (by omega)] | rw [if_pos (by omega)])); done) | (exfalso; omega)) (fun e9 l9 x9 h9 => by unfold DMa DM at h9; omega) (fun e9 l9 x9 h9 => by unfold DNa DN at h9; omega)⟩))
                  · have tc_99 : r_98.toInt = 0 := v_eq c_99
                    refine lv_iconst (v := 0) hx hb dX12_readAt_206 (by decide) ?_
                    exact kl_i (v := 0) hQQ hx hb hr hlocks hS dX12_readAt_207 (fun PZ9 kZ9 => kZ9 x_1 (kPD_sub hP hD [1, 2, 0] (by decide +kernel) rfl) (by decide) (by show 0 = 0 ∨ (0 ≤ x_1.toInt ∧ x_1.toInt ≤ 65535); omega) (Or.inr ⟨rfl, Dec_no (by rw [← ex_1]; first | (unfold alF; (repeat (first | rw [if_neg (by omega)] | rw [if_pos (by omega)])); done) | (exfalso; omega)) (fun e9 l9 x9 h9 => by unfold DMa DM at h9; omega) (fun e9 l9 x9 h9 => by unfold DNa DN at h9; omega)⟩))
                · have tc_95 : x_1.toInt < 224 := v_nle c_95
                  refine lv_aload_n hx hb dX12_readAt_154 rfl (lv_at hl 2 rfl) ?_
                  refine lv_iload_n hx hb dX12_readAt_155 rfl (lv_at hl 1 rfl) ?_
                  refine lv_sipush (v := 192) hx hb dX12_readAt_156 (by decide) ?_
                  refine lv_isub hx hb dX12_readAt_159 ?_
                  refine lv_topi (fun x_110 ex_110 => ?_)
                  have tx_110 : x_110.toInt = x_1.toInt - 192 := v_subR (l2 := 192) (h2 := 192) ex_110 tx_1 (by decide) (by decide) (by decide)
                  refine lv_bipush (v := 64) hx hb dX12_readAt_160 (by decide) ?_
                  refine lv_imul hx hb dX12_readAt_162 ?_
                  refine lv_topi (fun x_111 ex_111 => ?_)
                  have tx_111 : x_111.toInt = x_110.toInt * 64 := v_mul ex_111 (by show -2147483648 ≤ x_110.toInt * 64; omega) (by show x_110.toInt * 64 < 2147483648; omega)
                  refine lv_iload hx hb dX12_readAt_163 (lv_at hl 0 rfl) ?_
                  refine lv_iadd hx hb dX12_readAt_165 ?_
                  refine lv_topi (fun x_112 ex_112 => ?_)
                  have tx_112 : x_112.toInt = x_111.toInt + r_90.toInt := v_add ex_112 (by show -2147483648 ≤ x_111.toInt + r_90.toInt; omega) (by show x_111.toInt + r_90.toInt < 2147483648; omega)
                  refine lv_sipush (v := 128) hx hb dX12_readAt_166 (by decide) ?_
                  refine lv_isub hx hb dX12_readAt_169 ?_
                  refine lv_topi (fun x_113 ex_113 => ?_)
                  have tx_113 : x_113.toInt = x_112.toInt - 128 := v_sub ex_113 (by show -2147483648 ≤ x_112.toInt - 128; omega) (by show x_112.toInt - 128 < 2147483648; omega)
                  refine va_put (D := (dC, dI)) (ci := 12) (v := .int x_113) (ty := .int) (C := RX12) (T := TX12) (N := 40) hx hb hts in_X12 tyX12 tyX12_ok nmX12 hown hK hP hD hS 1 rfl rfl 34 (Nat.le_of_ble_eq_true rfl) (hts (.fieldLink RX12 105 "TextMenderModel" "readLetter" "I") (List.mem_of_getElem? (i := 2) rfl)) (fun _ h9 => h9) rfl (tyX12_ok 34 (Nat.le_of_ble_eq_true rfl)) rfl rfl (Nat.le_of_ble_eq_true rfl) dX12_readAt_170 (kW (wn := [(mL, .inl (cI, 512, .inl eL)), (oM, .inr (12, [.ref mT, .int zt, .ref mS, .ref mX, .int zp, .int zf, .ref mL, .ref mB, .ref mD, .ref m1, .ref m2, .int zh, .ref mR, .int zr, .ref x1, .ref x2, .ref x3, .int zc, .ref mH, .int zy, .int za, .int zb, .int zs, .int zq, .int zw, .int ze, .ref mY, .int zn, .ref mE, .int zm, .int zl, .ref mW, .int zk, .ref mO, .int x_113, .ref y1, .ref y2, .ref y3, .ref y4, .ref mZ])), (mY, .inl (cI, 2600, .inl eY))]) rfl (fun H locs hPn hDn hSn => ?_))
                  clear hP hD hS
                  have hP := hPn
                  have hD := hDn
                  have hS := hSn
                  clear hPn hDn hSn
                  refine lv_aload_n hx hb dX12_readAt_173 rfl (lv_at hl 2 rfl) ?_
                  refine va_get (D := (dC, dI)) (ci := 12) (v := .int x_113) (C := RX12) (T := TX12) (N := 40) hx hb hts in_X12 hown hK hP 1 rfl rfl 34 (Nat.le_of_ble_eq_true rfl) (hts (.fieldLink RX12 105 "TextMenderModel" "readLetter" "I") (List.mem_of_getElem? (i := 2) rfl)) (fun _ h9 => h9) rfl dX12_readAt_174 ?_
                  refine lv_sipush (v := 128) hx hb dX12_readAt_177 (by decide) ?_
                  refine lv_icmp_ge (tgt := 187) hx hb dX12_readAt_180 (by decide) (fun c_114 => ?_) (fun c_114 => ?_)
                  · have tc_114 : 128 ≤ x_113.toInt := v_le c_114
                    refine lv_iconst (v := 2) hx hb dX12_readAt_187 (by decide) ?_
                    exact kl_i (v := 2) hQQ hx hb hr hlocks hS dX12_readAt_188 (fun PZ9 kZ9 => kZ9 x_113 (kPD_sub hP hD [1, 2, 0] (by decide +kernel) rfl) (by decide) (by show 2 = 0 ∨ (0 ≤ x_113.toInt ∧ x_113.toInt ≤ 65535); omega) (Or.inl ⟨2, rfl, by omega, Or.inr (Or.inl ⟨by omega, by unfold DMa DM; omega⟩)⟩))
                  · have tc_114 : x_113.toInt < 128 := v_nle c_114
                    refine lv_iconst (v := 0) hx hb dX12_readAt_183 (by decide) ?_
                    refine lv_goto (tgt := 188) hx hb dX12_readAt_184 (by decide) ?_
                    exact kl_i (v := 0) hQQ hx hb hr hlocks hS dX12_readAt_188 (fun PZ9 kZ9 => kZ9 x_113 (kPD_sub hP hD [1, 2, 0] (by decide +kernel) rfl) (by decide) (by show 0 = 0 ∨ (0 ≤ x_113.toInt ∧ x_113.toInt ≤ 65535); omega) (Or.inr ⟨rfl, Dec_no (by rw [← ex_1]; first | (unfold alF; (repeat (first | rw [if_neg (by omega)] | rw [if_pos (by omega)])); done) | (exfalso; omega)) (fun e9 l9 x9 h9 => by unfold DMa DM at h9; omega) (fun e9 l9 x9 h9 => by unfold DNa DN at h9; omega)⟩))
              · have tc_94 : r_93.toInt = 0 := v_eq c_94
                refine lv_iconst (v := 0) hx hb dX12_readAt_145 (by decide) ?_
                exact kl_i (v := 0) hQQ hx hb hr hlocks hS dX12_readAt_146 (fun PZ9 kZ9 => kZ9 x_1 (kPD_sub hP hD [1, 2, 0] (by decide +kernel) rfl) (by decide) (by show 0 = 0 ∨ (0 ≤ x_1.toInt ∧ x_1.toInt ≤ 65535); omega) (Or.inr ⟨rfl, Dec_no (by rw [← ex_1]; first | (unfold alF; (repeat (first | rw [if_neg (by omega)] | rw [if_pos (by omega)])); done) | (exfalso; omega)) (fun e9 l9 x9 h9 => by unfold DMa DM at h9; omega) (fun e9 l9 x9 h9 => by unfold DNa DN at h9; omega)⟩))
        · have tc_86 : cd.toInt = 3 := v_eq c_86
          refine lv_iconst (v := 0) hx hb dX12_readAt_87 (by decide) ?_
          exact kl_i (v := 0) hQQ hx hb hr hlocks hS dX12_readAt_88 (fun PZ9 kZ9 => kZ9 x_1 (⟨hP, hD⟩) (by decide) (by show 0 = 0 ∨ (0 ≤ x_1.toInt ∧ x_1.toInt ≤ 65535); omega) (Or.inr ⟨rfl, Dec_no (by rw [← ex_1]; first | (unfold alF; (repeat (first | rw [if_neg (by omega)] | rw [if_pos (by omega)])); done) | (exfalso; omega)) (fun e9 l9 x9 h9 => by unfold DMa DM at h9; omega) (fun e9 l9 x9 h9 => by unfold DNa DN at h9; omega)⟩))
    · have tc_3 : 3 < cd.toInt := v_nle c_3
      refine lv_aload_n hx hb dX12_readAt_44 rfl (lv_at hl 1 rfl) ?_
      refine lv_aload_n hx hb dX12_readAt_45 rfl (lv_at hl 1 rfl) ?_
      refine va_get (D := (dC, dI)) (ci := 12) (v := .ref mL) (C := RX12) (T := TX12) (N := 40) hx hb hts in_X12 hown hK hP 0 rfl rfl 6 (Nat.le_of_ble_eq_true rfl) (hts (.fieldLink RX12 19 "TextMenderModel" "letterOf" "[I") (List.mem_of_getElem? (i := 3) rfl)) (fun _ h9 => h9) rfl dX12_readAt_46 ?_
      refine lv_sipush (v := 256) hx hb dX12_readAt_49 (by decide) ?_
      refine lv_iload_n hx hb dX12_readAt_52 rfl (lv_at hl 2 rfl) ?_
      refine lv_iconst (v := 4) hx hb dX12_readAt_53 (by decide) ?_
      refine lv_isub hx hb dX12_readAt_54 ?_
      refine lv_topi (fun x_115 ex_115 => ?_)
      have tx_115 : x_115.toInt = cd.toInt - 4 := v_subR (l2 := 4) (h2 := 4) ex_115 g_cd (by decide) (by decide) (by decide)
      refine lv_imul hx hb dX12_readAt_55 ?_
      refine lv_topi (fun x_116 ex_116 => ?_)
      have tx_116 : x_116.toInt = 256 * x_115.toInt := v_mul ex_116 (by show -2147483648 ≤ 256 * x_115.toInt; omega) (by show 256 * x_115.toInt < 2147483648; omega)
      refine lv_iload_n hx hb dX12_readAt_56 rfl (lv_at hl 0 rfl) ?_
      refine lv_iadd hx hb dX12_readAt_57 ?_
      refine lv_topi (fun x_117 ex_117 => ?_)
      have tx_117 : x_117.toInt = x_116.toInt + x_1.toInt := v_add ex_117 (by show -2147483648 ≤ x_116.toInt + x_1.toInt; omega) (by show x_116.toInt + x_1.toInt < 2147483648; omega)
      refine va_iald hx hb hK hP 2 0 rfl rfl (v_in (by omega)) dX12_readAt_58 ?_
      refine lv_topi (fun x_118 ex_118 => ?_)
      have tx_118 : -1 ≤ x_118.toInt ∧ x_118.toInt ≤ 65535 := rg_at g_eL ex_118
      refine va_put (D := (dC, dI)) (ci := 12) (v := .int x_118) (ty := .int) (C := RX12) (T := TX12) (N := 40) hx hb hts in_X12 tyX12 tyX12_ok nmX12 hown hK hP hD hS 0 rfl rfl 34 (Nat.le_of_ble_eq_true rfl) (hts (.fieldLink RX12 105 "TextMenderModel" "readLetter" "I") (List.mem_of_getElem? (i := 2) rfl)) (fun _ h9 => h9) rfl (tyX12_ok 34 (Nat.le_of_ble_eq_true rfl)) rfl rfl (Nat.le_of_ble_eq_true rfl) dX12_readAt_59 (kW (wn := [(oM, .inr (12, [.ref mT, .int zt, .ref mS, .ref mX, .int zp, .int zf, .ref mL, .ref mB, .ref mD, .ref m1, .ref m2, .int zh, .ref mR, .int zr, .ref x1, .ref x2, .ref x3, .int zc, .ref mH, .int zy, .int za, .int zb, .int zs, .int zq, .int zw, .int ze, .ref mY, .int zn, .ref mE, .int zm, .int zl, .ref mW, .int zk, .ref mO, .int x_118, .ref y1, .ref y2, .ref y3, .ref y4, .ref mZ])), (mY, .inl (cI, 2600, .inl eY)), (mL, .inl (cI, 512, .inl eL))]) rfl (fun H locs hPn hDn hSn => ?_))
      clear hP hD hS
      have hP := hPn
      have hD := hDn
      have hS := hSn
      clear hPn hDn hSn
      refine lv_aload_n hx hb dX12_readAt_62 rfl (lv_at hl 1 rfl) ?_
      refine va_get (D := (dC, dI)) (ci := 12) (v := .int x_118) (C := RX12) (T := TX12) (N := 40) hx hb hts in_X12 hown hK hP 0 rfl rfl 34 (Nat.le_of_ble_eq_true rfl) (hts (.fieldLink RX12 105 "TextMenderModel" "readLetter" "I") (List.mem_of_getElem? (i := 2) rfl)) (fun _ h9 => h9) rfl dX12_readAt_63 ?_
      refine lv_iconst (v := (-1)) hx hb dX12_readAt_66 (by decide) ?_
      refine lv_icmp_ne (tgt := 74) hx hb dX12_readAt_67 (by decide) (fun c_119 => ?_) (fun c_119 => ?_)
      · have tc_119 : ¬ x_118.toInt = (-1) := v_ne c_119
        refine lv_iconst (v := 1) hx hb dX12_readAt_74 (by decide) ?_
        exact kl_i (v := 1) hQQ hx hb hr hlocks hS dX12_readAt_75 (fun PZ9 kZ9 => kZ9 x_118 (⟨hP, hD⟩) (by decide) (by show 1 = 0 ∨ (0 ≤ x_118.toInt ∧ x_118.toInt ≤ 65535); omega) (Or.inl ⟨1, rfl, by omega, Or.inl ⟨rfl, (by rw [← ex_1]; exact (alF_hi (b := cd) (v := x_1) (x := x_117) (eL := eL) (by omega) (by omega) (by omega) (by omega)).trans ex_118.symm), c_119⟩⟩))
      · have tc_119 : x_118.toInt = (-1) := v_eq c_119
        refine lv_iconst (v := 0) hx hb dX12_readAt_70 (by decide) ?_
        refine lv_goto (tgt := 75) hx hb dX12_readAt_71 (by decide) ?_
        exact kl_i (v := 0) hQQ hx hb hr hlocks hS dX12_readAt_75 (fun PZ9 kZ9 => kZ9 x_118 (⟨hP, hD⟩) (by decide) (by show 0 = 0 ∨ (0 ≤ x_118.toInt ∧ x_118.toInt ≤ 65535); omega) (Or.inr ⟨rfl, Dec_no (by rw [← ex_1]; exact (alF_hi (b := cd) (v := x_1) (x := x_117) (eL := eL) (by omega) (by omega) (by omega) (by omega)).trans (ex_118.symm.trans c_119)) (fun e9 l9 x9 h9 => by unfold DMa DM at h9; omega) (fun e9 l9 x9 h9 => by unfold DNa DN at h9; omega)⟩))
  · have tc_2 : cd.toInt < 2 := v_nle c_2
    refine lv_iload_n hx hb dX12_readAt_17 rfl (lv_at hl 0 rfl) ?_
    refine lv_iload_n hx hb dX12_readAt_18 rfl (lv_at hl 2 rfl) ?_
    refine lv_if_ne (tgt := 27) hx hb dX12_readAt_19 (by decide) (fun c_120 => ?_) (fun c_120 => ?_)
    · have tc_120 : ¬ cd.toInt = 0 := v_ne c_120
      refine lv_sipush (v := 255) hx hb dX12_readAt_27 (by decide) ?_
      refine lv_icmp_le (tgt := 37) hx hb dX12_readAt_30 (by decide) (fun c_121 => ?_) (fun c_121 => by exfalso; have tc_121 : 255 < x_1.toInt := v_nle c_121; omega)
      have tc_121 : x_1.toInt ≤ 255 := v_le c_121
      refine lv_iconst (v := 1) hx hb dX12_readAt_37 (by decide) ?_
      exact kl_i (v := 1) hQQ hx hb hr hlocks hS dX12_readAt_38 (fun PZ9 kZ9 => kZ9 x_1 (⟨hP, hD⟩) (by decide) (by show 1 = 0 ∨ (0 ≤ x_1.toInt ∧ x_1.toInt ≤ 65535); omega) (Or.inl ⟨1, rfl, by omega, Or.inl ⟨rfl, (by rw [← ex_1]; first | (unfold alF; (repeat (first | rw [if_neg (by omega)] | rw [if_pos (by omega)])); done) | (exfalso; omega)), v_nn (by omega)⟩⟩))
    · have tc_120 : cd.toInt = 0 := v_eq c_120
      refine lv_bipush (v := 127) hx hb dX12_readAt_22 (by decide) ?_
      refine lv_goto (tgt := 30) hx hb dX12_readAt_24 (by decide) ?_
      refine lv_icmp_le (tgt := 37) hx hb dX12_readAt_30 (by decide) (fun c_122 => ?_) (fun c_122 => ?_)
      · have tc_122 : x_1.toInt ≤ 127 := v_le c_122
        refine lv_iconst (v := 1) hx hb dX12_readAt_37 (by decide) ?_
        exact kl_i (v := 1) hQQ hx hb hr hlocks hS dX12_readAt_38 (fun PZ9 kZ9 => kZ9 x_1 (⟨hP, hD⟩) (by decide) (by show 1 = 0 ∨ (0 ≤ x_1.toInt ∧ x_1.toInt ≤ 65535); omega) (Or.inl ⟨1, rfl, by omega, Or.inl ⟨rfl, (by rw [← ex_1]; first | (unfold alF; (repeat (first | rw [if_neg (by omega)] | rw [if_pos (by omega)])); done) | (exfalso; omega)), v_nn (by omega)⟩⟩))
      · have tc_122 : 127 < x_1.toInt := v_nle c_122
        refine lv_iconst (v := 0) hx hb dX12_readAt_33 (by decide) ?_
        refine lv_goto (tgt := 38) hx hb dX12_readAt_34 (by decide) ?_
        exact kl_i (v := 0) hQQ hx hb hr hlocks hS dX12_readAt_38 (fun PZ9 kZ9 => kZ9 x_1 (⟨hP, hD⟩) (by decide) (by show 0 = 0 ∨ (0 ≤ x_1.toInt ∧ x_1.toInt ≤ 65535); omega) (Or.inr ⟨rfl, Dec_no (by rw [← ex_1]; first | (unfold alF; (repeat (first | rw [if_neg (by omega)] | rw [if_pos (by omega)])); done) | (exfalso; omega)) (fun e9 l9 x9 h9 => by unfold DMa DM at h9; omega) (fun e9 l9 x9 h9 => by unfold DNa DN at h9; omega)⟩))

end

/-! 59e.a.rows -/
section
set_option maxRecDepth 100000 in
theorem dA168_cX12_read : kDec cX12_read [(0, .aload_n 0, 1), (1, .iconst 0, 1), (2, .putfield 119, 3), (5, .iconst 0, 1), (6, .istore_n 3, 1), (7, .iload_n 3, 1), (8, .aload_n 0, 1), (9, .getfield 91, 3), (12, .if_icmp .ge 77, 3), (89, .iconst 1, 1), (90, .ireturn, 1), (15, .aload_n 0, 1), (16, .iload_n 1, 1), (17, .iload_n 3, 1), (18, .invokevirtual 122, 3), (21, .istore 4, 2), (23, .iload 4, 2), (25, .ifCond .ne 14, 3), (39, .aload_n 0, 1), (40, .getfield 61, 3), (43, .aload_n 0, 1), (44, .getfield 119, 3), (47, .iload 4, 2), (49, .ifCond .ne 8, 3)] = true := by decide +kernel
theorem dX12_read_0 : decode cX12_read 0 = .ok (.aload_n 0, 1) := kDec_at dA168_cX12_read 0 rfl
theorem dX12_read_1 : decode cX12_read 1 = .ok (.iconst 0, 1) := kDec_at dA168_cX12_read 1 rfl
theorem dX12_read_2 : decode cX12_read 2 = .ok (.putfield 119, 3) := kDec_at dA168_cX12_read 2 rfl
theorem dX12_read_5 : decode cX12_read 5 = .ok (.iconst 0, 1) := kDec_at dA168_cX12_read 3 rfl
theorem dX12_read_6 : decode cX12_read 6 = .ok (.istore_n 3, 1) := kDec_at dA168_cX12_read 4 rfl
theorem dX12_read_7 : decode cX12_read 7 = .ok (.iload_n 3, 1) := kDec_at dA168_cX12_read 5 rfl
theorem dX12_read_8 : decode cX12_read 8 = .ok (.aload_n 0, 1) := kDec_at dA168_cX12_read 6 rfl
theorem dX12_read_9 : decode cX12_read 9 = .ok (.getfield 91, 3) := kDec_at dA168_cX12_read 7 rfl
theorem dX12_read_12 : decode cX12_read 12 = .ok (.if_icmp .ge 77, 3) := kDec_at dA168_cX12_read 8 rfl
theorem dX12_read_89 : decode cX12_read 89 = .ok (.iconst 1, 1) := kDec_at dA168_cX12_read 9 rfl
theorem dX12_read_90 : decode cX12_read 90 = .ok (.ireturn, 1) := kDec_at dA168_cX12_read 10 rfl
theorem dX12_read_15 : decode cX12_read 15 = .ok (.aload_n 0, 1) := kDec_at dA168_cX12_read 11 rfl
theorem dX12_read_16 : decode cX12_read 16 = .ok (.iload_n 1, 1) := kDec_at dA168_cX12_read 12 rfl
theorem dX12_read_17 : decode cX12_read 17 = .ok (.iload_n 3, 1) := kDec_at dA168_cX12_read 13 rfl
theorem dX12_read_18 : decode cX12_read 18 = .ok (.invokevirtual 122, 3) := kDec_at dA168_cX12_read 14 rfl
theorem dX12_read_21 : decode cX12_read 21 = .ok (.istore 4, 2) := kDec_at dA168_cX12_read 15 rfl
theorem dX12_read_23 : decode cX12_read 23 = .ok (.iload 4, 2) := kDec_at dA168_cX12_read 16 rfl
theorem dX12_read_25 : decode cX12_read 25 = .ok (.ifCond .ne 14, 3) := kDec_at dA168_cX12_read 17 rfl
theorem dX12_read_39 : decode cX12_read 39 = .ok (.aload_n 0, 1) := kDec_at dA168_cX12_read 18 rfl
theorem dX12_read_40 : decode cX12_read 40 = .ok (.getfield 61, 3) := kDec_at dA168_cX12_read 19 rfl
theorem dX12_read_43 : decode cX12_read 43 = .ok (.aload_n 0, 1) := kDec_at dA168_cX12_read 20 rfl
theorem dX12_read_44 : decode cX12_read 44 = .ok (.getfield 119, 3) := kDec_at dA168_cX12_read 21 rfl
theorem dX12_read_47 : decode cX12_read 47 = .ok (.iload 4, 2) := kDec_at dA168_cX12_read 22 rfl
theorem dX12_read_49 : decode cX12_read 49 = .ok (.ifCond .ne 8, 3) := kDec_at dA168_cX12_read 23 rfl
set_option maxRecDepth 20000 in
theorem gX12_readAt_all : wsX12_readAt.all goodWord = true := by
  unfold wsX12_readAt
  exact good_c (by decide +kernel) (good_a (good_a (good_a (good_a ((by decide +kernel)) gX12_clsall) gX12_byteAt_all) gX12_goesOn_all) gX12_isLetter_all)
set_option maxRecDepth 20000 in
theorem ggX12_read_X12_readAt : GoodIn wsX12_read wsX12_readAt := goodIn_sub (fun _ h => List.mem_cons_of_mem _ (List.mem_append_right _ (h))) gX12_readAt_all
set_option maxRecDepth 20000 in
theorem gX12_read_X12_readAt : GoodIn wsX12_read (wsV RX12 122 RX12 yX12_readAt wsX12_readAt) := goodIn_app (goodIn_r _ [7, 8, 9, 10] rfl (by decide +kernel)) ggX12_read_X12_readAt
set_option maxRecDepth 100000 in
theorem dA169_cX12_read : kDec cX12_read [(57, .aload_n 0, 1), (58, .getfield 105, 3), (61, .iastore, 1), (62, .aload_n 0, 1), (63, .dup, 1), (64, .getfield 119, 3), (67, .iconst 1, 1), (68, .iadd, 1), (69, .putfield 119, 3), (72, .iload_n 3, 1), (73, .iload 4, 2), (75, .ifCond .ne 7, 3), (82, .iload 4, 2), (84, .iadd, 1), (85, .istore_n 3, 1), (86, .goto (-79), 3), (28, .iload_n 2, 1), (29, .ifCond .ne 10, 3), (32, .aload_n 0, 1), (33, .iload_n 3, 1), (34, .putfield 102, 3), (37, .iconst 0, 1), (38, .ireturn, 1)] = true := by decide +kernel
theorem dX12_read_57 : decode cX12_read 57 = .ok (.aload_n 0, 1) := kDec_at dA169_cX12_read 0 rfl
theorem dX12_read_58 : decode cX12_read 58 = .ok (.getfield 105, 3) := kDec_at dA169_cX12_read 1 rfl
theorem dX12_read_61 : decode cX12_read 61 = .ok (.iastore, 1) := kDec_at dA169_cX12_read 2 rfl
theorem dX12_read_62 : decode cX12_read 62 = .ok (.aload_n 0, 1) := kDec_at dA169_cX12_read 3 rfl
theorem dX12_read_63 : decode cX12_read 63 = .ok (.dup, 1) := kDec_at dA169_cX12_read 4 rfl
theorem dX12_read_64 : decode cX12_read 64 = .ok (.getfield 119, 3) := kDec_at dA169_cX12_read 5 rfl
theorem dX12_read_67 : decode cX12_read 67 = .ok (.iconst 1, 1) := kDec_at dA169_cX12_read 6 rfl
theorem dX12_read_68 : decode cX12_read 68 = .ok (.iadd, 1) := kDec_at dA169_cX12_read 7 rfl
theorem dX12_read_69 : decode cX12_read 69 = .ok (.putfield 119, 3) := kDec_at dA169_cX12_read 8 rfl
theorem dX12_read_72 : decode cX12_read 72 = .ok (.iload_n 3, 1) := kDec_at dA169_cX12_read 9 rfl
theorem dX12_read_73 : decode cX12_read 73 = .ok (.iload 4, 2) := kDec_at dA169_cX12_read 10 rfl
theorem dX12_read_75 : decode cX12_read 75 = .ok (.ifCond .ne 7, 3) := kDec_at dA169_cX12_read 11 rfl
theorem dX12_read_82 : decode cX12_read 82 = .ok (.iload 4, 2) := kDec_at dA169_cX12_read 12 rfl
theorem dX12_read_84 : decode cX12_read 84 = .ok (.iadd, 1) := kDec_at dA169_cX12_read 13 rfl
theorem dX12_read_85 : decode cX12_read 85 = .ok (.istore_n 3, 1) := kDec_at dA169_cX12_read 14 rfl
theorem dX12_read_86 : decode cX12_read 86 = .ok (.goto (-79), 3) := kDec_at dA169_cX12_read 15 rfl
theorem dX12_read_28 : decode cX12_read 28 = .ok (.iload_n 2, 1) := kDec_at dA169_cX12_read 16 rfl
theorem dX12_read_29 : decode cX12_read 29 = .ok (.ifCond .ne 10, 3) := kDec_at dA169_cX12_read 17 rfl
theorem dX12_read_32 : decode cX12_read 32 = .ok (.aload_n 0, 1) := kDec_at dA169_cX12_read 18 rfl
theorem dX12_read_33 : decode cX12_read 33 = .ok (.iload_n 3, 1) := kDec_at dA169_cX12_read 19 rfl
theorem dX12_read_34 : decode cX12_read 34 = .ok (.putfield 102, 3) := kDec_at dA169_cX12_read 20 rfl
theorem dX12_read_37 : decode cX12_read 37 = .ok (.iconst 0, 1) := kDec_at dA169_cX12_read 21 rfl
theorem dX12_read_38 : decode cX12_read 38 = .ok (.ireturn, 1) := kDec_at dA169_cX12_read 22 rfl
set_option maxRecDepth 100000 in
theorem dA170_cX11_tapeHoldsBytes : kDec cX11_tapeHoldsBytes [(0, .iconst 0, 1), (1, .istore_n 1, 1), (2, .iload_n 1, 1), (3, .aload_n 0, 1), (4, .getfield 30, 3), (7, .invokevirtual 94, 3), (10, .if_icmp .ge 36, 3), (46, .iconst 1, 1), (47, .ireturn, 1), (13, .aload_n 0, 1), (14, .getfield 30, 3), (17, .iload_n 1, 1), (18, .invokevirtual 167, 3), (21, .istore_n 2, 1), (22, .iload_n 2, 1), (23, .ifCond .lt 10, 3), (33, .aload_n 0, 1), (34, .iload_n 1, 1), (35, .putfield 90, 3), (38, .iconst 0, 1), (39, .ireturn, 1), (26, .iload_n 2, 1), (27, .sipush 256, 3), (30, .if_icmp .lt 10, 3)] = true := by decide +kernel
theorem dX11_tapeHoldsBytes_0 : decode cX11_tapeHoldsBytes 0 = .ok (.iconst 0, 1) := kDec_at dA170_cX11_tapeHoldsBytes 0 rfl
theorem dX11_tapeHoldsBytes_1 : decode cX11_tapeHoldsBytes 1 = .ok (.istore_n 1, 1) := kDec_at dA170_cX11_tapeHoldsBytes 1 rfl
theorem dX11_tapeHoldsBytes_2 : decode cX11_tapeHoldsBytes 2 = .ok (.iload_n 1, 1) := kDec_at dA170_cX11_tapeHoldsBytes 2 rfl
theorem dX11_tapeHoldsBytes_3 : decode cX11_tapeHoldsBytes 3 = .ok (.aload_n 0, 1) := kDec_at dA170_cX11_tapeHoldsBytes 3 rfl
theorem dX11_tapeHoldsBytes_4 : decode cX11_tapeHoldsBytes 4 = .ok (.getfield 30, 3) := kDec_at dA170_cX11_tapeHoldsBytes 4 rfl
theorem dX11_tapeHoldsBytes_7 : decode cX11_tapeHoldsBytes 7 = .ok (.invokevirtual 94, 3) := kDec_at dA170_cX11_tapeHoldsBytes 5 rfl
theorem dX11_tapeHoldsBytes_10 : decode cX11_tapeHoldsBytes 10 = .ok (.if_icmp .ge 36, 3) := kDec_at dA170_cX11_tapeHoldsBytes 6 rfl
theorem dX11_tapeHoldsBytes_46 : decode cX11_tapeHoldsBytes 46 = .ok (.iconst 1, 1) := kDec_at dA170_cX11_tapeHoldsBytes 7 rfl
theorem dX11_tapeHoldsBytes_47 : decode cX11_tapeHoldsBytes 47 = .ok (.ireturn, 1) := kDec_at dA170_cX11_tapeHoldsBytes 8 rfl
theorem dX11_tapeHoldsBytes_13 : decode cX11_tapeHoldsBytes 13 = .ok (.aload_n 0, 1) := kDec_at dA170_cX11_tapeHoldsBytes 9 rfl
theorem dX11_tapeHoldsBytes_14 : decode cX11_tapeHoldsBytes 14 = .ok (.getfield 30, 3) := kDec_at dA170_cX11_tapeHoldsBytes 10 rfl
theorem dX11_tapeHoldsBytes_17 : decode cX11_tapeHoldsBytes 17 = .ok (.iload_n 1, 1) := kDec_at dA170_cX11_tapeHoldsBytes 11 rfl
theorem dX11_tapeHoldsBytes_18 : decode cX11_tapeHoldsBytes 18 = .ok (.invokevirtual 167, 3) := kDec_at dA170_cX11_tapeHoldsBytes 12 rfl
theorem dX11_tapeHoldsBytes_21 : decode cX11_tapeHoldsBytes 21 = .ok (.istore_n 2, 1) := kDec_at dA170_cX11_tapeHoldsBytes 13 rfl
theorem dX11_tapeHoldsBytes_22 : decode cX11_tapeHoldsBytes 22 = .ok (.iload_n 2, 1) := kDec_at dA170_cX11_tapeHoldsBytes 14 rfl
theorem dX11_tapeHoldsBytes_23 : decode cX11_tapeHoldsBytes 23 = .ok (.ifCond .lt 10, 3) := kDec_at dA170_cX11_tapeHoldsBytes 15 rfl
theorem dX11_tapeHoldsBytes_33 : decode cX11_tapeHoldsBytes 33 = .ok (.aload_n 0, 1) := kDec_at dA170_cX11_tapeHoldsBytes 16 rfl
theorem dX11_tapeHoldsBytes_34 : decode cX11_tapeHoldsBytes 34 = .ok (.iload_n 1, 1) := kDec_at dA170_cX11_tapeHoldsBytes 17 rfl
theorem dX11_tapeHoldsBytes_35 : decode cX11_tapeHoldsBytes 35 = .ok (.putfield 90, 3) := kDec_at dA170_cX11_tapeHoldsBytes 18 rfl
theorem dX11_tapeHoldsBytes_38 : decode cX11_tapeHoldsBytes 38 = .ok (.iconst 0, 1) := kDec_at dA170_cX11_tapeHoldsBytes 19 rfl
theorem dX11_tapeHoldsBytes_39 : decode cX11_tapeHoldsBytes 39 = .ok (.ireturn, 1) := kDec_at dA170_cX11_tapeHoldsBytes 20 rfl
theorem dX11_tapeHoldsBytes_26 : decode cX11_tapeHoldsBytes 26 = .ok (.iload_n 2, 1) := kDec_at dA170_cX11_tapeHoldsBytes 21 rfl
theorem dX11_tapeHoldsBytes_27 : decode cX11_tapeHoldsBytes 27 = .ok (.sipush 256, 3) := kDec_at dA170_cX11_tapeHoldsBytes 22 rfl
theorem dX11_tapeHoldsBytes_30 : decode cX11_tapeHoldsBytes 30 = .ok (.if_icmp .lt 10, 3) := kDec_at dA170_cX11_tapeHoldsBytes 23 rfl
set_option maxRecDepth 20000 in
theorem ggX11_tapeHoldsBytes_X5_length : GoodIn wsX11_tapeHoldsBytes wsX5_length := goodIn_sub (fun _ h => List.mem_cons_of_mem _ (List.mem_append_left _ (List.mem_append_right _ (h)))) gX5_length_all
set_option maxRecDepth 20000 in
theorem gX11_tapeHoldsBytes_X5_length : GoodIn wsX11_tapeHoldsBytes (wsV RX11 94 RX5 yX5_length wsX5_length) := goodIn_app (goodIn_r _ [3, 4, 5, 6] rfl (by decide +kernel)) ggX11_tapeHoldsBytes_X5_length
set_option maxRecDepth 20000 in
theorem ggX11_tapeHoldsBytes_X5_get : GoodIn wsX11_tapeHoldsBytes wsX5_get := goodIn_sub (fun _ h => List.mem_cons_of_mem _ (List.mem_append_right _ (h))) gX5_get_all
set_option maxRecDepth 20000 in
theorem gX11_tapeHoldsBytes_X5_get : GoodIn wsX11_tapeHoldsBytes (wsV RX11 167 RX5 yX5_get wsX5_get) := goodIn_app (goodIn_r _ [7, 8, 9, 6] rfl (by decide +kernel)) ggX11_tapeHoldsBytes_X5_get
set_option maxRecDepth 100000 in
theorem dA171_cX11_tapeHoldsBytes : kDec cX11_tapeHoldsBytes [(40, .iinc 1 1, 3), (43, .goto (-41), 3)] = true := by decide +kernel
theorem dX11_tapeHoldsBytes_40 : decode cX11_tapeHoldsBytes 40 = .ok (.iinc 1 1, 3) := kDec_at dA171_cX11_tapeHoldsBytes 0 rfl
theorem dX11_tapeHoldsBytes_43 : decode cX11_tapeHoldsBytes 43 = .ok (.goto (-41), 3) := kDec_at dA171_cX11_tapeHoldsBytes 1 rfl

end

/-! 59e.dec -/
section
set_option maxHeartbeats 40000000 in
set_option maxRecDepth 100000 in
theorem f_X12_read (l : Launch) (dC : Nat → ClassId) (dI : Nat → Nat → Nat) (cI cS : ClassId) (sz : Nat) (oM : Nat) (mT : Nat) (mS : Nat) (mX : Nat) (mL : Nat) (mB : Nat) (mD : Nat) (m1 : Nat) (m2 : Nat) (mR : Nat) (x1 : Nat) (x2 : Nat) (x3 : Nat) (mH : Nat) (mY : Nat) (mE : Nat) (mW : Nat) (mO : Nat) (y1 : Nat) (y2 : Nat) (y3 : Nat) (y4 : Nat) (mZ : Nat) (zt : Int32) (zp : Int32) (zf : Int32) (zh : Int32) (zr : Int32) (zc : Int32) (zy : Int32) (za : Int32) (zb : Int32) (zs : Int32) (zq : Int32) (zw : Int32) (ze : Int32) (zn : Int32) (zm : Int32) (zl : Int32) (zk : Int32) (zd : Int32) (eY : Nat → Int32) (eL : Nat → Int32) (eE : Nat → Int32) (cd : Int32) (ro : Int32) (g_zt : 0 ≤ zt.toInt ∧ zt.toInt ≤ 900) (g_zp : 0 ≤ zp.toInt ∧ zp.toInt ≤ 20) (g_zf : 0 ≤ zf.toInt ∧ zf.toInt ≤ 19) (g_zh : 0 ≤ zh.toInt ∧ zh.toInt ≤ 6) (g_zr : 0 ≤ zr.toInt ∧ zr.toInt ≤ 258) (g_zc : 0 ≤ zc.toInt ∧ zc.toInt ≤ 300) (g_zy : 0 ≤ zy.toInt ∧ zy.toInt ≤ 65536) (g_za : 0 ≤ za.toInt ∧ za.toInt ≤ 5) (g_zb : 0 ≤ zb.toInt ∧ zb.toInt ≤ 5) (g_zs : 0 ≤ zs.toInt ∧ zs.toInt ≤ 2000000) (g_zq : -1 ≤ zq.toInt ∧ zq.toInt ≤ 2000000) (g_zn : 0 ≤ zn.toInt ∧ zn.toInt ≤ 2600) (g_zm : 0 ≤ zm.toInt ∧ zm.toInt ≤ 2600) (g_zk : 0 ≤ zk.toInt ∧ zk.toInt ≤ 300) (g_eY : rg 0 255 eY) (g_eL : rg (-1) 65535 eL) (g_eE : rg 0 65535 eE) (g_cd : 0 ≤ cd.toInt ∧ cd.toInt ≤ 5) (hro : ro.toInt = 0) : kMi l yX12_read wsX12_read ({ frames := 2, cells := 0, slots := 0, locals := 47 } : Room) [.ref oM, .int cd, .int ro] sz (dC, dI) vwCl [(cI, .int), (cS, .short)] [(oM, .inr (12, [.ref mT, .int zt, .ref mS, .ref mX, .int zp, .int zf, .ref mL, .ref mB, .ref mD, .ref m1, .ref m2, .int zh, .ref mR, .int zr, .ref x1, .ref x2, .ref x3, .int zc, .ref mH, .int zy, .int za, .int zb, .int zs, .int zq, .int zw, .int ze, .ref mY, .int zn, .ref mE, .int zm, .int zl, .ref mW, .int zk, .ref mO, .int zd, .ref y1, .ref y2, .ref y3, .ref y4, .ref mZ])), (mY, .inl (cI, 2600, .inl eY)), (mL, .inl (cI, 512, .inl eL)), (mE, .inl (cI, 2600, .inl eE))] (fun _ => True) 0 0 (fun (A : Nat → Prop) (r : Int32) (hh9 : Heap) => ∀ PZ9 : Prop, (∀ (zd' : Int32) (zm' : Int32) (zl' : Int32) (eE' : Nat → Int32), kPD (dC, dI) vwCl A [(oM, .inr (12, [.ref mT, .int zt, .ref mS, .ref mX, .int zp, .int zf, .ref mL, .ref mB, .ref mD, .ref m1, .ref m2, .int zh, .ref mR, .int zr, .ref x1, .ref x2, .ref x3, .int zc, .ref mH, .int zy, .int za, .int zb, .int zs, .int zq, .int zw, .int ze, .ref mY, .int zn, .ref mE, .int zm', .int zl', .ref mW, .int zk, .ref mO, .int zd', .ref y1, .ref y2, .ref y3, .ref y4, .ref mZ])), (mY, .inl (cI, 2600, .inl eY)), (mL, .inl (cI, 512, .inl eL)), (mE, .inl (cI, 2600, .inl eE'))] hh9 → (0 ≤ zm'.toInt ∧ zm'.toInt ≤ 2600) → (rg 0 65535 eE') → (0 ≤ r.toInt ∧ r.toInt ≤ 1) → (zm'.toInt ≤ zn.toInt) → (F_rr r zm' zl' eE' (dl cd (fun k => eL k) (fun k => eL (256 + k)) eY zn.toInt) (dx cd (fun k => eL k) (fun k => eL (256 + k)) eY zn.toInt) zn.toInt) → PZ9) → PZ9) := by
  refine kMi_of (cc := cX12_read) (maxL := 5) (ret := (some .boolean)) (lv := [(0, .ref oM), (1, .int cd), (2, .int ro)]) (by decide +kernel) rfl rfl (Nat.le_of_ble_eq_true rfl) ?_
  intro p e s m below meth c A QQ ls hx hb hr hts hml hown hlocks hA hQQ hK hX hP hD hS hl
  have hown : s.vm.findClass RX12 = some m.cls := hown
  have hcf := k_cf hx hb hml hown hts
  have in_X12 : ∀ w ∈ wsX120, w ∈ wsX12_read := fun _ h => List.mem_cons_of_mem _ (List.mem_append_left _ (List.mem_append_right _ (h)))
  replace g_zt := hid g_zt
  replace g_zp := hid g_zp
  replace g_zf := hid g_zf
  replace g_zh := hid g_zh
  replace g_zr := hid g_zr
  replace g_zc := hid g_zc
  replace g_zy := hid g_zy
  replace g_za := hid g_za
  replace g_zb := hid g_zb
  replace g_zs := hid g_zs
  replace g_zq := hid g_zq
  replace g_zm := hid g_zm
  replace g_zk := hid g_zk
  refine lv_aload_n hx hb dX12_read_0 rfl (lv_at hl 0 rfl) ?_
  refine lv_iconst (v := 0) hx hb dX12_read_1 (by decide) ?_
  refine va_put (D := (dC, dI)) (ci := 12) (v := .int 0) (ty := .int) (C := RX12) (T := TX12) (N := 40) hx hb hts in_X12 tyX12 tyX12_ok nmX12 hown hK hP hD hS 0 rfl rfl 29 (Nat.le_of_ble_eq_true rfl) (hts (.fieldLink RX12 119 "TextMenderModel" "cameMany" "I") (List.mem_of_getElem? (i := 1) rfl)) (fun _ h9 => h9) rfl (tyX12_ok 29 (Nat.le_of_ble_eq_true rfl)) rfl rfl (Nat.le_of_ble_eq_true rfl) dX12_read_2 (kW (wn := [(oM, .inr (12, [.ref mT, .int zt, .ref mS, .ref mX, .int zp, .int zf, .ref mL, .ref mB, .ref mD, .ref m1, .ref m2, .int zh, .ref mR, .int zr, .ref x1, .ref x2, .ref x3, .int zc, .ref mH, .int zy, .int za, .int zb, .int zs, .int zq, .int zw, .int ze, .ref mY, .int zn, .ref mE, .int 0, .int zl, .ref mW, .int zk, .ref mO, .int zd, .ref y1, .ref y2, .ref y3, .ref y4, .ref mZ])), (mY, .inl (cI, 2600, .inl eY)), (mL, .inl (cI, 512, .inl eL)), (mE, .inl (cI, 2600, .inl eE))]) rfl (fun H locs hPn hDn hSn => ?_))
  clear hP hD hS
  have hP := hPn
  have hD := hDn
  have hS := hSn
  clear hPn hDn hSn
  refine lv_iconst (v := 0) hx hb dX12_read_5 (by decide) ?_
  refine lv_istore_n (lv' := [(3, .int 0), (0, .ref oM), (1, .int cd), (2, .int ro)]) hx hb dX12_read_6 rfl hl (by decide) rfl (fun ls hl => ?_)
  have LOOP_7 : ∀ (k_7 : Nat) (p_ : Int32) (zma : Int32) (zda : Int32) (zla : Int32) (eEa : Nat → Int32) (H : Heap) (locs : List Loc) (ls : Array Slot), MSd (2608 - p_.toInt : Int) k_7 → (0 ≤ p_.toInt ∧ p_.toInt ≤ zn.toInt) → (0 ≤ zma.toInt ∧ zma.toInt ≤ p_.toInt) → (rg 0 65535 eEa) → (RR p_ zma eEa (dl cd (fun k => eL k) (fun k => eL (256 + k)) eY zn.toInt) (dx cd (fun k => eL k) (fun k => eL (256 + k)) eY zn.toInt)) → va_P (dC, dI) vwCl [(oM, .inr (12, [.ref mT, .int zt, .ref mS, .ref mX, .int zp, .int zf, .ref mL, .ref mB, .ref mD, .ref m1, .ref m2, .int zh, .ref mR, .int zr, .ref x1, .ref x2, .ref x3, .int zc, .ref mH, .int zy, .int za, .int zb, .int zs, .int zq, .int zw, .int ze, .ref mY, .int zn, .ref mE, .int zma, .int zla, .ref mW, .int zk, .ref mO, .int zda, .ref y1, .ref y2, .ref y3, .ref y4, .ref mZ])), (mY, .inl (cI, 2600, .inl eY)), (mL, .inl (cI, 512, .inl eL)), (mE, .inl (cI, 2600, .inl eEa))] H → va_D A [(oM, .inr (12, [.ref mT, .int zt, .ref mS, .ref mX, .int zp, .int zf, .ref mL, .ref mB, .ref mD, .ref m1, .ref m2, .int zh, .ref mR, .int zr, .ref x1, .ref x2, .ref x3, .int zc, .ref mH, .int zy, .int za, .int zb, .int zs, .int zq, .int zw, .int ze, .ref mY, .int zn, .ref mE, .int zma, .int zla, .ref mW, .int zk, .ref mO, .int zda, .ref y1, .ref y2, .ref y3, .ref y4, .ref mZ])), (mY, .inl (cI, 2600, .inl eY)), (mL, .inl (cI, 512, .inl eL)), (mE, .inl (cI, 2600, .inl eEa))] → va_S A s.heap H locs → lv_has ls 5 [(3, .int p_), (0, .ref oM), (1, .int cd), (2, .int ro)] → W p l e (headSpec wsX12_read ({ frames := 2, cells := 0, slots := 0, locals := 47 } : Room)).room s m ([.ref oM, .int cd, .int ro] : List Value).toArray below meth c H locs 0 0 (MQ below QQ ([.ref oM, .int cd, .int ro] : List Value).toArray s 0 0 A) (F0 m 7 ls []) := by
    clear hP hD hS hl
    intro k_7
    induction k_7 with
    | zero =>
      intro p_ zma zda zla eEa H locs ls hm_7 g_p_ g_zma g_eEa hrr hP hD hS hl
      exact ms_0 hm_7
    | succ k_7 ih_7 =>
      intro p_ zma zda zla eEa H locs ls hm_7 g_p_ g_zma g_eEa hrr hP hD hS hl
      refine lv_iload_n hx hb dX12_read_7 rfl (lv_at hl 0 rfl) ?_
      refine lv_aload_n hx hb dX12_read_8 rfl (lv_at hl 1 rfl) ?_
      refine va_get (D := (dC, dI)) (ci := 12) (v := .int zn) (C := RX12) (T := TX12) (N := 40) hx hb hts in_X12 hown hK hP 0 rfl rfl 27 (Nat.le_of_ble_eq_true rfl) (hts (.fieldLink RX12 91 "TextMenderModel" "byteMany" "I") (List.mem_of_getElem? (i := 2) rfl)) (fun _ h9 => h9) rfl dX12_read_9 ?_
      refine lv_icmp_ge (tgt := 89) hx hb dX12_read_12 (by decide) (fun c_1 => ?_) (fun c_1 => ?_)
      · have tc_1 : zn.toInt ≤ p_.toInt := v_le c_1
        refine lv_iconst (v := 1) hx hb dX12_read_89 (by decide) ?_
        exact kl_z (v := 1) hQQ hx hb hr hlocks hS dX12_read_90 (rfl) (fun PZ9 kZ9 => kZ9 zda zma zla eEa (⟨hP, hD⟩) (by omega) (g_eEa) (by decide) (by show zma.toInt ≤ zn.toInt; omega) (RR_end hrr (by omega)))
      · have tc_1 : p_.toInt < zn.toInt := v_nle c_1
        refine lv_aload_n hx hb dX12_read_15 rfl (lv_at hl 1 rfl) ?_
        refine lv_iload_n hx hb dX12_read_16 rfl (lv_at hl 2 rfl) ?_
        refine lv_iload_n hx hb dX12_read_17 rfl (lv_at hl 0 rfl) ?_
        refine kV_i (rest := []) (q0 := 0) (ci := 12) hcf (f_X12_readAt l dC dI cI cS H.size oM mT mS mX mL mB mD m1 m2 mR x1 x2 x3 mH mY mE mW mO y1 y2 y3 y4 mZ zt zp zf zh zr zc zy za zb zs zq zw ze zn zma zla zk zda eY eL cd p_ (g_zt) (g_zp) (g_zf) (g_zh) (g_zr) (g_zc) (g_zy) (g_za) (g_zb) (g_zs) (g_zq) (g_zn) (by omega) (g_zk) (g_eY) (g_eL) (g_cd) (by omega) (by omega)) kc_X12_readAt gX12_read_X12_readAt rfl rfl rfl ⟨Nat.le_of_ble_eq_true rfl, Nat.le_of_ble_eq_true rfl⟩ kX_t hK hP hD hS hA [0, 1, 2] [3] rfl (by decide +kernel) rfl rfl rfl hl rfl (Nat.le_of_ble_eq_true rfl) dX12_read_18 ⟨Nat.le_of_ble_eq_true rfl, Nat.le_of_ble_eq_true rfl⟩ (fun r_2 H locs hB hJ hSn => ?_)
        refine hB _ (fun zd_2 hPD9 hf2_0 hf2_1 hf2_2 => ?_)
        clear hB
        obtain ⟨hPn, hDn⟩ := hJ _ hPD9.1 hPD9.2 [(mE, .inl (cI, 2600, .inl eEa)), (oM, .inr (12, [.ref mT, .int zt, .ref mS, .ref mX, .int zp, .int zf, .ref mL, .ref mB, .ref mD, .ref m1, .ref m2, .int zh, .ref mR, .int zr, .ref x1, .ref x2, .ref x3, .int zc, .ref mH, .int zy, .int za, .int zb, .int zs, .int zq, .int zw, .int ze, .ref mY, .int zn, .ref mE, .int zma, .int zla, .ref mW, .int zk, .ref mO, .int zd_2, .ref y1, .ref y2, .ref y3, .ref y4, .ref mZ])), (mY, .inl (cI, 2600, .inl eY)), (mL, .inl (cI, 512, .inl eL))] rfl
        clear hP hD hS hJ hPD9
        have hP := hPn
        have hD := hDn
        have hS := hSn
        clear hPn hDn hSn
        refine lv_istore (lv' := [(4, .int r_2), (3, .int p_), (0, .ref oM), (1, .int cd), (2, .int ro)]) hx hb dX12_read_21 hl (by decide) rfl (fun ls hl => ?_)
        refine lv_iload hx hb dX12_read_23 (lv_at hl 0 rfl) ?_
        refine lv_if_ne (tgt := 39) hx hb dX12_read_25 (by decide) (fun c_3 => ?_) (fun c_3 => ?_)
        · have tc_3 : ¬ r_2.toInt = 0 := v_ne c_3
          have cp9 := v_clamp (x := p_) (by omega)
          have hu9 := (F_ra_1 hf2_2 (by omega)).2.2.2
          refine lv_aload_n hx hb dX12_read_39 rfl (lv_at hl 2 rfl) ?_
          refine va_get (D := (dC, dI)) (ci := 12) (v := .ref mE) (C := RX12) (T := TX12) (N := 40) hx hb hts in_X12 hown hK hP 1 rfl rfl 28 (Nat.le_of_ble_eq_true rfl) (hts (.fieldLink RX12 61 "TextMenderModel" "came" "[I") (List.mem_of_getElem? (i := 4) rfl)) (fun _ h9 => h9) rfl dX12_read_40 ?_
          refine lv_aload_n hx hb dX12_read_43 rfl (lv_at hl 2 rfl) ?_
          refine va_get (D := (dC, dI)) (ci := 12) (v := .int zma) (C := RX12) (T := TX12) (N := 40) hx hb hts in_X12 hown hK hP 1 rfl rfl 29 (Nat.le_of_ble_eq_true rfl) (hts (.fieldLink RX12 119 "TextMenderModel" "cameMany" "I") (List.mem_of_getElem? (i := 1) rfl)) (fun _ h9 => h9) rfl dX12_read_44 ?_
          refine lv_iload hx hb dX12_read_47 (lv_at hl 0 rfl) ?_
          refine lv_if_ne (tgt := 57) hx hb dX12_read_49 (by decide) (fun c_4 => ?_) (fun c_4 => by exfalso; have tc_4 : r_2.toInt = 0 := v_eq c_4; omega)
          have tc_4 : ¬ r_2.toInt = 0 := v_ne c_4
          refine lv_aload_n hx hb dX12_read_57 rfl (lv_at hl 2 rfl) ?_
          refine va_get (D := (dC, dI)) (ci := 12) (v := .int zd_2) (C := RX12) (T := TX12) (N := 40) hx hb hts in_X12 hown hK hP 1 rfl rfl 34 (Nat.le_of_ble_eq_true rfl) (hts (.fieldLink RX12 105 "TextMenderModel" "readLetter" "I") (List.mem_of_getElem? (i := 6) rfl)) (fun _ h9 => h9) rfl dX12_read_58 ?_
          obtain ⟨f_5, ef_5⟩ : ∃ g : Nat → Int32, g = upd eEa (zma : Int32).toNatClampNeg zd_2 := ⟨_, rfl⟩
          refine va_iast hx hb hK hP hD hS 0 0 rfl rfl (v_in (by omega)) dX12_read_61 (kWf (g := f_5) (F := fun f_5 => [(mE, .inl (cI, 2600, .inl f_5)), (oM, .inr (12, [.ref mT, .int zt, .ref mS, .ref mX, .int zp, .int zf, .ref mL, .ref mB, .ref mD, .ref m1, .ref m2, .int zh, .ref mR, .int zr, .ref x1, .ref x2, .ref x3, .int zc, .ref mH, .int zy, .int za, .int zb, .int zs, .int zq, .int zw, .int ze, .ref mY, .int zn, .ref mE, .int zma, .int zla, .ref mW, .int zk, .ref mO, .int zd_2, .ref y1, .ref y2, .ref y3, .ref y4, .ref mZ])), (mY, .inl (cI, 2600, .inl eY)), (mL, .inl (cI, 512, .inl eL))]) ef_5 rfl (fun H locs hPn hDn hSn => ?_))
          clear hP hD hS
          have hP := hPn
          have hD := hDn
          have hS := hSn
          clear hPn hDn hSn
          have g_f5 : rg 0 65535 f_5 := rg_upd ef_5 g_eEa (by omega)
          refine lv_aload_n hx hb dX12_read_62 rfl (lv_at hl 2 rfl) ?_
          refine lv_dup hx hb dX12_read_63 rfl ?_
          refine va_get (D := (dC, dI)) (ci := 12) (v := .int zma) (C := RX12) (T := TX12) (N := 40) hx hb hts in_X12 hown hK hP 1 rfl rfl 29 (Nat.le_of_ble_eq_true rfl) (hts (.fieldLink RX12 119 "TextMenderModel" "cameMany" "I") (List.mem_of_getElem? (i := 1) rfl)) (fun _ h9 => h9) rfl dX12_read_64 ?_
          refine lv_iconst (v := 1) hx hb dX12_read_67 (by decide) ?_
          refine lv_iadd hx hb dX12_read_68 ?_
          refine lv_topi (fun x_6 ex_6 => ?_)
          have tx_6 : x_6.toInt = zma.toInt + 1 := v_add ex_6 (by show -2147483648 ≤ zma.toInt + 1; omega) (by show zma.toInt + 1 < 2147483648; omega)
          refine va_put (D := (dC, dI)) (ci := 12) (v := .int x_6) (ty := .int) (C := RX12) (T := TX12) (N := 40) hx hb hts in_X12 tyX12 tyX12_ok nmX12 hown hK hP hD hS 1 rfl rfl 29 (Nat.le_of_ble_eq_true rfl) (hts (.fieldLink RX12 119 "TextMenderModel" "cameMany" "I") (List.mem_of_getElem? (i := 1) rfl)) (fun _ h9 => h9) rfl (tyX12_ok 29 (Nat.le_of_ble_eq_true rfl)) rfl rfl (Nat.le_of_ble_eq_true rfl) dX12_read_69 (kW (wn := [(mE, .inl (cI, 2600, .inl f_5)), (oM, .inr (12, [.ref mT, .int zt, .ref mS, .ref mX, .int zp, .int zf, .ref mL, .ref mB, .ref mD, .ref m1, .ref m2, .int zh, .ref mR, .int zr, .ref x1, .ref x2, .ref x3, .int zc, .ref mH, .int zy, .int za, .int zb, .int zs, .int zq, .int zw, .int ze, .ref mY, .int zn, .ref mE, .int x_6, .int zla, .ref mW, .int zk, .ref mO, .int zd_2, .ref y1, .ref y2, .ref y3, .ref y4, .ref mZ])), (mY, .inl (cI, 2600, .inl eY)), (mL, .inl (cI, 512, .inl eL))]) rfl (fun H locs hPn hDn hSn => ?_))
          clear hP hD hS
          have hP := hPn
          have hD := hDn
          have hS := hSn
          clear hPn hDn hSn
          refine lv_iload_n hx hb dX12_read_72 rfl (lv_at hl 1 rfl) ?_
          refine lv_iload hx hb dX12_read_73 (lv_at hl 0 rfl) ?_
          refine lv_if_ne (tgt := 82) hx hb dX12_read_75 (by decide) (fun c_7 => ?_) (fun c_7 => by exfalso; have tc_7 : r_2.toInt = 0 := v_eq c_7; omega)
          have tc_7 : ¬ r_2.toInt = 0 := v_ne c_7
          refine lv_iload hx hb dX12_read_82 (lv_at hl 0 rfl) ?_
          refine lv_iadd hx hb dX12_read_84 ?_
          refine lv_topi (fun x_8 ex_8 => ?_)
          have tx_8 : x_8.toInt = p_.toInt + r_2.toInt := v_add ex_8 (by show -2147483648 ≤ p_.toInt + r_2.toInt; omega) (by show p_.toInt + r_2.toInt < 2147483648; omega)
          refine lv_istore_n (lv' := [(3, .int x_8), (4, .int r_2), (0, .ref oM), (1, .int cd), (2, .int ro)]) hx hb dX12_read_85 rfl hl (by decide) rfl (fun ls hl => ?_)
          refine lv_goto (tgt := 7) hx hb dX12_read_86 (by decide) ?_
          exact ih_7 x_8 x_6 zd_2 zla f_5 _ _ _ (ms_lt hm_7 (by show ((2608 - x_8.toInt : Int)) < 2608 - p_.toInt; omega) (by show (0 : Int) < 2608 - p_.toInt; omega)) (by show 0 ≤ x_8.toInt ∧ x_8.toInt ≤ zn.toInt; omega) (by show 0 ≤ x_6.toInt ∧ x_6.toInt ≤ x_8.toInt; omega) (g_f5) (RR_s hrr rfl (F_ra_1 hf2_2 (by omega)).2.1 (F_ra_1 hf2_2 (by omega)).2.2.1 ef_5 (by omega) (by have u9 := (F_ra_1 hf2_2 (by omega)).1; omega)) (hP.sub [1, 2, 3, 0] rfl) (hD.sub [1, 2, 3, 0] (by decide +kernel) rfl) hS (lv_sub hl [0, 2, 3, 4] rfl)
        · have tc_3 : r_2.toInt = 0 := v_eq c_3
          refine lv_iload_n hx hb dX12_read_28 rfl (lv_at hl 4 rfl) ?_
          refine lv_if_ne (tgt := 39) hx hb dX12_read_29 (by decide) (fun c_9 => by exfalso; have tc_9 : ¬ ro.toInt = 0 := v_ne c_9; omega) (fun c_9 => ?_)
          have tc_9 : ro.toInt = 0 := v_eq c_9
          refine lv_aload_n hx hb dX12_read_32 rfl (lv_at hl 2 rfl) ?_
          refine lv_iload_n hx hb dX12_read_33 rfl (lv_at hl 1 rfl) ?_
          refine va_put (D := (dC, dI)) (ci := 12) (v := .int p_) (ty := .int) (C := RX12) (T := TX12) (N := 40) hx hb hts in_X12 tyX12 tyX12_ok nmX12 hown hK hP hD hS 1 rfl rfl 30 (Nat.le_of_ble_eq_true rfl) (hts (.fieldLink RX12 102 "TextMenderModel" "faultAt" "I") (List.mem_of_getElem? (i := 3) rfl)) (fun _ h9 => h9) rfl (tyX12_ok 30 (Nat.le_of_ble_eq_true rfl)) rfl rfl (Nat.le_of_ble_eq_true rfl) dX12_read_34 (kW (wn := [(mE, .inl (cI, 2600, .inl eEa)), (oM, .inr (12, [.ref mT, .int zt, .ref mS, .ref mX, .int zp, .int zf, .ref mL, .ref mB, .ref mD, .ref m1, .ref m2, .int zh, .ref mR, .int zr, .ref x1, .ref x2, .ref x3, .int zc, .ref mH, .int zy, .int za, .int zb, .int zs, .int zq, .int zw, .int ze, .ref mY, .int zn, .ref mE, .int zma, .int p_, .ref mW, .int zk, .ref mO, .int zd_2, .ref y1, .ref y2, .ref y3, .ref y4, .ref mZ])), (mY, .inl (cI, 2600, .inl eY)), (mL, .inl (cI, 512, .inl eL))]) rfl (fun H locs hPn hDn hSn => ?_))
          clear hP hD hS
          have hP := hPn
          have hD := hDn
          have hS := hSn
          clear hPn hDn hSn
          refine lv_iconst (v := 0) hx hb dX12_read_37 (by decide) ?_
          exact kl_z (v := 0) hQQ hx hb hr hlocks hS dX12_read_38 (rfl) (fun PZ9 kZ9 => kZ9 zd_2 zma p_ eEa (kPD_sub hP hD [1, 2, 3, 0] (by decide +kernel) rfl) (by omega) (g_eEa) (by decide) (by show zma.toInt ≤ zn.toInt; omega) (RR_bad hrr (by omega) (F_ra_0 hf2_2 (by omega))))
  exact LOOP_7 _ 0 0 zd zl eE _ _ _ (ms_s _) (by show 0 ≤ (0 : Int) ∧ (0 : Int) ≤ zn.toInt; omega) (by show 0 ≤ (0 : Int) ∧ (0 : Int) ≤ 0; omega) (g_eE) (RR_0 rfl rfl) hP hD hS (lv_sub hl [0, 1, 2, 3] rfl)

def cpT (k : Int) (g e : Nat → Int32) : Prop := ∀ j : Nat, (j : Int) < k → g j = e j ∧ 0 ≤ (e j).toInt ∧ (e j).toInt ≤ 255
theorem cpT_s {k k' x : Int32} {g g' e : Nat → Int32} (h : cpT k.toInt g e) (ex : x = e k.toNatClampNeg) (eg : g' = upd g k.toNatClampNeg x) (hk : 0 ≤ k.toInt) (hk' : k'.toInt = k.toInt + 1) (hx : 0 ≤ x.toInt ∧ x.toInt ≤ 255) : cpT k'.toInt g' e := by
  intro j hj
  have q := v_clamp hk
  by_cases z : j = k.toNatClampNeg
  · rw [eg, z, pk_us, ← ex]; exact ⟨rfl, hx⟩
  · rw [eg, pk_un z]; exact h j (by omega)

def F_allB (l r : Int32) (f : Nat → Int32) : Prop := (r = 1 ∧ prg l.toInt 0 255 f) ∨ (r = 0 ∧ ¬ prg l.toInt 0 255 f)
theorem F_allB_1 {l r : Int32} {f : Nat → Int32} (h : F_allB l r f) (e : ¬ r.toInt = 0) : prg l.toInt 0 255 f := h.elim (fun z => z.2) (fun z => absurd (by rw [z.1]; rfl) e)
theorem F_allB_0 {l r : Int32} {f : Nat → Int32} (h : F_allB l r f) (e : r.toInt = 0) : ¬ prg l.toInt 0 255 f := by
  rcases h with z | z
  · rw [z.1] at e; exact absurd e (by decide)
  · exact z.2

set_option maxHeartbeats 40000000 in
set_option maxRecDepth 100000 in
theorem f_X11_tapeHoldsBytes (l : Launch) (dC : Nat → ClassId) (dI : Nat → Nat → Nat) (cI cS : ClassId) (sz : Nat) (oX : Nat) (nT : Nat) (nL : Nat) (nM : Nat) (oC : Nat) (oP : Nat) (oH : Nat) (oK : Nat) (oG : Nat) (oR : Nat) (oQ : Nat) (oW : Nat) (aT : Nat) (fa : Int32) (lT : Int32) (fT : Nat → Int32) (g_lT : 0 ≤ lT.toInt ∧ lT.toInt ≤ 900) : kMi l yX11_tapeHoldsBytes wsX11_tapeHoldsBytes ({ frames := 1, cells := 0, slots := 0, locals := 21 } : Room) [.ref oX] sz (dC, dI) vwCl [(cI, .int), (cS, .short)] [(oX, .inr (11, [.ref nT, .ref nL, .ref nM, .ref oC, .ref oP, .ref oH, .ref oK, .ref oG, .ref oR, .ref oQ, .ref oW, .int fa])), (nT, .inr (5, [.ref aT, .int lT])), (aT, .inl (cI, 900, .inl fT))] (fun _ => True) 0 0 (fun (A : Nat → Prop) (r : Int32) (hh9 : Heap) => ∀ PZ9 : Prop, (∀ (fa' : Int32), kPD (dC, dI) vwCl A [(oX, .inr (11, [.ref nT, .ref nL, .ref nM, .ref oC, .ref oP, .ref oH, .ref oK, .ref oG, .ref oR, .ref oQ, .ref oW, .int fa'])), (nT, .inr (5, [.ref aT, .int lT])), (aT, .inl (cI, 900, .inl fT))] hh9 → (0 ≤ r.toInt ∧ r.toInt ≤ 1) → (F_allB lT r fT) → PZ9) → PZ9) := by
  refine kMi_of (cc := cX11_tapeHoldsBytes) (maxL := 3) (ret := (some .boolean)) (lv := [(0, .ref oX)]) (by decide +kernel) rfl rfl (Nat.le_of_ble_eq_true rfl) ?_
  intro p e s m below meth c A QQ ls hx hb hr hts hml hown hlocks hA hQQ hK hX hP hD hS hl
  have hown : s.vm.findClass RX11 = some m.cls := hown
  have hcf := k_cf hx hb hml hown hts
  have in_X11 : ∀ w ∈ wsX110, w ∈ wsX11_tapeHoldsBytes := fun _ h => List.mem_cons_of_mem _ (List.mem_append_left _ (List.mem_append_left _ (List.mem_append_left _ (List.mem_append_right _ (h)))))
  refine lv_iconst (v := 0) hx hb dX11_tapeHoldsBytes_0 (by decide) ?_
  refine lv_istore_n (lv' := [(1, .int 0), (0, .ref oX)]) hx hb dX11_tapeHoldsBytes_1 rfl hl (by decide) rfl (fun ls hl => ?_)
  have LOOP_2 : ∀ (k_2 : Nat) (i : Int32) (H : Heap) (locs : List Loc) (ls : Array Slot), MSd (900 - i.toInt : Int) k_2 → (0 ≤ i.toInt ∧ i.toInt ≤ 900) → (prg i.toInt 0 255 fT) → va_P (dC, dI) vwCl [(oX, .inr (11, [.ref nT, .ref nL, .ref nM, .ref oC, .ref oP, .ref oH, .ref oK, .ref oG, .ref oR, .ref oQ, .ref oW, .int fa])), (nT, .inr (5, [.ref aT, .int lT])), (aT, .inl (cI, 900, .inl fT))] H → va_D A [(oX, .inr (11, [.ref nT, .ref nL, .ref nM, .ref oC, .ref oP, .ref oH, .ref oK, .ref oG, .ref oR, .ref oQ, .ref oW, .int fa])), (nT, .inr (5, [.ref aT, .int lT])), (aT, .inl (cI, 900, .inl fT))] → va_S A s.heap H locs → lv_has ls 3 [(1, .int i), (0, .ref oX)] → W p l e (headSpec wsX11_tapeHoldsBytes ({ frames := 1, cells := 0, slots := 0, locals := 21 } : Room)).room s m ([.ref oX] : List Value).toArray below meth c H locs 0 0 (MQ below QQ ([.ref oX] : List Value).toArray s 0 0 A) (F0 m 2 ls []) := by
    clear hP hD hS hl
    intro k_2
    induction k_2 with
    | zero =>
      intro i H locs ls hm_2 g_i hal hP hD hS hl
      exact ms_0 hm_2
    | succ k_2 ih_2 =>
      intro i H locs ls hm_2 g_i hal hP hD hS hl
      refine lv_iload_n hx hb dX11_tapeHoldsBytes_2 rfl (lv_at hl 0 rfl) ?_
      refine lv_aload_n hx hb dX11_tapeHoldsBytes_3 rfl (lv_at hl 1 rfl) ?_
      refine va_get (D := (dC, dI)) (ci := 11) (v := .ref nT) (C := RX11) (T := TX11) (N := 12) hx hb hts in_X11 hown hK hP 0 rfl rfl 0 (Nat.le_of_ble_eq_true rfl) (hts (.fieldLink RX11 30 "TextMender" "tape" "LTextMender$Numbers;") (List.mem_of_getElem? (i := 1) rfl)) (fun _ h9 => h9) rfl dX11_tapeHoldsBytes_4 ?_
      refine kV_i (rest := [.int i]) (q0 := 0) (ci := 5) hcf (m_X5_length l dC dI cI cS H.size nT aT lT ) kc_X5_length gX11_tapeHoldsBytes_X5_length rfl rfl rfl ⟨Nat.le_of_ble_eq_true rfl, Nat.le_of_ble_eq_true rfl⟩ kX_t hK hP hD hS hA [1] [0, 2] rfl (by decide +kernel) rfl rfl rfl hl rfl (Nat.le_of_ble_eq_true rfl) dX11_tapeHoldsBytes_7 ⟨Nat.le_of_ble_eq_true rfl, Nat.le_of_ble_eq_true rfl⟩ (fun r_1 H locs hB hJ hSn => ?_)
      refine hB _ (fun hPD9 hf1_0 => ?_)
      clear hB
      obtain ⟨hPn, hDn⟩ := hJ _ hPD9.1 hPD9.2 [(oX, .inr (11, [.ref nT, .ref nL, .ref nM, .ref oC, .ref oP, .ref oH, .ref oK, .ref oG, .ref oR, .ref oQ, .ref oW, .int fa])), (aT, .inl (cI, 900, .inl fT)), (nT, .inr (5, [.ref aT, .int lT]))] rfl
      clear hP hD hS hJ hPD9
      have hP := hPn
      have hD := hDn
      have hS := hSn
      clear hPn hDn hSn
      rw [hf1_0]
      refine lv_icmp_ge (tgt := 46) hx hb dX11_tapeHoldsBytes_10 (by decide) (fun c_2 => ?_) (fun c_2 => ?_)
      · have tc_2 : lT.toInt ≤ i.toInt := v_le c_2
        refine lv_iconst (v := 1) hx hb dX11_tapeHoldsBytes_46 (by decide) ?_
        exact kl_z (v := 1) hQQ hx hb hr hlocks hS dX11_tapeHoldsBytes_47 (rfl) (fun PZ9 kZ9 => kZ9 fa (kPD_sub hP hD [0, 2, 1] (by decide +kernel) rfl) (by decide) (Or.inl ⟨rfl, fun j hj => hal j (by omega)⟩))
      · have tc_2 : i.toInt < lT.toInt := v_nle c_2
        refine lv_aload_n hx hb dX11_tapeHoldsBytes_13 rfl (lv_at hl 1 rfl) ?_
        refine va_get (D := (dC, dI)) (ci := 11) (v := .ref nT) (C := RX11) (T := TX11) (N := 12) hx hb hts in_X11 hown hK hP 0 rfl rfl 0 (Nat.le_of_ble_eq_true rfl) (hts (.fieldLink RX11 30 "TextMender" "tape" "LTextMender$Numbers;") (List.mem_of_getElem? (i := 1) rfl)) (fun _ h9 => h9) rfl dX11_tapeHoldsBytes_14 ?_
        refine lv_iload_n hx hb dX11_tapeHoldsBytes_17 rfl (lv_at hl 0 rfl) ?_
        refine kV_i (rest := []) (q0 := 0) (ci := 5) hcf (m_X5_get l dC dI cI cS H.size nT aT 900 lT fT i (by omega) (by omega)) kc_X5_get gX11_tapeHoldsBytes_X5_get rfl rfl rfl ⟨Nat.le_of_ble_eq_true rfl, Nat.le_of_ble_eq_true rfl⟩ kX_t hK hP hD hS hA [2, 1] [0] rfl (by decide +kernel) rfl rfl rfl hl rfl (Nat.le_of_ble_eq_true rfl) dX11_tapeHoldsBytes_18 ⟨Nat.le_of_ble_eq_true rfl, Nat.le_of_ble_eq_true rfl⟩ (fun r_3 H locs hB hJ hSn => ?_)
        refine hB _ (fun hPD9 hf3_0 => ?_)
        clear hB
        obtain ⟨hPn, hDn⟩ := hJ _ hPD9.1 hPD9.2 [(oX, .inr (11, [.ref nT, .ref nL, .ref nM, .ref oC, .ref oP, .ref oH, .ref oK, .ref oG, .ref oR, .ref oQ, .ref oW, .int fa])), (nT, .inr (5, [.ref aT, .int lT])), (aT, .inl (cI, 900, .inl fT))] rfl
        clear hP hD hS hJ hPD9
        have hP := hPn
        have hD := hDn
        have hS := hSn
        clear hPn hDn hSn
        have hg3 : r_3 = fT i.toNatClampNeg := F_get_f hf3_0 (by omega) (by omega)
        refine lv_istore_n (lv' := [(2, .int r_3), (1, .int i), (0, .ref oX)]) hx hb dX11_tapeHoldsBytes_21 rfl hl (by decide) rfl (fun ls hl => ?_)
        refine lv_iload_n hx hb dX11_tapeHoldsBytes_22 rfl (lv_at hl 0 rfl) ?_
        refine lv_if_lt (tgt := 33) hx hb dX11_tapeHoldsBytes_23 (by decide) (fun c_4 => ?_) (fun c_4 => ?_)
        · have tc_4 : r_3.toInt < 0 := v_lt c_4
          refine lv_aload_n hx hb dX11_tapeHoldsBytes_33 rfl (lv_at hl 2 rfl) ?_
          refine lv_iload_n hx hb dX11_tapeHoldsBytes_34 rfl (lv_at hl 1 rfl) ?_
          refine va_put (D := (dC, dI)) (ci := 11) (v := .int i) (ty := .int) (C := RX11) (T := TX11) (N := 12) hx hb hts in_X11 tyX11 tyX11_ok nmX11 hown hK hP hD hS 0 rfl rfl 11 (Nat.le_of_ble_eq_true rfl) (hts (.fieldLink RX11 90 "TextMender" "fault" "I") (List.mem_of_getElem? (i := 2) rfl)) (fun _ h9 => h9) rfl (tyX11_ok 11 (Nat.le_of_ble_eq_true rfl)) rfl rfl (Nat.le_of_ble_eq_true rfl) dX11_tapeHoldsBytes_35 (kW (wn := [(oX, .inr (11, [.ref nT, .ref nL, .ref nM, .ref oC, .ref oP, .ref oH, .ref oK, .ref oG, .ref oR, .ref oQ, .ref oW, .int i])), (nT, .inr (5, [.ref aT, .int lT])), (aT, .inl (cI, 900, .inl fT))]) rfl (fun H locs hPn hDn hSn => ?_))
          clear hP hD hS
          have hP := hPn
          have hD := hDn
          have hS := hSn
          clear hPn hDn hSn
          refine lv_iconst (v := 0) hx hb dX11_tapeHoldsBytes_38 (by decide) ?_
          exact kl_z (v := 0) hQQ hx hb hr hlocks hS dX11_tapeHoldsBytes_39 (rfl) (fun PZ9 kZ9 => kZ9 i (⟨hP, hD⟩) (by decide) (Or.inr ⟨rfl, prg_no hg3 (by omega) (by omega) (by omega)⟩))
        · have tc_4 : 0 ≤ r_3.toInt := v_nlt c_4
          refine lv_iload_n hx hb dX11_tapeHoldsBytes_26 rfl (lv_at hl 0 rfl) ?_
          refine lv_sipush (v := 256) hx hb dX11_tapeHoldsBytes_27 (by decide) ?_
          refine lv_icmp_lt (tgt := 40) hx hb dX11_tapeHoldsBytes_30 (by decide) (fun c_5 => ?_) (fun c_5 => ?_)
          · have tc_5 : r_3.toInt < 256 := v_lt c_5
            obtain ⟨x_6, ex_6⟩ : ∃ y : Int32, y = i + 1 := ⟨_, rfl⟩
            have tx_6 : x_6.toInt = i.toInt + 1 := v_addR (l2 := 1) (h2 := 1) ex_6 g_i (by decide) (by decide) (by decide)
            refine lv_iinc (v := x_6) (lv' := [(1, .int x_6), (2, .int r_3), (0, .ref oX)]) hx hb dX11_tapeHoldsBytes_40 hl (k := 1) rfl (by rw [ex_6]; rfl) (by decide) rfl (fun ls hl => ?_)
            refine lv_goto (tgt := 2) hx hb dX11_tapeHoldsBytes_43 (by decide) ?_
            exact ih_2 x_6 _ _ _ (ms_lt hm_2 (by show ((900 - x_6.toInt : Int)) < 900 - i.toInt; omega) (by show (0 : Int) < 900 - i.toInt; omega)) (by show 0 ≤ x_6.toInt ∧ x_6.toInt ≤ 900; omega) (prg_step hal hg3 (by omega) (by omega) (by omega)) hP hD hS (lv_sub hl [0, 2] rfl)
          · have tc_5 : 256 ≤ r_3.toInt := v_nlt c_5
            refine lv_aload_n hx hb dX11_tapeHoldsBytes_33 rfl (lv_at hl 2 rfl) ?_
            refine lv_iload_n hx hb dX11_tapeHoldsBytes_34 rfl (lv_at hl 1 rfl) ?_
            refine va_put (D := (dC, dI)) (ci := 11) (v := .int i) (ty := .int) (C := RX11) (T := TX11) (N := 12) hx hb hts in_X11 tyX11 tyX11_ok nmX11 hown hK hP hD hS 0 rfl rfl 11 (Nat.le_of_ble_eq_true rfl) (hts (.fieldLink RX11 90 "TextMender" "fault" "I") (List.mem_of_getElem? (i := 2) rfl)) (fun _ h9 => h9) rfl (tyX11_ok 11 (Nat.le_of_ble_eq_true rfl)) rfl rfl (Nat.le_of_ble_eq_true rfl) dX11_tapeHoldsBytes_35 (kW (wn := [(oX, .inr (11, [.ref nT, .ref nL, .ref nM, .ref oC, .ref oP, .ref oH, .ref oK, .ref oG, .ref oR, .ref oQ, .ref oW, .int i])), (nT, .inr (5, [.ref aT, .int lT])), (aT, .inl (cI, 900, .inl fT))]) rfl (fun H locs hPn hDn hSn => ?_))
            clear hP hD hS
            have hP := hPn
            have hD := hDn
            have hS := hSn
            clear hPn hDn hSn
            refine lv_iconst (v := 0) hx hb dX11_tapeHoldsBytes_38 (by decide) ?_
            exact kl_z (v := 0) hQQ hx hb hr hlocks hS dX11_tapeHoldsBytes_39 (rfl) (fun PZ9 kZ9 => kZ9 i (⟨hP, hD⟩) (by decide) (Or.inr ⟨rfl, prg_no hg3 (by omega) (by omega) (by omega)⟩))
  exact LOOP_2 _ 0 _ _ _ (ms_s _) (by decide) (prg_0 (by decide)) hP hD hS (lv_sub hl [0, 1] rfl)

end

/-! 59f.a.rows -/
section
set_option maxRecDepth 100000 in
theorem dA172_cX2_encodeMany : kDec cX2_encodeMany [(0, .iload_n 0, 1), (1, .sipush 128, 3), (4, .if_icmp .ge 9, 3), (13, .iload_n 0, 1), (14, .sipush 2048, 3), (17, .if_icmp .ge 19, 3), (36, .aload_n 1, 1), (37, .sipush 224, 3), (40, .iload_n 0, 1), (41, .bipush 12, 2), (43, .ishr, 1), (44, .iadd, 1), (45, .invokevirtual 59, 3), (48, .ifCond .eq 25, 3), (51, .aload_n 1, 1), (52, .sipush 128, 3), (55, .iload_n 0, 1), (56, .bipush 6, 2), (58, .ishr, 1), (59, .bipush 63, 2), (61, .iand, 1), (62, .iadd, 1), (63, .invokevirtual 59, 3), (66, .ifCond .eq 7, 3)] = true := by decide +kernel
theorem dX2_encodeMany_0 : decode cX2_encodeMany 0 = .ok (.iload_n 0, 1) := kDec_at dA172_cX2_encodeMany 0 rfl
theorem dX2_encodeMany_1 : decode cX2_encodeMany 1 = .ok (.sipush 128, 3) := kDec_at dA172_cX2_encodeMany 1 rfl
theorem dX2_encodeMany_4 : decode cX2_encodeMany 4 = .ok (.if_icmp .ge 9, 3) := kDec_at dA172_cX2_encodeMany 2 rfl
theorem dX2_encodeMany_13 : decode cX2_encodeMany 13 = .ok (.iload_n 0, 1) := kDec_at dA172_cX2_encodeMany 3 rfl
theorem dX2_encodeMany_14 : decode cX2_encodeMany 14 = .ok (.sipush 2048, 3) := kDec_at dA172_cX2_encodeMany 4 rfl
theorem dX2_encodeMany_17 : decode cX2_encodeMany 17 = .ok (.if_icmp .ge 19, 3) := kDec_at dA172_cX2_encodeMany 5 rfl
theorem dX2_encodeMany_36 : decode cX2_encodeMany 36 = .ok (.aload_n 1, 1) := kDec_at dA172_cX2_encodeMany 6 rfl
theorem dX2_encodeMany_37 : decode cX2_encodeMany 37 = .ok (.sipush 224, 3) := kDec_at dA172_cX2_encodeMany 7 rfl
theorem dX2_encodeMany_40 : decode cX2_encodeMany 40 = .ok (.iload_n 0, 1) := kDec_at dA172_cX2_encodeMany 8 rfl
theorem dX2_encodeMany_41 : decode cX2_encodeMany 41 = .ok (.bipush 12, 2) := kDec_at dA172_cX2_encodeMany 9 rfl
theorem dX2_encodeMany_43 : decode cX2_encodeMany 43 = .ok (.ishr, 1) := kDec_at dA172_cX2_encodeMany 10 rfl
theorem dX2_encodeMany_44 : decode cX2_encodeMany 44 = .ok (.iadd, 1) := kDec_at dA172_cX2_encodeMany 11 rfl
theorem dX2_encodeMany_45 : decode cX2_encodeMany 45 = .ok (.invokevirtual 59, 3) := kDec_at dA172_cX2_encodeMany 12 rfl
theorem dX2_encodeMany_48 : decode cX2_encodeMany 48 = .ok (.ifCond .eq 25, 3) := kDec_at dA172_cX2_encodeMany 13 rfl
theorem dX2_encodeMany_51 : decode cX2_encodeMany 51 = .ok (.aload_n 1, 1) := kDec_at dA172_cX2_encodeMany 14 rfl
theorem dX2_encodeMany_52 : decode cX2_encodeMany 52 = .ok (.sipush 128, 3) := kDec_at dA172_cX2_encodeMany 15 rfl
theorem dX2_encodeMany_55 : decode cX2_encodeMany 55 = .ok (.iload_n 0, 1) := kDec_at dA172_cX2_encodeMany 16 rfl
theorem dX2_encodeMany_56 : decode cX2_encodeMany 56 = .ok (.bipush 6, 2) := kDec_at dA172_cX2_encodeMany 17 rfl
theorem dX2_encodeMany_58 : decode cX2_encodeMany 58 = .ok (.ishr, 1) := kDec_at dA172_cX2_encodeMany 18 rfl
theorem dX2_encodeMany_59 : decode cX2_encodeMany 59 = .ok (.bipush 63, 2) := kDec_at dA172_cX2_encodeMany 19 rfl
theorem dX2_encodeMany_61 : decode cX2_encodeMany 61 = .ok (.iand, 1) := kDec_at dA172_cX2_encodeMany 20 rfl
theorem dX2_encodeMany_62 : decode cX2_encodeMany 62 = .ok (.iadd, 1) := kDec_at dA172_cX2_encodeMany 21 rfl
theorem dX2_encodeMany_63 : decode cX2_encodeMany 63 = .ok (.invokevirtual 59, 3) := kDec_at dA172_cX2_encodeMany 22 rfl
theorem dX2_encodeMany_66 : decode cX2_encodeMany 66 = .ok (.ifCond .eq 7, 3) := kDec_at dA172_cX2_encodeMany 23 rfl
set_option maxRecDepth 20000 in
theorem ggX2_encodeMany_X5_add : GoodIn wsX2_encodeMany wsX5_add := goodIn_sub (fun _ h => List.mem_cons_of_mem _ (List.mem_append_right _ (h))) gX5_add_all
set_option maxRecDepth 20000 in
theorem gX2_encodeMany_X5_add : GoodIn wsX2_encodeMany (wsV RX2 59 RX5 yX5_add wsX5_add) := goodIn_app (goodIn_r _ [1, 2, 3, 4] rfl (by decide +kernel)) ggX2_encodeMany_X5_add
set_option maxRecDepth 100000 in
theorem dA173_cX2_encodeMany : kDec cX2_encodeMany [(69, .iconst 1, 1), (70, .goto 4, 3), (74, .istore_n 2, 1), (75, .iload_n 2, 1), (76, .ifCond .eq 22, 3), (79, .aload_n 1, 1), (80, .sipush 128, 3), (83, .iload_n 0, 1), (84, .bipush 63, 2), (86, .iand, 1), (87, .iadd, 1), (88, .invokevirtual 59, 3), (91, .ifCond .eq 7, 3), (94, .iconst 1, 1), (95, .goto 4, 3), (99, .ireturn, 1), (20, .aload_n 1, 1), (21, .sipush 192, 3), (24, .iload_n 0, 1), (25, .bipush 6, 2), (27, .ishr, 1), (28, .iadd, 1), (29, .invokevirtual 59, 3), (32, .istore_n 2, 1)] = true := by decide +kernel
theorem dX2_encodeMany_69 : decode cX2_encodeMany 69 = .ok (.iconst 1, 1) := kDec_at dA173_cX2_encodeMany 0 rfl
theorem dX2_encodeMany_70 : decode cX2_encodeMany 70 = .ok (.goto 4, 3) := kDec_at dA173_cX2_encodeMany 1 rfl
theorem dX2_encodeMany_74 : decode cX2_encodeMany 74 = .ok (.istore_n 2, 1) := kDec_at dA173_cX2_encodeMany 2 rfl
theorem dX2_encodeMany_75 : decode cX2_encodeMany 75 = .ok (.iload_n 2, 1) := kDec_at dA173_cX2_encodeMany 3 rfl
theorem dX2_encodeMany_76 : decode cX2_encodeMany 76 = .ok (.ifCond .eq 22, 3) := kDec_at dA173_cX2_encodeMany 4 rfl
theorem dX2_encodeMany_79 : decode cX2_encodeMany 79 = .ok (.aload_n 1, 1) := kDec_at dA173_cX2_encodeMany 5 rfl
theorem dX2_encodeMany_80 : decode cX2_encodeMany 80 = .ok (.sipush 128, 3) := kDec_at dA173_cX2_encodeMany 6 rfl
theorem dX2_encodeMany_83 : decode cX2_encodeMany 83 = .ok (.iload_n 0, 1) := kDec_at dA173_cX2_encodeMany 7 rfl
theorem dX2_encodeMany_84 : decode cX2_encodeMany 84 = .ok (.bipush 63, 2) := kDec_at dA173_cX2_encodeMany 8 rfl
theorem dX2_encodeMany_86 : decode cX2_encodeMany 86 = .ok (.iand, 1) := kDec_at dA173_cX2_encodeMany 9 rfl
theorem dX2_encodeMany_87 : decode cX2_encodeMany 87 = .ok (.iadd, 1) := kDec_at dA173_cX2_encodeMany 10 rfl
theorem dX2_encodeMany_88 : decode cX2_encodeMany 88 = .ok (.invokevirtual 59, 3) := kDec_at dA173_cX2_encodeMany 11 rfl
theorem dX2_encodeMany_91 : decode cX2_encodeMany 91 = .ok (.ifCond .eq 7, 3) := kDec_at dA173_cX2_encodeMany 12 rfl
theorem dX2_encodeMany_94 : decode cX2_encodeMany 94 = .ok (.iconst 1, 1) := kDec_at dA173_cX2_encodeMany 13 rfl
theorem dX2_encodeMany_95 : decode cX2_encodeMany 95 = .ok (.goto 4, 3) := kDec_at dA173_cX2_encodeMany 14 rfl
theorem dX2_encodeMany_99 : decode cX2_encodeMany 99 = .ok (.ireturn, 1) := kDec_at dA173_cX2_encodeMany 15 rfl
theorem dX2_encodeMany_20 : decode cX2_encodeMany 20 = .ok (.aload_n 1, 1) := kDec_at dA173_cX2_encodeMany 16 rfl
theorem dX2_encodeMany_21 : decode cX2_encodeMany 21 = .ok (.sipush 192, 3) := kDec_at dA173_cX2_encodeMany 17 rfl
theorem dX2_encodeMany_24 : decode cX2_encodeMany 24 = .ok (.iload_n 0, 1) := kDec_at dA173_cX2_encodeMany 18 rfl
theorem dX2_encodeMany_25 : decode cX2_encodeMany 25 = .ok (.bipush 6, 2) := kDec_at dA173_cX2_encodeMany 19 rfl
theorem dX2_encodeMany_27 : decode cX2_encodeMany 27 = .ok (.ishr, 1) := kDec_at dA173_cX2_encodeMany 20 rfl
theorem dX2_encodeMany_28 : decode cX2_encodeMany 28 = .ok (.iadd, 1) := kDec_at dA173_cX2_encodeMany 21 rfl
theorem dX2_encodeMany_29 : decode cX2_encodeMany 29 = .ok (.invokevirtual 59, 3) := kDec_at dA173_cX2_encodeMany 22 rfl
theorem dX2_encodeMany_32 : decode cX2_encodeMany 32 = .ok (.istore_n 2, 1) := kDec_at dA173_cX2_encodeMany 23 rfl
set_option maxRecDepth 100000 in
theorem dA174_cX2_encodeMany : kDec cX2_encodeMany [(33, .goto 42, 3), (7, .aload_n 1, 1), (8, .iload_n 0, 1), (9, .invokevirtual 59, 3), (12, .ireturn, 1)] = true := by decide +kernel
theorem dX2_encodeMany_33 : decode cX2_encodeMany 33 = .ok (.goto 42, 3) := kDec_at dA174_cX2_encodeMany 0 rfl
theorem dX2_encodeMany_7 : decode cX2_encodeMany 7 = .ok (.aload_n 1, 1) := kDec_at dA174_cX2_encodeMany 1 rfl
theorem dX2_encodeMany_8 : decode cX2_encodeMany 8 = .ok (.iload_n 0, 1) := kDec_at dA174_cX2_encodeMany 2 rfl
theorem dX2_encodeMany_9 : decode cX2_encodeMany 9 = .ok (.invokevirtual 59, 3) := kDec_at dA174_cX2_encodeMany 3 rfl
theorem dX2_encodeMany_12 : decode cX2_encodeMany 12 = .ok (.ireturn, 1) := kDec_at dA174_cX2_encodeMany 4 rfl
set_option maxRecDepth 100000 in
theorem dA175_cX2_encodeNumber : kDec cX2_encodeNumber [(0, .aload_n 1, 1), (1, .bipush 38, 2), (3, .invokevirtual 59, 3), (6, .ifCond .eq 16, 3), (9, .aload_n 1, 1), (10, .bipush 35, 2), (12, .invokevirtual 59, 3), (15, .ifCond .eq 7, 3), (18, .iconst 1, 1), (19, .goto 4, 3), (23, .istore_n 2, 1), (24, .iconst 0, 1), (25, .istore_n 3, 1), (26, .sipush 10000, 3), (29, .istore 4, 2), (31, .iload 4, 2), (33, .ifCond .le 63, 3), (36, .iload_n 0, 1), (37, .iload 4, 2), (39, .idiv, 1), (40, .bipush 10, 2), (42, .irem, 1), (43, .istore 5, 2), (45, .iload_n 3, 1)] = true := by decide +kernel
theorem dX2_encodeNumber_0 : decode cX2_encodeNumber 0 = .ok (.aload_n 1, 1) := kDec_at dA175_cX2_encodeNumber 0 rfl
theorem dX2_encodeNumber_1 : decode cX2_encodeNumber 1 = .ok (.bipush 38, 2) := kDec_at dA175_cX2_encodeNumber 1 rfl
theorem dX2_encodeNumber_3 : decode cX2_encodeNumber 3 = .ok (.invokevirtual 59, 3) := kDec_at dA175_cX2_encodeNumber 2 rfl
theorem dX2_encodeNumber_6 : decode cX2_encodeNumber 6 = .ok (.ifCond .eq 16, 3) := kDec_at dA175_cX2_encodeNumber 3 rfl
theorem dX2_encodeNumber_9 : decode cX2_encodeNumber 9 = .ok (.aload_n 1, 1) := kDec_at dA175_cX2_encodeNumber 4 rfl
theorem dX2_encodeNumber_10 : decode cX2_encodeNumber 10 = .ok (.bipush 35, 2) := kDec_at dA175_cX2_encodeNumber 5 rfl
theorem dX2_encodeNumber_12 : decode cX2_encodeNumber 12 = .ok (.invokevirtual 59, 3) := kDec_at dA175_cX2_encodeNumber 6 rfl
theorem dX2_encodeNumber_15 : decode cX2_encodeNumber 15 = .ok (.ifCond .eq 7, 3) := kDec_at dA175_cX2_encodeNumber 7 rfl
theorem dX2_encodeNumber_18 : decode cX2_encodeNumber 18 = .ok (.iconst 1, 1) := kDec_at dA175_cX2_encodeNumber 8 rfl
theorem dX2_encodeNumber_19 : decode cX2_encodeNumber 19 = .ok (.goto 4, 3) := kDec_at dA175_cX2_encodeNumber 9 rfl
theorem dX2_encodeNumber_23 : decode cX2_encodeNumber 23 = .ok (.istore_n 2, 1) := kDec_at dA175_cX2_encodeNumber 10 rfl
theorem dX2_encodeNumber_24 : decode cX2_encodeNumber 24 = .ok (.iconst 0, 1) := kDec_at dA175_cX2_encodeNumber 11 rfl
theorem dX2_encodeNumber_25 : decode cX2_encodeNumber 25 = .ok (.istore_n 3, 1) := kDec_at dA175_cX2_encodeNumber 12 rfl
theorem dX2_encodeNumber_26 : decode cX2_encodeNumber 26 = .ok (.sipush 10000, 3) := kDec_at dA175_cX2_encodeNumber 13 rfl
theorem dX2_encodeNumber_29 : decode cX2_encodeNumber 29 = .ok (.istore 4, 2) := kDec_at dA175_cX2_encodeNumber 14 rfl
theorem dX2_encodeNumber_31 : decode cX2_encodeNumber 31 = .ok (.iload 4, 2) := kDec_at dA175_cX2_encodeNumber 15 rfl
theorem dX2_encodeNumber_33 : decode cX2_encodeNumber 33 = .ok (.ifCond .le 63, 3) := kDec_at dA175_cX2_encodeNumber 16 rfl
theorem dX2_encodeNumber_36 : decode cX2_encodeNumber 36 = .ok (.iload_n 0, 1) := kDec_at dA175_cX2_encodeNumber 17 rfl
theorem dX2_encodeNumber_37 : decode cX2_encodeNumber 37 = .ok (.iload 4, 2) := kDec_at dA175_cX2_encodeNumber 18 rfl
theorem dX2_encodeNumber_39 : decode cX2_encodeNumber 39 = .ok (.idiv, 1) := kDec_at dA175_cX2_encodeNumber 19 rfl
theorem dX2_encodeNumber_40 : decode cX2_encodeNumber 40 = .ok (.bipush 10, 2) := kDec_at dA175_cX2_encodeNumber 20 rfl
theorem dX2_encodeNumber_42 : decode cX2_encodeNumber 42 = .ok (.irem, 1) := kDec_at dA175_cX2_encodeNumber 21 rfl
theorem dX2_encodeNumber_43 : decode cX2_encodeNumber 43 = .ok (.istore 5, 2) := kDec_at dA175_cX2_encodeNumber 22 rfl
theorem dX2_encodeNumber_45 : decode cX2_encodeNumber 45 = .ok (.iload_n 3, 1) := kDec_at dA175_cX2_encodeNumber 23 rfl
set_option maxRecDepth 20000 in
theorem ggX2_encodeNumber_X5_add : GoodIn wsX2_encodeNumber wsX5_add := goodIn_sub (fun _ h => List.mem_cons_of_mem _ (List.mem_append_right _ (h))) gX5_add_all
set_option maxRecDepth 20000 in
theorem gX2_encodeNumber_X5_add : GoodIn wsX2_encodeNumber (wsV RX2 59 RX5 yX5_add wsX5_add) := goodIn_app (goodIn_r _ [1, 2, 3, 4] rfl (by decide +kernel)) ggX2_encodeNumber_X5_add
set_option maxRecDepth 100000 in
theorem dA176_cX2_encodeNumber : kDec cX2_encodeNumber [(46, .ifCond .ne 8, 3), (49, .iload 5, 2), (51, .ifCond .eq 7, 3), (58, .iconst 0, 1), (59, .istore_n 3, 1), (60, .iload_n 3, 1), (61, .ifCond .eq 25, 3), (86, .iload 4, 2), (88, .bipush 10, 2), (90, .idiv, 1), (91, .istore 4, 2), (93, .goto (-62), 3), (96, .iload_n 2, 1), (97, .ifCond .eq 16, 3), (100, .aload_n 1, 1), (101, .bipush 59, 2), (103, .invokevirtual 59, 3), (106, .ifCond .eq 7, 3), (109, .iconst 1, 1), (110, .goto 4, 3), (114, .ireturn, 1), (54, .iconst 1, 1), (55, .goto 4, 3), (64, .iload_n 2, 1)] = true := by decide +kernel
theorem dX2_encodeNumber_46 : decode cX2_encodeNumber 46 = .ok (.ifCond .ne 8, 3) := kDec_at dA176_cX2_encodeNumber 0 rfl
theorem dX2_encodeNumber_49 : decode cX2_encodeNumber 49 = .ok (.iload 5, 2) := kDec_at dA176_cX2_encodeNumber 1 rfl
theorem dX2_encodeNumber_51 : decode cX2_encodeNumber 51 = .ok (.ifCond .eq 7, 3) := kDec_at dA176_cX2_encodeNumber 2 rfl
theorem dX2_encodeNumber_58 : decode cX2_encodeNumber 58 = .ok (.iconst 0, 1) := kDec_at dA176_cX2_encodeNumber 3 rfl
theorem dX2_encodeNumber_59 : decode cX2_encodeNumber 59 = .ok (.istore_n 3, 1) := kDec_at dA176_cX2_encodeNumber 4 rfl
theorem dX2_encodeNumber_60 : decode cX2_encodeNumber 60 = .ok (.iload_n 3, 1) := kDec_at dA176_cX2_encodeNumber 5 rfl
theorem dX2_encodeNumber_61 : decode cX2_encodeNumber 61 = .ok (.ifCond .eq 25, 3) := kDec_at dA176_cX2_encodeNumber 6 rfl
theorem dX2_encodeNumber_86 : decode cX2_encodeNumber 86 = .ok (.iload 4, 2) := kDec_at dA176_cX2_encodeNumber 7 rfl
theorem dX2_encodeNumber_88 : decode cX2_encodeNumber 88 = .ok (.bipush 10, 2) := kDec_at dA176_cX2_encodeNumber 8 rfl
theorem dX2_encodeNumber_90 : decode cX2_encodeNumber 90 = .ok (.idiv, 1) := kDec_at dA176_cX2_encodeNumber 9 rfl
theorem dX2_encodeNumber_91 : decode cX2_encodeNumber 91 = .ok (.istore 4, 2) := kDec_at dA176_cX2_encodeNumber 10 rfl
theorem dX2_encodeNumber_93 : decode cX2_encodeNumber 93 = .ok (.goto (-62), 3) := kDec_at dA176_cX2_encodeNumber 11 rfl
theorem dX2_encodeNumber_96 : decode cX2_encodeNumber 96 = .ok (.iload_n 2, 1) := kDec_at dA176_cX2_encodeNumber 12 rfl
theorem dX2_encodeNumber_97 : decode cX2_encodeNumber 97 = .ok (.ifCond .eq 16, 3) := kDec_at dA176_cX2_encodeNumber 13 rfl
theorem dX2_encodeNumber_100 : decode cX2_encodeNumber 100 = .ok (.aload_n 1, 1) := kDec_at dA176_cX2_encodeNumber 14 rfl
theorem dX2_encodeNumber_101 : decode cX2_encodeNumber 101 = .ok (.bipush 59, 2) := kDec_at dA176_cX2_encodeNumber 15 rfl
theorem dX2_encodeNumber_103 : decode cX2_encodeNumber 103 = .ok (.invokevirtual 59, 3) := kDec_at dA176_cX2_encodeNumber 16 rfl
theorem dX2_encodeNumber_106 : decode cX2_encodeNumber 106 = .ok (.ifCond .eq 7, 3) := kDec_at dA176_cX2_encodeNumber 17 rfl
theorem dX2_encodeNumber_109 : decode cX2_encodeNumber 109 = .ok (.iconst 1, 1) := kDec_at dA176_cX2_encodeNumber 18 rfl
theorem dX2_encodeNumber_110 : decode cX2_encodeNumber 110 = .ok (.goto 4, 3) := kDec_at dA176_cX2_encodeNumber 19 rfl
theorem dX2_encodeNumber_114 : decode cX2_encodeNumber 114 = .ok (.ireturn, 1) := kDec_at dA176_cX2_encodeNumber 20 rfl
theorem dX2_encodeNumber_54 : decode cX2_encodeNumber 54 = .ok (.iconst 1, 1) := kDec_at dA176_cX2_encodeNumber 21 rfl
theorem dX2_encodeNumber_55 : decode cX2_encodeNumber 55 = .ok (.goto 4, 3) := kDec_at dA176_cX2_encodeNumber 22 rfl
theorem dX2_encodeNumber_64 : decode cX2_encodeNumber 64 = .ok (.iload_n 2, 1) := kDec_at dA176_cX2_encodeNumber 23 rfl
set_option maxRecDepth 100000 in
theorem dA177_cX2_encodeNumber : kDec cX2_encodeNumber [(65, .ifCond .eq 19, 3), (68, .aload_n 1, 1), (69, .bipush 48, 2), (71, .iload 5, 2), (73, .iadd, 1), (74, .invokevirtual 59, 3), (77, .ifCond .eq 7, 3), (80, .iconst 1, 1), (81, .goto 4, 3), (85, .istore_n 2, 1)] = true := by decide +kernel
theorem dX2_encodeNumber_65 : decode cX2_encodeNumber 65 = .ok (.ifCond .eq 19, 3) := kDec_at dA177_cX2_encodeNumber 0 rfl
theorem dX2_encodeNumber_68 : decode cX2_encodeNumber 68 = .ok (.aload_n 1, 1) := kDec_at dA177_cX2_encodeNumber 1 rfl
theorem dX2_encodeNumber_69 : decode cX2_encodeNumber 69 = .ok (.bipush 48, 2) := kDec_at dA177_cX2_encodeNumber 2 rfl
theorem dX2_encodeNumber_71 : decode cX2_encodeNumber 71 = .ok (.iload 5, 2) := kDec_at dA177_cX2_encodeNumber 3 rfl
theorem dX2_encodeNumber_73 : decode cX2_encodeNumber 73 = .ok (.iadd, 1) := kDec_at dA177_cX2_encodeNumber 4 rfl
theorem dX2_encodeNumber_74 : decode cX2_encodeNumber 74 = .ok (.invokevirtual 59, 3) := kDec_at dA177_cX2_encodeNumber 5 rfl
theorem dX2_encodeNumber_77 : decode cX2_encodeNumber 77 = .ok (.ifCond .eq 7, 3) := kDec_at dA177_cX2_encodeNumber 6 rfl
theorem dX2_encodeNumber_80 : decode cX2_encodeNumber 80 = .ok (.iconst 1, 1) := kDec_at dA177_cX2_encodeNumber 7 rfl
theorem dX2_encodeNumber_81 : decode cX2_encodeNumber 81 = .ok (.goto 4, 3) := kDec_at dA177_cX2_encodeNumber 8 rfl
theorem dX2_encodeNumber_85 : decode cX2_encodeNumber 85 = .ok (.istore_n 2, 1) := kDec_at dA177_cX2_encodeNumber 9 rfl
set_option maxRecDepth 100000 in
theorem dA178_cX2_encode : kDec cX2_encode [(0, .iload_n 1, 1), (1, .tableswitch 100 0 3 #[31, 52, 73, 79], 31), (32, .iload_n 2, 1), (33, .sipush 128, 3), (36, .if_icmp .ge 15, 3), (51, .iconst 0, 1), (52, .ireturn, 1), (39, .aload_n 3, 1), (40, .iload_n 2, 1), (41, .invokevirtual 59, 3), (44, .ifCond .eq 7, 3), (47, .iconst 1, 1), (48, .goto 4, 3), (53, .iload_n 2, 1), (54, .sipush 256, 3), (57, .if_icmp .ge 15, 3), (72, .iconst 0, 1), (73, .ireturn, 1), (60, .aload_n 3, 1), (61, .iload_n 2, 1), (62, .invokevirtual 59, 3), (65, .ifCond .eq 7, 3), (68, .iconst 1, 1), (69, .goto 4, 3)] = true := by decide +kernel
theorem dX2_encode_0 : decode cX2_encode 0 = .ok (.iload_n 1, 1) := kDec_at dA178_cX2_encode 0 rfl
theorem dX2_encode_1 : decode cX2_encode 1 = .ok (.tableswitch 100 0 3 #[31, 52, 73, 79], 31) := kDec_at dA178_cX2_encode 1 rfl
theorem dX2_encode_32 : decode cX2_encode 32 = .ok (.iload_n 2, 1) := kDec_at dA178_cX2_encode 2 rfl
theorem dX2_encode_33 : decode cX2_encode 33 = .ok (.sipush 128, 3) := kDec_at dA178_cX2_encode 3 rfl
theorem dX2_encode_36 : decode cX2_encode 36 = .ok (.if_icmp .ge 15, 3) := kDec_at dA178_cX2_encode 4 rfl
theorem dX2_encode_51 : decode cX2_encode 51 = .ok (.iconst 0, 1) := kDec_at dA178_cX2_encode 5 rfl
theorem dX2_encode_52 : decode cX2_encode 52 = .ok (.ireturn, 1) := kDec_at dA178_cX2_encode 6 rfl
theorem dX2_encode_39 : decode cX2_encode 39 = .ok (.aload_n 3, 1) := kDec_at dA178_cX2_encode 7 rfl
theorem dX2_encode_40 : decode cX2_encode 40 = .ok (.iload_n 2, 1) := kDec_at dA178_cX2_encode 8 rfl
theorem dX2_encode_41 : decode cX2_encode 41 = .ok (.invokevirtual 59, 3) := kDec_at dA178_cX2_encode 9 rfl
theorem dX2_encode_44 : decode cX2_encode 44 = .ok (.ifCond .eq 7, 3) := kDec_at dA178_cX2_encode 10 rfl
theorem dX2_encode_47 : decode cX2_encode 47 = .ok (.iconst 1, 1) := kDec_at dA178_cX2_encode 11 rfl
theorem dX2_encode_48 : decode cX2_encode 48 = .ok (.goto 4, 3) := kDec_at dA178_cX2_encode 12 rfl
theorem dX2_encode_53 : decode cX2_encode 53 = .ok (.iload_n 2, 1) := kDec_at dA178_cX2_encode 13 rfl
theorem dX2_encode_54 : decode cX2_encode 54 = .ok (.sipush 256, 3) := kDec_at dA178_cX2_encode 14 rfl
theorem dX2_encode_57 : decode cX2_encode 57 = .ok (.if_icmp .ge 15, 3) := kDec_at dA178_cX2_encode 15 rfl
theorem dX2_encode_72 : decode cX2_encode 72 = .ok (.iconst 0, 1) := kDec_at dA178_cX2_encode 16 rfl
theorem dX2_encode_73 : decode cX2_encode 73 = .ok (.ireturn, 1) := kDec_at dA178_cX2_encode 17 rfl
theorem dX2_encode_60 : decode cX2_encode 60 = .ok (.aload_n 3, 1) := kDec_at dA178_cX2_encode 18 rfl
theorem dX2_encode_61 : decode cX2_encode 61 = .ok (.iload_n 2, 1) := kDec_at dA178_cX2_encode 19 rfl
theorem dX2_encode_62 : decode cX2_encode 62 = .ok (.invokevirtual 59, 3) := kDec_at dA178_cX2_encode 20 rfl
theorem dX2_encode_65 : decode cX2_encode 65 = .ok (.ifCond .eq 7, 3) := kDec_at dA178_cX2_encode 21 rfl
theorem dX2_encode_68 : decode cX2_encode 68 = .ok (.iconst 1, 1) := kDec_at dA178_cX2_encode 22 rfl
theorem dX2_encode_69 : decode cX2_encode 69 = .ok (.goto 4, 3) := kDec_at dA178_cX2_encode 23 rfl
set_option maxRecDepth 20000 in
theorem ggX2_encode_X5_add : GoodIn wsX2_encode wsX5_add := goodIn_sub (fun _ h => List.mem_cons_of_mem _ (List.mem_append_left _ (List.mem_append_left _ (List.mem_append_left _ (List.mem_append_left _ (List.mem_append_left _ (List.mem_append_right _ (h)))))))) gX5_add_all
set_option maxRecDepth 20000 in
theorem gX2_encode_X5_add : GoodIn wsX2_encode (wsV RX2 59 RX5 yX5_add wsX5_add) := goodIn_app (goodIn_r _ [1, 2, 3, 4] rfl (by decide +kernel)) ggX2_encode_X5_add
set_option maxRecDepth 100000 in
theorem dA179_cX2_encode : kDec cX2_encode [(74, .iload_n 2, 1), (75, .aload_n 3, 1), (76, .invokestatic 62, 3), (79, .ireturn, 1), (80, .iload_n 2, 1), (81, .invokestatic 56, 3), (84, .ifCond .eq 11, 3), (95, .aload_n 3, 1), (96, .iload_n 2, 1), (97, .invokevirtual 59, 3), (100, .ireturn, 1), (87, .iload_n 2, 1), (88, .aload_n 3, 1), (89, .invokestatic 66, 3), (92, .goto 8, 3), (101, .aload_n 0, 1), (102, .iload_n 1, 1), (103, .invokevirtual 21, 3), (106, .astore 4, 2), (108, .aload 4, 2), (110, .ifnonnull 7, 3), (117, .aload 4, 2), (119, .iload_n 2, 1), (120, .invokevirtual 69, 3)] = true := by decide +kernel
theorem dX2_encode_74 : decode cX2_encode 74 = .ok (.iload_n 2, 1) := kDec_at dA179_cX2_encode 0 rfl
theorem dX2_encode_75 : decode cX2_encode 75 = .ok (.aload_n 3, 1) := kDec_at dA179_cX2_encode 1 rfl
theorem dX2_encode_76 : decode cX2_encode 76 = .ok (.invokestatic 62, 3) := kDec_at dA179_cX2_encode 2 rfl
theorem dX2_encode_79 : decode cX2_encode 79 = .ok (.ireturn, 1) := kDec_at dA179_cX2_encode 3 rfl
theorem dX2_encode_80 : decode cX2_encode 80 = .ok (.iload_n 2, 1) := kDec_at dA179_cX2_encode 4 rfl
theorem dX2_encode_81 : decode cX2_encode 81 = .ok (.invokestatic 56, 3) := kDec_at dA179_cX2_encode 5 rfl
theorem dX2_encode_84 : decode cX2_encode 84 = .ok (.ifCond .eq 11, 3) := kDec_at dA179_cX2_encode 6 rfl
theorem dX2_encode_95 : decode cX2_encode 95 = .ok (.aload_n 3, 1) := kDec_at dA179_cX2_encode 7 rfl
theorem dX2_encode_96 : decode cX2_encode 96 = .ok (.iload_n 2, 1) := kDec_at dA179_cX2_encode 8 rfl
theorem dX2_encode_97 : decode cX2_encode 97 = .ok (.invokevirtual 59, 3) := kDec_at dA179_cX2_encode 9 rfl
theorem dX2_encode_100 : decode cX2_encode 100 = .ok (.ireturn, 1) := kDec_at dA179_cX2_encode 10 rfl
theorem dX2_encode_87 : decode cX2_encode 87 = .ok (.iload_n 2, 1) := kDec_at dA179_cX2_encode 11 rfl
theorem dX2_encode_88 : decode cX2_encode 88 = .ok (.aload_n 3, 1) := kDec_at dA179_cX2_encode 12 rfl
theorem dX2_encode_89 : decode cX2_encode 89 = .ok (.invokestatic 66, 3) := kDec_at dA179_cX2_encode 13 rfl
theorem dX2_encode_92 : decode cX2_encode 92 = .ok (.goto 8, 3) := kDec_at dA179_cX2_encode 14 rfl
theorem dX2_encode_101 : decode cX2_encode 101 = .ok (.aload_n 0, 1) := kDec_at dA179_cX2_encode 15 rfl
theorem dX2_encode_102 : decode cX2_encode 102 = .ok (.iload_n 1, 1) := kDec_at dA179_cX2_encode 16 rfl
theorem dX2_encode_103 : decode cX2_encode 103 = .ok (.invokevirtual 21, 3) := kDec_at dA179_cX2_encode 17 rfl
theorem dX2_encode_106 : decode cX2_encode 106 = .ok (.astore 4, 2) := kDec_at dA179_cX2_encode 18 rfl
theorem dX2_encode_108 : decode cX2_encode 108 = .ok (.aload 4, 2) := kDec_at dA179_cX2_encode 19 rfl
theorem dX2_encode_110 : decode cX2_encode 110 = .ok (.ifnonnull 7, 3) := kDec_at dA179_cX2_encode 20 rfl
theorem dX2_encode_117 : decode cX2_encode 117 = .ok (.aload 4, 2) := kDec_at dA179_cX2_encode 21 rfl
theorem dX2_encode_119 : decode cX2_encode 119 = .ok (.iload_n 2, 1) := kDec_at dA179_cX2_encode 22 rfl
theorem dX2_encode_120 : decode cX2_encode 120 = .ok (.invokevirtual 69, 3) := kDec_at dA179_cX2_encode 23 rfl
set_option maxRecDepth 20000 in
theorem gX2_encodeMany_all : wsX2_encodeMany.all goodWord = true := by
  unfold wsX2_encodeMany
  exact good_c (by decide +kernel) (good_a (good_a ((by decide +kernel)) gX5_clsall) gX5_add_all)
set_option maxRecDepth 20000 in
theorem ggX2_encode_X2_encodeMany : GoodIn wsX2_encode wsX2_encodeMany := goodIn_sub (fun _ h => List.mem_cons_of_mem _ (List.mem_append_left _ (List.mem_append_left _ (List.mem_append_left _ (List.mem_append_left _ (List.mem_append_right _ (h))))))) gX2_encodeMany_all
set_option maxRecDepth 20000 in
theorem gX2_encode_X2_encodeMany : GoodIn wsX2_encode (va_wsS RX2 62 yX2_encodeMany wsX2_encodeMany) := goodIn_app (goodIn_r _ [5, 6, 7] rfl (by decide +kernel)) ggX2_encode_X2_encodeMany
set_option maxRecDepth 20000 in
theorem ggX2_encode_X2_isNumbered : GoodIn wsX2_encode wsX2_isNumbered := goodIn_sub (fun _ h => List.mem_cons_of_mem _ (List.mem_append_left _ (List.mem_append_left _ (List.mem_append_left _ (List.mem_append_right _ (h)))))) gX2_isNumbered_all
set_option maxRecDepth 20000 in
theorem gX2_encode_X2_isNumbered : GoodIn wsX2_encode (va_wsS RX2 56 yX2_isNumbered wsX2_isNumbered) := goodIn_app (goodIn_r _ [8, 9, 7] rfl (by decide +kernel)) ggX2_encode_X2_isNumbered
set_option maxRecDepth 20000 in
theorem gX2_encodeNumber_all : wsX2_encodeNumber.all goodWord = true := by
  unfold wsX2_encodeNumber
  exact good_c (by decide +kernel) (good_a (good_a ((by decide +kernel)) gX5_clsall) gX5_add_all)
set_option maxRecDepth 20000 in
theorem ggX2_encode_X2_encodeNumber : GoodIn wsX2_encode wsX2_encodeNumber := goodIn_sub (fun _ h => List.mem_cons_of_mem _ (List.mem_append_left _ (List.mem_append_left _ (List.mem_append_right _ (h))))) gX2_encodeNumber_all
set_option maxRecDepth 20000 in
theorem gX2_encode_X2_encodeNumber : GoodIn wsX2_encode (va_wsS RX2 66 yX2_encodeNumber wsX2_encodeNumber) := goodIn_app (goodIn_r _ [10, 11, 7] rfl (by decide +kernel)) ggX2_encode_X2_encodeNumber
set_option maxRecDepth 20000 in
theorem ggX2_encode_X2_toldCode : GoodIn wsX2_encode wsX2_toldCode := goodIn_sub (fun _ h => List.mem_cons_of_mem _ (List.mem_append_left _ (List.mem_append_right _ (h)))) gX2_toldCode_all
set_option maxRecDepth 20000 in
theorem gX2_encode_X2_toldCode : GoodIn wsX2_encode (wsV RX2 21 RX2 yX2_toldCode wsX2_toldCode) := goodIn_app (goodIn_r _ [12, 13, 14, 7] rfl (by decide +kernel)) ggX2_encode_X2_toldCode
set_option maxRecDepth 20000 in
theorem ggX2_encode_X10_byteFor : GoodIn wsX2_encode wsX10_byteFor := goodIn_sub (fun _ h => List.mem_cons_of_mem _ (List.mem_append_right _ (h))) gX10_byteFor_all
set_option maxRecDepth 20000 in
theorem gX2_encode_X10_byteFor : GoodIn wsX2_encode (wsV RX2 69 RX10 yX10_byteFor wsX10_byteFor) := goodIn_app (goodIn_r _ [15, 16, 17, 18] rfl (by decide +kernel)) ggX2_encode_X10_byteFor
set_option maxRecDepth 100000 in
theorem dA180_cX2_encode : kDec cX2_encode [(123, .istore 5, 2), (125, .iload 5, 2), (127, .iconst (-1), 1), (128, .if_icmp .eq 16, 3), (144, .iconst 0, 1), (145, .ireturn, 1), (131, .aload_n 3, 1), (132, .iload 5, 2), (134, .invokevirtual 59, 3), (137, .ifCond .eq 7, 3), (140, .iconst 1, 1), (141, .goto 4, 3), (113, .iconst (-1), 1), (114, .goto 9, 3)] = true := by decide +kernel
theorem dX2_encode_123 : decode cX2_encode 123 = .ok (.istore 5, 2) := kDec_at dA180_cX2_encode 0 rfl
theorem dX2_encode_125 : decode cX2_encode 125 = .ok (.iload 5, 2) := kDec_at dA180_cX2_encode 1 rfl
theorem dX2_encode_127 : decode cX2_encode 127 = .ok (.iconst (-1), 1) := kDec_at dA180_cX2_encode 2 rfl
theorem dX2_encode_128 : decode cX2_encode 128 = .ok (.if_icmp .eq 16, 3) := kDec_at dA180_cX2_encode 3 rfl
theorem dX2_encode_144 : decode cX2_encode 144 = .ok (.iconst 0, 1) := kDec_at dA180_cX2_encode 4 rfl
theorem dX2_encode_145 : decode cX2_encode 145 = .ok (.ireturn, 1) := kDec_at dA180_cX2_encode 5 rfl
theorem dX2_encode_131 : decode cX2_encode 131 = .ok (.aload_n 3, 1) := kDec_at dA180_cX2_encode 6 rfl
theorem dX2_encode_132 : decode cX2_encode 132 = .ok (.iload 5, 2) := kDec_at dA180_cX2_encode 7 rfl
theorem dX2_encode_134 : decode cX2_encode 134 = .ok (.invokevirtual 59, 3) := kDec_at dA180_cX2_encode 8 rfl
theorem dX2_encode_137 : decode cX2_encode 137 = .ok (.ifCond .eq 7, 3) := kDec_at dA180_cX2_encode 9 rfl
theorem dX2_encode_140 : decode cX2_encode 140 = .ok (.iconst 1, 1) := kDec_at dA180_cX2_encode 10 rfl
theorem dX2_encode_141 : decode cX2_encode 141 = .ok (.goto 4, 3) := kDec_at dA180_cX2_encode 11 rfl
theorem dX2_encode_113 : decode cX2_encode 113 = .ok (.iconst (-1), 1) := kDec_at dA180_cX2_encode 12 rfl
theorem dX2_encode_114 : decode cX2_encode 114 = .ok (.goto 9, 3) := kDec_at dA180_cX2_encode 13 rfl
set_option maxRecDepth 100000 in
theorem dA181_cX7_write : kDec cX7_write [(0, .aload_n 0, 1), (1, .iconst (-1), 1), (2, .putfield 24, 3), (5, .aload_n 0, 1), (6, .getfield 14, 3), (9, .iconst 0, 1), (10, .invokevirtual 28, 3), (13, .iconst 0, 1), (14, .istore_n 3, 1), (15, .iload_n 3, 1), (16, .aload_n 2, 1), (17, .invokevirtual 31, 3), (20, .if_icmp .ge 36, 3), (56, .iconst 1, 1), (57, .ireturn, 1), (23, .aload_n 0, 1), (24, .getfield 20, 3), (27, .iload_n 1, 1), (28, .aload_n 2, 1), (29, .iload_n 3, 1), (30, .invokevirtual 35, 3), (33, .aload_n 0, 1), (34, .getfield 14, 3), (37, .invokevirtual 39, 3)] = true := by decide +kernel
theorem dX7_write_0 : decode cX7_write 0 = .ok (.aload_n 0, 1) := kDec_at dA181_cX7_write 0 rfl
theorem dX7_write_1 : decode cX7_write 1 = .ok (.iconst (-1), 1) := kDec_at dA181_cX7_write 1 rfl
theorem dX7_write_2 : decode cX7_write 2 = .ok (.putfield 24, 3) := kDec_at dA181_cX7_write 2 rfl
theorem dX7_write_5 : decode cX7_write 5 = .ok (.aload_n 0, 1) := kDec_at dA181_cX7_write 3 rfl
theorem dX7_write_6 : decode cX7_write 6 = .ok (.getfield 14, 3) := kDec_at dA181_cX7_write 4 rfl
theorem dX7_write_9 : decode cX7_write 9 = .ok (.iconst 0, 1) := kDec_at dA181_cX7_write 5 rfl
theorem dX7_write_10 : decode cX7_write 10 = .ok (.invokevirtual 28, 3) := kDec_at dA181_cX7_write 6 rfl
theorem dX7_write_13 : decode cX7_write 13 = .ok (.iconst 0, 1) := kDec_at dA181_cX7_write 7 rfl
theorem dX7_write_14 : decode cX7_write 14 = .ok (.istore_n 3, 1) := kDec_at dA181_cX7_write 8 rfl
theorem dX7_write_15 : decode cX7_write 15 = .ok (.iload_n 3, 1) := kDec_at dA181_cX7_write 9 rfl
theorem dX7_write_16 : decode cX7_write 16 = .ok (.aload_n 2, 1) := kDec_at dA181_cX7_write 10 rfl
theorem dX7_write_17 : decode cX7_write 17 = .ok (.invokevirtual 31, 3) := kDec_at dA181_cX7_write 11 rfl
theorem dX7_write_20 : decode cX7_write 20 = .ok (.if_icmp .ge 36, 3) := kDec_at dA181_cX7_write 12 rfl
theorem dX7_write_56 : decode cX7_write 56 = .ok (.iconst 1, 1) := kDec_at dA181_cX7_write 13 rfl
theorem dX7_write_57 : decode cX7_write 57 = .ok (.ireturn, 1) := kDec_at dA181_cX7_write 14 rfl
theorem dX7_write_23 : decode cX7_write 23 = .ok (.aload_n 0, 1) := kDec_at dA181_cX7_write 15 rfl
theorem dX7_write_24 : decode cX7_write 24 = .ok (.getfield 20, 3) := kDec_at dA181_cX7_write 16 rfl
theorem dX7_write_27 : decode cX7_write 27 = .ok (.iload_n 1, 1) := kDec_at dA181_cX7_write 17 rfl
theorem dX7_write_28 : decode cX7_write 28 = .ok (.aload_n 2, 1) := kDec_at dA181_cX7_write 18 rfl
theorem dX7_write_29 : decode cX7_write 29 = .ok (.iload_n 3, 1) := kDec_at dA181_cX7_write 19 rfl
theorem dX7_write_30 : decode cX7_write 30 = .ok (.invokevirtual 35, 3) := kDec_at dA181_cX7_write 20 rfl
theorem dX7_write_33 : decode cX7_write 33 = .ok (.aload_n 0, 1) := kDec_at dA181_cX7_write 21 rfl
theorem dX7_write_34 : decode cX7_write 34 = .ok (.getfield 14, 3) := kDec_at dA181_cX7_write 22 rfl
theorem dX7_write_37 : decode cX7_write 37 = .ok (.invokevirtual 39, 3) := kDec_at dA181_cX7_write 23 rfl
set_option maxRecDepth 20000 in
theorem ggX7_write_X5_cut : GoodIn wsX7_write wsX5_cut := goodIn_sub (fun _ h => List.mem_cons_of_mem _ (List.mem_append_left _ (List.mem_append_left _ (List.mem_append_left _ (List.mem_append_right _ (h)))))) gX5_cut_all
set_option maxRecDepth 20000 in
theorem gX7_write_X5_cut : GoodIn wsX7_write (wsV RX7 28 RX5 yX5_cut wsX5_cut) := goodIn_app (goodIn_r _ [4, 5, 6, 7] rfl (by decide +kernel)) ggX7_write_X5_cut
set_option maxRecDepth 20000 in
theorem ggX7_write_X5_length : GoodIn wsX7_write wsX5_length := goodIn_sub (fun _ h => List.mem_cons_of_mem _ (List.mem_append_left _ (List.mem_append_left _ (List.mem_append_right _ (h))))) gX5_length_all
set_option maxRecDepth 20000 in
theorem gX7_write_X5_length : GoodIn wsX7_write (wsV RX7 31 RX5 yX5_length wsX5_length) := goodIn_app (goodIn_r _ [8, 9, 10, 7] rfl (by decide +kernel)) ggX7_write_X5_length
set_option maxRecDepth 20000 in
theorem ggX7_write_X5_get : GoodIn wsX7_write wsX5_get := goodIn_sub (fun _ h => List.mem_cons_of_mem _ (List.mem_append_left _ (List.mem_append_right _ (h)))) gX5_get_all
set_option maxRecDepth 20000 in
theorem gX7_write_X5_get : GoodIn wsX7_write (wsV RX7 35 RX5 yX5_get wsX5_get) := goodIn_app (goodIn_r _ [11, 12, 13, 7] rfl (by decide +kernel)) ggX7_write_X5_get
set_option maxRecDepth 20000 in
theorem gX2_encode_all : wsX2_encode.all goodWord = true := by
  unfold wsX2_encode
  exact good_c (by decide +kernel) (good_a (good_a (good_a (good_a (good_a (good_a (good_a (good_a (good_a ((by decide +kernel)) gX5_clsall) gX2_clsall) gX10_clsall) gX5_add_all) gX2_encodeMany_all) gX2_isNumbered_all) gX2_encodeNumber_all) gX2_toldCode_all) gX10_byteFor_all)
set_option maxRecDepth 20000 in
theorem ggX7_write_X2_encode : GoodIn wsX7_write wsX2_encode := goodIn_sub (fun _ h => List.mem_cons_of_mem _ (List.mem_append_right _ (h))) gX2_encode_all
set_option maxRecDepth 20000 in
theorem gX7_write_X2_encode : GoodIn wsX7_write (wsV RX7 39 RX2 yX2_encode wsX2_encode) := goodIn_app (goodIn_r _ [14, 15, 16, 17] rfl (by decide +kernel)) ggX7_write_X2_encode
set_option maxRecDepth 100000 in
theorem dA182_cX7_write : kDec cX7_write [(40, .ifCond .ne 10, 3), (50, .iinc 3 1, 3), (53, .goto (-38), 3), (43, .aload_n 0, 1), (44, .iload_n 3, 1), (45, .putfield 24, 3), (48, .iconst 0, 1), (49, .ireturn, 1)] = true := by decide +kernel
theorem dX7_write_40 : decode cX7_write 40 = .ok (.ifCond .ne 10, 3) := kDec_at dA182_cX7_write 0 rfl
theorem dX7_write_50 : decode cX7_write 50 = .ok (.iinc 3 1, 3) := kDec_at dA182_cX7_write 1 rfl
theorem dX7_write_53 : decode cX7_write 53 = .ok (.goto (-38), 3) := kDec_at dA182_cX7_write 2 rfl
theorem dX7_write_43 : decode cX7_write 43 = .ok (.aload_n 0, 1) := kDec_at dA182_cX7_write 3 rfl
theorem dX7_write_44 : decode cX7_write 44 = .ok (.iload_n 3, 1) := kDec_at dA182_cX7_write 4 rfl
theorem dX7_write_45 : decode cX7_write 45 = .ok (.putfield 24, 3) := kDec_at dA182_cX7_write 5 rfl
theorem dX7_write_48 : decode cX7_write 48 = .ok (.iconst 0, 1) := kDec_at dA182_cX7_write 6 rfl
theorem dX7_write_49 : decode cX7_write 49 = .ok (.ireturn, 1) := kDec_at dA182_cX7_write 7 rfl

end

/-! 59f.enc -/
section
set_option maxHeartbeats 40000000 in
set_option maxRecDepth 100000 in
theorem f_X2_encodeMany (l : Launch) (dC : Nat → ClassId) (dI : Nat → Nat → Nat) (cI cS : ClassId) (sz : Nat) (nu : Nat) (au : Nat) (cap : Nat) (lu : Int32) (fu : Nat → Int32) (le : Int32) (g_lu : 0 ≤ lu.toInt ∧ lu.toInt ≤ (cap : Int)) (g_le : 0 ≤ le.toInt ∧ le.toInt ≤ 65535) (hcap : cap ≤ 2400) (hrm : lu.toInt + 8 ≤ (cap : Int)) : kMi l yX2_encodeMany wsX2_encodeMany ({ frames := 1, cells := 0, slots := 0, locals := 21 } : Room) [.int le, .ref nu] sz (dC, dI) vwCl [(cI, .int), (cS, .short)] [(nu, .inr (5, [.ref au, .int lu])), (au, .inl (cI, cap, .inl fu))] (fun _ => True) 0 0 (fun (A : Nat → Prop) (r : Int32) (hh9 : Heap) => ∀ PZ9 : Prop, (∀ (lu' : Int32) (fu' : Nat → Int32), kPD (dC, dI) vwCl A [(nu, .inr (5, [.ref au, .int lu'])), (au, .inl (cI, cap, .inl fu'))] hh9 → (0 ≤ lu'.toInt ∧ lu'.toInt ≤ (cap : Int)) → (0 ≤ r.toInt ∧ r.toInt ≤ 1) → (F_en r 2 le (-1) lu lu' fu fu') → PZ9) → PZ9) := by
  refine kMi_of (cc := cX2_encodeMany) (maxL := 3) (ret := (some .boolean)) (lv := [(0, .int le), (1, .ref nu)]) (by decide +kernel) rfl rfl (Nat.le_of_ble_eq_true rfl) ?_
  intro p e s m below meth c A QQ ls hx hb hr hts hml hown hlocks hA hQQ hK hX hP hD hS hl
  have hown : s.vm.findClass RX2 = some m.cls := hown
  have hcf := k_cf hx hb hml hown hts
  have z2 : (2 : Int32).toInt = 2 := rfl
  have z3 : (3 : Int32).toInt = 3 := rfl
  have z35 : (35 : Int32).toInt = 35 := rfl
  have z38 : (38 : Int32).toInt = 38 := rfl
  have z59 : (59 : Int32).toInt = 59 := rfl
  refine lv_iload_n hx hb dX2_encodeMany_0 rfl (lv_at hl 0 rfl) ?_
  refine lv_sipush (v := 128) hx hb dX2_encodeMany_1 (by decide) ?_
  refine lv_icmp_ge (tgt := 13) hx hb dX2_encodeMany_4 (by decide) (fun c_1 => ?_) (fun c_1 => ?_)
  · have tc_1 : 128 ≤ le.toInt := v_le c_1
    refine lv_iload_n hx hb dX2_encodeMany_13 rfl (lv_at hl 0 rfl) ?_
    refine lv_sipush (v := 2048) hx hb dX2_encodeMany_14 (by decide) ?_
    refine lv_icmp_ge (tgt := 36) hx hb dX2_encodeMany_17 (by decide) (fun c_2 => ?_) (fun c_2 => ?_)
    · have tc_2 : 2048 ≤ le.toInt := v_le c_2
      refine lv_aload_n hx hb dX2_encodeMany_36 rfl (lv_at hl 1 rfl) ?_
      refine lv_sipush (v := 224) hx hb dX2_encodeMany_37 (by decide) ?_
      refine lv_iload_n hx hb dX2_encodeMany_40 rfl (lv_at hl 0 rfl) ?_
      refine lv_bipush (v := 12) hx hb dX2_encodeMany_41 (by decide) ?_
      refine lv_ishr hx hb dX2_encodeMany_43 ?_
      refine lv_topi (fun x_3 ex_3 => ?_)
      have tx_3 : x_3.toInt = le.toInt / 4096 := v_shr 12 ex_3 (by decide)
      refine lv_iadd hx hb dX2_encodeMany_44 ?_
      refine lv_topi (fun x_4 ex_4 => ?_)
      have tx_4 : x_4.toInt = 224 + x_3.toInt := v_add ex_4 (by show -2147483648 ≤ 224 + x_3.toInt; omega) (by show 224 + x_3.toInt < 2147483648; omega)
      refine kV_i (rest := []) (q0 := 0) (ci := 5) hcf (m_X5_add l dC dI cI cS s.heap.size nu au cap lu fu x_4 (g_lu) (by omega)) kc_X5_add gX2_encodeMany_X5_add rfl rfl rfl ⟨Nat.le_of_ble_eq_true rfl, Nat.le_of_ble_eq_true rfl⟩ kX_t hK hP hD hS hA [0, 1] [] rfl (by decide +kernel) rfl rfl rfl hl rfl (Nat.le_of_ble_eq_true rfl) dX2_encodeMany_45 ⟨Nat.le_of_ble_eq_true rfl, Nat.le_of_ble_eq_true rfl⟩ (fun r_5 H locs hB hJ hSn => ?_)
      refine hB _ (fun lu_5 fu_5 hPD9 hf5_0 hf5_1 hf5_2 => ?_)
      clear hB
      obtain ⟨hPn, hDn⟩ := hJ _ hPD9.1 hPD9.2 [(nu, .inr (5, [.ref au, .int lu_5])), (au, .inl (cI, cap, .inl fu_5))] rfl
      clear hP hD hS hJ hPD9
      have hP := hPn
      have hD := hDn
      have hS := hSn
      clear hPn hDn hSn
      have ha5 : lu_5.toInt = lu.toInt + 1 := F_add_l hf5_2 (by omega)
      have hr5 : r_5.toInt = 1 := F_add_r hf5_2 (by omega)
      have hap5 : AP lu lu_5 fu fu_5 [(x_4 : Int32).toInt] := AP_s (AP_0 (l := lu) (f := fu)) (by omega) hf5_2 (by omega)
      refine lv_if_eq (tgt := 73) hx hb dX2_encodeMany_48 (by decide) (fun c_6 => by exfalso; have tc_6 : r_5.toInt = 0 := v_eq c_6; omega) (fun c_6 => ?_)
      have tc_6 : ¬ r_5.toInt = 0 := v_ne c_6
      refine lv_aload_n hx hb dX2_encodeMany_51 rfl (lv_at hl 1 rfl) ?_
      refine lv_sipush (v := 128) hx hb dX2_encodeMany_52 (by decide) ?_
      refine lv_iload_n hx hb dX2_encodeMany_55 rfl (lv_at hl 0 rfl) ?_
      refine lv_bipush (v := 6) hx hb dX2_encodeMany_56 (by decide) ?_
      refine lv_ishr hx hb dX2_encodeMany_58 ?_
      refine lv_topi (fun x_7 ex_7 => ?_)
      have tx_7 : x_7.toInt = le.toInt / 64 := v_shr 6 ex_7 (by decide)
      refine lv_bipush (v := 63) hx hb dX2_encodeMany_59 (by decide) ?_
      refine lv_iand hx hb dX2_encodeMany_61 ?_
      refine lv_topi (fun x_8 ex_8 => ?_)
      have tx_8 : 0 ≤ x_8.toInt ∧ x_8.toInt < 64 := v_and 6 ex_8 (by decide) (by decide)
      have tm_x_8 : x_8.toInt = x_7.toInt % 64 := v_and63 ex_8 (by omega)
      refine lv_iadd hx hb dX2_encodeMany_62 ?_
      refine lv_topi (fun x_9 ex_9 => ?_)
      have tx_9 : x_9.toInt = 128 + x_8.toInt := v_add ex_9 (by show -2147483648 ≤ 128 + x_8.toInt; omega) (by show 128 + x_8.toInt < 2147483648; omega)
      refine kV_i (rest := []) (q0 := 0) (ci := 5) hcf (m_X5_add l dC dI cI cS H.size nu au cap lu_5 fu_5 x_9 (hf5_0) (by omega)) kc_X5_add gX2_encodeMany_X5_add rfl rfl rfl ⟨Nat.le_of_ble_eq_true rfl, Nat.le_of_ble_eq_true rfl⟩ kX_t hK hP hD hS hA [0, 1] [] rfl (by decide +kernel) rfl rfl rfl hl rfl (Nat.le_of_ble_eq_true rfl) dX2_encodeMany_63 ⟨Nat.le_of_ble_eq_true rfl, Nat.le_of_ble_eq_true rfl⟩ (fun r_10 H locs hB hJ hSn => ?_)
      refine hB _ (fun lu_10 fu_10 hPD9 hf10_0 hf10_1 hf10_2 => ?_)
      clear hB
      obtain ⟨hPn, hDn⟩ := hJ _ hPD9.1 hPD9.2 [(nu, .inr (5, [.ref au, .int lu_10])), (au, .inl (cI, cap, .inl fu_10))] rfl
      clear hP hD hS hJ hPD9
      have hP := hPn
      have hD := hDn
      have hS := hSn
      clear hPn hDn hSn
      have ha10 : lu_10.toInt = lu_5.toInt + 1 := F_add_l hf10_2 (by omega)
      have hr10 : r_10.toInt = 1 := F_add_r hf10_2 (by omega)
      have hap10 : AP lu lu_10 fu fu_10 [(x_4 : Int32).toInt, (x_9 : Int32).toInt] := AP_s hap5 (by omega) hf10_2 (by omega)
      refine lv_if_eq (tgt := 73) hx hb dX2_encodeMany_66 (by decide) (fun c_11 => by exfalso; have tc_11 : r_10.toInt = 0 := v_eq c_11; omega) (fun c_11 => ?_)
      have tc_11 : ¬ r_10.toInt = 0 := v_ne c_11
      refine lv_iconst (v := 1) hx hb dX2_encodeMany_69 (by decide) ?_
      refine lv_goto (tgt := 74) hx hb dX2_encodeMany_70 (by decide) ?_
      refine lv_istore_n (lv' := [(2, .int 1), (0, .int le), (1, .ref nu)]) hx hb dX2_encodeMany_74 rfl hl (by decide) rfl (fun ls hl => ?_)
      refine lv_iload_n hx hb dX2_encodeMany_75 rfl (lv_at hl 0 rfl) ?_
      refine lv_if_eq (tgt := 98) hx hb dX2_encodeMany_76 (by decide) (fun c_12 => absurd c_12 (by decide)) (fun c_12 => ?_)
      refine lv_aload_n hx hb dX2_encodeMany_79 rfl (lv_at hl 2 rfl) ?_
      refine lv_sipush (v := 128) hx hb dX2_encodeMany_80 (by decide) ?_
      refine lv_iload_n hx hb dX2_encodeMany_83 rfl (lv_at hl 1 rfl) ?_
      refine lv_bipush (v := 63) hx hb dX2_encodeMany_84 (by decide) ?_
      refine lv_iand hx hb dX2_encodeMany_86 ?_
      refine lv_topi (fun x_13 ex_13 => ?_)
      have tx_13 : 0 ≤ x_13.toInt ∧ x_13.toInt < 64 := v_and 6 ex_13 (by decide) (by decide)
      have tm_x_13 : x_13.toInt = le.toInt % 64 := v_and63 ex_13 (by omega)
      refine lv_iadd hx hb dX2_encodeMany_87 ?_
      refine lv_topi (fun x_14 ex_14 => ?_)
      have tx_14 : x_14.toInt = 128 + x_13.toInt := v_add ex_14 (by show -2147483648 ≤ 128 + x_13.toInt; omega) (by show 128 + x_13.toInt < 2147483648; omega)
      refine kV_i (rest := []) (q0 := 0) (ci := 5) hcf (m_X5_add l dC dI cI cS H.size nu au cap lu_10 fu_10 x_14 (hf10_0) (by omega)) kc_X5_add gX2_encodeMany_X5_add rfl rfl rfl ⟨Nat.le_of_ble_eq_true rfl, Nat.le_of_ble_eq_true rfl⟩ kX_t hK hP hD hS hA [0, 1] [] rfl (by decide +kernel) rfl rfl rfl hl rfl (Nat.le_of_ble_eq_true rfl) dX2_encodeMany_88 ⟨Nat.le_of_ble_eq_true rfl, Nat.le_of_ble_eq_true rfl⟩ (fun r_15 H locs hB hJ hSn => ?_)
      refine hB _ (fun lu_15 fu_15 hPD9 hf15_0 hf15_1 hf15_2 => ?_)
      clear hB
      obtain ⟨hPn, hDn⟩ := hJ _ hPD9.1 hPD9.2 [(nu, .inr (5, [.ref au, .int lu_15])), (au, .inl (cI, cap, .inl fu_15))] rfl
      clear hP hD hS hJ hPD9
      have hP := hPn
      have hD := hDn
      have hS := hSn
      clear hPn hDn hSn
      have ha15 : lu_15.toInt = lu_10.toInt + 1 := F_add_l hf15_2 (by omega)
      have hr15 : r_15.toInt = 1 := F_add_r hf15_2 (by omega)
      have hap15 : AP lu lu_15 fu fu_15 [(x_4 : Int32).toInt, (x_9 : Int32).toInt, (x_14 : Int32).toInt] := AP_s hap10 (by omega) hf15_2 (by omega)
      refine lv_if_eq (tgt := 98) hx hb dX2_encodeMany_91 (by decide) (fun c_16 => by exfalso; have tc_16 : r_15.toInt = 0 := v_eq c_16; omega) (fun c_16 => ?_)
      have tc_16 : ¬ r_15.toInt = 0 := v_ne c_16
      refine lv_iconst (v := 1) hx hb dX2_encodeMany_94 (by decide) ?_
      refine lv_goto (tgt := 99) hx hb dX2_encodeMany_95 (by decide) ?_
      exact kl_z (v := 1) hQQ hx hb hr hlocks hS dX2_encodeMany_99 (rfl) (fun PZ9 kZ9 => kZ9 lu_15 fu_15 (⟨hP, hD⟩) (hf15_0) (by decide) (F_en_y (by first | omega | rfl) hap15 (by first | (unfold enc; (repeat (first | rw [if_neg (by omega)] | rw [if_pos (by omega)])) <;> exact L3 (by first | omega | rfl) (by first | omega | rfl) (by first | omega | rfl)) | (exfalso; omega))))
    · have tc_2 : le.toInt < 2048 := v_nle c_2
      refine lv_aload_n hx hb dX2_encodeMany_20 rfl (lv_at hl 1 rfl) ?_
      refine lv_sipush (v := 192) hx hb dX2_encodeMany_21 (by decide) ?_
      refine lv_iload_n hx hb dX2_encodeMany_24 rfl (lv_at hl 0 rfl) ?_
      refine lv_bipush (v := 6) hx hb dX2_encodeMany_25 (by decide) ?_
      refine lv_ishr hx hb dX2_encodeMany_27 ?_
      refine lv_topi (fun x_17 ex_17 => ?_)
      have tx_17 : x_17.toInt = le.toInt / 64 := v_shr 6 ex_17 (by decide)
      refine lv_iadd hx hb dX2_encodeMany_28 ?_
      refine lv_topi (fun x_18 ex_18 => ?_)
      have tx_18 : x_18.toInt = 192 + x_17.toInt := v_add ex_18 (by show -2147483648 ≤ 192 + x_17.toInt; omega) (by show 192 + x_17.toInt < 2147483648; omega)
      refine kV_i (rest := []) (q0 := 0) (ci := 5) hcf (m_X5_add l dC dI cI cS s.heap.size nu au cap lu fu x_18 (g_lu) (by omega)) kc_X5_add gX2_encodeMany_X5_add rfl rfl rfl ⟨Nat.le_of_ble_eq_true rfl, Nat.le_of_ble_eq_true rfl⟩ kX_t hK hP hD hS hA [0, 1] [] rfl (by decide +kernel) rfl rfl rfl hl rfl (Nat.le_of_ble_eq_true rfl) dX2_encodeMany_29 ⟨Nat.le_of_ble_eq_true rfl, Nat.le_of_ble_eq_true rfl⟩ (fun r_19 H locs hB hJ hSn => ?_)
      refine hB _ (fun lu_19 fu_19 hPD9 hf19_0 hf19_1 hf19_2 => ?_)
      clear hB
      obtain ⟨hPn, hDn⟩ := hJ _ hPD9.1 hPD9.2 [(nu, .inr (5, [.ref au, .int lu_19])), (au, .inl (cI, cap, .inl fu_19))] rfl
      clear hP hD hS hJ hPD9
      have hP := hPn
      have hD := hDn
      have hS := hSn
      clear hPn hDn hSn
      have ha19 : lu_19.toInt = lu.toInt + 1 := F_add_l hf19_2 (by omega)
      have hr19 : r_19.toInt = 1 := F_add_r hf19_2 (by omega)
      have hap19 : AP lu lu_19 fu fu_19 [(x_18 : Int32).toInt] := AP_s (AP_0 (l := lu) (f := fu)) (by omega) hf19_2 (by omega)
      refine lv_istore_n (lv' := [(2, .int r_19), (0, .int le), (1, .ref nu)]) hx hb dX2_encodeMany_32 rfl hl (by decide) rfl (fun ls hl => ?_)
      refine lv_goto (tgt := 75) hx hb dX2_encodeMany_33 (by decide) ?_
      refine lv_iload_n hx hb dX2_encodeMany_75 rfl (lv_at hl 0 rfl) ?_
      refine lv_if_eq (tgt := 98) hx hb dX2_encodeMany_76 (by decide) (fun c_20 => by exfalso; have tc_20 : r_19.toInt = 0 := v_eq c_20; omega) (fun c_20 => ?_)
      have tc_20 : ¬ r_19.toInt = 0 := v_ne c_20
      refine lv_aload_n hx hb dX2_encodeMany_79 rfl (lv_at hl 2 rfl) ?_
      refine lv_sipush (v := 128) hx hb dX2_encodeMany_80 (by decide) ?_
      refine lv_iload_n hx hb dX2_encodeMany_83 rfl (lv_at hl 1 rfl) ?_
      refine lv_bipush (v := 63) hx hb dX2_encodeMany_84 (by decide) ?_
      refine lv_iand hx hb dX2_encodeMany_86 ?_
      refine lv_topi (fun x_21 ex_21 => ?_)
      have tx_21 : 0 ≤ x_21.toInt ∧ x_21.toInt < 64 := v_and 6 ex_21 (by decide) (by decide)
      have tm_x_21 : x_21.toInt = le.toInt % 64 := v_and63 ex_21 (by omega)
      refine lv_iadd hx hb dX2_encodeMany_87 ?_
      refine lv_topi (fun x_22 ex_22 => ?_)
      have tx_22 : x_22.toInt = 128 + x_21.toInt := v_add ex_22 (by show -2147483648 ≤ 128 + x_21.toInt; omega) (by show 128 + x_21.toInt < 2147483648; omega)
      refine kV_i (rest := []) (q0 := 0) (ci := 5) hcf (m_X5_add l dC dI cI cS H.size nu au cap lu_19 fu_19 x_22 (hf19_0) (by omega)) kc_X5_add gX2_encodeMany_X5_add rfl rfl rfl ⟨Nat.le_of_ble_eq_true rfl, Nat.le_of_ble_eq_true rfl⟩ kX_t hK hP hD hS hA [0, 1] [] rfl (by decide +kernel) rfl rfl rfl hl rfl (Nat.le_of_ble_eq_true rfl) dX2_encodeMany_88 ⟨Nat.le_of_ble_eq_true rfl, Nat.le_of_ble_eq_true rfl⟩ (fun r_23 H locs hB hJ hSn => ?_)
      refine hB _ (fun lu_23 fu_23 hPD9 hf23_0 hf23_1 hf23_2 => ?_)
      clear hB
      obtain ⟨hPn, hDn⟩ := hJ _ hPD9.1 hPD9.2 [(nu, .inr (5, [.ref au, .int lu_23])), (au, .inl (cI, cap, .inl fu_23))] rfl
      clear hP hD hS hJ hPD9
      have hP := hPn
      have hD := hDn
      have hS := hSn
      clear hPn hDn hSn
      have ha23 : lu_23.toInt = lu_19.toInt + 1 := F_add_l hf23_2 (by omega)
      have hr23 : r_23.toInt = 1 := F_add_r hf23_2 (by omega)
      have hap23 : AP lu lu_23 fu fu_23 [(x_18 : Int32).toInt, (x_22 : Int32).toInt] := AP_s hap19 (by omega) hf23_2 (by omega)
      refine lv_if_eq (tgt := 98) hx hb dX2_encodeMany_91 (by decide) (fun c_24 => by exfalso; have tc_24 : r_23.toInt = 0 := v_eq c_24; omega) (fun c_24 => ?_)
      have tc_24 : ¬ r_23.toInt = 0 := v_ne c_24
      refine lv_iconst (v := 1) hx hb dX2_encodeMany_94 (by decide) ?_
      refine lv_goto (tgt := 99) hx hb dX2_encodeMany_95 (by decide) ?_
      exact kl_z (v := 1) hQQ hx hb hr hlocks hS dX2_encodeMany_99 (rfl) (fun PZ9 kZ9 => kZ9 lu_23 fu_23 (⟨hP, hD⟩) (hf23_0) (by decide) (F_en_y (by first | omega | rfl) hap23 (by first | (unfold enc; (repeat (first | rw [if_neg (by omega)] | rw [if_pos (by omega)])) <;> exact L2 (by first | omega | rfl) (by first | omega | rfl)) | (exfalso; omega))))
  · have tc_1 : le.toInt < 128 := v_nle c_1
    refine lv_aload_n hx hb dX2_encodeMany_7 rfl (lv_at hl 1 rfl) ?_
    refine lv_iload_n hx hb dX2_encodeMany_8 rfl (lv_at hl 0 rfl) ?_
    refine kV_i (rest := []) (q0 := 0) (ci := 5) hcf (m_X5_add l dC dI cI cS s.heap.size nu au cap lu fu le (g_lu) (by omega)) kc_X5_add gX2_encodeMany_X5_add rfl rfl rfl ⟨Nat.le_of_ble_eq_true rfl, Nat.le_of_ble_eq_true rfl⟩ kX_t hK hP hD hS hA [0, 1] [] rfl (by decide +kernel) rfl rfl rfl hl rfl (Nat.le_of_ble_eq_true rfl) dX2_encodeMany_9 ⟨Nat.le_of_ble_eq_true rfl, Nat.le_of_ble_eq_true rfl⟩ (fun r_25 H locs hB hJ hSn => ?_)
    refine hB _ (fun lu_25 fu_25 hPD9 hf25_0 hf25_1 hf25_2 => ?_)
    clear hB
    obtain ⟨hPn, hDn⟩ := hJ _ hPD9.1 hPD9.2 [(nu, .inr (5, [.ref au, .int lu_25])), (au, .inl (cI, cap, .inl fu_25))] rfl
    clear hP hD hS hJ hPD9
    have hP := hPn
    have hD := hDn
    have hS := hSn
    clear hPn hDn hSn
    have ha25 : lu_25.toInt = lu.toInt + 1 := F_add_l hf25_2 (by omega)
    have hr25 : r_25.toInt = 1 := F_add_r hf25_2 (by omega)
    have hap25 : AP lu lu_25 fu fu_25 [(le : Int32).toInt] := AP_s (AP_0 (l := lu) (f := fu)) (by omega) hf25_2 (by omega)
    exact kl_z (v := r_25) hQQ hx hb hr hlocks hS dX2_encodeMany_12 (v_bool (by omega)) (fun PZ9 kZ9 => kZ9 lu_25 fu_25 (⟨hP, hD⟩) (hf25_0) (hf25_1) (F_en_y (by first | omega | rfl) hap25 (by first | (unfold enc; (repeat (first | rw [if_neg (by omega)] | rw [if_pos (by omega)])) <;> exact L1 (by first | omega | rfl)) | (exfalso; omega))))

set_option maxHeartbeats 40000000 in
set_option maxRecDepth 100000 in
theorem f_X2_encodeNumber (l : Launch) (dC : Nat → ClassId) (dI : Nat → Nat → Nat) (cI cS : ClassId) (sz : Nat) (nu : Nat) (au : Nat) (cap : Nat) (lu : Int32) (fu : Nat → Int32) (le : Int32) (g_lu : 0 ≤ lu.toInt ∧ lu.toInt ≤ (cap : Int)) (g_le : 0 ≤ le.toInt ∧ le.toInt ≤ 65535) (hcap : cap ≤ 2400) (hrm : lu.toInt + 8 ≤ (cap : Int)) (hnm : 128 ≤ le.toInt ∨ le.toInt = 38) : kMi l yX2_encodeNumber wsX2_encodeNumber ({ frames := 1, cells := 0, slots := 0, locals := 21 } : Room) [.int le, .ref nu] sz (dC, dI) vwCl [(cI, .int), (cS, .short)] [(nu, .inr (5, [.ref au, .int lu])), (au, .inl (cI, cap, .inl fu))] (fun _ => True) 0 0 (fun (A : Nat → Prop) (r : Int32) (hh9 : Heap) => ∀ PZ9 : Prop, (∀ (lu' : Int32) (fu' : Nat → Int32), kPD (dC, dI) vwCl A [(nu, .inr (5, [.ref au, .int lu'])), (au, .inl (cI, cap, .inl fu'))] hh9 → (0 ≤ lu'.toInt ∧ lu'.toInt ≤ (cap : Int)) → (0 ≤ r.toInt ∧ r.toInt ≤ 1) → (F_en r 3 le (-1) lu lu' fu fu') → PZ9) → PZ9) := by
  refine kMi_of (cc := cX2_encodeNumber) (maxL := 6) (ret := (some .boolean)) (lv := [(0, .int le), (1, .ref nu)]) (by decide +kernel) rfl rfl (Nat.le_of_ble_eq_true rfl) ?_
  intro p e s m below meth c A QQ ls hx hb hr hts hml hown hlocks hA hQQ hK hX hP hD hS hl
  have hown : s.vm.findClass RX2 = some m.cls := hown
  have hcf := k_cf hx hb hml hown hts
  have z2 : (2 : Int32).toInt = 2 := rfl
  have z3 : (3 : Int32).toInt = 3 := rfl
  have z35 : (35 : Int32).toInt = 35 := rfl
  have z38 : (38 : Int32).toInt = 38 := rfl
  have z59 : (59 : Int32).toInt = 59 := rfl
  refine lv_aload_n hx hb dX2_encodeNumber_0 rfl (lv_at hl 1 rfl) ?_
  refine lv_bipush (v := 38) hx hb dX2_encodeNumber_1 (by decide) ?_
  refine kV_i (rest := []) (q0 := 0) (ci := 5) hcf (m_X5_add l dC dI cI cS s.heap.size nu au cap lu fu 38 (g_lu) (by omega)) kc_X5_add gX2_encodeNumber_X5_add rfl rfl rfl ⟨Nat.le_of_ble_eq_true rfl, Nat.le_of_ble_eq_true rfl⟩ kX_t hK hP hD hS hA [0, 1] [] rfl (by decide +kernel) rfl rfl rfl hl rfl (Nat.le_of_ble_eq_true rfl) dX2_encodeNumber_3 ⟨Nat.le_of_ble_eq_true rfl, Nat.le_of_ble_eq_true rfl⟩ (fun r_1 H locs hB hJ hSn => ?_)
  refine hB _ (fun lu_1 fu_1 hPD9 hf1_0 hf1_1 hf1_2 => ?_)
  clear hB
  obtain ⟨hPn, hDn⟩ := hJ _ hPD9.1 hPD9.2 [(nu, .inr (5, [.ref au, .int lu_1])), (au, .inl (cI, cap, .inl fu_1))] rfl
  clear hP hD hS hJ hPD9
  have hP := hPn
  have hD := hDn
  have hS := hSn
  clear hPn hDn hSn
  have ha1 : lu_1.toInt = lu.toInt + 1 := F_add_l hf1_2 (by omega)
  have hr1 : r_1.toInt = 1 := F_add_r hf1_2 (by omega)
  have hap1 : AP lu lu_1 fu fu_1 [(38 : Int32).toInt] := AP_s (AP_0 (l := lu) (f := fu)) (by omega) hf1_2 (by omega)
  refine lv_if_eq (tgt := 22) hx hb dX2_encodeNumber_6 (by decide) (fun c_2 => by exfalso; have tc_2 : r_1.toInt = 0 := v_eq c_2; omega) (fun c_2 => ?_)
  have tc_2 : ¬ r_1.toInt = 0 := v_ne c_2
  refine lv_aload_n hx hb dX2_encodeNumber_9 rfl (lv_at hl 1 rfl) ?_
  refine lv_bipush (v := 35) hx hb dX2_encodeNumber_10 (by decide) ?_
  refine kV_i (rest := []) (q0 := 0) (ci := 5) hcf (m_X5_add l dC dI cI cS H.size nu au cap lu_1 fu_1 35 (hf1_0) (by omega)) kc_X5_add gX2_encodeNumber_X5_add rfl rfl rfl ⟨Nat.le_of_ble_eq_true rfl, Nat.le_of_ble_eq_true rfl⟩ kX_t hK hP hD hS hA [0, 1] [] rfl (by decide +kernel) rfl rfl rfl hl rfl (Nat.le_of_ble_eq_true rfl) dX2_encodeNumber_12 ⟨Nat.le_of_ble_eq_true rfl, Nat.le_of_ble_eq_true rfl⟩ (fun r_3 H locs hB hJ hSn => ?_)
  refine hB _ (fun lu_3 fu_3 hPD9 hf3_0 hf3_1 hf3_2 => ?_)
  clear hB
  obtain ⟨hPn, hDn⟩ := hJ _ hPD9.1 hPD9.2 [(nu, .inr (5, [.ref au, .int lu_3])), (au, .inl (cI, cap, .inl fu_3))] rfl
  clear hP hD hS hJ hPD9
  have hP := hPn
  have hD := hDn
  have hS := hSn
  clear hPn hDn hSn
  have ha3 : lu_3.toInt = lu_1.toInt + 1 := F_add_l hf3_2 (by omega)
  have hr3 : r_3.toInt = 1 := F_add_r hf3_2 (by omega)
  have hap3 : AP lu lu_3 fu fu_3 [(38 : Int32).toInt, (35 : Int32).toInt] := AP_s hap1 (by omega) hf3_2 (by omega)
  refine lv_if_eq (tgt := 22) hx hb dX2_encodeNumber_15 (by decide) (fun c_4 => by exfalso; have tc_4 : r_3.toInt = 0 := v_eq c_4; omega) (fun c_4 => ?_)
  have tc_4 : ¬ r_3.toInt = 0 := v_ne c_4
  refine lv_iconst (v := 1) hx hb dX2_encodeNumber_18 (by decide) ?_
  refine lv_goto (tgt := 23) hx hb dX2_encodeNumber_19 (by decide) ?_
  refine lv_istore_n (lv' := [(2, .int 1), (0, .int le), (1, .ref nu)]) hx hb dX2_encodeNumber_23 rfl hl (by decide) rfl (fun ls hl => ?_)
  refine lv_iconst (v := 0) hx hb dX2_encodeNumber_24 (by decide) ?_
  refine lv_istore_n (lv' := [(3, .int 0), (2, .int 1), (0, .int le), (1, .ref nu)]) hx hb dX2_encodeNumber_25 rfl hl (by decide) rfl (fun ls hl => ?_)
  refine lv_sipush (v := 10000) hx hb dX2_encodeNumber_26 (by decide) ?_
  refine lv_istore (lv' := [(4, .int 10000), (3, .int 0), (2, .int 1), (0, .int le), (1, .ref nu)]) hx hb dX2_encodeNumber_29 hl (by decide) rfl (fun ls hl => ?_)
  refine lv_iload hx hb dX2_encodeNumber_31 (lv_at hl 0 rfl) ?_
  refine lv_if_le (tgt := 96) hx hb dX2_encodeNumber_33 (by decide) (fun c_5 => absurd c_5 (by decide)) (fun c_5 => ?_)
  refine lv_iload_n hx hb dX2_encodeNumber_36 rfl (lv_at hl 3 rfl) ?_
  refine lv_iload hx hb dX2_encodeNumber_37 (lv_at hl 0 rfl) ?_
  refine lv_idiv hx hb dX2_encodeNumber_39 (by decide) ?_
  refine lv_topi (fun x_6 ex_6 => ?_)
  have tx_6 : x_6.toInt = le.toInt / 10000 := v_div ex_6 (by omega) (by decide)
  refine lv_bipush (v := 10) hx hb dX2_encodeNumber_40 (by decide) ?_
  refine lv_irem hx hb dX2_encodeNumber_42 (by decide) ?_
  refine lv_topi (fun x_7 ex_7 => ?_)
  have tx_7 : x_7.toInt = x_6.toInt % 10 := v_rem ex_7 (by omega) (by decide)
  refine lv_istore (lv' := [(5, .int x_7), (4, .int 10000), (3, .int 0), (2, .int 1), (0, .int le), (1, .ref nu)]) hx hb dX2_encodeNumber_43 hl (by decide) rfl (fun ls hl => ?_)
  refine lv_iload_n hx hb dX2_encodeNumber_45 rfl (lv_at hl 2 rfl) ?_
  refine lv_if_ne (tgt := 54) hx hb dX2_encodeNumber_46 (by decide) (fun c_8 => absurd c_8 (by decide)) (fun c_8 => ?_)
  refine lv_iload hx hb dX2_encodeNumber_49 (lv_at hl 0 rfl) ?_
  refine lv_if_eq (tgt := 58) hx hb dX2_encodeNumber_51 (by decide) (fun c_9 => ?_) (fun c_9 => ?_)
  · have tc_9 : x_7.toInt = 0 := v_eq c_9
    refine lv_iconst (v := 0) hx hb dX2_encodeNumber_58 (by decide) ?_
    refine lv_istore_n (lv' := [(3, .int 0), (5, .int x_7), (4, .int 10000), (2, .int 1), (0, .int le), (1, .ref nu)]) hx hb dX2_encodeNumber_59 rfl hl (by decide) rfl (fun ls hl => ?_)
    refine lv_iload_n hx hb dX2_encodeNumber_60 rfl (lv_at hl 0 rfl) ?_
    refine lv_if_eq (tgt := 86) hx hb dX2_encodeNumber_61 (by decide) (fun c_10 => ?_) (fun c_10 => absurd c_10 (by decide))
    refine lv_iload hx hb dX2_encodeNumber_86 (lv_at hl 2 rfl) ?_
    refine lv_bipush (v := 10) hx hb dX2_encodeNumber_88 (by decide) ?_
    refine lv_idiv hx hb dX2_encodeNumber_90 (by decide) ?_
    refine k_i (y := 1000) (by decide) ?_
    refine lv_istore (lv' := [(4, .int 1000), (3, .int 0), (5, .int x_7), (2, .int 1), (0, .int le), (1, .ref nu)]) hx hb dX2_encodeNumber_91 hl (by decide) rfl (fun ls hl => ?_)
    refine lv_goto (tgt := 31) hx hb dX2_encodeNumber_93 (by decide) ?_
    refine lv_iload hx hb dX2_encodeNumber_31 (lv_at hl 0 rfl) ?_
    refine lv_if_le (tgt := 96) hx hb dX2_encodeNumber_33 (by decide) (fun c_11 => absurd c_11 (by decide)) (fun c_11 => ?_)
    refine lv_iload_n hx hb dX2_encodeNumber_36 rfl (lv_at hl 4 rfl) ?_
    refine lv_iload hx hb dX2_encodeNumber_37 (lv_at hl 0 rfl) ?_
    refine lv_idiv hx hb dX2_encodeNumber_39 (by decide) ?_
    refine lv_topi (fun x_12 ex_12 => ?_)
    have tx_12 : x_12.toInt = le.toInt / 1000 := v_div ex_12 (by omega) (by decide)
    refine lv_bipush (v := 10) hx hb dX2_encodeNumber_40 (by decide) ?_
    refine lv_irem hx hb dX2_encodeNumber_42 (by decide) ?_
    refine lv_topi (fun x_13 ex_13 => ?_)
    have tx_13 : x_13.toInt = x_12.toInt % 10 := v_rem ex_13 (by omega) (by decide)
    refine lv_istore (lv' := [(5, .int x_13), (4, .int 1000), (3, .int 0), (2, .int 1), (0, .int le), (1, .ref nu)]) hx hb dX2_encodeNumber_43 hl (by decide) rfl (fun ls hl => ?_)
    refine lv_iload_n hx hb dX2_encodeNumber_45 rfl (lv_at hl 2 rfl) ?_
    refine lv_if_ne (tgt := 54) hx hb dX2_encodeNumber_46 (by decide) (fun c_14 => absurd c_14 (by decide)) (fun c_14 => ?_)
    refine lv_iload hx hb dX2_encodeNumber_49 (lv_at hl 0 rfl) ?_
    refine lv_if_eq (tgt := 58) hx hb dX2_encodeNumber_51 (by decide) (fun c_15 => ?_) (fun c_15 => ?_)
    · have tc_15 : x_13.toInt = 0 := v_eq c_15
      refine lv_iconst (v := 0) hx hb dX2_encodeNumber_58 (by decide) ?_
      refine lv_istore_n (lv' := [(3, .int 0), (5, .int x_13), (4, .int 1000), (2, .int 1), (0, .int le), (1, .ref nu)]) hx hb dX2_encodeNumber_59 rfl hl (by decide) rfl (fun ls hl => ?_)
      refine lv_iload_n hx hb dX2_encodeNumber_60 rfl (lv_at hl 0 rfl) ?_
      refine lv_if_eq (tgt := 86) hx hb dX2_encodeNumber_61 (by decide) (fun c_16 => ?_) (fun c_16 => absurd c_16 (by decide))
      refine lv_iload hx hb dX2_encodeNumber_86 (lv_at hl 2 rfl) ?_
      refine lv_bipush (v := 10) hx hb dX2_encodeNumber_88 (by decide) ?_
      refine lv_idiv hx hb dX2_encodeNumber_90 (by decide) ?_
      refine k_i (y := 100) (by decide) ?_
      refine lv_istore (lv' := [(4, .int 100), (3, .int 0), (5, .int x_13), (2, .int 1), (0, .int le), (1, .ref nu)]) hx hb dX2_encodeNumber_91 hl (by decide) rfl (fun ls hl => ?_)
      refine lv_goto (tgt := 31) hx hb dX2_encodeNumber_93 (by decide) ?_
      refine lv_iload hx hb dX2_encodeNumber_31 (lv_at hl 0 rfl) ?_
      refine lv_if_le (tgt := 96) hx hb dX2_encodeNumber_33 (by decide) (fun c_17 => absurd c_17 (by decide)) (fun c_17 => ?_)
      refine lv_iload_n hx hb dX2_encodeNumber_36 rfl (lv_at hl 4 rfl) ?_
      refine lv_iload hx hb dX2_encodeNumber_37 (lv_at hl 0 rfl) ?_
      refine lv_idiv hx hb dX2_encodeNumber_39 (by decide) ?_
      refine lv_topi (fun x_18 ex_18 => ?_)
      have tx_18 : x_18.toInt = le.toInt / 100 := v_div ex_18 (by omega) (by decide)
      refine lv_bipush (v := 10) hx hb dX2_encodeNumber_40 (by decide) ?_
      refine lv_irem hx hb dX2_encodeNumber_42 (by decide) ?_
      refine lv_topi (fun x_19 ex_19 => ?_)
      have tx_19 : x_19.toInt = x_18.toInt % 10 := v_rem ex_19 (by omega) (by decide)
      refine lv_istore (lv' := [(5, .int x_19), (4, .int 100), (3, .int 0), (2, .int 1), (0, .int le), (1, .ref nu)]) hx hb dX2_encodeNumber_43 hl (by decide) rfl (fun ls hl => ?_)
      refine lv_iload_n hx hb dX2_encodeNumber_45 rfl (lv_at hl 2 rfl) ?_
      refine lv_if_ne (tgt := 54) hx hb dX2_encodeNumber_46 (by decide) (fun c_20 => absurd c_20 (by decide)) (fun c_20 => ?_)
      refine lv_iload hx hb dX2_encodeNumber_49 (lv_at hl 0 rfl) ?_
      refine lv_if_eq (tgt := 58) hx hb dX2_encodeNumber_51 (by decide) (fun c_21 => ?_) (fun c_21 => ?_)
      · have tc_21 : x_19.toInt = 0 := v_eq c_21
        refine lv_iconst (v := 0) hx hb dX2_encodeNumber_58 (by decide) ?_
        refine lv_istore_n (lv' := [(3, .int 0), (5, .int x_19), (4, .int 100), (2, .int 1), (0, .int le), (1, .ref nu)]) hx hb dX2_encodeNumber_59 rfl hl (by decide) rfl (fun ls hl => ?_)
        refine lv_iload_n hx hb dX2_encodeNumber_60 rfl (lv_at hl 0 rfl) ?_
        refine lv_if_eq (tgt := 86) hx hb dX2_encodeNumber_61 (by decide) (fun c_22 => ?_) (fun c_22 => absurd c_22 (by decide))
        refine lv_iload hx hb dX2_encodeNumber_86 (lv_at hl 2 rfl) ?_
        refine lv_bipush (v := 10) hx hb dX2_encodeNumber_88 (by decide) ?_
        refine lv_idiv hx hb dX2_encodeNumber_90 (by decide) ?_
        refine k_i (y := 10) (by decide) ?_
        refine lv_istore (lv' := [(4, .int 10), (3, .int 0), (5, .int x_19), (2, .int 1), (0, .int le), (1, .ref nu)]) hx hb dX2_encodeNumber_91 hl (by decide) rfl (fun ls hl => ?_)
        refine lv_goto (tgt := 31) hx hb dX2_encodeNumber_93 (by decide) ?_
        refine lv_iload hx hb dX2_encodeNumber_31 (lv_at hl 0 rfl) ?_
        refine lv_if_le (tgt := 96) hx hb dX2_encodeNumber_33 (by decide) (fun c_23 => absurd c_23 (by decide)) (fun c_23 => ?_)
        refine lv_iload_n hx hb dX2_encodeNumber_36 rfl (lv_at hl 4 rfl) ?_
        refine lv_iload hx hb dX2_encodeNumber_37 (lv_at hl 0 rfl) ?_
        refine lv_idiv hx hb dX2_encodeNumber_39 (by decide) ?_
        refine lv_topi (fun x_24 ex_24 => ?_)
        have tx_24 : x_24.toInt = le.toInt / 10 := v_div ex_24 (by omega) (by decide)
        refine lv_bipush (v := 10) hx hb dX2_encodeNumber_40 (by decide) ?_
        refine lv_irem hx hb dX2_encodeNumber_42 (by decide) ?_
        refine lv_topi (fun x_25 ex_25 => ?_)
        have tx_25 : x_25.toInt = x_24.toInt % 10 := v_rem ex_25 (by omega) (by decide)
        refine lv_istore (lv' := [(5, .int x_25), (4, .int 10), (3, .int 0), (2, .int 1), (0, .int le), (1, .ref nu)]) hx hb dX2_encodeNumber_43 hl (by decide) rfl (fun ls hl => ?_)
        refine lv_iload_n hx hb dX2_encodeNumber_45 rfl (lv_at hl 2 rfl) ?_
        refine lv_if_ne (tgt := 54) hx hb dX2_encodeNumber_46 (by decide) (fun c_26 => absurd c_26 (by decide)) (fun c_26 => ?_)
        refine lv_iload hx hb dX2_encodeNumber_49 (lv_at hl 0 rfl) ?_
        refine lv_if_eq (tgt := 58) hx hb dX2_encodeNumber_51 (by decide) (fun c_27 => ?_) (fun c_27 => ?_)
        · have tc_27 : x_25.toInt = 0 := v_eq c_27
          refine lv_iconst (v := 0) hx hb dX2_encodeNumber_58 (by decide) ?_
          refine lv_istore_n (lv' := [(3, .int 0), (5, .int x_25), (4, .int 10), (2, .int 1), (0, .int le), (1, .ref nu)]) hx hb dX2_encodeNumber_59 rfl hl (by decide) rfl (fun ls hl => ?_)
          refine lv_iload_n hx hb dX2_encodeNumber_60 rfl (lv_at hl 0 rfl) ?_
          refine lv_if_eq (tgt := 86) hx hb dX2_encodeNumber_61 (by decide) (fun c_28 => ?_) (fun c_28 => absurd c_28 (by decide))
          refine lv_iload hx hb dX2_encodeNumber_86 (lv_at hl 2 rfl) ?_
          refine lv_bipush (v := 10) hx hb dX2_encodeNumber_88 (by decide) ?_
          refine lv_idiv hx hb dX2_encodeNumber_90 (by decide) ?_
          refine k_i (y := 1) (by decide) ?_
          refine lv_istore (lv' := [(4, .int 1), (3, .int 0), (5, .int x_25), (2, .int 1), (0, .int le), (1, .ref nu)]) hx hb dX2_encodeNumber_91 hl (by decide) rfl (fun ls hl => ?_)
          refine lv_goto (tgt := 31) hx hb dX2_encodeNumber_93 (by decide) ?_
          refine lv_iload hx hb dX2_encodeNumber_31 (lv_at hl 0 rfl) ?_
          refine lv_if_le (tgt := 96) hx hb dX2_encodeNumber_33 (by decide) (fun c_29 => absurd c_29 (by decide)) (fun c_29 => ?_)
          refine lv_iload_n hx hb dX2_encodeNumber_36 rfl (lv_at hl 4 rfl) ?_
          refine lv_iload hx hb dX2_encodeNumber_37 (lv_at hl 0 rfl) ?_
          refine lv_idiv hx hb dX2_encodeNumber_39 (by decide) ?_
          refine lv_topi (fun x_30 ex_30 => ?_)
          have tx_30 : x_30.toInt = le.toInt / 1 := v_div ex_30 (by omega) (by decide)
          refine lv_bipush (v := 10) hx hb dX2_encodeNumber_40 (by decide) ?_
          refine lv_irem hx hb dX2_encodeNumber_42 (by decide) ?_
          refine lv_topi (fun x_31 ex_31 => ?_)
          have tx_31 : x_31.toInt = x_30.toInt % 10 := v_rem ex_31 (by omega) (by decide)
          refine lv_istore (lv' := [(5, .int x_31), (4, .int 1), (3, .int 0), (2, .int 1), (0, .int le), (1, .ref nu)]) hx hb dX2_encodeNumber_43 hl (by decide) rfl (fun ls hl => ?_)
          refine lv_iload_n hx hb dX2_encodeNumber_45 rfl (lv_at hl 2 rfl) ?_
          refine lv_if_ne (tgt := 54) hx hb dX2_encodeNumber_46 (by decide) (fun c_32 => absurd c_32 (by decide)) (fun c_32 => ?_)
          refine lv_iload hx hb dX2_encodeNumber_49 (lv_at hl 0 rfl) ?_
          refine lv_if_eq (tgt := 58) hx hb dX2_encodeNumber_51 (by decide) (fun c_33 => ?_) (fun c_33 => ?_)
          · have tc_33 : x_31.toInt = 0 := v_eq c_33
            refine lv_iconst (v := 0) hx hb dX2_encodeNumber_58 (by decide) ?_
            refine lv_istore_n (lv' := [(3, .int 0), (5, .int x_31), (4, .int 1), (2, .int 1), (0, .int le), (1, .ref nu)]) hx hb dX2_encodeNumber_59 rfl hl (by decide) rfl (fun ls hl => ?_)
            refine lv_iload_n hx hb dX2_encodeNumber_60 rfl (lv_at hl 0 rfl) ?_
            refine lv_if_eq (tgt := 86) hx hb dX2_encodeNumber_61 (by decide) (fun c_34 => ?_) (fun c_34 => absurd c_34 (by decide))
            refine lv_iload hx hb dX2_encodeNumber_86 (lv_at hl 2 rfl) ?_
            refine lv_bipush (v := 10) hx hb dX2_encodeNumber_88 (by decide) ?_
            refine lv_idiv hx hb dX2_encodeNumber_90 (by decide) ?_
            refine k_i (y := 0) (by decide) ?_
            refine lv_istore (lv' := [(4, .int 0), (3, .int 0), (5, .int x_31), (2, .int 1), (0, .int le), (1, .ref nu)]) hx hb dX2_encodeNumber_91 hl (by decide) rfl (fun ls hl => ?_)
            refine lv_goto (tgt := 31) hx hb dX2_encodeNumber_93 (by decide) ?_
            refine lv_iload hx hb dX2_encodeNumber_31 (lv_at hl 0 rfl) ?_
            refine lv_if_le (tgt := 96) hx hb dX2_encodeNumber_33 (by decide) (fun c_35 => ?_) (fun c_35 => absurd c_35 (by decide))
            refine lv_iload_n hx hb dX2_encodeNumber_96 rfl (lv_at hl 3 rfl) ?_
            refine lv_if_eq (tgt := 113) hx hb dX2_encodeNumber_97 (by decide) (fun c_36 => absurd c_36 (by decide)) (fun c_36 => ?_)
            refine lv_aload_n hx hb dX2_encodeNumber_100 rfl (lv_at hl 5 rfl) ?_
            refine lv_bipush (v := 59) hx hb dX2_encodeNumber_101 (by decide) ?_
            refine kV_i (rest := []) (q0 := 0) (ci := 5) hcf (m_X5_add l dC dI cI cS H.size nu au cap lu_3 fu_3 59 (hf3_0) (by omega)) kc_X5_add gX2_encodeNumber_X5_add rfl rfl rfl ⟨Nat.le_of_ble_eq_true rfl, Nat.le_of_ble_eq_true rfl⟩ kX_t hK hP hD hS hA [0, 1] [] rfl (by decide +kernel) rfl rfl rfl hl rfl (Nat.le_of_ble_eq_true rfl) dX2_encodeNumber_103 ⟨Nat.le_of_ble_eq_true rfl, Nat.le_of_ble_eq_true rfl⟩ (fun r_37 H locs hB hJ hSn => ?_)
            refine hB _ (fun lu_37 fu_37 hPD9 hf37_0 hf37_1 hf37_2 => ?_)
            clear hB
            obtain ⟨hPn, hDn⟩ := hJ _ hPD9.1 hPD9.2 [(nu, .inr (5, [.ref au, .int lu_37])), (au, .inl (cI, cap, .inl fu_37))] rfl
            clear hP hD hS hJ hPD9
            have hP := hPn
            have hD := hDn
            have hS := hSn
            clear hPn hDn hSn
            have ha37 : lu_37.toInt = lu_3.toInt + 1 := F_add_l hf37_2 (by omega)
            have hr37 : r_37.toInt = 1 := F_add_r hf37_2 (by omega)
            have hap37 : AP lu lu_37 fu fu_37 [(38 : Int32).toInt, (35 : Int32).toInt, (59 : Int32).toInt] := AP_s hap3 (by omega) hf37_2 (by omega)
            refine lv_if_eq (tgt := 113) hx hb dX2_encodeNumber_106 (by decide) (fun c_38 => by exfalso; have tc_38 : r_37.toInt = 0 := v_eq c_38; omega) (fun c_38 => ?_)
            have tc_38 : ¬ r_37.toInt = 0 := v_ne c_38
            refine lv_iconst (v := 1) hx hb dX2_encodeNumber_109 (by decide) ?_
            refine lv_goto (tgt := 114) hx hb dX2_encodeNumber_110 (by decide) ?_
            exact kl_z (v := 1) hQQ hx hb hr hlocks hS dX2_encodeNumber_114 (rfl) (fun PZ9 kZ9 => kZ9 lu_37 fu_37 (⟨hP, hD⟩) (hf37_0) (by decide) (F_en_y (by first | omega | rfl) hap37 (by first | (unfold enc; rw [if_neg (by decide), if_neg (by decide), if_neg (by decide), if_pos (by decide), if_neg (by omega)]; unfold encN; rw [if_pos (by omega)]; exact L3 rfl rfl rfl) | (exfalso; omega))))
          · have tc_33 : ¬ x_31.toInt = 0 := v_ne c_33
            refine lv_iconst (v := 1) hx hb dX2_encodeNumber_54 (by decide) ?_
            refine lv_goto (tgt := 59) hx hb dX2_encodeNumber_55 (by decide) ?_
            refine lv_istore_n (lv' := [(3, .int 1), (5, .int x_31), (4, .int 1), (2, .int 1), (0, .int le), (1, .ref nu)]) hx hb dX2_encodeNumber_59 rfl hl (by decide) rfl (fun ls hl => ?_)
            refine lv_iload_n hx hb dX2_encodeNumber_60 rfl (lv_at hl 0 rfl) ?_
            refine lv_if_eq (tgt := 86) hx hb dX2_encodeNumber_61 (by decide) (fun c_39 => absurd c_39 (by decide)) (fun c_39 => ?_)
            refine lv_iload_n hx hb dX2_encodeNumber_64 rfl (lv_at hl 3 rfl) ?_
            refine lv_if_eq (tgt := 84) hx hb dX2_encodeNumber_65 (by decide) (fun c_40 => absurd c_40 (by decide)) (fun c_40 => ?_)
            refine lv_aload_n hx hb dX2_encodeNumber_68 rfl (lv_at hl 5 rfl) ?_
            refine lv_bipush (v := 48) hx hb dX2_encodeNumber_69 (by decide) ?_
            refine lv_iload hx hb dX2_encodeNumber_71 (lv_at hl 1 rfl) ?_
            refine lv_iadd hx hb dX2_encodeNumber_73 ?_
            refine lv_topi (fun x_41 ex_41 => ?_)
            have tx_41 : x_41.toInt = 48 + x_31.toInt := v_add ex_41 (by show -2147483648 ≤ 48 + x_31.toInt; omega) (by show 48 + x_31.toInt < 2147483648; omega)
            refine kV_i (rest := []) (q0 := 0) (ci := 5) hcf (m_X5_add l dC dI cI cS H.size nu au cap lu_3 fu_3 x_41 (hf3_0) (by omega)) kc_X5_add gX2_encodeNumber_X5_add rfl rfl rfl ⟨Nat.le_of_ble_eq_true rfl, Nat.le_of_ble_eq_true rfl⟩ kX_t hK hP hD hS hA [0, 1] [] rfl (by decide +kernel) rfl rfl rfl hl rfl (Nat.le_of_ble_eq_true rfl) dX2_encodeNumber_74 ⟨Nat.le_of_ble_eq_true rfl, Nat.le_of_ble_eq_true rfl⟩ (fun r_42 H locs hB hJ hSn => ?_)
            refine hB _ (fun lu_42 fu_42 hPD9 hf42_0 hf42_1 hf42_2 => ?_)
            clear hB
            obtain ⟨hPn, hDn⟩ := hJ _ hPD9.1 hPD9.2 [(nu, .inr (5, [.ref au, .int lu_42])), (au, .inl (cI, cap, .inl fu_42))] rfl
            clear hP hD hS hJ hPD9
            have hP := hPn
            have hD := hDn
            have hS := hSn
            clear hPn hDn hSn
            have ha42 : lu_42.toInt = lu_3.toInt + 1 := F_add_l hf42_2 (by omega)
            have hr42 : r_42.toInt = 1 := F_add_r hf42_2 (by omega)
            have hap42 : AP lu lu_42 fu fu_42 [(38 : Int32).toInt, (35 : Int32).toInt, (x_41 : Int32).toInt] := AP_s hap3 (by omega) hf42_2 (by omega)
            refine lv_if_eq (tgt := 84) hx hb dX2_encodeNumber_77 (by decide) (fun c_43 => by exfalso; have tc_43 : r_42.toInt = 0 := v_eq c_43; omega) (fun c_43 => ?_)
            have tc_43 : ¬ r_42.toInt = 0 := v_ne c_43
            refine lv_iconst (v := 1) hx hb dX2_encodeNumber_80 (by decide) ?_
            refine lv_goto (tgt := 85) hx hb dX2_encodeNumber_81 (by decide) ?_
            refine lv_istore_n (lv' := [(2, .int 1), (3, .int 1), (5, .int x_31), (4, .int 1), (0, .int le), (1, .ref nu)]) hx hb dX2_encodeNumber_85 rfl hl (by decide) rfl (fun ls hl => ?_)
            refine lv_iload hx hb dX2_encodeNumber_86 (lv_at hl 3 rfl) ?_
            refine lv_bipush (v := 10) hx hb dX2_encodeNumber_88 (by decide) ?_
            refine lv_idiv hx hb dX2_encodeNumber_90 (by decide) ?_
            refine k_i (y := 0) (by decide) ?_
            refine lv_istore (lv' := [(4, .int 0), (2, .int 1), (3, .int 1), (5, .int x_31), (0, .int le), (1, .ref nu)]) hx hb dX2_encodeNumber_91 hl (by decide) rfl (fun ls hl => ?_)
            refine lv_goto (tgt := 31) hx hb dX2_encodeNumber_93 (by decide) ?_
            refine lv_iload hx hb dX2_encodeNumber_31 (lv_at hl 0 rfl) ?_
            refine lv_if_le (tgt := 96) hx hb dX2_encodeNumber_33 (by decide) (fun c_44 => ?_) (fun c_44 => absurd c_44 (by decide))
            refine lv_iload_n hx hb dX2_encodeNumber_96 rfl (lv_at hl 1 rfl) ?_
            refine lv_if_eq (tgt := 113) hx hb dX2_encodeNumber_97 (by decide) (fun c_45 => absurd c_45 (by decide)) (fun c_45 => ?_)
            refine lv_aload_n hx hb dX2_encodeNumber_100 rfl (lv_at hl 5 rfl) ?_
            refine lv_bipush (v := 59) hx hb dX2_encodeNumber_101 (by decide) ?_
            refine kV_i (rest := []) (q0 := 0) (ci := 5) hcf (m_X5_add l dC dI cI cS H.size nu au cap lu_42 fu_42 59 (hf42_0) (by omega)) kc_X5_add gX2_encodeNumber_X5_add rfl rfl rfl ⟨Nat.le_of_ble_eq_true rfl, Nat.le_of_ble_eq_true rfl⟩ kX_t hK hP hD hS hA [0, 1] [] rfl (by decide +kernel) rfl rfl rfl hl rfl (Nat.le_of_ble_eq_true rfl) dX2_encodeNumber_103 ⟨Nat.le_of_ble_eq_true rfl, Nat.le_of_ble_eq_true rfl⟩ (fun r_46 H locs hB hJ hSn => ?_)
            refine hB _ (fun lu_46 fu_46 hPD9 hf46_0 hf46_1 hf46_2 => ?_)
            clear hB
            obtain ⟨hPn, hDn⟩ := hJ _ hPD9.1 hPD9.2 [(nu, .inr (5, [.ref au, .int lu_46])), (au, .inl (cI, cap, .inl fu_46))] rfl
            clear hP hD hS hJ hPD9
            have hP := hPn
            have hD := hDn
            have hS := hSn
            clear hPn hDn hSn
            have ha46 : lu_46.toInt = lu_42.toInt + 1 := F_add_l hf46_2 (by omega)
            have hr46 : r_46.toInt = 1 := F_add_r hf46_2 (by omega)
            have hap46 : AP lu lu_46 fu fu_46 [(38 : Int32).toInt, (35 : Int32).toInt, (x_41 : Int32).toInt, (59 : Int32).toInt] := AP_s hap42 (by omega) hf46_2 (by omega)
            refine lv_if_eq (tgt := 113) hx hb dX2_encodeNumber_106 (by decide) (fun c_47 => by exfalso; have tc_47 : r_46.toInt = 0 := v_eq c_47; omega) (fun c_47 => ?_)
            have tc_47 : ¬ r_46.toInt = 0 := v_ne c_47
            refine lv_iconst (v := 1) hx hb dX2_encodeNumber_109 (by decide) ?_
            refine lv_goto (tgt := 114) hx hb dX2_encodeNumber_110 (by decide) ?_
            exact kl_z (v := 1) hQQ hx hb hr hlocks hS dX2_encodeNumber_114 (rfl) (fun PZ9 kZ9 => kZ9 lu_46 fu_46 (⟨hP, hD⟩) (hf46_0) (by decide) (F_en_y (by first | omega | rfl) hap46 (by first | (unfold enc; rw [if_neg (by decide), if_neg (by decide), if_neg (by decide), if_pos (by decide), if_neg (by omega)]; unfold encN; rw [if_pos (by omega)]; exact L4 rfl rfl (by first | (rw [tx_41, tx_31, tx_30]; done) | (rw [tx_41, tx_31, tx_30]; exact Int.add_comm _ _) | omega) rfl) | (exfalso; omega))))
        · have tc_27 : ¬ x_25.toInt = 0 := v_ne c_27
          refine lv_iconst (v := 1) hx hb dX2_encodeNumber_54 (by decide) ?_
          refine lv_goto (tgt := 59) hx hb dX2_encodeNumber_55 (by decide) ?_
          refine lv_istore_n (lv' := [(3, .int 1), (5, .int x_25), (4, .int 10), (2, .int 1), (0, .int le), (1, .ref nu)]) hx hb dX2_encodeNumber_59 rfl hl (by decide) rfl (fun ls hl => ?_)
          refine lv_iload_n hx hb dX2_encodeNumber_60 rfl (lv_at hl 0 rfl) ?_
          refine lv_if_eq (tgt := 86) hx hb dX2_encodeNumber_61 (by decide) (fun c_48 => absurd c_48 (by decide)) (fun c_48 => ?_)
          refine lv_iload_n hx hb dX2_encodeNumber_64 rfl (lv_at hl 3 rfl) ?_
          refine lv_if_eq (tgt := 84) hx hb dX2_encodeNumber_65 (by decide) (fun c_49 => absurd c_49 (by decide)) (fun c_49 => ?_)
          refine lv_aload_n hx hb dX2_encodeNumber_68 rfl (lv_at hl 5 rfl) ?_
          refine lv_bipush (v := 48) hx hb dX2_encodeNumber_69 (by decide) ?_
          refine lv_iload hx hb dX2_encodeNumber_71 (lv_at hl 1 rfl) ?_
          refine lv_iadd hx hb dX2_encodeNumber_73 ?_
          refine lv_topi (fun x_50 ex_50 => ?_)
          have tx_50 : x_50.toInt = 48 + x_25.toInt := v_add ex_50 (by show -2147483648 ≤ 48 + x_25.toInt; omega) (by show 48 + x_25.toInt < 2147483648; omega)
          refine kV_i (rest := []) (q0 := 0) (ci := 5) hcf (m_X5_add l dC dI cI cS H.size nu au cap lu_3 fu_3 x_50 (hf3_0) (by omega)) kc_X5_add gX2_encodeNumber_X5_add rfl rfl rfl ⟨Nat.le_of_ble_eq_true rfl, Nat.le_of_ble_eq_true rfl⟩ kX_t hK hP hD hS hA [0, 1] [] rfl (by decide +kernel) rfl rfl rfl hl rfl (Nat.le_of_ble_eq_true rfl) dX2_encodeNumber_74 ⟨Nat.le_of_ble_eq_true rfl, Nat.le_of_ble_eq_true rfl⟩ (fun r_51 H locs hB hJ hSn => ?_)
          refine hB _ (fun lu_51 fu_51 hPD9 hf51_0 hf51_1 hf51_2 => ?_)
          clear hB
          obtain ⟨hPn, hDn⟩ := hJ _ hPD9.1 hPD9.2 [(nu, .inr (5, [.ref au, .int lu_51])), (au, .inl (cI, cap, .inl fu_51))] rfl
          clear hP hD hS hJ hPD9
          have hP := hPn
          have hD := hDn
          have hS := hSn
          clear hPn hDn hSn
          have ha51 : lu_51.toInt = lu_3.toInt + 1 := F_add_l hf51_2 (by omega)
          have hr51 : r_51.toInt = 1 := F_add_r hf51_2 (by omega)
          have hap51 : AP lu lu_51 fu fu_51 [(38 : Int32).toInt, (35 : Int32).toInt, (x_50 : Int32).toInt] := AP_s hap3 (by omega) hf51_2 (by omega)
          refine lv_if_eq (tgt := 84) hx hb dX2_encodeNumber_77 (by decide) (fun c_52 => by exfalso; have tc_52 : r_51.toInt = 0 := v_eq c_52; omega) (fun c_52 => ?_)
          have tc_52 : ¬ r_51.toInt = 0 := v_ne c_52
          refine lv_iconst (v := 1) hx hb dX2_encodeNumber_80 (by decide) ?_
          refine lv_goto (tgt := 85) hx hb dX2_encodeNumber_81 (by decide) ?_
          refine lv_istore_n (lv' := [(2, .int 1), (3, .int 1), (5, .int x_25), (4, .int 10), (0, .int le), (1, .ref nu)]) hx hb dX2_encodeNumber_85 rfl hl (by decide) rfl (fun ls hl => ?_)
          refine lv_iload hx hb dX2_encodeNumber_86 (lv_at hl 3 rfl) ?_
          refine lv_bipush (v := 10) hx hb dX2_encodeNumber_88 (by decide) ?_
          refine lv_idiv hx hb dX2_encodeNumber_90 (by decide) ?_
          refine k_i (y := 1) (by decide) ?_
          refine lv_istore (lv' := [(4, .int 1), (2, .int 1), (3, .int 1), (5, .int x_25), (0, .int le), (1, .ref nu)]) hx hb dX2_encodeNumber_91 hl (by decide) rfl (fun ls hl => ?_)
          refine lv_goto (tgt := 31) hx hb dX2_encodeNumber_93 (by decide) ?_
          refine lv_iload hx hb dX2_encodeNumber_31 (lv_at hl 0 rfl) ?_
          refine lv_if_le (tgt := 96) hx hb dX2_encodeNumber_33 (by decide) (fun c_53 => absurd c_53 (by decide)) (fun c_53 => ?_)
          refine lv_iload_n hx hb dX2_encodeNumber_36 rfl (lv_at hl 4 rfl) ?_
          refine lv_iload hx hb dX2_encodeNumber_37 (lv_at hl 0 rfl) ?_
          refine lv_idiv hx hb dX2_encodeNumber_39 (by decide) ?_
          refine lv_topi (fun x_54 ex_54 => ?_)
          have tx_54 : x_54.toInt = le.toInt / 1 := v_div ex_54 (by omega) (by decide)
          refine lv_bipush (v := 10) hx hb dX2_encodeNumber_40 (by decide) ?_
          refine lv_irem hx hb dX2_encodeNumber_42 (by decide) ?_
          refine lv_topi (fun x_55 ex_55 => ?_)
          have tx_55 : x_55.toInt = x_54.toInt % 10 := v_rem ex_55 (by omega) (by decide)
          refine lv_istore (lv' := [(5, .int x_55), (4, .int 1), (2, .int 1), (3, .int 1), (0, .int le), (1, .ref nu)]) hx hb dX2_encodeNumber_43 hl (by decide) rfl (fun ls hl => ?_)
          refine lv_iload_n hx hb dX2_encodeNumber_45 rfl (lv_at hl 3 rfl) ?_
          refine lv_if_ne (tgt := 54) hx hb dX2_encodeNumber_46 (by decide) (fun c_56 => ?_) (fun c_56 => absurd c_56 (by decide))
          refine lv_iconst (v := 1) hx hb dX2_encodeNumber_54 (by decide) ?_
          refine lv_goto (tgt := 59) hx hb dX2_encodeNumber_55 (by decide) ?_
          refine lv_istore_n (lv' := [(3, .int 1), (5, .int x_55), (4, .int 1), (2, .int 1), (0, .int le), (1, .ref nu)]) hx hb dX2_encodeNumber_59 rfl hl (by decide) rfl (fun ls hl => ?_)
          refine lv_iload_n hx hb dX2_encodeNumber_60 rfl (lv_at hl 0 rfl) ?_
          refine lv_if_eq (tgt := 86) hx hb dX2_encodeNumber_61 (by decide) (fun c_57 => absurd c_57 (by decide)) (fun c_57 => ?_)
          refine lv_iload_n hx hb dX2_encodeNumber_64 rfl (lv_at hl 3 rfl) ?_
          refine lv_if_eq (tgt := 84) hx hb dX2_encodeNumber_65 (by decide) (fun c_58 => absurd c_58 (by decide)) (fun c_58 => ?_)
          refine lv_aload_n hx hb dX2_encodeNumber_68 rfl (lv_at hl 5 rfl) ?_
          refine lv_bipush (v := 48) hx hb dX2_encodeNumber_69 (by decide) ?_
          refine lv_iload hx hb dX2_encodeNumber_71 (lv_at hl 1 rfl) ?_
          refine lv_iadd hx hb dX2_encodeNumber_73 ?_
          refine lv_topi (fun x_59 ex_59 => ?_)
          have tx_59 : x_59.toInt = 48 + x_55.toInt := v_add ex_59 (by show -2147483648 ≤ 48 + x_55.toInt; omega) (by show 48 + x_55.toInt < 2147483648; omega)
          refine kV_i (rest := []) (q0 := 0) (ci := 5) hcf (m_X5_add l dC dI cI cS H.size nu au cap lu_51 fu_51 x_59 (hf51_0) (by omega)) kc_X5_add gX2_encodeNumber_X5_add rfl rfl rfl ⟨Nat.le_of_ble_eq_true rfl, Nat.le_of_ble_eq_true rfl⟩ kX_t hK hP hD hS hA [0, 1] [] rfl (by decide +kernel) rfl rfl rfl hl rfl (Nat.le_of_ble_eq_true rfl) dX2_encodeNumber_74 ⟨Nat.le_of_ble_eq_true rfl, Nat.le_of_ble_eq_true rfl⟩ (fun r_60 H locs hB hJ hSn => ?_)
          refine hB _ (fun lu_60 fu_60 hPD9 hf60_0 hf60_1 hf60_2 => ?_)
          clear hB
          obtain ⟨hPn, hDn⟩ := hJ _ hPD9.1 hPD9.2 [(nu, .inr (5, [.ref au, .int lu_60])), (au, .inl (cI, cap, .inl fu_60))] rfl
          clear hP hD hS hJ hPD9
          have hP := hPn
          have hD := hDn
          have hS := hSn
          clear hPn hDn hSn
          have ha60 : lu_60.toInt = lu_51.toInt + 1 := F_add_l hf60_2 (by omega)
          have hr60 : r_60.toInt = 1 := F_add_r hf60_2 (by omega)
          have hap60 : AP lu lu_60 fu fu_60 [(38 : Int32).toInt, (35 : Int32).toInt, (x_50 : Int32).toInt, (x_59 : Int32).toInt] := AP_s hap51 (by omega) hf60_2 (by omega)
          refine lv_if_eq (tgt := 84) hx hb dX2_encodeNumber_77 (by decide) (fun c_61 => by exfalso; have tc_61 : r_60.toInt = 0 := v_eq c_61; omega) (fun c_61 => ?_)
          have tc_61 : ¬ r_60.toInt = 0 := v_ne c_61
          refine lv_iconst (v := 1) hx hb dX2_encodeNumber_80 (by decide) ?_
          refine lv_goto (tgt := 85) hx hb dX2_encodeNumber_81 (by decide) ?_
          refine lv_istore_n (lv' := [(2, .int 1), (3, .int 1), (5, .int x_55), (4, .int 1), (0, .int le), (1, .ref nu)]) hx hb dX2_encodeNumber_85 rfl hl (by decide) rfl (fun ls hl => ?_)
          refine lv_iload hx hb dX2_encodeNumber_86 (lv_at hl 3 rfl) ?_
          refine lv_bipush (v := 10) hx hb dX2_encodeNumber_88 (by decide) ?_
          refine lv_idiv hx hb dX2_encodeNumber_90 (by decide) ?_
          refine k_i (y := 0) (by decide) ?_
          refine lv_istore (lv' := [(4, .int 0), (2, .int 1), (3, .int 1), (5, .int x_55), (0, .int le), (1, .ref nu)]) hx hb dX2_encodeNumber_91 hl (by decide) rfl (fun ls hl => ?_)
          refine lv_goto (tgt := 31) hx hb dX2_encodeNumber_93 (by decide) ?_
          refine lv_iload hx hb dX2_encodeNumber_31 (lv_at hl 0 rfl) ?_
          refine lv_if_le (tgt := 96) hx hb dX2_encodeNumber_33 (by decide) (fun c_62 => ?_) (fun c_62 => absurd c_62 (by decide))
          refine lv_iload_n hx hb dX2_encodeNumber_96 rfl (lv_at hl 1 rfl) ?_
          refine lv_if_eq (tgt := 113) hx hb dX2_encodeNumber_97 (by decide) (fun c_63 => absurd c_63 (by decide)) (fun c_63 => ?_)
          refine lv_aload_n hx hb dX2_encodeNumber_100 rfl (lv_at hl 5 rfl) ?_
          refine lv_bipush (v := 59) hx hb dX2_encodeNumber_101 (by decide) ?_
          refine kV_i (rest := []) (q0 := 0) (ci := 5) hcf (m_X5_add l dC dI cI cS H.size nu au cap lu_60 fu_60 59 (hf60_0) (by omega)) kc_X5_add gX2_encodeNumber_X5_add rfl rfl rfl ⟨Nat.le_of_ble_eq_true rfl, Nat.le_of_ble_eq_true rfl⟩ kX_t hK hP hD hS hA [0, 1] [] rfl (by decide +kernel) rfl rfl rfl hl rfl (Nat.le_of_ble_eq_true rfl) dX2_encodeNumber_103 ⟨Nat.le_of_ble_eq_true rfl, Nat.le_of_ble_eq_true rfl⟩ (fun r_64 H locs hB hJ hSn => ?_)
          refine hB _ (fun lu_64 fu_64 hPD9 hf64_0 hf64_1 hf64_2 => ?_)
          clear hB
          obtain ⟨hPn, hDn⟩ := hJ _ hPD9.1 hPD9.2 [(nu, .inr (5, [.ref au, .int lu_64])), (au, .inl (cI, cap, .inl fu_64))] rfl
          clear hP hD hS hJ hPD9
          have hP := hPn
          have hD := hDn
          have hS := hSn
          clear hPn hDn hSn
          have ha64 : lu_64.toInt = lu_60.toInt + 1 := F_add_l hf64_2 (by omega)
          have hr64 : r_64.toInt = 1 := F_add_r hf64_2 (by omega)
          have hap64 : AP lu lu_64 fu fu_64 [(38 : Int32).toInt, (35 : Int32).toInt, (x_50 : Int32).toInt, (x_59 : Int32).toInt, (59 : Int32).toInt] := AP_s hap60 (by omega) hf64_2 (by omega)
          refine lv_if_eq (tgt := 113) hx hb dX2_encodeNumber_106 (by decide) (fun c_65 => by exfalso; have tc_65 : r_64.toInt = 0 := v_eq c_65; omega) (fun c_65 => ?_)
          have tc_65 : ¬ r_64.toInt = 0 := v_ne c_65
          refine lv_iconst (v := 1) hx hb dX2_encodeNumber_109 (by decide) ?_
          refine lv_goto (tgt := 114) hx hb dX2_encodeNumber_110 (by decide) ?_
          exact kl_z (v := 1) hQQ hx hb hr hlocks hS dX2_encodeNumber_114 (rfl) (fun PZ9 kZ9 => kZ9 lu_64 fu_64 (⟨hP, hD⟩) (hf64_0) (by decide) (F_en_y (by first | omega | rfl) hap64 (by first | (unfold enc; rw [if_neg (by decide), if_neg (by decide), if_neg (by decide), if_pos (by decide), if_neg (by omega)]; unfold encN; rw [if_neg (by omega), if_pos (by omega)]; exact L5 rfl rfl (by first | (rw [tx_50, tx_25, tx_24]; done) | (rw [tx_50, tx_25, tx_24]; exact Int.add_comm _ _) | omega) (by first | (rw [tx_59, tx_55, tx_54]; done) | (rw [tx_59, tx_55, tx_54]; exact Int.add_comm _ _) | omega) rfl) | (exfalso; omega))))
      · have tc_21 : ¬ x_19.toInt = 0 := v_ne c_21
        refine lv_iconst (v := 1) hx hb dX2_encodeNumber_54 (by decide) ?_
        refine lv_goto (tgt := 59) hx hb dX2_encodeNumber_55 (by decide) ?_
        refine lv_istore_n (lv' := [(3, .int 1), (5, .int x_19), (4, .int 100), (2, .int 1), (0, .int le), (1, .ref nu)]) hx hb dX2_encodeNumber_59 rfl hl (by decide) rfl (fun ls hl => ?_)
        refine lv_iload_n hx hb dX2_encodeNumber_60 rfl (lv_at hl 0 rfl) ?_
        refine lv_if_eq (tgt := 86) hx hb dX2_encodeNumber_61 (by decide) (fun c_66 => absurd c_66 (by decide)) (fun c_66 => ?_)
        refine lv_iload_n hx hb dX2_encodeNumber_64 rfl (lv_at hl 3 rfl) ?_
        refine lv_if_eq (tgt := 84) hx hb dX2_encodeNumber_65 (by decide) (fun c_67 => absurd c_67 (by decide)) (fun c_67 => ?_)
        refine lv_aload_n hx hb dX2_encodeNumber_68 rfl (lv_at hl 5 rfl) ?_
        refine lv_bipush (v := 48) hx hb dX2_encodeNumber_69 (by decide) ?_
        refine lv_iload hx hb dX2_encodeNumber_71 (lv_at hl 1 rfl) ?_
        refine lv_iadd hx hb dX2_encodeNumber_73 ?_
        refine lv_topi (fun x_68 ex_68 => ?_)
        have tx_68 : x_68.toInt = 48 + x_19.toInt := v_add ex_68 (by show -2147483648 ≤ 48 + x_19.toInt; omega) (by show 48 + x_19.toInt < 2147483648; omega)
        refine kV_i (rest := []) (q0 := 0) (ci := 5) hcf (m_X5_add l dC dI cI cS H.size nu au cap lu_3 fu_3 x_68 (hf3_0) (by omega)) kc_X5_add gX2_encodeNumber_X5_add rfl rfl rfl ⟨Nat.le_of_ble_eq_true rfl, Nat.le_of_ble_eq_true rfl⟩ kX_t hK hP hD hS hA [0, 1] [] rfl (by decide +kernel) rfl rfl rfl hl rfl (Nat.le_of_ble_eq_true rfl) dX2_encodeNumber_74 ⟨Nat.le_of_ble_eq_true rfl, Nat.le_of_ble_eq_true rfl⟩ (fun r_69 H locs hB hJ hSn => ?_)
        refine hB _ (fun lu_69 fu_69 hPD9 hf69_0 hf69_1 hf69_2 => ?_)
        clear hB
        obtain ⟨hPn, hDn⟩ := hJ _ hPD9.1 hPD9.2 [(nu, .inr (5, [.ref au, .int lu_69])), (au, .inl (cI, cap, .inl fu_69))] rfl
        clear hP hD hS hJ hPD9
        have hP := hPn
        have hD := hDn
        have hS := hSn
        clear hPn hDn hSn
        have ha69 : lu_69.toInt = lu_3.toInt + 1 := F_add_l hf69_2 (by omega)
        have hr69 : r_69.toInt = 1 := F_add_r hf69_2 (by omega)
        have hap69 : AP lu lu_69 fu fu_69 [(38 : Int32).toInt, (35 : Int32).toInt, (x_68 : Int32).toInt] := AP_s hap3 (by omega) hf69_2 (by omega)
        refine lv_if_eq (tgt := 84) hx hb dX2_encodeNumber_77 (by decide) (fun c_70 => by exfalso; have tc_70 : r_69.toInt = 0 := v_eq c_70; omega) (fun c_70 => ?_)
        have tc_70 : ¬ r_69.toInt = 0 := v_ne c_70
        refine lv_iconst (v := 1) hx hb dX2_encodeNumber_80 (by decide) ?_
        refine lv_goto (tgt := 85) hx hb dX2_encodeNumber_81 (by decide) ?_
        refine lv_istore_n (lv' := [(2, .int 1), (3, .int 1), (5, .int x_19), (4, .int 100), (0, .int le), (1, .ref nu)]) hx hb dX2_encodeNumber_85 rfl hl (by decide) rfl (fun ls hl => ?_)
        refine lv_iload hx hb dX2_encodeNumber_86 (lv_at hl 3 rfl) ?_
        refine lv_bipush (v := 10) hx hb dX2_encodeNumber_88 (by decide) ?_
        refine lv_idiv hx hb dX2_encodeNumber_90 (by decide) ?_
        refine k_i (y := 10) (by decide) ?_
        refine lv_istore (lv' := [(4, .int 10), (2, .int 1), (3, .int 1), (5, .int x_19), (0, .int le), (1, .ref nu)]) hx hb dX2_encodeNumber_91 hl (by decide) rfl (fun ls hl => ?_)
        refine lv_goto (tgt := 31) hx hb dX2_encodeNumber_93 (by decide) ?_
        refine lv_iload hx hb dX2_encodeNumber_31 (lv_at hl 0 rfl) ?_
        refine lv_if_le (tgt := 96) hx hb dX2_encodeNumber_33 (by decide) (fun c_71 => absurd c_71 (by decide)) (fun c_71 => ?_)
        refine lv_iload_n hx hb dX2_encodeNumber_36 rfl (lv_at hl 4 rfl) ?_
        refine lv_iload hx hb dX2_encodeNumber_37 (lv_at hl 0 rfl) ?_
        refine lv_idiv hx hb dX2_encodeNumber_39 (by decide) ?_
        refine lv_topi (fun x_72 ex_72 => ?_)
        have tx_72 : x_72.toInt = le.toInt / 10 := v_div ex_72 (by omega) (by decide)
        refine lv_bipush (v := 10) hx hb dX2_encodeNumber_40 (by decide) ?_
        refine lv_irem hx hb dX2_encodeNumber_42 (by decide) ?_
        refine lv_topi (fun x_73 ex_73 => ?_)
        have tx_73 : x_73.toInt = x_72.toInt % 10 := v_rem ex_73 (by omega) (by decide)
        refine lv_istore (lv' := [(5, .int x_73), (4, .int 10), (2, .int 1), (3, .int 1), (0, .int le), (1, .ref nu)]) hx hb dX2_encodeNumber_43 hl (by decide) rfl (fun ls hl => ?_)
        refine lv_iload_n hx hb dX2_encodeNumber_45 rfl (lv_at hl 3 rfl) ?_
        refine lv_if_ne (tgt := 54) hx hb dX2_encodeNumber_46 (by decide) (fun c_74 => ?_) (fun c_74 => absurd c_74 (by decide))
        refine lv_iconst (v := 1) hx hb dX2_encodeNumber_54 (by decide) ?_
        refine lv_goto (tgt := 59) hx hb dX2_encodeNumber_55 (by decide) ?_
        refine lv_istore_n (lv' := [(3, .int 1), (5, .int x_73), (4, .int 10), (2, .int 1), (0, .int le), (1, .ref nu)]) hx hb dX2_encodeNumber_59 rfl hl (by decide) rfl (fun ls hl => ?_)
        refine lv_iload_n hx hb dX2_encodeNumber_60 rfl (lv_at hl 0 rfl) ?_
        refine lv_if_eq (tgt := 86) hx hb dX2_encodeNumber_61 (by decide) (fun c_75 => absurd c_75 (by decide)) (fun c_75 => ?_)
        refine lv_iload_n hx hb dX2_encodeNumber_64 rfl (lv_at hl 3 rfl) ?_
        refine lv_if_eq (tgt := 84) hx hb dX2_encodeNumber_65 (by decide) (fun c_76 => absurd c_76 (by decide)) (fun c_76 => ?_)
        refine lv_aload_n hx hb dX2_encodeNumber_68 rfl (lv_at hl 5 rfl) ?_
        refine lv_bipush (v := 48) hx hb dX2_encodeNumber_69 (by decide) ?_
        refine lv_iload hx hb dX2_encodeNumber_71 (lv_at hl 1 rfl) ?_
        refine lv_iadd hx hb dX2_encodeNumber_73 ?_
        refine lv_topi (fun x_77 ex_77 => ?_)
        have tx_77 : x_77.toInt = 48 + x_73.toInt := v_add ex_77 (by show -2147483648 ≤ 48 + x_73.toInt; omega) (by show 48 + x_73.toInt < 2147483648; omega)
        refine kV_i (rest := []) (q0 := 0) (ci := 5) hcf (m_X5_add l dC dI cI cS H.size nu au cap lu_69 fu_69 x_77 (hf69_0) (by omega)) kc_X5_add gX2_encodeNumber_X5_add rfl rfl rfl ⟨Nat.le_of_ble_eq_true rfl, Nat.le_of_ble_eq_true rfl⟩ kX_t hK hP hD hS hA [0, 1] [] rfl (by decide +kernel) rfl rfl rfl hl rfl (Nat.le_of_ble_eq_true rfl) dX2_encodeNumber_74 ⟨Nat.le_of_ble_eq_true rfl, Nat.le_of_ble_eq_true rfl⟩ (fun r_78 H locs hB hJ hSn => ?_)
        refine hB _ (fun lu_78 fu_78 hPD9 hf78_0 hf78_1 hf78_2 => ?_)
        clear hB
        obtain ⟨hPn, hDn⟩ := hJ _ hPD9.1 hPD9.2 [(nu, .inr (5, [.ref au, .int lu_78])), (au, .inl (cI, cap, .inl fu_78))] rfl
        clear hP hD hS hJ hPD9
        have hP := hPn
        have hD := hDn
        have hS := hSn
        clear hPn hDn hSn
        have ha78 : lu_78.toInt = lu_69.toInt + 1 := F_add_l hf78_2 (by omega)
        have hr78 : r_78.toInt = 1 := F_add_r hf78_2 (by omega)
        have hap78 : AP lu lu_78 fu fu_78 [(38 : Int32).toInt, (35 : Int32).toInt, (x_68 : Int32).toInt, (x_77 : Int32).toInt] := AP_s hap69 (by omega) hf78_2 (by omega)
        refine lv_if_eq (tgt := 84) hx hb dX2_encodeNumber_77 (by decide) (fun c_79 => by exfalso; have tc_79 : r_78.toInt = 0 := v_eq c_79; omega) (fun c_79 => ?_)
        have tc_79 : ¬ r_78.toInt = 0 := v_ne c_79
        refine lv_iconst (v := 1) hx hb dX2_encodeNumber_80 (by decide) ?_
        refine lv_goto (tgt := 85) hx hb dX2_encodeNumber_81 (by decide) ?_
        refine lv_istore_n (lv' := [(2, .int 1), (3, .int 1), (5, .int x_73), (4, .int 10), (0, .int le), (1, .ref nu)]) hx hb dX2_encodeNumber_85 rfl hl (by decide) rfl (fun ls hl => ?_)
        refine lv_iload hx hb dX2_encodeNumber_86 (lv_at hl 3 rfl) ?_
        refine lv_bipush (v := 10) hx hb dX2_encodeNumber_88 (by decide) ?_
        refine lv_idiv hx hb dX2_encodeNumber_90 (by decide) ?_
        refine k_i (y := 1) (by decide) ?_
        refine lv_istore (lv' := [(4, .int 1), (2, .int 1), (3, .int 1), (5, .int x_73), (0, .int le), (1, .ref nu)]) hx hb dX2_encodeNumber_91 hl (by decide) rfl (fun ls hl => ?_)
        refine lv_goto (tgt := 31) hx hb dX2_encodeNumber_93 (by decide) ?_
        refine lv_iload hx hb dX2_encodeNumber_31 (lv_at hl 0 rfl) ?_
        refine lv_if_le (tgt := 96) hx hb dX2_encodeNumber_33 (by decide) (fun c_80 => absurd c_80 (by decide)) (fun c_80 => ?_)
        refine lv_iload_n hx hb dX2_encodeNumber_36 rfl (lv_at hl 4 rfl) ?_
        refine lv_iload hx hb dX2_encodeNumber_37 (lv_at hl 0 rfl) ?_
        refine lv_idiv hx hb dX2_encodeNumber_39 (by decide) ?_
        refine lv_topi (fun x_81 ex_81 => ?_)
        have tx_81 : x_81.toInt = le.toInt / 1 := v_div ex_81 (by omega) (by decide)
        refine lv_bipush (v := 10) hx hb dX2_encodeNumber_40 (by decide) ?_
        refine lv_irem hx hb dX2_encodeNumber_42 (by decide) ?_
        refine lv_topi (fun x_82 ex_82 => ?_)
        have tx_82 : x_82.toInt = x_81.toInt % 10 := v_rem ex_82 (by omega) (by decide)
        refine lv_istore (lv' := [(5, .int x_82), (4, .int 1), (2, .int 1), (3, .int 1), (0, .int le), (1, .ref nu)]) hx hb dX2_encodeNumber_43 hl (by decide) rfl (fun ls hl => ?_)
        refine lv_iload_n hx hb dX2_encodeNumber_45 rfl (lv_at hl 3 rfl) ?_
        refine lv_if_ne (tgt := 54) hx hb dX2_encodeNumber_46 (by decide) (fun c_83 => ?_) (fun c_83 => absurd c_83 (by decide))
        refine lv_iconst (v := 1) hx hb dX2_encodeNumber_54 (by decide) ?_
        refine lv_goto (tgt := 59) hx hb dX2_encodeNumber_55 (by decide) ?_
        refine lv_istore_n (lv' := [(3, .int 1), (5, .int x_82), (4, .int 1), (2, .int 1), (0, .int le), (1, .ref nu)]) hx hb dX2_encodeNumber_59 rfl hl (by decide) rfl (fun ls hl => ?_)
        refine lv_iload_n hx hb dX2_encodeNumber_60 rfl (lv_at hl 0 rfl) ?_
        refine lv_if_eq (tgt := 86) hx hb dX2_encodeNumber_61 (by decide) (fun c_84 => absurd c_84 (by decide)) (fun c_84 => ?_)
        refine lv_iload_n hx hb dX2_encodeNumber_64 rfl (lv_at hl 3 rfl) ?_
        refine lv_if_eq (tgt := 84) hx hb dX2_encodeNumber_65 (by decide) (fun c_85 => absurd c_85 (by decide)) (fun c_85 => ?_)
        refine lv_aload_n hx hb dX2_encodeNumber_68 rfl (lv_at hl 5 rfl) ?_
        refine lv_bipush (v := 48) hx hb dX2_encodeNumber_69 (by decide) ?_
        refine lv_iload hx hb dX2_encodeNumber_71 (lv_at hl 1 rfl) ?_
        refine lv_iadd hx hb dX2_encodeNumber_73 ?_
        refine lv_topi (fun x_86 ex_86 => ?_)
        have tx_86 : x_86.toInt = 48 + x_82.toInt := v_add ex_86 (by show -2147483648 ≤ 48 + x_82.toInt; omega) (by show 48 + x_82.toInt < 2147483648; omega)
        refine kV_i (rest := []) (q0 := 0) (ci := 5) hcf (m_X5_add l dC dI cI cS H.size nu au cap lu_78 fu_78 x_86 (hf78_0) (by omega)) kc_X5_add gX2_encodeNumber_X5_add rfl rfl rfl ⟨Nat.le_of_ble_eq_true rfl, Nat.le_of_ble_eq_true rfl⟩ kX_t hK hP hD hS hA [0, 1] [] rfl (by decide +kernel) rfl rfl rfl hl rfl (Nat.le_of_ble_eq_true rfl) dX2_encodeNumber_74 ⟨Nat.le_of_ble_eq_true rfl, Nat.le_of_ble_eq_true rfl⟩ (fun r_87 H locs hB hJ hSn => ?_)
        refine hB _ (fun lu_87 fu_87 hPD9 hf87_0 hf87_1 hf87_2 => ?_)
        clear hB
        obtain ⟨hPn, hDn⟩ := hJ _ hPD9.1 hPD9.2 [(nu, .inr (5, [.ref au, .int lu_87])), (au, .inl (cI, cap, .inl fu_87))] rfl
        clear hP hD hS hJ hPD9
        have hP := hPn
        have hD := hDn
        have hS := hSn
        clear hPn hDn hSn
        have ha87 : lu_87.toInt = lu_78.toInt + 1 := F_add_l hf87_2 (by omega)
        have hr87 : r_87.toInt = 1 := F_add_r hf87_2 (by omega)
        have hap87 : AP lu lu_87 fu fu_87 [(38 : Int32).toInt, (35 : Int32).toInt, (x_68 : Int32).toInt, (x_77 : Int32).toInt, (x_86 : Int32).toInt] := AP_s hap78 (by omega) hf87_2 (by omega)
        refine lv_if_eq (tgt := 84) hx hb dX2_encodeNumber_77 (by decide) (fun c_88 => by exfalso; have tc_88 : r_87.toInt = 0 := v_eq c_88; omega) (fun c_88 => ?_)
        have tc_88 : ¬ r_87.toInt = 0 := v_ne c_88
        refine lv_iconst (v := 1) hx hb dX2_encodeNumber_80 (by decide) ?_
        refine lv_goto (tgt := 85) hx hb dX2_encodeNumber_81 (by decide) ?_
        refine lv_istore_n (lv' := [(2, .int 1), (3, .int 1), (5, .int x_82), (4, .int 1), (0, .int le), (1, .ref nu)]) hx hb dX2_encodeNumber_85 rfl hl (by decide) rfl (fun ls hl => ?_)
        refine lv_iload hx hb dX2_encodeNumber_86 (lv_at hl 3 rfl) ?_
        refine lv_bipush (v := 10) hx hb dX2_encodeNumber_88 (by decide) ?_
        refine lv_idiv hx hb dX2_encodeNumber_90 (by decide) ?_
        refine k_i (y := 0) (by decide) ?_
        refine lv_istore (lv' := [(4, .int 0), (2, .int 1), (3, .int 1), (5, .int x_82), (0, .int le), (1, .ref nu)]) hx hb dX2_encodeNumber_91 hl (by decide) rfl (fun ls hl => ?_)
        refine lv_goto (tgt := 31) hx hb dX2_encodeNumber_93 (by decide) ?_
        refine lv_iload hx hb dX2_encodeNumber_31 (lv_at hl 0 rfl) ?_
        refine lv_if_le (tgt := 96) hx hb dX2_encodeNumber_33 (by decide) (fun c_89 => ?_) (fun c_89 => absurd c_89 (by decide))
        refine lv_iload_n hx hb dX2_encodeNumber_96 rfl (lv_at hl 1 rfl) ?_
        refine lv_if_eq (tgt := 113) hx hb dX2_encodeNumber_97 (by decide) (fun c_90 => absurd c_90 (by decide)) (fun c_90 => ?_)
        refine lv_aload_n hx hb dX2_encodeNumber_100 rfl (lv_at hl 5 rfl) ?_
        refine lv_bipush (v := 59) hx hb dX2_encodeNumber_101 (by decide) ?_
        refine kV_i (rest := []) (q0 := 0) (ci := 5) hcf (m_X5_add l dC dI cI cS H.size nu au cap lu_87 fu_87 59 (hf87_0) (by omega)) kc_X5_add gX2_encodeNumber_X5_add rfl rfl rfl ⟨Nat.le_of_ble_eq_true rfl, Nat.le_of_ble_eq_true rfl⟩ kX_t hK hP hD hS hA [0, 1] [] rfl (by decide +kernel) rfl rfl rfl hl rfl (Nat.le_of_ble_eq_true rfl) dX2_encodeNumber_103 ⟨Nat.le_of_ble_eq_true rfl, Nat.le_of_ble_eq_true rfl⟩ (fun r_91 H locs hB hJ hSn => ?_)
        refine hB _ (fun lu_91 fu_91 hPD9 hf91_0 hf91_1 hf91_2 => ?_)
        clear hB
        obtain ⟨hPn, hDn⟩ := hJ _ hPD9.1 hPD9.2 [(nu, .inr (5, [.ref au, .int lu_91])), (au, .inl (cI, cap, .inl fu_91))] rfl
        clear hP hD hS hJ hPD9
        have hP := hPn
        have hD := hDn
        have hS := hSn
        clear hPn hDn hSn
        have ha91 : lu_91.toInt = lu_87.toInt + 1 := F_add_l hf91_2 (by omega)
        have hr91 : r_91.toInt = 1 := F_add_r hf91_2 (by omega)
        have hap91 : AP lu lu_91 fu fu_91 [(38 : Int32).toInt, (35 : Int32).toInt, (x_68 : Int32).toInt, (x_77 : Int32).toInt, (x_86 : Int32).toInt, (59 : Int32).toInt] := AP_s hap87 (by omega) hf91_2 (by omega)
        refine lv_if_eq (tgt := 113) hx hb dX2_encodeNumber_106 (by decide) (fun c_92 => by exfalso; have tc_92 : r_91.toInt = 0 := v_eq c_92; omega) (fun c_92 => ?_)
        have tc_92 : ¬ r_91.toInt = 0 := v_ne c_92
        refine lv_iconst (v := 1) hx hb dX2_encodeNumber_109 (by decide) ?_
        refine lv_goto (tgt := 114) hx hb dX2_encodeNumber_110 (by decide) ?_
        exact kl_z (v := 1) hQQ hx hb hr hlocks hS dX2_encodeNumber_114 (rfl) (fun PZ9 kZ9 => kZ9 lu_91 fu_91 (⟨hP, hD⟩) (hf91_0) (by decide) (F_en_y (by first | omega | rfl) hap91 (by first | (unfold enc; rw [if_neg (by decide), if_neg (by decide), if_neg (by decide), if_pos (by decide), if_neg (by omega)]; unfold encN; rw [if_neg (by omega), if_neg (by omega), if_pos (by omega)]; exact L6 rfl rfl (by first | (rw [tx_68, tx_19, tx_18]; done) | (rw [tx_68, tx_19, tx_18]; exact Int.add_comm _ _) | omega) (by first | (rw [tx_77, tx_73, tx_72]; done) | (rw [tx_77, tx_73, tx_72]; exact Int.add_comm _ _) | omega) (by first | (rw [tx_86, tx_82, tx_81]; done) | (rw [tx_86, tx_82, tx_81]; exact Int.add_comm _ _) | omega) rfl) | (exfalso; omega))))
    · have tc_15 : ¬ x_13.toInt = 0 := v_ne c_15
      refine lv_iconst (v := 1) hx hb dX2_encodeNumber_54 (by decide) ?_
      refine lv_goto (tgt := 59) hx hb dX2_encodeNumber_55 (by decide) ?_
      refine lv_istore_n (lv' := [(3, .int 1), (5, .int x_13), (4, .int 1000), (2, .int 1), (0, .int le), (1, .ref nu)]) hx hb dX2_encodeNumber_59 rfl hl (by decide) rfl (fun ls hl => ?_)
      refine lv_iload_n hx hb dX2_encodeNumber_60 rfl (lv_at hl 0 rfl) ?_
      refine lv_if_eq (tgt := 86) hx hb dX2_encodeNumber_61 (by decide) (fun c_93 => absurd c_93 (by decide)) (fun c_93 => ?_)
      refine lv_iload_n hx hb dX2_encodeNumber_64 rfl (lv_at hl 3 rfl) ?_
      refine lv_if_eq (tgt := 84) hx hb dX2_encodeNumber_65 (by decide) (fun c_94 => absurd c_94 (by decide)) (fun c_94 => ?_)
      refine lv_aload_n hx hb dX2_encodeNumber_68 rfl (lv_at hl 5 rfl) ?_
      refine lv_bipush (v := 48) hx hb dX2_encodeNumber_69 (by decide) ?_
      refine lv_iload hx hb dX2_encodeNumber_71 (lv_at hl 1 rfl) ?_
      refine lv_iadd hx hb dX2_encodeNumber_73 ?_
      refine lv_topi (fun x_95 ex_95 => ?_)
      have tx_95 : x_95.toInt = 48 + x_13.toInt := v_add ex_95 (by show -2147483648 ≤ 48 + x_13.toInt; omega) (by show 48 + x_13.toInt < 2147483648; omega)
      refine kV_i (rest := []) (q0 := 0) (ci := 5) hcf (m_X5_add l dC dI cI cS H.size nu au cap lu_3 fu_3 x_95 (hf3_0) (by omega)) kc_X5_add gX2_encodeNumber_X5_add rfl rfl rfl ⟨Nat.le_of_ble_eq_true rfl, Nat.le_of_ble_eq_true rfl⟩ kX_t hK hP hD hS hA [0, 1] [] rfl (by decide +kernel) rfl rfl rfl hl rfl (Nat.le_of_ble_eq_true rfl) dX2_encodeNumber_74 ⟨Nat.le_of_ble_eq_true rfl, Nat.le_of_ble_eq_true rfl⟩ (fun r_96 H locs hB hJ hSn => ?_)
      refine hB _ (fun lu_96 fu_96 hPD9 hf96_0 hf96_1 hf96_2 => ?_)
      clear hB
      obtain ⟨hPn, hDn⟩ := hJ _ hPD9.1 hPD9.2 [(nu, .inr (5, [.ref au, .int lu_96])), (au, .inl (cI, cap, .inl fu_96))] rfl
      clear hP hD hS hJ hPD9
      have hP := hPn
      have hD := hDn
      have hS := hSn
      clear hPn hDn hSn
      have ha96 : lu_96.toInt = lu_3.toInt + 1 := F_add_l hf96_2 (by omega)
      have hr96 : r_96.toInt = 1 := F_add_r hf96_2 (by omega)
      have hap96 : AP lu lu_96 fu fu_96 [(38 : Int32).toInt, (35 : Int32).toInt, (x_95 : Int32).toInt] := AP_s hap3 (by omega) hf96_2 (by omega)
      refine lv_if_eq (tgt := 84) hx hb dX2_encodeNumber_77 (by decide) (fun c_97 => by exfalso; have tc_97 : r_96.toInt = 0 := v_eq c_97; omega) (fun c_97 => ?_)
      have tc_97 : ¬ r_96.toInt = 0 := v_ne c_97
      refine lv_iconst (v := 1) hx hb dX2_encodeNumber_80 (by decide) ?_
      refine lv_goto (tgt := 85) hx hb dX2_encodeNumber_81 (by decide) ?_
      refine lv_istore_n (lv' := [(2, .int 1), (3, .int 1), (5, .int x_13), (4, .int 1000), (0, .int le), (1, .ref nu)]) hx hb dX2_encodeNumber_85 rfl hl (by decide) rfl (fun ls hl => ?_)
      refine lv_iload hx hb dX2_encodeNumber_86 (lv_at hl 3 rfl) ?_
      refine lv_bipush (v := 10) hx hb dX2_encodeNumber_88 (by decide) ?_
      refine lv_idiv hx hb dX2_encodeNumber_90 (by decide) ?_
      refine k_i (y := 100) (by decide) ?_
      refine lv_istore (lv' := [(4, .int 100), (2, .int 1), (3, .int 1), (5, .int x_13), (0, .int le), (1, .ref nu)]) hx hb dX2_encodeNumber_91 hl (by decide) rfl (fun ls hl => ?_)
      refine lv_goto (tgt := 31) hx hb dX2_encodeNumber_93 (by decide) ?_
      refine lv_iload hx hb dX2_encodeNumber_31 (lv_at hl 0 rfl) ?_
      refine lv_if_le (tgt := 96) hx hb dX2_encodeNumber_33 (by decide) (fun c_98 => absurd c_98 (by decide)) (fun c_98 => ?_)
      refine lv_iload_n hx hb dX2_encodeNumber_36 rfl (lv_at hl 4 rfl) ?_
      refine lv_iload hx hb dX2_encodeNumber_37 (lv_at hl 0 rfl) ?_
      refine lv_idiv hx hb dX2_encodeNumber_39 (by decide) ?_
      refine lv_topi (fun x_99 ex_99 => ?_)
      have tx_99 : x_99.toInt = le.toInt / 100 := v_div ex_99 (by omega) (by decide)
      refine lv_bipush (v := 10) hx hb dX2_encodeNumber_40 (by decide) ?_
      refine lv_irem hx hb dX2_encodeNumber_42 (by decide) ?_
      refine lv_topi (fun x_100 ex_100 => ?_)
      have tx_100 : x_100.toInt = x_99.toInt % 10 := v_rem ex_100 (by omega) (by decide)
      refine lv_istore (lv' := [(5, .int x_100), (4, .int 100), (2, .int 1), (3, .int 1), (0, .int le), (1, .ref nu)]) hx hb dX2_encodeNumber_43 hl (by decide) rfl (fun ls hl => ?_)
      refine lv_iload_n hx hb dX2_encodeNumber_45 rfl (lv_at hl 3 rfl) ?_
      refine lv_if_ne (tgt := 54) hx hb dX2_encodeNumber_46 (by decide) (fun c_101 => ?_) (fun c_101 => absurd c_101 (by decide))
      refine lv_iconst (v := 1) hx hb dX2_encodeNumber_54 (by decide) ?_
      refine lv_goto (tgt := 59) hx hb dX2_encodeNumber_55 (by decide) ?_
      refine lv_istore_n (lv' := [(3, .int 1), (5, .int x_100), (4, .int 100), (2, .int 1), (0, .int le), (1, .ref nu)]) hx hb dX2_encodeNumber_59 rfl hl (by decide) rfl (fun ls hl => ?_)
      refine lv_iload_n hx hb dX2_encodeNumber_60 rfl (lv_at hl 0 rfl) ?_
      refine lv_if_eq (tgt := 86) hx hb dX2_encodeNumber_61 (by decide) (fun c_102 => absurd c_102 (by decide)) (fun c_102 => ?_)
      refine lv_iload_n hx hb dX2_encodeNumber_64 rfl (lv_at hl 3 rfl) ?_
      refine lv_if_eq (tgt := 84) hx hb dX2_encodeNumber_65 (by decide) (fun c_103 => absurd c_103 (by decide)) (fun c_103 => ?_)
      refine lv_aload_n hx hb dX2_encodeNumber_68 rfl (lv_at hl 5 rfl) ?_
      refine lv_bipush (v := 48) hx hb dX2_encodeNumber_69 (by decide) ?_
      refine lv_iload hx hb dX2_encodeNumber_71 (lv_at hl 1 rfl) ?_
      refine lv_iadd hx hb dX2_encodeNumber_73 ?_
      refine lv_topi (fun x_104 ex_104 => ?_)
      have tx_104 : x_104.toInt = 48 + x_100.toInt := v_add ex_104 (by show -2147483648 ≤ 48 + x_100.toInt; omega) (by show 48 + x_100.toInt < 2147483648; omega)
      refine kV_i (rest := []) (q0 := 0) (ci := 5) hcf (m_X5_add l dC dI cI cS H.size nu au cap lu_96 fu_96 x_104 (hf96_0) (by omega)) kc_X5_add gX2_encodeNumber_X5_add rfl rfl rfl ⟨Nat.le_of_ble_eq_true rfl, Nat.le_of_ble_eq_true rfl⟩ kX_t hK hP hD hS hA [0, 1] [] rfl (by decide +kernel) rfl rfl rfl hl rfl (Nat.le_of_ble_eq_true rfl) dX2_encodeNumber_74 ⟨Nat.le_of_ble_eq_true rfl, Nat.le_of_ble_eq_true rfl⟩ (fun r_105 H locs hB hJ hSn => ?_)
      refine hB _ (fun lu_105 fu_105 hPD9 hf105_0 hf105_1 hf105_2 => ?_)
      clear hB
      obtain ⟨hPn, hDn⟩ := hJ _ hPD9.1 hPD9.2 [(nu, .inr (5, [.ref au, .int lu_105])), (au, .inl (cI, cap, .inl fu_105))] rfl
      clear hP hD hS hJ hPD9
      have hP := hPn
      have hD := hDn
      have hS := hSn
      clear hPn hDn hSn
      have ha105 : lu_105.toInt = lu_96.toInt + 1 := F_add_l hf105_2 (by omega)
      have hr105 : r_105.toInt = 1 := F_add_r hf105_2 (by omega)
      have hap105 : AP lu lu_105 fu fu_105 [(38 : Int32).toInt, (35 : Int32).toInt, (x_95 : Int32).toInt, (x_104 : Int32).toInt] := AP_s hap96 (by omega) hf105_2 (by omega)
      refine lv_if_eq (tgt := 84) hx hb dX2_encodeNumber_77 (by decide) (fun c_106 => by exfalso; have tc_106 : r_105.toInt = 0 := v_eq c_106; omega) (fun c_106 => ?_)
      have tc_106 : ¬ r_105.toInt = 0 := v_ne c_106
      refine lv_iconst (v := 1) hx hb dX2_encodeNumber_80 (by decide) ?_
      refine lv_goto (tgt := 85) hx hb dX2_encodeNumber_81 (by decide) ?_
      refine lv_istore_n (lv' := [(2, .int 1), (3, .int 1), (5, .int x_100), (4, .int 100), (0, .int le), (1, .ref nu)]) hx hb dX2_encodeNumber_85 rfl hl (by decide) rfl (fun ls hl => ?_)
      refine lv_iload hx hb dX2_encodeNumber_86 (lv_at hl 3 rfl) ?_
      refine lv_bipush (v := 10) hx hb dX2_encodeNumber_88 (by decide) ?_
      refine lv_idiv hx hb dX2_encodeNumber_90 (by decide) ?_
      refine k_i (y := 10) (by decide) ?_
      refine lv_istore (lv' := [(4, .int 10), (2, .int 1), (3, .int 1), (5, .int x_100), (0, .int le), (1, .ref nu)]) hx hb dX2_encodeNumber_91 hl (by decide) rfl (fun ls hl => ?_)
      refine lv_goto (tgt := 31) hx hb dX2_encodeNumber_93 (by decide) ?_
      refine lv_iload hx hb dX2_encodeNumber_31 (lv_at hl 0 rfl) ?_
      refine lv_if_le (tgt := 96) hx hb dX2_encodeNumber_33 (by decide) (fun c_107 => absurd c_107 (by decide)) (fun c_107 => ?_)
      refine lv_iload_n hx hb dX2_encodeNumber_36 rfl (lv_at hl 4 rfl) ?_
      refine lv_iload hx hb dX2_encodeNumber_37 (lv_at hl 0 rfl) ?_
      refine lv_idiv hx hb dX2_encodeNumber_39 (by decide) ?_
      refine lv_topi (fun x_108 ex_108 => ?_)
      have tx_108 : x_108.toInt = le.toInt / 10 := v_div ex_108 (by omega) (by decide)
      refine lv_bipush (v := 10) hx hb dX2_encodeNumber_40 (by decide) ?_
      refine lv_irem hx hb dX2_encodeNumber_42 (by decide) ?_
      refine lv_topi (fun x_109 ex_109 => ?_)
      have tx_109 : x_109.toInt = x_108.toInt % 10 := v_rem ex_109 (by omega) (by decide)
      refine lv_istore (lv' := [(5, .int x_109), (4, .int 10), (2, .int 1), (3, .int 1), (0, .int le), (1, .ref nu)]) hx hb dX2_encodeNumber_43 hl (by decide) rfl (fun ls hl => ?_)
      refine lv_iload_n hx hb dX2_encodeNumber_45 rfl (lv_at hl 3 rfl) ?_
      refine lv_if_ne (tgt := 54) hx hb dX2_encodeNumber_46 (by decide) (fun c_110 => ?_) (fun c_110 => absurd c_110 (by decide))
      refine lv_iconst (v := 1) hx hb dX2_encodeNumber_54 (by decide) ?_
      refine lv_goto (tgt := 59) hx hb dX2_encodeNumber_55 (by decide) ?_
      refine lv_istore_n (lv' := [(3, .int 1), (5, .int x_109), (4, .int 10), (2, .int 1), (0, .int le), (1, .ref nu)]) hx hb dX2_encodeNumber_59 rfl hl (by decide) rfl (fun ls hl => ?_)
      refine lv_iload_n hx hb dX2_encodeNumber_60 rfl (lv_at hl 0 rfl) ?_
      refine lv_if_eq (tgt := 86) hx hb dX2_encodeNumber_61 (by decide) (fun c_111 => absurd c_111 (by decide)) (fun c_111 => ?_)
      refine lv_iload_n hx hb dX2_encodeNumber_64 rfl (lv_at hl 3 rfl) ?_
      refine lv_if_eq (tgt := 84) hx hb dX2_encodeNumber_65 (by decide) (fun c_112 => absurd c_112 (by decide)) (fun c_112 => ?_)
      refine lv_aload_n hx hb dX2_encodeNumber_68 rfl (lv_at hl 5 rfl) ?_
      refine lv_bipush (v := 48) hx hb dX2_encodeNumber_69 (by decide) ?_
      refine lv_iload hx hb dX2_encodeNumber_71 (lv_at hl 1 rfl) ?_
      refine lv_iadd hx hb dX2_encodeNumber_73 ?_
      refine lv_topi (fun x_113 ex_113 => ?_)
      have tx_113 : x_113.toInt = 48 + x_109.toInt := v_add ex_113 (by show -2147483648 ≤ 48 + x_109.toInt; omega) (by show 48 + x_109.toInt < 2147483648; omega)
      refine kV_i (rest := []) (q0 := 0) (ci := 5) hcf (m_X5_add l dC dI cI cS H.size nu au cap lu_105 fu_105 x_113 (hf105_0) (by omega)) kc_X5_add gX2_encodeNumber_X5_add rfl rfl rfl ⟨Nat.le_of_ble_eq_true rfl, Nat.le_of_ble_eq_true rfl⟩ kX_t hK hP hD hS hA [0, 1] [] rfl (by decide +kernel) rfl rfl rfl hl rfl (Nat.le_of_ble_eq_true rfl) dX2_encodeNumber_74 ⟨Nat.le_of_ble_eq_true rfl, Nat.le_of_ble_eq_true rfl⟩ (fun r_114 H locs hB hJ hSn => ?_)
      refine hB _ (fun lu_114 fu_114 hPD9 hf114_0 hf114_1 hf114_2 => ?_)
      clear hB
      obtain ⟨hPn, hDn⟩ := hJ _ hPD9.1 hPD9.2 [(nu, .inr (5, [.ref au, .int lu_114])), (au, .inl (cI, cap, .inl fu_114))] rfl
      clear hP hD hS hJ hPD9
      have hP := hPn
      have hD := hDn
      have hS := hSn
      clear hPn hDn hSn
      have ha114 : lu_114.toInt = lu_105.toInt + 1 := F_add_l hf114_2 (by omega)
      have hr114 : r_114.toInt = 1 := F_add_r hf114_2 (by omega)
      have hap114 : AP lu lu_114 fu fu_114 [(38 : Int32).toInt, (35 : Int32).toInt, (x_95 : Int32).toInt, (x_104 : Int32).toInt, (x_113 : Int32).toInt] := AP_s hap105 (by omega) hf114_2 (by omega)
      refine lv_if_eq (tgt := 84) hx hb dX2_encodeNumber_77 (by decide) (fun c_115 => by exfalso; have tc_115 : r_114.toInt = 0 := v_eq c_115; omega) (fun c_115 => ?_)
      have tc_115 : ¬ r_114.toInt = 0 := v_ne c_115
      refine lv_iconst (v := 1) hx hb dX2_encodeNumber_80 (by decide) ?_
      refine lv_goto (tgt := 85) hx hb dX2_encodeNumber_81 (by decide) ?_
      refine lv_istore_n (lv' := [(2, .int 1), (3, .int 1), (5, .int x_109), (4, .int 10), (0, .int le), (1, .ref nu)]) hx hb dX2_encodeNumber_85 rfl hl (by decide) rfl (fun ls hl => ?_)
      refine lv_iload hx hb dX2_encodeNumber_86 (lv_at hl 3 rfl) ?_
      refine lv_bipush (v := 10) hx hb dX2_encodeNumber_88 (by decide) ?_
      refine lv_idiv hx hb dX2_encodeNumber_90 (by decide) ?_
      refine k_i (y := 1) (by decide) ?_
      refine lv_istore (lv' := [(4, .int 1), (2, .int 1), (3, .int 1), (5, .int x_109), (0, .int le), (1, .ref nu)]) hx hb dX2_encodeNumber_91 hl (by decide) rfl (fun ls hl => ?_)
      refine lv_goto (tgt := 31) hx hb dX2_encodeNumber_93 (by decide) ?_
      refine lv_iload hx hb dX2_encodeNumber_31 (lv_at hl 0 rfl) ?_
      refine lv_if_le (tgt := 96) hx hb dX2_encodeNumber_33 (by decide) (fun c_116 => absurd c_116 (by decide)) (fun c_116 => ?_)
      refine lv_iload_n hx hb dX2_encodeNumber_36 rfl (lv_at hl 4 rfl) ?_
      refine lv_iload hx hb dX2_encodeNumber_37 (lv_at hl 0 rfl) ?_
      refine lv_idiv hx hb dX2_encodeNumber_39 (by decide) ?_
      refine lv_topi (fun x_117 ex_117 => ?_)
      have tx_117 : x_117.toInt = le.toInt / 1 := v_div ex_117 (by omega) (by decide)
      refine lv_bipush (v := 10) hx hb dX2_encodeNumber_40 (by decide) ?_
      refine lv_irem hx hb dX2_encodeNumber_42 (by decide) ?_
      refine lv_topi (fun x_118 ex_118 => ?_)
      have tx_118 : x_118.toInt = x_117.toInt % 10 := v_rem ex_118 (by omega) (by decide)
      refine lv_istore (lv' := [(5, .int x_118), (4, .int 1), (2, .int 1), (3, .int 1), (0, .int le), (1, .ref nu)]) hx hb dX2_encodeNumber_43 hl (by decide) rfl (fun ls hl => ?_)
      refine lv_iload_n hx hb dX2_encodeNumber_45 rfl (lv_at hl 3 rfl) ?_
      refine lv_if_ne (tgt := 54) hx hb dX2_encodeNumber_46 (by decide) (fun c_119 => ?_) (fun c_119 => absurd c_119 (by decide))
      refine lv_iconst (v := 1) hx hb dX2_encodeNumber_54 (by decide) ?_
      refine lv_goto (tgt := 59) hx hb dX2_encodeNumber_55 (by decide) ?_
      refine lv_istore_n (lv' := [(3, .int 1), (5, .int x_118), (4, .int 1), (2, .int 1), (0, .int le), (1, .ref nu)]) hx hb dX2_encodeNumber_59 rfl hl (by decide) rfl (fun ls hl => ?_)
      refine lv_iload_n hx hb dX2_encodeNumber_60 rfl (lv_at hl 0 rfl) ?_
      refine lv_if_eq (tgt := 86) hx hb dX2_encodeNumber_61 (by decide) (fun c_120 => absurd c_120 (by decide)) (fun c_120 => ?_)
      refine lv_iload_n hx hb dX2_encodeNumber_64 rfl (lv_at hl 3 rfl) ?_
      refine lv_if_eq (tgt := 84) hx hb dX2_encodeNumber_65 (by decide) (fun c_121 => absurd c_121 (by decide)) (fun c_121 => ?_)
      refine lv_aload_n hx hb dX2_encodeNumber_68 rfl (lv_at hl 5 rfl) ?_
      refine lv_bipush (v := 48) hx hb dX2_encodeNumber_69 (by decide) ?_
      refine lv_iload hx hb dX2_encodeNumber_71 (lv_at hl 1 rfl) ?_
      refine lv_iadd hx hb dX2_encodeNumber_73 ?_
      refine lv_topi (fun x_122 ex_122 => ?_)
      have tx_122 : x_122.toInt = 48 + x_118.toInt := v_add ex_122 (by show -2147483648 ≤ 48 + x_118.toInt; omega) (by show 48 + x_118.toInt < 2147483648; omega)
      refine kV_i (rest := []) (q0 := 0) (ci := 5) hcf (m_X5_add l dC dI cI cS H.size nu au cap lu_114 fu_114 x_122 (hf114_0) (by omega)) kc_X5_add gX2_encodeNumber_X5_add rfl rfl rfl ⟨Nat.le_of_ble_eq_true rfl, Nat.le_of_ble_eq_true rfl⟩ kX_t hK hP hD hS hA [0, 1] [] rfl (by decide +kernel) rfl rfl rfl hl rfl (Nat.le_of_ble_eq_true rfl) dX2_encodeNumber_74 ⟨Nat.le_of_ble_eq_true rfl, Nat.le_of_ble_eq_true rfl⟩ (fun r_123 H locs hB hJ hSn => ?_)
      refine hB _ (fun lu_123 fu_123 hPD9 hf123_0 hf123_1 hf123_2 => ?_)
      clear hB
      obtain ⟨hPn, hDn⟩ := hJ _ hPD9.1 hPD9.2 [(nu, .inr (5, [.ref au, .int lu_123])), (au, .inl (cI, cap, .inl fu_123))] rfl
      clear hP hD hS hJ hPD9
      have hP := hPn
      have hD := hDn
      have hS := hSn
      clear hPn hDn hSn
      have ha123 : lu_123.toInt = lu_114.toInt + 1 := F_add_l hf123_2 (by omega)
      have hr123 : r_123.toInt = 1 := F_add_r hf123_2 (by omega)
      have hap123 : AP lu lu_123 fu fu_123 [(38 : Int32).toInt, (35 : Int32).toInt, (x_95 : Int32).toInt, (x_104 : Int32).toInt, (x_113 : Int32).toInt, (x_122 : Int32).toInt] := AP_s hap114 (by omega) hf123_2 (by omega)
      refine lv_if_eq (tgt := 84) hx hb dX2_encodeNumber_77 (by decide) (fun c_124 => by exfalso; have tc_124 : r_123.toInt = 0 := v_eq c_124; omega) (fun c_124 => ?_)
      have tc_124 : ¬ r_123.toInt = 0 := v_ne c_124
      refine lv_iconst (v := 1) hx hb dX2_encodeNumber_80 (by decide) ?_
      refine lv_goto (tgt := 85) hx hb dX2_encodeNumber_81 (by decide) ?_
      refine lv_istore_n (lv' := [(2, .int 1), (3, .int 1), (5, .int x_118), (4, .int 1), (0, .int le), (1, .ref nu)]) hx hb dX2_encodeNumber_85 rfl hl (by decide) rfl (fun ls hl => ?_)
      refine lv_iload hx hb dX2_encodeNumber_86 (lv_at hl 3 rfl) ?_
      refine lv_bipush (v := 10) hx hb dX2_encodeNumber_88 (by decide) ?_
      refine lv_idiv hx hb dX2_encodeNumber_90 (by decide) ?_
      refine k_i (y := 0) (by decide) ?_
      refine lv_istore (lv' := [(4, .int 0), (2, .int 1), (3, .int 1), (5, .int x_118), (0, .int le), (1, .ref nu)]) hx hb dX2_encodeNumber_91 hl (by decide) rfl (fun ls hl => ?_)
      refine lv_goto (tgt := 31) hx hb dX2_encodeNumber_93 (by decide) ?_
      refine lv_iload hx hb dX2_encodeNumber_31 (lv_at hl 0 rfl) ?_
      refine lv_if_le (tgt := 96) hx hb dX2_encodeNumber_33 (by decide) (fun c_125 => ?_) (fun c_125 => absurd c_125 (by decide))
      refine lv_iload_n hx hb dX2_encodeNumber_96 rfl (lv_at hl 1 rfl) ?_
      refine lv_if_eq (tgt := 113) hx hb dX2_encodeNumber_97 (by decide) (fun c_126 => absurd c_126 (by decide)) (fun c_126 => ?_)
      refine lv_aload_n hx hb dX2_encodeNumber_100 rfl (lv_at hl 5 rfl) ?_
      refine lv_bipush (v := 59) hx hb dX2_encodeNumber_101 (by decide) ?_
      refine kV_i (rest := []) (q0 := 0) (ci := 5) hcf (m_X5_add l dC dI cI cS H.size nu au cap lu_123 fu_123 59 (hf123_0) (by omega)) kc_X5_add gX2_encodeNumber_X5_add rfl rfl rfl ⟨Nat.le_of_ble_eq_true rfl, Nat.le_of_ble_eq_true rfl⟩ kX_t hK hP hD hS hA [0, 1] [] rfl (by decide +kernel) rfl rfl rfl hl rfl (Nat.le_of_ble_eq_true rfl) dX2_encodeNumber_103 ⟨Nat.le_of_ble_eq_true rfl, Nat.le_of_ble_eq_true rfl⟩ (fun r_127 H locs hB hJ hSn => ?_)
      refine hB _ (fun lu_127 fu_127 hPD9 hf127_0 hf127_1 hf127_2 => ?_)
      clear hB
      obtain ⟨hPn, hDn⟩ := hJ _ hPD9.1 hPD9.2 [(nu, .inr (5, [.ref au, .int lu_127])), (au, .inl (cI, cap, .inl fu_127))] rfl
      clear hP hD hS hJ hPD9
      have hP := hPn
      have hD := hDn
      have hS := hSn
      clear hPn hDn hSn
      have ha127 : lu_127.toInt = lu_123.toInt + 1 := F_add_l hf127_2 (by omega)
      have hr127 : r_127.toInt = 1 := F_add_r hf127_2 (by omega)
      have hap127 : AP lu lu_127 fu fu_127 [(38 : Int32).toInt, (35 : Int32).toInt, (x_95 : Int32).toInt, (x_104 : Int32).toInt, (x_113 : Int32).toInt, (x_122 : Int32).toInt, (59 : Int32).toInt] := AP_s hap123 (by omega) hf127_2 (by omega)
      refine lv_if_eq (tgt := 113) hx hb dX2_encodeNumber_106 (by decide) (fun c_128 => by exfalso; have tc_128 : r_127.toInt = 0 := v_eq c_128; omega) (fun c_128 => ?_)
      have tc_128 : ¬ r_127.toInt = 0 := v_ne c_128
      refine lv_iconst (v := 1) hx hb dX2_encodeNumber_109 (by decide) ?_
      refine lv_goto (tgt := 114) hx hb dX2_encodeNumber_110 (by decide) ?_
      exact kl_z (v := 1) hQQ hx hb hr hlocks hS dX2_encodeNumber_114 (rfl) (fun PZ9 kZ9 => kZ9 lu_127 fu_127 (⟨hP, hD⟩) (hf127_0) (by decide) (F_en_y (by first | omega | rfl) hap127 (by first | (unfold enc; rw [if_neg (by decide), if_neg (by decide), if_neg (by decide), if_pos (by decide), if_neg (by omega)]; unfold encN; rw [if_neg (by omega), if_neg (by omega), if_neg (by omega), if_pos (by omega)]; exact L7 rfl rfl (by first | (rw [tx_95, tx_13, tx_12]; done) | (rw [tx_95, tx_13, tx_12]; exact Int.add_comm _ _) | omega) (by first | (rw [tx_104, tx_100, tx_99]; done) | (rw [tx_104, tx_100, tx_99]; exact Int.add_comm _ _) | omega) (by first | (rw [tx_113, tx_109, tx_108]; done) | (rw [tx_113, tx_109, tx_108]; exact Int.add_comm _ _) | omega) (by first | (rw [tx_122, tx_118, tx_117]; done) | (rw [tx_122, tx_118, tx_117]; exact Int.add_comm _ _) | omega) rfl) | (exfalso; omega))))
  · have tc_9 : ¬ x_7.toInt = 0 := v_ne c_9
    refine lv_iconst (v := 1) hx hb dX2_encodeNumber_54 (by decide) ?_
    refine lv_goto (tgt := 59) hx hb dX2_encodeNumber_55 (by decide) ?_
    refine lv_istore_n (lv' := [(3, .int 1), (5, .int x_7), (4, .int 10000), (2, .int 1), (0, .int le), (1, .ref nu)]) hx hb dX2_encodeNumber_59 rfl hl (by decide) rfl (fun ls hl => ?_)
    refine lv_iload_n hx hb dX2_encodeNumber_60 rfl (lv_at hl 0 rfl) ?_
    refine lv_if_eq (tgt := 86) hx hb dX2_encodeNumber_61 (by decide) (fun c_129 => absurd c_129 (by decide)) (fun c_129 => ?_)
    refine lv_iload_n hx hb dX2_encodeNumber_64 rfl (lv_at hl 3 rfl) ?_
    refine lv_if_eq (tgt := 84) hx hb dX2_encodeNumber_65 (by decide) (fun c_130 => absurd c_130 (by decide)) (fun c_130 => ?_)
    refine lv_aload_n hx hb dX2_encodeNumber_68 rfl (lv_at hl 5 rfl) ?_
    refine lv_bipush (v := 48) hx hb dX2_encodeNumber_69 (by decide) ?_
    refine lv_iload hx hb dX2_encodeNumber_71 (lv_at hl 1 rfl) ?_
    refine lv_iadd hx hb dX2_encodeNumber_73 ?_
    refine lv_topi (fun x_131 ex_131 => ?_)
    have tx_131 : x_131.toInt = 48 + x_7.toInt := v_add ex_131 (by show -2147483648 ≤ 48 + x_7.toInt; omega) (by show 48 + x_7.toInt < 2147483648; omega)
    refine kV_i (rest := []) (q0 := 0) (ci := 5) hcf (m_X5_add l dC dI cI cS H.size nu au cap lu_3 fu_3 x_131 (hf3_0) (by omega)) kc_X5_add gX2_encodeNumber_X5_add rfl rfl rfl ⟨Nat.le_of_ble_eq_true rfl, Nat.le_of_ble_eq_true rfl⟩ kX_t hK hP hD hS hA [0, 1] [] rfl (by decide +kernel) rfl rfl rfl hl rfl (Nat.le_of_ble_eq_true rfl) dX2_encodeNumber_74 ⟨Nat.le_of_ble_eq_true rfl, Nat.le_of_ble_eq_true rfl⟩ (fun r_132 H locs hB hJ hSn => ?_)
    refine hB _ (fun lu_132 fu_132 hPD9 hf132_0 hf132_1 hf132_2 => ?_)
    clear hB
    obtain ⟨hPn, hDn⟩ := hJ _ hPD9.1 hPD9.2 [(nu, .inr (5, [.ref au, .int lu_132])), (au, .inl (cI, cap, .inl fu_132))] rfl
    clear hP hD hS hJ hPD9
    have hP := hPn
    have hD := hDn
    have hS := hSn
    clear hPn hDn hSn
    have ha132 : lu_132.toInt = lu_3.toInt + 1 := F_add_l hf132_2 (by omega)
    have hr132 : r_132.toInt = 1 := F_add_r hf132_2 (by omega)
    have hap132 : AP lu lu_132 fu fu_132 [(38 : Int32).toInt, (35 : Int32).toInt, (x_131 : Int32).toInt] := AP_s hap3 (by omega) hf132_2 (by omega)
    refine lv_if_eq (tgt := 84) hx hb dX2_encodeNumber_77 (by decide) (fun c_133 => by exfalso; have tc_133 : r_132.toInt = 0 := v_eq c_133; omega) (fun c_133 => ?_)
    have tc_133 : ¬ r_132.toInt = 0 := v_ne c_133
    refine lv_iconst (v := 1) hx hb dX2_encodeNumber_80 (by decide) ?_
    refine lv_goto (tgt := 85) hx hb dX2_encodeNumber_81 (by decide) ?_
    refine lv_istore_n (lv' := [(2, .int 1), (3, .int 1), (5, .int x_7), (4, .int 10000), (0, .int le), (1, .ref nu)]) hx hb dX2_encodeNumber_85 rfl hl (by decide) rfl (fun ls hl => ?_)
    refine lv_iload hx hb dX2_encodeNumber_86 (lv_at hl 3 rfl) ?_
    refine lv_bipush (v := 10) hx hb dX2_encodeNumber_88 (by decide) ?_
    refine lv_idiv hx hb dX2_encodeNumber_90 (by decide) ?_
    refine k_i (y := 1000) (by decide) ?_
    refine lv_istore (lv' := [(4, .int 1000), (2, .int 1), (3, .int 1), (5, .int x_7), (0, .int le), (1, .ref nu)]) hx hb dX2_encodeNumber_91 hl (by decide) rfl (fun ls hl => ?_)
    refine lv_goto (tgt := 31) hx hb dX2_encodeNumber_93 (by decide) ?_
    refine lv_iload hx hb dX2_encodeNumber_31 (lv_at hl 0 rfl) ?_
    refine lv_if_le (tgt := 96) hx hb dX2_encodeNumber_33 (by decide) (fun c_134 => absurd c_134 (by decide)) (fun c_134 => ?_)
    refine lv_iload_n hx hb dX2_encodeNumber_36 rfl (lv_at hl 4 rfl) ?_
    refine lv_iload hx hb dX2_encodeNumber_37 (lv_at hl 0 rfl) ?_
    refine lv_idiv hx hb dX2_encodeNumber_39 (by decide) ?_
    refine lv_topi (fun x_135 ex_135 => ?_)
    have tx_135 : x_135.toInt = le.toInt / 1000 := v_div ex_135 (by omega) (by decide)
    refine lv_bipush (v := 10) hx hb dX2_encodeNumber_40 (by decide) ?_
    refine lv_irem hx hb dX2_encodeNumber_42 (by decide) ?_
    refine lv_topi (fun x_136 ex_136 => ?_)
    have tx_136 : x_136.toInt = x_135.toInt % 10 := v_rem ex_136 (by omega) (by decide)
    refine lv_istore (lv' := [(5, .int x_136), (4, .int 1000), (2, .int 1), (3, .int 1), (0, .int le), (1, .ref nu)]) hx hb dX2_encodeNumber_43 hl (by decide) rfl (fun ls hl => ?_)
    refine lv_iload_n hx hb dX2_encodeNumber_45 rfl (lv_at hl 3 rfl) ?_
    refine lv_if_ne (tgt := 54) hx hb dX2_encodeNumber_46 (by decide) (fun c_137 => ?_) (fun c_137 => absurd c_137 (by decide))
    refine lv_iconst (v := 1) hx hb dX2_encodeNumber_54 (by decide) ?_
    refine lv_goto (tgt := 59) hx hb dX2_encodeNumber_55 (by decide) ?_
    refine lv_istore_n (lv' := [(3, .int 1), (5, .int x_136), (4, .int 1000), (2, .int 1), (0, .int le), (1, .ref nu)]) hx hb dX2_encodeNumber_59 rfl hl (by decide) rfl (fun ls hl => ?_)
    refine lv_iload_n hx hb dX2_encodeNumber_60 rfl (lv_at hl 0 rfl) ?_
    refine lv_if_eq (tgt := 86) hx hb dX2_encodeNumber_61 (by decide) (fun c_138 => absurd c_138 (by decide)) (fun c_138 => ?_)
    refine lv_iload_n hx hb dX2_encodeNumber_64 rfl (lv_at hl 3 rfl) ?_
    refine lv_if_eq (tgt := 84) hx hb dX2_encodeNumber_65 (by decide) (fun c_139 => absurd c_139 (by decide)) (fun c_139 => ?_)
    refine lv_aload_n hx hb dX2_encodeNumber_68 rfl (lv_at hl 5 rfl) ?_
    refine lv_bipush (v := 48) hx hb dX2_encodeNumber_69 (by decide) ?_
    refine lv_iload hx hb dX2_encodeNumber_71 (lv_at hl 1 rfl) ?_
    refine lv_iadd hx hb dX2_encodeNumber_73 ?_
    refine lv_topi (fun x_140 ex_140 => ?_)
    have tx_140 : x_140.toInt = 48 + x_136.toInt := v_add ex_140 (by show -2147483648 ≤ 48 + x_136.toInt; omega) (by show 48 + x_136.toInt < 2147483648; omega)
    refine kV_i (rest := []) (q0 := 0) (ci := 5) hcf (m_X5_add l dC dI cI cS H.size nu au cap lu_132 fu_132 x_140 (hf132_0) (by omega)) kc_X5_add gX2_encodeNumber_X5_add rfl rfl rfl ⟨Nat.le_of_ble_eq_true rfl, Nat.le_of_ble_eq_true rfl⟩ kX_t hK hP hD hS hA [0, 1] [] rfl (by decide +kernel) rfl rfl rfl hl rfl (Nat.le_of_ble_eq_true rfl) dX2_encodeNumber_74 ⟨Nat.le_of_ble_eq_true rfl, Nat.le_of_ble_eq_true rfl⟩ (fun r_141 H locs hB hJ hSn => ?_)
    refine hB _ (fun lu_141 fu_141 hPD9 hf141_0 hf141_1 hf141_2 => ?_)
    clear hB
    obtain ⟨hPn, hDn⟩ := hJ _ hPD9.1 hPD9.2 [(nu, .inr (5, [.ref au, .int lu_141])), (au, .inl (cI, cap, .inl fu_141))] rfl
    clear hP hD hS hJ hPD9
    have hP := hPn
    have hD := hDn
    have hS := hSn
    clear hPn hDn hSn
    have ha141 : lu_141.toInt = lu_132.toInt + 1 := F_add_l hf141_2 (by omega)
    have hr141 : r_141.toInt = 1 := F_add_r hf141_2 (by omega)
    have hap141 : AP lu lu_141 fu fu_141 [(38 : Int32).toInt, (35 : Int32).toInt, (x_131 : Int32).toInt, (x_140 : Int32).toInt] := AP_s hap132 (by omega) hf141_2 (by omega)
    refine lv_if_eq (tgt := 84) hx hb dX2_encodeNumber_77 (by decide) (fun c_142 => by exfalso; have tc_142 : r_141.toInt = 0 := v_eq c_142; omega) (fun c_142 => ?_)
    have tc_142 : ¬ r_141.toInt = 0 := v_ne c_142
    refine lv_iconst (v := 1) hx hb dX2_encodeNumber_80 (by decide) ?_
    refine lv_goto (tgt := 85) hx hb dX2_encodeNumber_81 (by decide) ?_
    refine lv_istore_n (lv' := [(2, .int 1), (3, .int 1), (5, .int x_136), (4, .int 1000), (0, .int le), (1, .ref nu)]) hx hb dX2_encodeNumber_85 rfl hl (by decide) rfl (fun ls hl => ?_)
    refine lv_iload hx hb dX2_encodeNumber_86 (lv_at hl 3 rfl) ?_
    refine lv_bipush (v := 10) hx hb dX2_encodeNumber_88 (by decide) ?_
    refine lv_idiv hx hb dX2_encodeNumber_90 (by decide) ?_
    refine k_i (y := 100) (by decide) ?_
    refine lv_istore (lv' := [(4, .int 100), (2, .int 1), (3, .int 1), (5, .int x_136), (0, .int le), (1, .ref nu)]) hx hb dX2_encodeNumber_91 hl (by decide) rfl (fun ls hl => ?_)
    refine lv_goto (tgt := 31) hx hb dX2_encodeNumber_93 (by decide) ?_
    refine lv_iload hx hb dX2_encodeNumber_31 (lv_at hl 0 rfl) ?_
    refine lv_if_le (tgt := 96) hx hb dX2_encodeNumber_33 (by decide) (fun c_143 => absurd c_143 (by decide)) (fun c_143 => ?_)
    refine lv_iload_n hx hb dX2_encodeNumber_36 rfl (lv_at hl 4 rfl) ?_
    refine lv_iload hx hb dX2_encodeNumber_37 (lv_at hl 0 rfl) ?_
    refine lv_idiv hx hb dX2_encodeNumber_39 (by decide) ?_
    refine lv_topi (fun x_144 ex_144 => ?_)
    have tx_144 : x_144.toInt = le.toInt / 100 := v_div ex_144 (by omega) (by decide)
    refine lv_bipush (v := 10) hx hb dX2_encodeNumber_40 (by decide) ?_
    refine lv_irem hx hb dX2_encodeNumber_42 (by decide) ?_
    refine lv_topi (fun x_145 ex_145 => ?_)
    have tx_145 : x_145.toInt = x_144.toInt % 10 := v_rem ex_145 (by omega) (by decide)
    refine lv_istore (lv' := [(5, .int x_145), (4, .int 100), (2, .int 1), (3, .int 1), (0, .int le), (1, .ref nu)]) hx hb dX2_encodeNumber_43 hl (by decide) rfl (fun ls hl => ?_)
    refine lv_iload_n hx hb dX2_encodeNumber_45 rfl (lv_at hl 3 rfl) ?_
    refine lv_if_ne (tgt := 54) hx hb dX2_encodeNumber_46 (by decide) (fun c_146 => ?_) (fun c_146 => absurd c_146 (by decide))
    refine lv_iconst (v := 1) hx hb dX2_encodeNumber_54 (by decide) ?_
    refine lv_goto (tgt := 59) hx hb dX2_encodeNumber_55 (by decide) ?_
    refine lv_istore_n (lv' := [(3, .int 1), (5, .int x_145), (4, .int 100), (2, .int 1), (0, .int le), (1, .ref nu)]) hx hb dX2_encodeNumber_59 rfl hl (by decide) rfl (fun ls hl => ?_)
    refine lv_iload_n hx hb dX2_encodeNumber_60 rfl (lv_at hl 0 rfl) ?_
    refine lv_if_eq (tgt := 86) hx hb dX2_encodeNumber_61 (by decide) (fun c_147 => absurd c_147 (by decide)) (fun c_147 => ?_)
    refine lv_iload_n hx hb dX2_encodeNumber_64 rfl (lv_at hl 3 rfl) ?_
    refine lv_if_eq (tgt := 84) hx hb dX2_encodeNumber_65 (by decide) (fun c_148 => absurd c_148 (by decide)) (fun c_148 => ?_)
    refine lv_aload_n hx hb dX2_encodeNumber_68 rfl (lv_at hl 5 rfl) ?_
    refine lv_bipush (v := 48) hx hb dX2_encodeNumber_69 (by decide) ?_
    refine lv_iload hx hb dX2_encodeNumber_71 (lv_at hl 1 rfl) ?_
    refine lv_iadd hx hb dX2_encodeNumber_73 ?_
    refine lv_topi (fun x_149 ex_149 => ?_)
    have tx_149 : x_149.toInt = 48 + x_145.toInt := v_add ex_149 (by show -2147483648 ≤ 48 + x_145.toInt; omega) (by show 48 + x_145.toInt < 2147483648; omega)
    refine kV_i (rest := []) (q0 := 0) (ci := 5) hcf (m_X5_add l dC dI cI cS H.size nu au cap lu_141 fu_141 x_149 (hf141_0) (by omega)) kc_X5_add gX2_encodeNumber_X5_add rfl rfl rfl ⟨Nat.le_of_ble_eq_true rfl, Nat.le_of_ble_eq_true rfl⟩ kX_t hK hP hD hS hA [0, 1] [] rfl (by decide +kernel) rfl rfl rfl hl rfl (Nat.le_of_ble_eq_true rfl) dX2_encodeNumber_74 ⟨Nat.le_of_ble_eq_true rfl, Nat.le_of_ble_eq_true rfl⟩ (fun r_150 H locs hB hJ hSn => ?_)
    refine hB _ (fun lu_150 fu_150 hPD9 hf150_0 hf150_1 hf150_2 => ?_)
    clear hB
    obtain ⟨hPn, hDn⟩ := hJ _ hPD9.1 hPD9.2 [(nu, .inr (5, [.ref au, .int lu_150])), (au, .inl (cI, cap, .inl fu_150))] rfl
    clear hP hD hS hJ hPD9
    have hP := hPn
    have hD := hDn
    have hS := hSn
    clear hPn hDn hSn
    have ha150 : lu_150.toInt = lu_141.toInt + 1 := F_add_l hf150_2 (by omega)
    have hr150 : r_150.toInt = 1 := F_add_r hf150_2 (by omega)
    have hap150 : AP lu lu_150 fu fu_150 [(38 : Int32).toInt, (35 : Int32).toInt, (x_131 : Int32).toInt, (x_140 : Int32).toInt, (x_149 : Int32).toInt] := AP_s hap141 (by omega) hf150_2 (by omega)
    refine lv_if_eq (tgt := 84) hx hb dX2_encodeNumber_77 (by decide) (fun c_151 => by exfalso; have tc_151 : r_150.toInt = 0 := v_eq c_151; omega) (fun c_151 => ?_)
    have tc_151 : ¬ r_150.toInt = 0 := v_ne c_151
    refine lv_iconst (v := 1) hx hb dX2_encodeNumber_80 (by decide) ?_
    refine lv_goto (tgt := 85) hx hb dX2_encodeNumber_81 (by decide) ?_
    refine lv_istore_n (lv' := [(2, .int 1), (3, .int 1), (5, .int x_145), (4, .int 100), (0, .int le), (1, .ref nu)]) hx hb dX2_encodeNumber_85 rfl hl (by decide) rfl (fun ls hl => ?_)
    refine lv_iload hx hb dX2_encodeNumber_86 (lv_at hl 3 rfl) ?_
    refine lv_bipush (v := 10) hx hb dX2_encodeNumber_88 (by decide) ?_
    refine lv_idiv hx hb dX2_encodeNumber_90 (by decide) ?_
    refine k_i (y := 10) (by decide) ?_
    refine lv_istore (lv' := [(4, .int 10), (2, .int 1), (3, .int 1), (5, .int x_145), (0, .int le), (1, .ref nu)]) hx hb dX2_encodeNumber_91 hl (by decide) rfl (fun ls hl => ?_)
    refine lv_goto (tgt := 31) hx hb dX2_encodeNumber_93 (by decide) ?_
    refine lv_iload hx hb dX2_encodeNumber_31 (lv_at hl 0 rfl) ?_
    refine lv_if_le (tgt := 96) hx hb dX2_encodeNumber_33 (by decide) (fun c_152 => absurd c_152 (by decide)) (fun c_152 => ?_)
    refine lv_iload_n hx hb dX2_encodeNumber_36 rfl (lv_at hl 4 rfl) ?_
    refine lv_iload hx hb dX2_encodeNumber_37 (lv_at hl 0 rfl) ?_
    refine lv_idiv hx hb dX2_encodeNumber_39 (by decide) ?_
    refine lv_topi (fun x_153 ex_153 => ?_)
    have tx_153 : x_153.toInt = le.toInt / 10 := v_div ex_153 (by omega) (by decide)
    refine lv_bipush (v := 10) hx hb dX2_encodeNumber_40 (by decide) ?_
    refine lv_irem hx hb dX2_encodeNumber_42 (by decide) ?_
    refine lv_topi (fun x_154 ex_154 => ?_)
    have tx_154 : x_154.toInt = x_153.toInt % 10 := v_rem ex_154 (by omega) (by decide)
    refine lv_istore (lv' := [(5, .int x_154), (4, .int 10), (2, .int 1), (3, .int 1), (0, .int le), (1, .ref nu)]) hx hb dX2_encodeNumber_43 hl (by decide) rfl (fun ls hl => ?_)
    refine lv_iload_n hx hb dX2_encodeNumber_45 rfl (lv_at hl 3 rfl) ?_
    refine lv_if_ne (tgt := 54) hx hb dX2_encodeNumber_46 (by decide) (fun c_155 => ?_) (fun c_155 => absurd c_155 (by decide))
    refine lv_iconst (v := 1) hx hb dX2_encodeNumber_54 (by decide) ?_
    refine lv_goto (tgt := 59) hx hb dX2_encodeNumber_55 (by decide) ?_
    refine lv_istore_n (lv' := [(3, .int 1), (5, .int x_154), (4, .int 10), (2, .int 1), (0, .int le), (1, .ref nu)]) hx hb dX2_encodeNumber_59 rfl hl (by decide) rfl (fun ls hl => ?_)
    refine lv_iload_n hx hb dX2_encodeNumber_60 rfl (lv_at hl 0 rfl) ?_
    refine lv_if_eq (tgt := 86) hx hb dX2_encodeNumber_61 (by decide) (fun c_156 => absurd c_156 (by decide)) (fun c_156 => ?_)
    refine lv_iload_n hx hb dX2_encodeNumber_64 rfl (lv_at hl 3 rfl) ?_
    refine lv_if_eq (tgt := 84) hx hb dX2_encodeNumber_65 (by decide) (fun c_157 => absurd c_157 (by decide)) (fun c_157 => ?_)
    refine lv_aload_n hx hb dX2_encodeNumber_68 rfl (lv_at hl 5 rfl) ?_
    refine lv_bipush (v := 48) hx hb dX2_encodeNumber_69 (by decide) ?_
    refine lv_iload hx hb dX2_encodeNumber_71 (lv_at hl 1 rfl) ?_
    refine lv_iadd hx hb dX2_encodeNumber_73 ?_
    refine lv_topi (fun x_158 ex_158 => ?_)
    have tx_158 : x_158.toInt = 48 + x_154.toInt := v_add ex_158 (by show -2147483648 ≤ 48 + x_154.toInt; omega) (by show 48 + x_154.toInt < 2147483648; omega)
    refine kV_i (rest := []) (q0 := 0) (ci := 5) hcf (m_X5_add l dC dI cI cS H.size nu au cap lu_150 fu_150 x_158 (hf150_0) (by omega)) kc_X5_add gX2_encodeNumber_X5_add rfl rfl rfl ⟨Nat.le_of_ble_eq_true rfl, Nat.le_of_ble_eq_true rfl⟩ kX_t hK hP hD hS hA [0, 1] [] rfl (by decide +kernel) rfl rfl rfl hl rfl (Nat.le_of_ble_eq_true rfl) dX2_encodeNumber_74 ⟨Nat.le_of_ble_eq_true rfl, Nat.le_of_ble_eq_true rfl⟩ (fun r_159 H locs hB hJ hSn => ?_)
    refine hB _ (fun lu_159 fu_159 hPD9 hf159_0 hf159_1 hf159_2 => ?_)
    clear hB
    obtain ⟨hPn, hDn⟩ := hJ _ hPD9.1 hPD9.2 [(nu, .inr (5, [.ref au, .int lu_159])), (au, .inl (cI, cap, .inl fu_159))] rfl
    clear hP hD hS hJ hPD9
    have hP := hPn
    have hD := hDn
    have hS := hSn
    clear hPn hDn hSn
    have ha159 : lu_159.toInt = lu_150.toInt + 1 := F_add_l hf159_2 (by omega)
    have hr159 : r_159.toInt = 1 := F_add_r hf159_2 (by omega)
    have hap159 : AP lu lu_159 fu fu_159 [(38 : Int32).toInt, (35 : Int32).toInt, (x_131 : Int32).toInt, (x_140 : Int32).toInt, (x_149 : Int32).toInt, (x_158 : Int32).toInt] := AP_s hap150 (by omega) hf159_2 (by omega)
    refine lv_if_eq (tgt := 84) hx hb dX2_encodeNumber_77 (by decide) (fun c_160 => by exfalso; have tc_160 : r_159.toInt = 0 := v_eq c_160; omega) (fun c_160 => ?_)
    have tc_160 : ¬ r_159.toInt = 0 := v_ne c_160
    refine lv_iconst (v := 1) hx hb dX2_encodeNumber_80 (by decide) ?_
    refine lv_goto (tgt := 85) hx hb dX2_encodeNumber_81 (by decide) ?_
    refine lv_istore_n (lv' := [(2, .int 1), (3, .int 1), (5, .int x_154), (4, .int 10), (0, .int le), (1, .ref nu)]) hx hb dX2_encodeNumber_85 rfl hl (by decide) rfl (fun ls hl => ?_)
    refine lv_iload hx hb dX2_encodeNumber_86 (lv_at hl 3 rfl) ?_
    refine lv_bipush (v := 10) hx hb dX2_encodeNumber_88 (by decide) ?_
    refine lv_idiv hx hb dX2_encodeNumber_90 (by decide) ?_
    refine k_i (y := 1) (by decide) ?_
    refine lv_istore (lv' := [(4, .int 1), (2, .int 1), (3, .int 1), (5, .int x_154), (0, .int le), (1, .ref nu)]) hx hb dX2_encodeNumber_91 hl (by decide) rfl (fun ls hl => ?_)
    refine lv_goto (tgt := 31) hx hb dX2_encodeNumber_93 (by decide) ?_
    refine lv_iload hx hb dX2_encodeNumber_31 (lv_at hl 0 rfl) ?_
    refine lv_if_le (tgt := 96) hx hb dX2_encodeNumber_33 (by decide) (fun c_161 => absurd c_161 (by decide)) (fun c_161 => ?_)
    refine lv_iload_n hx hb dX2_encodeNumber_36 rfl (lv_at hl 4 rfl) ?_
    refine lv_iload hx hb dX2_encodeNumber_37 (lv_at hl 0 rfl) ?_
    refine lv_idiv hx hb dX2_encodeNumber_39 (by decide) ?_
    refine lv_topi (fun x_162 ex_162 => ?_)
    have tx_162 : x_162.toInt = le.toInt / 1 := v_div ex_162 (by omega) (by decide)
    refine lv_bipush (v := 10) hx hb dX2_encodeNumber_40 (by decide) ?_
    refine lv_irem hx hb dX2_encodeNumber_42 (by decide) ?_
    refine lv_topi (fun x_163 ex_163 => ?_)
    have tx_163 : x_163.toInt = x_162.toInt % 10 := v_rem ex_163 (by omega) (by decide)
    refine lv_istore (lv' := [(5, .int x_163), (4, .int 1), (2, .int 1), (3, .int 1), (0, .int le), (1, .ref nu)]) hx hb dX2_encodeNumber_43 hl (by decide) rfl (fun ls hl => ?_)
    refine lv_iload_n hx hb dX2_encodeNumber_45 rfl (lv_at hl 3 rfl) ?_
    refine lv_if_ne (tgt := 54) hx hb dX2_encodeNumber_46 (by decide) (fun c_164 => ?_) (fun c_164 => absurd c_164 (by decide))
    refine lv_iconst (v := 1) hx hb dX2_encodeNumber_54 (by decide) ?_
    refine lv_goto (tgt := 59) hx hb dX2_encodeNumber_55 (by decide) ?_
    refine lv_istore_n (lv' := [(3, .int 1), (5, .int x_163), (4, .int 1), (2, .int 1), (0, .int le), (1, .ref nu)]) hx hb dX2_encodeNumber_59 rfl hl (by decide) rfl (fun ls hl => ?_)
    refine lv_iload_n hx hb dX2_encodeNumber_60 rfl (lv_at hl 0 rfl) ?_
    refine lv_if_eq (tgt := 86) hx hb dX2_encodeNumber_61 (by decide) (fun c_165 => absurd c_165 (by decide)) (fun c_165 => ?_)
    refine lv_iload_n hx hb dX2_encodeNumber_64 rfl (lv_at hl 3 rfl) ?_
    refine lv_if_eq (tgt := 84) hx hb dX2_encodeNumber_65 (by decide) (fun c_166 => absurd c_166 (by decide)) (fun c_166 => ?_)
    refine lv_aload_n hx hb dX2_encodeNumber_68 rfl (lv_at hl 5 rfl) ?_
    refine lv_bipush (v := 48) hx hb dX2_encodeNumber_69 (by decide) ?_
    refine lv_iload hx hb dX2_encodeNumber_71 (lv_at hl 1 rfl) ?_
    refine lv_iadd hx hb dX2_encodeNumber_73 ?_
    refine lv_topi (fun x_167 ex_167 => ?_)
    have tx_167 : x_167.toInt = 48 + x_163.toInt := v_add ex_167 (by show -2147483648 ≤ 48 + x_163.toInt; omega) (by show 48 + x_163.toInt < 2147483648; omega)
    refine kV_i (rest := []) (q0 := 0) (ci := 5) hcf (m_X5_add l dC dI cI cS H.size nu au cap lu_159 fu_159 x_167 (hf159_0) (by omega)) kc_X5_add gX2_encodeNumber_X5_add rfl rfl rfl ⟨Nat.le_of_ble_eq_true rfl, Nat.le_of_ble_eq_true rfl⟩ kX_t hK hP hD hS hA [0, 1] [] rfl (by decide +kernel) rfl rfl rfl hl rfl (Nat.le_of_ble_eq_true rfl) dX2_encodeNumber_74 ⟨Nat.le_of_ble_eq_true rfl, Nat.le_of_ble_eq_true rfl⟩ (fun r_168 H locs hB hJ hSn => ?_)
    refine hB _ (fun lu_168 fu_168 hPD9 hf168_0 hf168_1 hf168_2 => ?_)
    clear hB
    obtain ⟨hPn, hDn⟩ := hJ _ hPD9.1 hPD9.2 [(nu, .inr (5, [.ref au, .int lu_168])), (au, .inl (cI, cap, .inl fu_168))] rfl
    clear hP hD hS hJ hPD9
    have hP := hPn
    have hD := hDn
    have hS := hSn
    clear hPn hDn hSn
    have ha168 : lu_168.toInt = lu_159.toInt + 1 := F_add_l hf168_2 (by omega)
    have hr168 : r_168.toInt = 1 := F_add_r hf168_2 (by omega)
    have hap168 : AP lu lu_168 fu fu_168 [(38 : Int32).toInt, (35 : Int32).toInt, (x_131 : Int32).toInt, (x_140 : Int32).toInt, (x_149 : Int32).toInt, (x_158 : Int32).toInt, (x_167 : Int32).toInt] := AP_s hap159 (by omega) hf168_2 (by omega)
    refine lv_if_eq (tgt := 84) hx hb dX2_encodeNumber_77 (by decide) (fun c_169 => by exfalso; have tc_169 : r_168.toInt = 0 := v_eq c_169; omega) (fun c_169 => ?_)
    have tc_169 : ¬ r_168.toInt = 0 := v_ne c_169
    refine lv_iconst (v := 1) hx hb dX2_encodeNumber_80 (by decide) ?_
    refine lv_goto (tgt := 85) hx hb dX2_encodeNumber_81 (by decide) ?_
    refine lv_istore_n (lv' := [(2, .int 1), (3, .int 1), (5, .int x_163), (4, .int 1), (0, .int le), (1, .ref nu)]) hx hb dX2_encodeNumber_85 rfl hl (by decide) rfl (fun ls hl => ?_)
    refine lv_iload hx hb dX2_encodeNumber_86 (lv_at hl 3 rfl) ?_
    refine lv_bipush (v := 10) hx hb dX2_encodeNumber_88 (by decide) ?_
    refine lv_idiv hx hb dX2_encodeNumber_90 (by decide) ?_
    refine k_i (y := 0) (by decide) ?_
    refine lv_istore (lv' := [(4, .int 0), (2, .int 1), (3, .int 1), (5, .int x_163), (0, .int le), (1, .ref nu)]) hx hb dX2_encodeNumber_91 hl (by decide) rfl (fun ls hl => ?_)
    refine lv_goto (tgt := 31) hx hb dX2_encodeNumber_93 (by decide) ?_
    refine lv_iload hx hb dX2_encodeNumber_31 (lv_at hl 0 rfl) ?_
    refine lv_if_le (tgt := 96) hx hb dX2_encodeNumber_33 (by decide) (fun c_170 => ?_) (fun c_170 => absurd c_170 (by decide))
    refine lv_iload_n hx hb dX2_encodeNumber_96 rfl (lv_at hl 1 rfl) ?_
    refine lv_if_eq (tgt := 113) hx hb dX2_encodeNumber_97 (by decide) (fun c_171 => absurd c_171 (by decide)) (fun c_171 => ?_)
    refine lv_aload_n hx hb dX2_encodeNumber_100 rfl (lv_at hl 5 rfl) ?_
    refine lv_bipush (v := 59) hx hb dX2_encodeNumber_101 (by decide) ?_
    refine kV_i (rest := []) (q0 := 0) (ci := 5) hcf (m_X5_add l dC dI cI cS H.size nu au cap lu_168 fu_168 59 (hf168_0) (by omega)) kc_X5_add gX2_encodeNumber_X5_add rfl rfl rfl ⟨Nat.le_of_ble_eq_true rfl, Nat.le_of_ble_eq_true rfl⟩ kX_t hK hP hD hS hA [0, 1] [] rfl (by decide +kernel) rfl rfl rfl hl rfl (Nat.le_of_ble_eq_true rfl) dX2_encodeNumber_103 ⟨Nat.le_of_ble_eq_true rfl, Nat.le_of_ble_eq_true rfl⟩ (fun r_172 H locs hB hJ hSn => ?_)
    refine hB _ (fun lu_172 fu_172 hPD9 hf172_0 hf172_1 hf172_2 => ?_)
    clear hB
    obtain ⟨hPn, hDn⟩ := hJ _ hPD9.1 hPD9.2 [(nu, .inr (5, [.ref au, .int lu_172])), (au, .inl (cI, cap, .inl fu_172))] rfl
    clear hP hD hS hJ hPD9
    have hP := hPn
    have hD := hDn
    have hS := hSn
    clear hPn hDn hSn
    have ha172 : lu_172.toInt = lu_168.toInt + 1 := F_add_l hf172_2 (by omega)
    have hr172 : r_172.toInt = 1 := F_add_r hf172_2 (by omega)
    have hap172 : AP lu lu_172 fu fu_172 [(38 : Int32).toInt, (35 : Int32).toInt, (x_131 : Int32).toInt, (x_140 : Int32).toInt, (x_149 : Int32).toInt, (x_158 : Int32).toInt, (x_167 : Int32).toInt, (59 : Int32).toInt] := AP_s hap168 (by omega) hf172_2 (by omega)
    refine lv_if_eq (tgt := 113) hx hb dX2_encodeNumber_106 (by decide) (fun c_173 => by exfalso; have tc_173 : r_172.toInt = 0 := v_eq c_173; omega) (fun c_173 => ?_)
    have tc_173 : ¬ r_172.toInt = 0 := v_ne c_173
    refine lv_iconst (v := 1) hx hb dX2_encodeNumber_109 (by decide) ?_
    refine lv_goto (tgt := 114) hx hb dX2_encodeNumber_110 (by decide) ?_
    exact kl_z (v := 1) hQQ hx hb hr hlocks hS dX2_encodeNumber_114 (rfl) (fun PZ9 kZ9 => kZ9 lu_172 fu_172 (⟨hP, hD⟩) (hf172_0) (by decide) (F_en_y (by first | omega | rfl) hap172 (by first | (unfold enc; rw [if_neg (by decide), if_neg (by decide), if_neg (by decide), if_pos (by decide), if_neg (by omega)]; unfold encN; rw [if_neg (by omega), if_neg (by omega), if_neg (by omega), if_neg (by omega)]; exact L8 rfl rfl (by first | (rw [tx_131, tx_7, tx_6]; done) | (rw [tx_131, tx_7, tx_6]; exact Int.add_comm _ _) | omega) (by first | (rw [tx_140, tx_136, tx_135]; done) | (rw [tx_140, tx_136, tx_135]; exact Int.add_comm _ _) | omega) (by first | (rw [tx_149, tx_145, tx_144]; done) | (rw [tx_149, tx_145, tx_144]; exact Int.add_comm _ _) | omega) (by first | (rw [tx_158, tx_154, tx_153]; done) | (rw [tx_158, tx_154, tx_153]; exact Int.add_comm _ _) | omega) (by first | (rw [tx_167, tx_163, tx_162]; done) | (rw [tx_167, tx_163, tx_162]; exact Int.add_comm _ _) | omega) rfl) | (exfalso; omega))))

set_option maxHeartbeats 40000000 in
set_option maxRecDepth 100000 in
theorem f_X2_encode (l : Launch) (dC : Nat → ClassId) (dI : Nat → Nat → Nat) (cI cS : ClassId) (sz : Nat) (oC : Nat) (nu : Nat) (o4 : Nat) (o5 : Nat) (a41 : Nat) (a42 : Nat) (a43 : Nat) (a51 : Nat) (a52 : Nat) (a53 : Nat) (au : Nat) (cap : Nat) (l4 : Int32) (f42 : Nat → Int32) (f43 : Nat → Int32) (l5 : Int32) (f52 : Nat → Int32) (f53 : Nat → Int32) (lu : Int32) (fu : Nat → Int32) (cd : Int32) (le : Int32) (g_lu : 0 ≤ lu.toInt ∧ lu.toInt ≤ (cap : Int)) (g_le : 0 ≤ le.toInt ∧ le.toInt ≤ 65535) (hcap : cap ≤ 2400) (hrm : lu.toInt + 8 ≤ (cap : Int)) (hT4 : HT 512 511 hsT f42 f43) (ho4 : (occ f43 512 : Int) ≤ 511) (hT5 : HT 512 511 hsT f52 f53) (ho5 : (occ f53 512 : Int) ≤ 511) : kMi l yX2_encode wsX2_encode ({ frames := 2, cells := 0, slots := 0, locals := 46 } : Room) [.ref oC, .int cd, .int le, .ref nu] sz (dC, dI) vwCl [(cI, .int), (cS, .short)] [(oC, .inr (2, [.ref o4, .ref o5])), (o4, .inr (10, [.ref a41, .ref a42, .ref a43, .int l4])), (a42, .inl (cI, 512, .inl f42)), (a43, .inl (cI, 512, .inl f43)), (o5, .inr (10, [.ref a51, .ref a52, .ref a53, .int l5])), (a52, .inl (cI, 512, .inl f52)), (a53, .inl (cI, 512, .inl f53)), (nu, .inr (5, [.ref au, .int lu])), (au, .inl (cI, cap, .inl fu))] (fun _ => True) 0 0 (fun (A : Nat → Prop) (r : Int32) (hh9 : Heap) => ∀ PZ9 : Prop, (∀ (lu' : Int32) (fu' : Nat → Int32), kPD (dC, dI) vwCl A [(oC, .inr (2, [.ref o4, .ref o5])), (o4, .inr (10, [.ref a41, .ref a42, .ref a43, .int l4])), (a42, .inl (cI, 512, .inl f42)), (a43, .inl (cI, 512, .inl f43)), (o5, .inr (10, [.ref a51, .ref a52, .ref a53, .int l5])), (a52, .inl (cI, 512, .inl f52)), (a53, .inl (cI, 512, .inl f53)), (nu, .inr (5, [.ref au, .int lu'])), (au, .inl (cI, cap, .inl fu'))] hh9 → (0 ≤ lu'.toInt ∧ lu'.toInt ≤ (cap : Int)) → (0 ≤ r.toInt ∧ r.toInt ≤ 1) → (F_en r cd le (Bc cd f42 f43 f52 f53 le) lu lu' fu fu') → PZ9) → PZ9) := by
  refine kMi_of (cc := cX2_encode) (maxL := 6) (ret := (some .boolean)) (lv := [(0, .ref oC), (1, .int cd), (2, .int le), (3, .ref nu)]) (by decide +kernel) rfl rfl (Nat.le_of_ble_eq_true rfl) ?_
  intro p e s m below meth c A QQ ls hx hb hr hts hml hown hlocks hA hQQ hK hX hP hD hS hl
  have hown : s.vm.findClass RX2 = some m.cls := hown
  have hcf := k_cf hx hb hml hown hts
  have z2 : (2 : Int32).toInt = 2 := rfl
  have z3 : (3 : Int32).toInt = 3 := rfl
  have z35 : (35 : Int32).toInt = 35 := rfl
  have z38 : (38 : Int32).toInt = 38 := rfl
  have z59 : (59 : Int32).toInt = 59 := rfl
  refine lv_iload_n hx hb dX2_encode_0 rfl (lv_at hl 1 rfl) ?_
  by_cases c_1 : cd = 0
  · refine lv_tableIn (tgt := 32) hx hb dX2_encode_1 (by rw [c_1]; decide) (by rw [c_1]; decide) (by rw [c_1]; rfl) (by decide) ?_
    have tc_1 : cd.toInt = 0 := v_eq c_1
    refine lv_iload_n hx hb dX2_encode_32 rfl (lv_at hl 2 rfl) ?_
    refine lv_sipush (v := 128) hx hb dX2_encode_33 (by decide) ?_
    refine lv_icmp_ge (tgt := 51) hx hb dX2_encode_36 (by decide) (fun c_2 => ?_) (fun c_2 => ?_)
    · have tc_2 : 128 ≤ le.toInt := v_le c_2
      refine lv_iconst (v := 0) hx hb dX2_encode_51 (by decide) ?_
      exact kl_z (v := 0) hQQ hx hb hr hlocks hS dX2_encode_52 (rfl) (fun PZ9 kZ9 => kZ9 lu fu (⟨hP, hD⟩) (g_lu) (by decide) (F_en_n (by first | omega | rfl) (by unfold enc; (repeat (first | rw [if_neg (by omega)] | rw [if_pos (by omega)])))))
    · have tc_2 : le.toInt < 128 := v_nle c_2
      refine lv_aload_n hx hb dX2_encode_39 rfl (lv_at hl 3 rfl) ?_
      refine lv_iload_n hx hb dX2_encode_40 rfl (lv_at hl 2 rfl) ?_
      refine kV_i (rest := []) (q0 := 0) (ci := 5) hcf (m_X5_add l dC dI cI cS s.heap.size nu au cap lu fu le (g_lu) (by omega)) kc_X5_add gX2_encode_X5_add rfl rfl rfl ⟨Nat.le_of_ble_eq_true rfl, Nat.le_of_ble_eq_true rfl⟩ kX_t hK hP hD hS hA (posT mk_3 0) (posF mk_3 0) (kC_of mk_3 rfl rfl) (by decide +kernel) rfl rfl rfl hl rfl (Nat.le_of_ble_eq_true rfl) dX2_encode_41 ⟨Nat.le_of_ble_eq_true rfl, Nat.le_of_ble_eq_true rfl⟩ (fun r_3 H locs hB hJ hSn => ?_)
      refine hB _ (fun lu_3 fu_3 hPD9 hf3_0 hf3_1 hf3_2 => ?_)
      clear hB
      obtain ⟨hPn, hDn⟩ := kJi (m := mk_3) hJ rfl hPD9.1 hPD9.2 (wn := [(oC, .inr (2, [.ref o4, .ref o5])), (o4, .inr (10, [.ref a41, .ref a42, .ref a43, .int l4])), (a42, .inl (cI, 512, .inl f42)), (a43, .inl (cI, 512, .inl f43)), (o5, .inr (10, [.ref a51, .ref a52, .ref a53, .int l5])), (a52, .inl (cI, 512, .inl f52)), (a53, .inl (cI, 512, .inl f53)), (nu, .inr (5, [.ref au, .int lu_3])), (au, .inl (cI, cap, .inl fu_3))]) rfl
      clear hP hD hS hJ hPD9
      have hP := hPn
      have hD := hDn
      have hS := hSn
      clear hPn hDn hSn
      have ha3 : lu_3.toInt = lu.toInt + 1 := F_add_l hf3_2 (by omega)
      have hr3 : r_3.toInt = 1 := F_add_r hf3_2 (by omega)
      have hap3 : AP lu lu_3 fu fu_3 [(le : Int32).toInt] := AP_s (AP_0 (l := lu) (f := fu)) (by omega) hf3_2 (by omega)
      refine lv_if_eq (tgt := 51) hx hb dX2_encode_44 (by decide) (fun c_4 => by exfalso; have tc_4 : r_3.toInt = 0 := v_eq c_4; omega) (fun c_4 => ?_)
      have tc_4 : ¬ r_3.toInt = 0 := v_ne c_4
      refine lv_iconst (v := 1) hx hb dX2_encode_47 (by decide) ?_
      refine lv_goto (tgt := 52) hx hb dX2_encode_48 (by decide) ?_
      exact kl_z (v := 1) hQQ hx hb hr hlocks hS dX2_encode_52 (rfl) (fun PZ9 kZ9 => kZ9 lu_3 fu_3 (⟨hP, hD⟩) (hf3_0) (by decide) (F_en_y (by first | omega | rfl) hap3 (by first | (unfold enc; (repeat (first | rw [if_neg (by omega)] | rw [if_pos (by omega)])) <;> exact L1 (by first | omega | rfl)) | (exfalso; omega))))
  · skip
    have tc_1 : ¬ cd.toInt = 0 := v_ne c_1
    by_cases c_5 : cd = 1
    · refine lv_tableIn (tgt := 53) hx hb dX2_encode_1 (by rw [c_5]; decide) (by rw [c_5]; decide) (by rw [c_5]; rfl) (by decide) ?_
      have tc_5 : cd.toInt = 1 := v_eq c_5
      refine lv_iload_n hx hb dX2_encode_53 rfl (lv_at hl 2 rfl) ?_
      refine lv_sipush (v := 256) hx hb dX2_encode_54 (by decide) ?_
      refine lv_icmp_ge (tgt := 72) hx hb dX2_encode_57 (by decide) (fun c_6 => ?_) (fun c_6 => ?_)
      · have tc_6 : 256 ≤ le.toInt := v_le c_6
        refine lv_iconst (v := 0) hx hb dX2_encode_72 (by decide) ?_
        exact kl_z (v := 0) hQQ hx hb hr hlocks hS dX2_encode_73 (rfl) (fun PZ9 kZ9 => kZ9 lu fu (⟨hP, hD⟩) (g_lu) (by decide) (F_en_n (by first | omega | rfl) (by unfold enc; (repeat (first | rw [if_neg (by omega)] | rw [if_pos (by omega)])))))
      · have tc_6 : le.toInt < 256 := v_nle c_6
        refine lv_aload_n hx hb dX2_encode_60 rfl (lv_at hl 3 rfl) ?_
        refine lv_iload_n hx hb dX2_encode_61 rfl (lv_at hl 2 rfl) ?_
        refine kV_i (rest := []) (q0 := 0) (ci := 5) hcf (m_X5_add l dC dI cI cS s.heap.size nu au cap lu fu le (g_lu) (by omega)) kc_X5_add gX2_encode_X5_add rfl rfl rfl ⟨Nat.le_of_ble_eq_true rfl, Nat.le_of_ble_eq_true rfl⟩ kX_t hK hP hD hS hA (posT mk_3 0) (posF mk_3 0) (kC_of mk_3 rfl rfl) (by decide +kernel) rfl rfl rfl hl rfl (Nat.le_of_ble_eq_true rfl) dX2_encode_62 ⟨Nat.le_of_ble_eq_true rfl, Nat.le_of_ble_eq_true rfl⟩ (fun r_7 H locs hB hJ hSn => ?_)
        refine hB _ (fun lu_7 fu_7 hPD9 hf7_0 hf7_1 hf7_2 => ?_)
        clear hB
        obtain ⟨hPn, hDn⟩ := kJi (m := mk_3) hJ rfl hPD9.1 hPD9.2 (wn := [(oC, .inr (2, [.ref o4, .ref o5])), (o4, .inr (10, [.ref a41, .ref a42, .ref a43, .int l4])), (a42, .inl (cI, 512, .inl f42)), (a43, .inl (cI, 512, .inl f43)), (o5, .inr (10, [.ref a51, .ref a52, .ref a53, .int l5])), (a52, .inl (cI, 512, .inl f52)), (a53, .inl (cI, 512, .inl f53)), (nu, .inr (5, [.ref au, .int lu_7])), (au, .inl (cI, cap, .inl fu_7))]) rfl
        clear hP hD hS hJ hPD9
        have hP := hPn
        have hD := hDn
        have hS := hSn
        clear hPn hDn hSn
        have ha7 : lu_7.toInt = lu.toInt + 1 := F_add_l hf7_2 (by omega)
        have hr7 : r_7.toInt = 1 := F_add_r hf7_2 (by omega)
        have hap7 : AP lu lu_7 fu fu_7 [(le : Int32).toInt] := AP_s (AP_0 (l := lu) (f := fu)) (by omega) hf7_2 (by omega)
        refine lv_if_eq (tgt := 72) hx hb dX2_encode_65 (by decide) (fun c_8 => by exfalso; have tc_8 : r_7.toInt = 0 := v_eq c_8; omega) (fun c_8 => ?_)
        have tc_8 : ¬ r_7.toInt = 0 := v_ne c_8
        refine lv_iconst (v := 1) hx hb dX2_encode_68 (by decide) ?_
        refine lv_goto (tgt := 73) hx hb dX2_encode_69 (by decide) ?_
        exact kl_z (v := 1) hQQ hx hb hr hlocks hS dX2_encode_73 (rfl) (fun PZ9 kZ9 => kZ9 lu_7 fu_7 (⟨hP, hD⟩) (hf7_0) (by decide) (F_en_y (by first | omega | rfl) hap7 (by first | (unfold enc; (repeat (first | rw [if_neg (by omega)] | rw [if_pos (by omega)])) <;> exact L1 (by first | omega | rfl)) | (exfalso; omega))))
    · skip
      have tc_5 : ¬ cd.toInt = 1 := v_ne c_5
      by_cases c_9 : cd = 2
      · refine lv_tableIn (tgt := 74) hx hb dX2_encode_1 (by rw [c_9]; decide) (by rw [c_9]; decide) (by rw [c_9]; rfl) (by decide) ?_
        have tc_9 : cd.toInt = 2 := v_eq c_9
        refine lv_iload_n hx hb dX2_encode_74 rfl (lv_at hl 2 rfl) ?_
        refine lv_aload_n hx hb dX2_encode_75 rfl (lv_at hl 3 rfl) ?_
        refine kS_i (rest := []) hcf (f_X2_encodeMany l dC dI cI cS s.heap.size nu au cap lu fu le (g_lu) (g_le) (by omega) (by omega)) kc_X2_encodeMany gX2_encode_X2_encodeMany rfl rfl ⟨Nat.le_of_ble_eq_true rfl, Nat.le_of_ble_eq_true rfl⟩ kX_t hK hP hD hS hA (posT mk_3 0) (posF mk_3 0) (kC_of mk_3 rfl rfl) (by decide +kernel) rfl hl rfl (Nat.le_of_ble_eq_true rfl) dX2_encode_76 ⟨Nat.le_of_ble_eq_true rfl, Nat.le_of_ble_eq_true rfl⟩ (fun r_10 H locs hB hJ hSn => ?_)
        refine hB _ (fun lu_10 fu_10 hPD9 hf10_0 hf10_1 hf10_2 => ?_)
        clear hB
        obtain ⟨hPn, hDn⟩ := kJi (m := mk_3) hJ rfl hPD9.1 hPD9.2 (wn := [(oC, .inr (2, [.ref o4, .ref o5])), (o4, .inr (10, [.ref a41, .ref a42, .ref a43, .int l4])), (a42, .inl (cI, 512, .inl f42)), (a43, .inl (cI, 512, .inl f43)), (o5, .inr (10, [.ref a51, .ref a52, .ref a53, .int l5])), (a52, .inl (cI, 512, .inl f52)), (a53, .inl (cI, 512, .inl f53)), (nu, .inr (5, [.ref au, .int lu_10])), (au, .inl (cI, cap, .inl fu_10))]) rfl
        clear hP hD hS hJ hPD9
        have hP := hPn
        have hD := hDn
        have hS := hSn
        clear hPn hDn hSn
        exact kl_z (v := r_10) hQQ hx hb hr hlocks hS dX2_encode_79 (v_bool (by omega)) (fun PZ9 kZ9 => kZ9 lu_10 fu_10 (⟨hP, hD⟩) (hf10_0) (hf10_1) (F_en_cd hf10_2 (by omega) (by omega) (by omega)))
      · skip
        have tc_9 : ¬ cd.toInt = 2 := v_ne c_9
        by_cases c_11 : cd = 3
        · refine lv_tableIn (tgt := 80) hx hb dX2_encode_1 (by rw [c_11]; decide) (by rw [c_11]; decide) (by rw [c_11]; rfl) (by decide) ?_
          have tc_11 : cd.toInt = 3 := v_eq c_11
          refine lv_iload_n hx hb dX2_encode_80 rfl (lv_at hl 2 rfl) ?_
          refine kS_i (rest := []) hcf (f_X2_isNumbered l dC dI cI cS s.heap.size le ) kc_X2_isNumbered gX2_encode_X2_isNumbered rfl rfl ⟨Nat.le_of_ble_eq_true rfl, Nat.le_of_ble_eq_true rfl⟩ kX_t hK hP hD hS hA (posT mk_4 0) (posF mk_4 0) (kC_of mk_4 rfl rfl) (by decide +kernel) rfl hl rfl (Nat.le_of_ble_eq_true rfl) dX2_encode_81 ⟨Nat.le_of_ble_eq_true rfl, Nat.le_of_ble_eq_true rfl⟩ (fun r_12 H locs hB hJ hSn => ?_)
          refine hB _ (fun hPD9 hf12_0 hf12_1 => ?_)
          clear hB
          obtain ⟨hPn, hDn⟩ := kJi (m := mk_4) hJ rfl hPD9.1 hPD9.2 (wn := [(oC, .inr (2, [.ref o4, .ref o5])), (o4, .inr (10, [.ref a41, .ref a42, .ref a43, .int l4])), (a42, .inl (cI, 512, .inl f42)), (a43, .inl (cI, 512, .inl f43)), (o5, .inr (10, [.ref a51, .ref a52, .ref a53, .int l5])), (a52, .inl (cI, 512, .inl f52)), (a53, .inl (cI, 512, .inl f53)), (nu, .inr (5, [.ref au, .int lu])), (au, .inl (cI, cap, .inl fu))]) rfl
          clear hP hD hS hJ hPD9
          have hP := hPn
          have hD := hDn
          have hS := hSn
          clear hPn hDn hSn
          refine lv_if_eq (tgt := 95) hx hb dX2_encode_84 (by decide) (fun c_13 => ?_) (fun c_13 => ?_)
          · have tc_13 : r_12.toInt = 0 := v_eq c_13
            refine lv_aload_n hx hb dX2_encode_95 rfl (lv_at hl 3 rfl) ?_
            refine lv_iload_n hx hb dX2_encode_96 rfl (lv_at hl 2 rfl) ?_
            refine kV_i (rest := []) (q0 := 0) (ci := 5) hcf (m_X5_add l dC dI cI cS H.size nu au cap lu fu le (g_lu) (by omega)) kc_X5_add gX2_encode_X5_add rfl rfl rfl ⟨Nat.le_of_ble_eq_true rfl, Nat.le_of_ble_eq_true rfl⟩ kX_t hK hP hD hS hA (posT mk_3 0) (posF mk_3 0) (kC_of mk_3 rfl rfl) (by decide +kernel) rfl rfl rfl hl rfl (Nat.le_of_ble_eq_true rfl) dX2_encode_97 ⟨Nat.le_of_ble_eq_true rfl, Nat.le_of_ble_eq_true rfl⟩ (fun r_14 H locs hB hJ hSn => ?_)
            refine hB _ (fun lu_14 fu_14 hPD9 hf14_0 hf14_1 hf14_2 => ?_)
            clear hB
            obtain ⟨hPn, hDn⟩ := kJi (m := mk_3) hJ rfl hPD9.1 hPD9.2 (wn := [(oC, .inr (2, [.ref o4, .ref o5])), (o4, .inr (10, [.ref a41, .ref a42, .ref a43, .int l4])), (a42, .inl (cI, 512, .inl f42)), (a43, .inl (cI, 512, .inl f43)), (o5, .inr (10, [.ref a51, .ref a52, .ref a53, .int l5])), (a52, .inl (cI, 512, .inl f52)), (a53, .inl (cI, 512, .inl f53)), (nu, .inr (5, [.ref au, .int lu_14])), (au, .inl (cI, cap, .inl fu_14))]) rfl
            clear hP hD hS hJ hPD9
            have hP := hPn
            have hD := hDn
            have hS := hSn
            clear hPn hDn hSn
            have ha14 : lu_14.toInt = lu.toInt + 1 := F_add_l hf14_2 (by omega)
            have hr14 : r_14.toInt = 1 := F_add_r hf14_2 (by omega)
            have hap14 : AP lu lu_14 fu fu_14 [(le : Int32).toInt] := AP_s (AP_0 (l := lu) (f := fu)) (by omega) hf14_2 (by omega)
            exact kl_z (v := r_14) hQQ hx hb hr hlocks hS dX2_encode_100 (v_bool (by omega)) (fun PZ9 kZ9 => kZ9 lu_14 fu_14 (⟨hP, hD⟩) (hf14_0) (hf14_1) (F_en_y (by first | omega | rfl) hap14 (by first | (unfold enc; (repeat (first | rw [if_neg (by omega)] | rw [if_pos (by omega)])) <;> exact L1 (by first | omega | rfl)) | (exfalso; omega))))
          · have tc_13 : ¬ r_12.toInt = 0 := v_ne c_13
            refine lv_iload_n hx hb dX2_encode_87 rfl (lv_at hl 2 rfl) ?_
            refine lv_aload_n hx hb dX2_encode_88 rfl (lv_at hl 3 rfl) ?_
            refine kS_i (rest := []) hcf (f_X2_encodeNumber l dC dI cI cS H.size nu au cap lu fu le (g_lu) (g_le) (by omega) (by omega) (by omega)) kc_X2_encodeNumber gX2_encode_X2_encodeNumber rfl rfl ⟨Nat.le_of_ble_eq_true rfl, Nat.le_of_ble_eq_true rfl⟩ kX_t hK hP hD hS hA (posT mk_3 0) (posF mk_3 0) (kC_of mk_3 rfl rfl) (by decide +kernel) rfl hl rfl (Nat.le_of_ble_eq_true rfl) dX2_encode_89 ⟨Nat.le_of_ble_eq_true rfl, Nat.le_of_ble_eq_true rfl⟩ (fun r_15 H locs hB hJ hSn => ?_)
            refine hB _ (fun lu_15 fu_15 hPD9 hf15_0 hf15_1 hf15_2 => ?_)
            clear hB
            obtain ⟨hPn, hDn⟩ := kJi (m := mk_3) hJ rfl hPD9.1 hPD9.2 (wn := [(oC, .inr (2, [.ref o4, .ref o5])), (o4, .inr (10, [.ref a41, .ref a42, .ref a43, .int l4])), (a42, .inl (cI, 512, .inl f42)), (a43, .inl (cI, 512, .inl f43)), (o5, .inr (10, [.ref a51, .ref a52, .ref a53, .int l5])), (a52, .inl (cI, 512, .inl f52)), (a53, .inl (cI, 512, .inl f53)), (nu, .inr (5, [.ref au, .int lu_15])), (au, .inl (cI, cap, .inl fu_15))]) rfl
            clear hP hD hS hJ hPD9
            have hP := hPn
            have hD := hDn
            have hS := hSn
            clear hPn hDn hSn
            refine lv_goto (tgt := 100) hx hb dX2_encode_92 (by decide) ?_
            exact kl_z (v := r_15) hQQ hx hb hr hlocks hS dX2_encode_100 (v_bool (by omega)) (fun PZ9 kZ9 => kZ9 lu_15 fu_15 (⟨hP, hD⟩) (hf15_0) (hf15_1) (F_en_cd hf15_2 (by omega) (by omega) (by omega)))
        · skip
          have tc_11 : ¬ cd.toInt = 3 := v_ne c_11
          refine lv_tableOut (tgt := 101) hx hb dX2_encode_1 (by omega) (by decide) ?_
          refine lv_aload_n hx hb dX2_encode_101 rfl (lv_at hl 0 rfl) ?_
          refine lv_iload_n hx hb dX2_encode_102 rfl (lv_at hl 1 rfl) ?_
          by_cases cs_16 : cd.toInt = 4
          · refine kV_r (rest := []) (q0 := 0) (ci := 2) hcf (m_X2_toldCode_4 l dC dI cI cS s.heap.size oC o4 o5 cd (by omega)) kc_X2_toldCode gX2_encode_X2_toldCode rfl rfl rfl ⟨Nat.le_of_ble_eq_true rfl, Nat.le_of_ble_eq_true rfl⟩ kX_t hK hP hD hS hA (posT mk_5 0) (posF mk_5 0) (kC_of mk_5 rfl rfl) (by decide +kernel) rfl rfl rfl hl rfl (Nat.le_of_ble_eq_true rfl) dX2_encode_103 ⟨Nat.le_of_ble_eq_true rfl, Nat.le_of_ble_eq_true rfl⟩ (fun r_17 H locs hB hJ hSn => ?_)
            refine And.elim (fun hra hBr => ?_) hB
            clear hB
            refine hBr _ (fun hPD9 => ?_)
            clear hBr
            rw [hra]
            obtain ⟨hPn, hDn⟩ := kJi (m := mk_5) hJ rfl hPD9.1 hPD9.2 (wn := [(oC, .inr (2, [.ref o4, .ref o5])), (o4, .inr (10, [.ref a41, .ref a42, .ref a43, .int l4])), (a42, .inl (cI, 512, .inl f42)), (a43, .inl (cI, 512, .inl f43)), (o5, .inr (10, [.ref a51, .ref a52, .ref a53, .int l5])), (a52, .inl (cI, 512, .inl f52)), (a53, .inl (cI, 512, .inl f53)), (nu, .inr (5, [.ref au, .int lu])), (au, .inl (cI, cap, .inl fu))]) rfl
            clear hP hD hS hJ hPD9
            have hP := hPn
            have hD := hDn
            have hS := hSn
            clear hPn hDn hSn
            refine lv_astore (lv' := [(4, .ref o4), (0, .ref oC), (1, .int cd), (2, .int le), (3, .ref nu)]) hx hb dX2_encode_106 hl (by decide) rfl (fun ls hl => ?_)
            refine lv_aload hx hb dX2_encode_108 (lv_at hl 0 rfl) ?_
            refine lv_ifnonnull (tgt := 117) hx hb dX2_encode_110 (by decide) ?_
            refine lv_aload hx hb dX2_encode_117 (lv_at hl 0 rfl) ?_
            refine lv_iload_n hx hb dX2_encode_119 rfl (lv_at hl 3 rfl) ?_
            refine kV_i (rest := []) (q0 := 0) (ci := 10) hcf (f_X10_byteFor l dC dI cI cS H.size o4 a41 a42 a43 l4 f42 f43 le (hT4) (ho4)) kc_X10_byteFor gX2_encode_X10_byteFor rfl rfl rfl ⟨Nat.le_of_ble_eq_true rfl, Nat.le_of_ble_eq_true rfl⟩ kX_t hK hP hD hS hA (posT mk_6 0) (posF mk_6 0) (kC_of mk_6 rfl rfl) (by decide +kernel) rfl rfl rfl hl rfl (Nat.le_of_ble_eq_true rfl) dX2_encode_120 ⟨Nat.le_of_ble_eq_true rfl, Nat.le_of_ble_eq_true rfl⟩ (fun r_18 H locs hB hJ hSn => ?_)
            refine hB _ (fun hPD9 hf18_0 => ?_)
            clear hB
            obtain ⟨hPn, hDn⟩ := kJi (m := mk_6) hJ rfl hPD9.1 hPD9.2 (wn := [(oC, .inr (2, [.ref o4, .ref o5])), (o4, .inr (10, [.ref a41, .ref a42, .ref a43, .int l4])), (a42, .inl (cI, 512, .inl f42)), (a43, .inl (cI, 512, .inl f43)), (o5, .inr (10, [.ref a51, .ref a52, .ref a53, .int l5])), (a52, .inl (cI, 512, .inl f52)), (a53, .inl (cI, 512, .inl f53)), (nu, .inr (5, [.ref au, .int lu])), (au, .inl (cI, cap, .inl fu))]) rfl
            clear hP hD hS hJ hPD9
            have hP := hPn
            have hD := hDn
            have hS := hSn
            clear hPn hDn hSn
            refine lv_istore (lv' := [(5, .int r_18), (4, .ref o4), (0, .ref oC), (1, .int cd), (2, .int le), (3, .ref nu)]) hx hb dX2_encode_123 hl (by decide) rfl (fun ls hl => ?_)
            refine lv_iload hx hb dX2_encode_125 (lv_at hl 0 rfl) ?_
            refine lv_iconst (v := (-1)) hx hb dX2_encode_127 (by decide) ?_
            refine lv_icmp_eq (tgt := 144) hx hb dX2_encode_128 (by decide) (fun c_19 => ?_) (fun c_19 => ?_)
            · have tc_19 : r_18.toInt = (-1) := v_eq c_19
              refine lv_iconst (v := 0) hx hb dX2_encode_144 (by decide) ?_
              exact kl_z (v := 0) hQQ hx hb hr hlocks hS dX2_encode_145 (rfl) (fun PZ9 kZ9 => kZ9 lu fu (⟨hP, hD⟩) (g_lu) (by decide) (F_en_n (by first | omega | rfl) (by rw [← (show r_18 = Bc cd f42 f43 f52 f53 le from (bfF_of hT4 hf18_0).trans (by unfold Bc; rw [if_pos (by omega)]))]; unfold enc; (repeat (first | rw [if_neg (by omega)] | rw [if_pos (by omega)])) <;> rw [if_pos c_19])))
            · have tc_19 : ¬ r_18.toInt = (-1) := v_ne c_19
              refine lv_aload_n hx hb dX2_encode_131 rfl (lv_at hl 5 rfl) ?_
              refine lv_iload hx hb dX2_encode_132 (lv_at hl 0 rfl) ?_
              refine kV_i (rest := []) (q0 := 0) (ci := 5) hcf (m_X5_add l dC dI cI cS H.size nu au cap lu fu r_18 (g_lu) (by omega)) kc_X5_add gX2_encode_X5_add rfl rfl rfl ⟨Nat.le_of_ble_eq_true rfl, Nat.le_of_ble_eq_true rfl⟩ kX_t hK hP hD hS hA (posT mk_3 0) (posF mk_3 0) (kC_of mk_3 rfl rfl) (by decide +kernel) rfl rfl rfl hl rfl (Nat.le_of_ble_eq_true rfl) dX2_encode_134 ⟨Nat.le_of_ble_eq_true rfl, Nat.le_of_ble_eq_true rfl⟩ (fun r_20 H locs hB hJ hSn => ?_)
              refine hB _ (fun lu_20 fu_20 hPD9 hf20_0 hf20_1 hf20_2 => ?_)
              clear hB
              obtain ⟨hPn, hDn⟩ := kJi (m := mk_3) hJ rfl hPD9.1 hPD9.2 (wn := [(oC, .inr (2, [.ref o4, .ref o5])), (o4, .inr (10, [.ref a41, .ref a42, .ref a43, .int l4])), (a42, .inl (cI, 512, .inl f42)), (a43, .inl (cI, 512, .inl f43)), (o5, .inr (10, [.ref a51, .ref a52, .ref a53, .int l5])), (a52, .inl (cI, 512, .inl f52)), (a53, .inl (cI, 512, .inl f53)), (nu, .inr (5, [.ref au, .int lu_20])), (au, .inl (cI, cap, .inl fu_20))]) rfl
              clear hP hD hS hJ hPD9
              have hP := hPn
              have hD := hDn
              have hS := hSn
              clear hPn hDn hSn
              have ha20 : lu_20.toInt = lu.toInt + 1 := F_add_l hf20_2 (by omega)
              have hr20 : r_20.toInt = 1 := F_add_r hf20_2 (by omega)
              have hap20 : AP lu lu_20 fu fu_20 [(r_18 : Int32).toInt] := AP_s (AP_0 (l := lu) (f := fu)) (by omega) hf20_2 (by omega)
              refine lv_if_eq (tgt := 144) hx hb dX2_encode_137 (by decide) (fun c_21 => by exfalso; have tc_21 : r_20.toInt = 0 := v_eq c_21; omega) (fun c_21 => ?_)
              have tc_21 : ¬ r_20.toInt = 0 := v_ne c_21
              refine lv_iconst (v := 1) hx hb dX2_encode_140 (by decide) ?_
              refine lv_goto (tgt := 145) hx hb dX2_encode_141 (by decide) ?_
              exact kl_z (v := 1) hQQ hx hb hr hlocks hS dX2_encode_145 (rfl) (fun PZ9 kZ9 => kZ9 lu_20 fu_20 (⟨hP, hD⟩) (hf20_0) (by decide) (F_en_y (by first | omega | rfl) hap20 (by rw [← (show r_18 = Bc cd f42 f43 f52 f53 le from (bfF_of hT4 hf18_0).trans (by unfold Bc; rw [if_pos (by omega)]))]; unfold enc; (repeat (first | rw [if_neg (by omega)] | rw [if_pos (by omega)])) <;> rw [if_neg c_19])))
          · skip
            by_cases cs_22 : cd.toInt = 5
            · refine kV_r (rest := []) (q0 := 0) (ci := 2) hcf (m_X2_toldCode_5 l dC dI cI cS s.heap.size oC o4 o5 cd (by omega)) kc_X2_toldCode gX2_encode_X2_toldCode rfl rfl rfl ⟨Nat.le_of_ble_eq_true rfl, Nat.le_of_ble_eq_true rfl⟩ kX_t hK hP hD hS hA (posT mk_5 0) (posF mk_5 0) (kC_of mk_5 rfl rfl) (by decide +kernel) rfl rfl rfl hl rfl (Nat.le_of_ble_eq_true rfl) dX2_encode_103 ⟨Nat.le_of_ble_eq_true rfl, Nat.le_of_ble_eq_true rfl⟩ (fun r_23 H locs hB hJ hSn => ?_)
              refine And.elim (fun hra hBr => ?_) hB
              clear hB
              refine hBr _ (fun hPD9 => ?_)
              clear hBr
              rw [hra]
              obtain ⟨hPn, hDn⟩ := kJi (m := mk_5) hJ rfl hPD9.1 hPD9.2 (wn := [(oC, .inr (2, [.ref o4, .ref o5])), (o4, .inr (10, [.ref a41, .ref a42, .ref a43, .int l4])), (a42, .inl (cI, 512, .inl f42)), (a43, .inl (cI, 512, .inl f43)), (o5, .inr (10, [.ref a51, .ref a52, .ref a53, .int l5])), (a52, .inl (cI, 512, .inl f52)), (a53, .inl (cI, 512, .inl f53)), (nu, .inr (5, [.ref au, .int lu])), (au, .inl (cI, cap, .inl fu))]) rfl
              clear hP hD hS hJ hPD9
              have hP := hPn
              have hD := hDn
              have hS := hSn
              clear hPn hDn hSn
              refine lv_astore (lv' := [(4, .ref o5), (0, .ref oC), (1, .int cd), (2, .int le), (3, .ref nu)]) hx hb dX2_encode_106 hl (by decide) rfl (fun ls hl => ?_)
              refine lv_aload hx hb dX2_encode_108 (lv_at hl 0 rfl) ?_
              refine lv_ifnonnull (tgt := 117) hx hb dX2_encode_110 (by decide) ?_
              refine lv_aload hx hb dX2_encode_117 (lv_at hl 0 rfl) ?_
              refine lv_iload_n hx hb dX2_encode_119 rfl (lv_at hl 3 rfl) ?_
              refine kV_i (rest := []) (q0 := 0) (ci := 10) hcf (f_X10_byteFor l dC dI cI cS H.size o5 a51 a52 a53 l5 f52 f53 le (hT5) (ho5)) kc_X10_byteFor gX2_encode_X10_byteFor rfl rfl rfl ⟨Nat.le_of_ble_eq_true rfl, Nat.le_of_ble_eq_true rfl⟩ kX_t hK hP hD hS hA (posT mk_7 0) (posF mk_7 0) (kC_of mk_7 rfl rfl) (by decide +kernel) rfl rfl rfl hl rfl (Nat.le_of_ble_eq_true rfl) dX2_encode_120 ⟨Nat.le_of_ble_eq_true rfl, Nat.le_of_ble_eq_true rfl⟩ (fun r_24 H locs hB hJ hSn => ?_)
              refine hB _ (fun hPD9 hf24_0 => ?_)
              clear hB
              obtain ⟨hPn, hDn⟩ := kJi (m := mk_7) hJ rfl hPD9.1 hPD9.2 (wn := [(oC, .inr (2, [.ref o4, .ref o5])), (o4, .inr (10, [.ref a41, .ref a42, .ref a43, .int l4])), (a42, .inl (cI, 512, .inl f42)), (a43, .inl (cI, 512, .inl f43)), (o5, .inr (10, [.ref a51, .ref a52, .ref a53, .int l5])), (a52, .inl (cI, 512, .inl f52)), (a53, .inl (cI, 512, .inl f53)), (nu, .inr (5, [.ref au, .int lu])), (au, .inl (cI, cap, .inl fu))]) rfl
              clear hP hD hS hJ hPD9
              have hP := hPn
              have hD := hDn
              have hS := hSn
              clear hPn hDn hSn
              refine lv_istore (lv' := [(5, .int r_24), (4, .ref o5), (0, .ref oC), (1, .int cd), (2, .int le), (3, .ref nu)]) hx hb dX2_encode_123 hl (by decide) rfl (fun ls hl => ?_)
              refine lv_iload hx hb dX2_encode_125 (lv_at hl 0 rfl) ?_
              refine lv_iconst (v := (-1)) hx hb dX2_encode_127 (by decide) ?_
              refine lv_icmp_eq (tgt := 144) hx hb dX2_encode_128 (by decide) (fun c_25 => ?_) (fun c_25 => ?_)
              · have tc_25 : r_24.toInt = (-1) := v_eq c_25
                refine lv_iconst (v := 0) hx hb dX2_encode_144 (by decide) ?_
                exact kl_z (v := 0) hQQ hx hb hr hlocks hS dX2_encode_145 (rfl) (fun PZ9 kZ9 => kZ9 lu fu (⟨hP, hD⟩) (g_lu) (by decide) (F_en_n (by first | omega | rfl) (by rw [← (show r_24 = Bc cd f42 f43 f52 f53 le from (bfF_of hT5 hf24_0).trans (by unfold Bc; rw [if_neg (by omega)]))]; unfold enc; (repeat (first | rw [if_neg (by omega)] | rw [if_pos (by omega)])) <;> rw [if_pos c_25])))
              · have tc_25 : ¬ r_24.toInt = (-1) := v_ne c_25
                refine lv_aload_n hx hb dX2_encode_131 rfl (lv_at hl 5 rfl) ?_
                refine lv_iload hx hb dX2_encode_132 (lv_at hl 0 rfl) ?_
                refine kV_i (rest := []) (q0 := 0) (ci := 5) hcf (m_X5_add l dC dI cI cS H.size nu au cap lu fu r_24 (g_lu) (by omega)) kc_X5_add gX2_encode_X5_add rfl rfl rfl ⟨Nat.le_of_ble_eq_true rfl, Nat.le_of_ble_eq_true rfl⟩ kX_t hK hP hD hS hA (posT mk_3 0) (posF mk_3 0) (kC_of mk_3 rfl rfl) (by decide +kernel) rfl rfl rfl hl rfl (Nat.le_of_ble_eq_true rfl) dX2_encode_134 ⟨Nat.le_of_ble_eq_true rfl, Nat.le_of_ble_eq_true rfl⟩ (fun r_26 H locs hB hJ hSn => ?_)
                refine hB _ (fun lu_26 fu_26 hPD9 hf26_0 hf26_1 hf26_2 => ?_)
                clear hB
                obtain ⟨hPn, hDn⟩ := kJi (m := mk_3) hJ rfl hPD9.1 hPD9.2 (wn := [(oC, .inr (2, [.ref o4, .ref o5])), (o4, .inr (10, [.ref a41, .ref a42, .ref a43, .int l4])), (a42, .inl (cI, 512, .inl f42)), (a43, .inl (cI, 512, .inl f43)), (o5, .inr (10, [.ref a51, .ref a52, .ref a53, .int l5])), (a52, .inl (cI, 512, .inl f52)), (a53, .inl (cI, 512, .inl f53)), (nu, .inr (5, [.ref au, .int lu_26])), (au, .inl (cI, cap, .inl fu_26))]) rfl
                clear hP hD hS hJ hPD9
                have hP := hPn
                have hD := hDn
                have hS := hSn
                clear hPn hDn hSn
                have ha26 : lu_26.toInt = lu.toInt + 1 := F_add_l hf26_2 (by omega)
                have hr26 : r_26.toInt = 1 := F_add_r hf26_2 (by omega)
                have hap26 : AP lu lu_26 fu fu_26 [(r_24 : Int32).toInt] := AP_s (AP_0 (l := lu) (f := fu)) (by omega) hf26_2 (by omega)
                refine lv_if_eq (tgt := 144) hx hb dX2_encode_137 (by decide) (fun c_27 => by exfalso; have tc_27 : r_26.toInt = 0 := v_eq c_27; omega) (fun c_27 => ?_)
                have tc_27 : ¬ r_26.toInt = 0 := v_ne c_27
                refine lv_iconst (v := 1) hx hb dX2_encode_140 (by decide) ?_
                refine lv_goto (tgt := 145) hx hb dX2_encode_141 (by decide) ?_
                exact kl_z (v := 1) hQQ hx hb hr hlocks hS dX2_encode_145 (rfl) (fun PZ9 kZ9 => kZ9 lu_26 fu_26 (⟨hP, hD⟩) (hf26_0) (by decide) (F_en_y (by first | omega | rfl) hap26 (by rw [← (show r_24 = Bc cd f42 f43 f52 f53 le from (bfF_of hT5 hf24_0).trans (by unfold Bc; rw [if_neg (by omega)]))]; unfold enc; (repeat (first | rw [if_neg (by omega)] | rw [if_pos (by omega)])) <;> rw [if_neg c_25])))
            · skip
              refine kV_q (rest := []) (q0 := 0) (ci := 2) hcf (m_X2_toldCode_n l dC dI cI cS s.heap.size oC o4 o5 cd (by omega) (by omega)) kc_X2_toldCode gX2_encode_X2_toldCode rfl rfl rfl ⟨Nat.le_of_ble_eq_true rfl, Nat.le_of_ble_eq_true rfl⟩ kX_t hK hP hD hS hA (posT mk_5 0) (posF mk_5 0) (kC_of mk_5 rfl rfl) (by decide +kernel) rfl rfl rfl hl rfl (Nat.le_of_ble_eq_true rfl) dX2_encode_103 ⟨Nat.le_of_ble_eq_true rfl, Nat.le_of_ble_eq_true rfl⟩ (fun H locs hB hJ hSn => ?_)
              refine hB _ (fun hPD9 => ?_)
              clear hB
              obtain ⟨hPn, hDn⟩ := kJi (m := mk_5) hJ rfl hPD9.1 hPD9.2 (wn := [(oC, .inr (2, [.ref o4, .ref o5])), (o4, .inr (10, [.ref a41, .ref a42, .ref a43, .int l4])), (a42, .inl (cI, 512, .inl f42)), (a43, .inl (cI, 512, .inl f43)), (o5, .inr (10, [.ref a51, .ref a52, .ref a53, .int l5])), (a52, .inl (cI, 512, .inl f52)), (a53, .inl (cI, 512, .inl f53)), (nu, .inr (5, [.ref au, .int lu])), (au, .inl (cI, cap, .inl fu))]) rfl
              clear hP hD hS hJ hPD9
              have hP := hPn
              have hD := hDn
              have hS := hSn
              clear hPn hDn hSn
              refine lv_astoreN (lv' := [(4, .null), (0, .ref oC), (1, .int cd), (2, .int le), (3, .ref nu)]) hx hb dX2_encode_106 hl (by decide) rfl (fun ls hl => ?_)
              refine lv_aloadN hx hb dX2_encode_108 (lv_at hl 0 rfl) ?_
              refine lv_ifnonnullN hx hb dX2_encode_110 ?_
              refine lv_iconst (v := (-1)) hx hb dX2_encode_113 (by decide) ?_
              refine lv_goto (tgt := 123) hx hb dX2_encode_114 (by decide) ?_
              refine lv_istore (lv' := [(5, .int (-1)), (4, .null), (0, .ref oC), (1, .int cd), (2, .int le), (3, .ref nu)]) hx hb dX2_encode_123 hl (by decide) rfl (fun ls hl => ?_)
              refine lv_iload hx hb dX2_encode_125 (lv_at hl 0 rfl) ?_
              refine lv_iconst (v := (-1)) hx hb dX2_encode_127 (by decide) ?_
              refine lv_icmp_eq (tgt := 144) hx hb dX2_encode_128 (by decide) (fun c_29 => ?_) (fun c_29 => absurd c_29 (by decide))
              refine lv_iconst (v := 0) hx hb dX2_encode_144 (by decide) ?_
              exact kl_z (v := 0) hQQ hx hb hr hlocks hS dX2_encode_145 (rfl) (fun PZ9 kZ9 => kZ9 lu fu (⟨hP, hD⟩) (g_lu) (by decide) (F_en_n (by first | omega | rfl) (by unfold enc; (repeat (first | rw [if_neg (by omega)] | rw [if_pos (by omega)])))))

set_option maxHeartbeats 40000000 in
set_option maxRecDepth 100000 in
theorem f_X7_write (l : Launch) (dC : Nat → ClassId) (dI : Nat → Nat → Nat) (cI cS : ClassId) (sz : Nat) (oP : Nat) (nx : Nat) (oC : Nat) (nB : Nat) (aB : Nat) (o4 : Nat) (o5 : Nat) (a41 : Nat) (a42 : Nat) (a43 : Nat) (a51 : Nat) (a52 : Nat) (a53 : Nat) (ax : Nat) (ft : Int32) (lB : Int32) (fB : Nat → Int32) (l4 : Int32) (f42 : Nat → Int32) (f43 : Nat → Int32) (l5 : Int32) (f52 : Nat → Int32) (f53 : Nat → Int32) (lx : Int32) (fx : Nat → Int32) (cd : Int32) (g_lB : 0 ≤ lB.toInt ∧ lB.toInt ≤ 2400) (g_lx : 0 ≤ lx.toInt ∧ lx.toInt ≤ 300) (hlt : prg lx.toInt 0 65535 fx) (hT4 : HT 512 511 hsT f42 f43) (ho4 : (occ f43 512 : Int) ≤ 511) (hT5 : HT 512 511 hsT f52 f53) (ho5 : (occ f53 512 : Int) ≤ 511) : kMi l yX7_write wsX7_write ({ frames := 3, cells := 0, slots := 0, locals := 71 } : Room) [.ref oP, .int cd, .ref nx] sz (dC, dI) vwCl [(cI, .int), (cS, .short)] [(oP, .inr (7, [.ref oC, .ref nB, .int ft])), (nB, .inr (5, [.ref aB, .int lB])), (aB, .inl (cI, 2400, .inl fB)), (oC, .inr (2, [.ref o4, .ref o5])), (o4, .inr (10, [.ref a41, .ref a42, .ref a43, .int l4])), (a42, .inl (cI, 512, .inl f42)), (a43, .inl (cI, 512, .inl f43)), (o5, .inr (10, [.ref a51, .ref a52, .ref a53, .int l5])), (a52, .inl (cI, 512, .inl f52)), (a53, .inl (cI, 512, .inl f53)), (nx, .inr (5, [.ref ax, .int lx])), (ax, .inl (cI, 300, .inl fx))] (fun _ => True) 0 0 (fun (A : Nat → Prop) (r : Int32) (hh9 : Heap) => ∀ PZ9 : Prop, (∀ (ft' : Int32) (lB' : Int32) (fB' : Nat → Int32), kPD (dC, dI) vwCl A [(oP, .inr (7, [.ref oC, .ref nB, .int ft'])), (nB, .inr (5, [.ref aB, .int lB'])), (aB, .inl (cI, 2400, .inl fB')), (oC, .inr (2, [.ref o4, .ref o5])), (o4, .inr (10, [.ref a41, .ref a42, .ref a43, .int l4])), (a42, .inl (cI, 512, .inl f42)), (a43, .inl (cI, 512, .inl f43)), (o5, .inr (10, [.ref a51, .ref a52, .ref a53, .int l5])), (a52, .inl (cI, 512, .inl f52)), (a53, .inl (cI, 512, .inl f53)), (nx, .inr (5, [.ref ax, .int lx])), (ax, .inl (cI, 300, .inl fx))] hh9 → (0 ≤ lB'.toInt ∧ lB'.toInt ≤ 2400) → (0 ≤ r.toInt ∧ r.toInt ≤ 1) → (F_wr r ft' lB' fB' (fun j => enc cd (fx j) (Bc cd f42 f43 f52 f53 (fx j))) lx.toInt) → PZ9) → PZ9) := by
  refine kMi_of (cc := cX7_write) (maxL := 4) (ret := (some .boolean)) (lv := [(0, .ref oP), (1, .int cd), (2, .ref nx)]) (by decide +kernel) rfl rfl (Nat.le_of_ble_eq_true rfl) ?_
  intro p e s m below meth c A QQ ls hx hb hr hts hml hown hlocks hA hQQ hK hX hP hD hS hl
  have hown : s.vm.findClass RX7 = some m.cls := hown
  have hcf := k_cf hx hb hml hown hts
  have in_X7 : ∀ w ∈ wsX70, w ∈ wsX7_write := fun _ h => List.mem_cons_of_mem _ (List.mem_append_left _ (List.mem_append_left _ (List.mem_append_left _ (List.mem_append_left _ (List.mem_append_left _ (List.mem_append_left _ (List.mem_append_left _ (List.mem_append_right _ (h)))))))))
  refine lv_aload_n hx hb dX7_write_0 rfl (lv_at hl 0 rfl) ?_
  refine lv_iconst (v := (-1)) hx hb dX7_write_1 (by decide) ?_
  refine va_put (D := (dC, dI)) (ci := 7) (v := .int (-1)) (ty := .int) (C := RX7) (T := TX7) (N := 3) hx hb hts in_X7 tyX7 tyX7_ok nmX7 hown hK hP hD hS 0 rfl rfl 2 (Nat.le_of_ble_eq_true rfl) (hts (.fieldLink RX7 24 "TextMender$Passage" "fault" "I") (List.mem_of_getElem? (i := 1) rfl)) (fun _ h9 => h9) rfl (tyX7_ok 2 (Nat.le_of_ble_eq_true rfl)) rfl rfl (Nat.le_of_ble_eq_true rfl) dX7_write_2 (kW (wn := [(oP, .inr (7, [.ref oC, .ref nB, .int (-1)])), (nB, .inr (5, [.ref aB, .int lB])), (aB, .inl (cI, 2400, .inl fB)), (oC, .inr (2, [.ref o4, .ref o5])), (o4, .inr (10, [.ref a41, .ref a42, .ref a43, .int l4])), (a42, .inl (cI, 512, .inl f42)), (a43, .inl (cI, 512, .inl f43)), (o5, .inr (10, [.ref a51, .ref a52, .ref a53, .int l5])), (a52, .inl (cI, 512, .inl f52)), (a53, .inl (cI, 512, .inl f53)), (nx, .inr (5, [.ref ax, .int lx])), (ax, .inl (cI, 300, .inl fx))]) rfl (fun H locs hPn hDn hSn => ?_))
  clear hP hD hS
  have hP := hPn
  have hD := hDn
  have hS := hSn
  clear hPn hDn hSn
  refine lv_aload_n hx hb dX7_write_5 rfl (lv_at hl 0 rfl) ?_
  refine va_get (D := (dC, dI)) (ci := 7) (v := .ref nB) (C := RX7) (T := TX7) (N := 3) hx hb hts in_X7 hown hK hP 0 rfl rfl 1 (Nat.le_of_ble_eq_true rfl) (hts (.fieldLink RX7 14 "TextMender$Passage" "bytes" "LTextMender$Numbers;") (List.mem_of_getElem? (i := 2) rfl)) (fun _ h9 => h9) rfl dX7_write_6 ?_
  refine lv_iconst (v := 0) hx hb dX7_write_9 (by decide) ?_
  refine kV_v (rest := []) (q0 := 0) (ci := 5) hcf (m_X5_cut l dC dI cI cS H.size nB aB lB 0 (v_rr g_lB (by decide) (by decide))) kc_X5_cut gX7_write_X5_cut rfl rfl rfl ⟨Nat.le_of_ble_eq_true rfl, Nat.le_of_ble_eq_true rfl⟩ kX_t hK hP hD hS hA (posT mk_8 0) (posF mk_8 0) (kC_of mk_8 rfl rfl) (by decide +kernel) rfl rfl rfl hl rfl (Nat.le_of_ble_eq_true rfl) dX7_write_10 ⟨Nat.le_of_ble_eq_true rfl, Nat.le_of_ble_eq_true rfl⟩ (fun H locs hB hJ hSn => ?_)
  refine hB _ (fun lu_1 hPD9 hf1_0 hf1_1 hf1_2 => ?_)
  clear hB
  obtain ⟨hPn, hDn⟩ := kJi (m := mk_8) hJ rfl hPD9.1 hPD9.2 (wn := [(oP, .inr (7, [.ref oC, .ref nB, .int (-1)])), (nB, .inr (5, [.ref aB, .int lu_1])), (aB, .inl (cI, 2400, .inl fB)), (oC, .inr (2, [.ref o4, .ref o5])), (o4, .inr (10, [.ref a41, .ref a42, .ref a43, .int l4])), (a42, .inl (cI, 512, .inl f42)), (a43, .inl (cI, 512, .inl f43)), (o5, .inr (10, [.ref a51, .ref a52, .ref a53, .int l5])), (a52, .inl (cI, 512, .inl f52)), (a53, .inl (cI, 512, .inl f53)), (nx, .inr (5, [.ref ax, .int lx])), (ax, .inl (cI, 300, .inl fx))]) rfl
  clear hP hD hS hJ hPD9
  have hP := hPn
  have hD := hDn
  have hS := hSn
  clear hPn hDn hSn
  have ha1 : lu_1.toInt = 0 := F_cut_l hf1_2 (by first | decide | omega) (by first | omega | (show (0 : Int) ≤ _; omega))
  refine lv_iconst (v := 0) hx hb dX7_write_13 (by decide) ?_
  refine lv_istore_n (lv' := [(3, .int 0), (0, .ref oP), (1, .int cd), (2, .ref nx)]) hx hb dX7_write_14 rfl hl (by decide) rfl (fun ls hl => ?_)
  have LOOP_15 : ∀ (k_15 : Nat) (i : Int32) (l2 : Int32) (f2 : Nat → Int32) (H : Heap) (locs : List Loc) (ls : Array Slot), MSd (lx.toInt - i.toInt : Int) k_15 → (0 ≤ i.toInt ∧ i.toInt ≤ 300) → (0 ≤ l2.toInt ∧ l2.toInt ≤ 2400) → (i.toInt ≤ lx.toInt) → (l2.toInt ≤ 8 * i.toInt) → (WR (fun j => enc cd (fx j) (Bc cd f42 f43 f52 f53 (fx j))) i.toNatClampNeg l2 f2) → va_P (dC, dI) vwCl [(oP, .inr (7, [.ref oC, .ref nB, .int (-1)])), (nB, .inr (5, [.ref aB, .int l2])), (aB, .inl (cI, 2400, .inl f2)), (oC, .inr (2, [.ref o4, .ref o5])), (o4, .inr (10, [.ref a41, .ref a42, .ref a43, .int l4])), (a42, .inl (cI, 512, .inl f42)), (a43, .inl (cI, 512, .inl f43)), (o5, .inr (10, [.ref a51, .ref a52, .ref a53, .int l5])), (a52, .inl (cI, 512, .inl f52)), (a53, .inl (cI, 512, .inl f53)), (nx, .inr (5, [.ref ax, .int lx])), (ax, .inl (cI, 300, .inl fx))] H → va_D A [(oP, .inr (7, [.ref oC, .ref nB, .int (-1)])), (nB, .inr (5, [.ref aB, .int l2])), (aB, .inl (cI, 2400, .inl f2)), (oC, .inr (2, [.ref o4, .ref o5])), (o4, .inr (10, [.ref a41, .ref a42, .ref a43, .int l4])), (a42, .inl (cI, 512, .inl f42)), (a43, .inl (cI, 512, .inl f43)), (o5, .inr (10, [.ref a51, .ref a52, .ref a53, .int l5])), (a52, .inl (cI, 512, .inl f52)), (a53, .inl (cI, 512, .inl f53)), (nx, .inr (5, [.ref ax, .int lx])), (ax, .inl (cI, 300, .inl fx))] → va_S A s.heap H locs → lv_has ls 4 [(3, .int i), (0, .ref oP), (1, .int cd), (2, .ref nx)] → W p l e (headSpec wsX7_write ({ frames := 3, cells := 0, slots := 0, locals := 71 } : Room)).room s m ([.ref oP, .int cd, .ref nx] : List Value).toArray below meth c H locs 0 0 (MQ below QQ ([.ref oP, .int cd, .ref nx] : List Value).toArray s 0 0 A) (F0 m 15 ls []) := by
    clear hP hD hS hl
    try (clear ha1 hf1_0 hf1_1 hf1_2 g_lB)
    intro k_15
    induction k_15 with
    | zero =>
      intro i l2 f2 H locs ls hm_15 g_i g_l2 hil hl8 hw hP hD hS hl
      exact ms_0 hm_15
    | succ k_15 ih_15 =>
      intro i l2 f2 H locs ls hm_15 g_i g_l2 hil hl8 hw hP hD hS hl
      refine lv_iload_n hx hb dX7_write_15 rfl (lv_at hl 0 rfl) ?_
      refine lv_aload_n hx hb dX7_write_16 rfl (lv_at hl 3 rfl) ?_
      refine kV_i (rest := [.int i]) (q0 := 0) (ci := 5) hcf (m_X5_length l dC dI cI cS H.size nx ax lx ) kc_X5_length gX7_write_X5_length rfl rfl rfl ⟨Nat.le_of_ble_eq_true rfl, Nat.le_of_ble_eq_true rfl⟩ kX_t hK hP hD hS hA (posT mk_9 0) (posF mk_9 0) (kC_of mk_9 rfl rfl) (by decide +kernel) rfl rfl rfl hl rfl (Nat.le_of_ble_eq_true rfl) dX7_write_17 ⟨Nat.le_of_ble_eq_true rfl, Nat.le_of_ble_eq_true rfl⟩ (fun r_2 H locs hB hJ hSn => ?_)
      refine hB _ (fun hPD9 hf2_0 => ?_)
      clear hB
      obtain ⟨hPn, hDn⟩ := kJi (m := mk_9) hJ rfl hPD9.1 hPD9.2 (wn := [(oP, .inr (7, [.ref oC, .ref nB, .int (-1)])), (nB, .inr (5, [.ref aB, .int l2])), (aB, .inl (cI, 2400, .inl f2)), (oC, .inr (2, [.ref o4, .ref o5])), (o4, .inr (10, [.ref a41, .ref a42, .ref a43, .int l4])), (a42, .inl (cI, 512, .inl f42)), (a43, .inl (cI, 512, .inl f43)), (o5, .inr (10, [.ref a51, .ref a52, .ref a53, .int l5])), (a52, .inl (cI, 512, .inl f52)), (a53, .inl (cI, 512, .inl f53)), (nx, .inr (5, [.ref ax, .int lx])), (ax, .inl (cI, 300, .inl fx))]) rfl
      clear hP hD hS hJ hPD9
      have hP := hPn
      have hD := hDn
      have hS := hSn
      clear hPn hDn hSn
      rw [hf2_0]
      refine lv_icmp_ge (tgt := 56) hx hb dX7_write_20 (by decide) (fun c_3 => ?_) (fun c_3 => ?_)
      · have tc_3 : lx.toInt ≤ i.toInt := v_le c_3
        refine lv_iconst (v := 1) hx hb dX7_write_56 (by decide) ?_
        exact kl_z (v := 1) hQQ hx hb hr hlocks hS dX7_write_57 (rfl) (fun PZ9 kZ9 => kZ9 (-1) l2 f2 (⟨hP, hD⟩) (g_l2) (by decide) (wr_yes hw (by omega) (by omega)))
      · have tc_3 : i.toInt < lx.toInt := v_nle c_3
        refine lv_aload_n hx hb dX7_write_23 rfl (lv_at hl 1 rfl) ?_
        refine va_get (D := (dC, dI)) (ci := 7) (v := .ref oC) (C := RX7) (T := TX7) (N := 3) hx hb hts in_X7 hown hK hP 0 rfl rfl 0 (Nat.le_of_ble_eq_true rfl) (hts (.fieldLink RX7 20 "TextMender$Passage" "codes" "LTextMender$Codes;") (List.mem_of_getElem? (i := 3) rfl)) (fun _ h9 => h9) rfl dX7_write_24 ?_
        refine lv_iload_n hx hb dX7_write_27 rfl (lv_at hl 2 rfl) ?_
        refine lv_aload_n hx hb dX7_write_28 rfl (lv_at hl 3 rfl) ?_
        refine lv_iload_n hx hb dX7_write_29 rfl (lv_at hl 0 rfl) ?_
        refine kV_i (rest := [.int cd, .ref oC]) (q0 := 0) (ci := 5) hcf (m_X5_get l dC dI cI cS H.size nx ax 300 lx fx i (by omega) (by omega)) kc_X5_get gX7_write_X5_get rfl rfl rfl ⟨Nat.le_of_ble_eq_true rfl, Nat.le_of_ble_eq_true rfl⟩ kX_t hK hP hD hS hA (posT mk_10 0) (posF mk_10 0) (kC_of mk_10 rfl rfl) (by decide +kernel) rfl rfl rfl hl rfl (Nat.le_of_ble_eq_true rfl) dX7_write_30 ⟨Nat.le_of_ble_eq_true rfl, Nat.le_of_ble_eq_true rfl⟩ (fun r_4 H locs hB hJ hSn => ?_)
        refine hB _ (fun hPD9 hf4_0 => ?_)
        clear hB
        obtain ⟨hPn, hDn⟩ := kJi (m := mk_10) hJ rfl hPD9.1 hPD9.2 (wn := [(oP, .inr (7, [.ref oC, .ref nB, .int (-1)])), (nB, .inr (5, [.ref aB, .int l2])), (aB, .inl (cI, 2400, .inl f2)), (oC, .inr (2, [.ref o4, .ref o5])), (o4, .inr (10, [.ref a41, .ref a42, .ref a43, .int l4])), (a42, .inl (cI, 512, .inl f42)), (a43, .inl (cI, 512, .inl f43)), (o5, .inr (10, [.ref a51, .ref a52, .ref a53, .int l5])), (a52, .inl (cI, 512, .inl f52)), (a53, .inl (cI, 512, .inl f53)), (nx, .inr (5, [.ref ax, .int lx])), (ax, .inl (cI, 300, .inl fx))]) rfl
        clear hP hD hS hJ hPD9
        have hP := hPn
        have hD := hDn
        have hS := hSn
        clear hPn hDn hSn
        have hg4 : r_4 = fx i.toNatClampNeg := F_get_f hf4_0 (by omega) (by omega)
        have hgr4 : 0 ≤ r_4.toInt ∧ r_4.toInt ≤ 65535 := prg_at hlt hg4 (by omega) (by omega)
        refine lv_aload_n hx hb dX7_write_33 rfl (lv_at hl 1 rfl) ?_
        refine va_get (D := (dC, dI)) (ci := 7) (v := .ref nB) (C := RX7) (T := TX7) (N := 3) hx hb hts in_X7 hown hK hP 0 rfl rfl 1 (Nat.le_of_ble_eq_true rfl) (hts (.fieldLink RX7 14 "TextMender$Passage" "bytes" "LTextMender$Numbers;") (List.mem_of_getElem? (i := 2) rfl)) (fun _ h9 => h9) rfl dX7_write_34 ?_
        refine kV_i (rest := []) (q0 := 0) (ci := 2) hcf (f_X2_encode l dC dI cI cS H.size oC nB o4 o5 a41 a42 a43 a51 a52 a53 aB 2400 l4 f42 f43 l5 f52 f53 l2 f2 cd r_4 (by omega) (by omega) (by omega) (by omega) (hT4) (by omega) (hT5) (by omega)) kc_X2_encode gX7_write_X2_encode rfl rfl rfl ⟨Nat.le_of_ble_eq_true rfl, Nat.le_of_ble_eq_true rfl⟩ kX_t hK hP hD hS hA ([2, 3, 4, 5, 6, 7, 8, 0, 1].filterMap (fun j => (posT mk_11 0)[j]?)) (posF mk_11 0) (kCp (ws := [(nB, .inr (5, [.ref aB, .int l2])), (aB, .inl (cI, 2400, .inl f2)), (oC, .inr (2, [.ref o4, .ref o5])), (o4, .inr (10, [.ref a41, .ref a42, .ref a43, .int l4])), (a42, .inl (cI, 512, .inl f42)), (a43, .inl (cI, 512, .inl f43)), (o5, .inr (10, [.ref a51, .ref a52, .ref a53, .int l5])), (a52, .inl (cI, 512, .inl f52)), (a53, .inl (cI, 512, .inl f53))]) (kC_of mk_11 rfl rfl) rfl) (by decide +kernel) rfl rfl rfl hl rfl (Nat.le_of_ble_eq_true rfl) dX7_write_37 ⟨Nat.le_of_ble_eq_true rfl, Nat.le_of_ble_eq_true rfl⟩ (fun r_5 H locs hB hJ hSn => ?_)
        refine hB _ (fun lu_5 fu_5 hPD9 hf5_0 hf5_1 hf5_2 => ?_)
        clear hB
        obtain ⟨hPn, hDn⟩ := kJm (m := mk_11) hJ rfl hPD9.1 hPD9.2 [7, 8, 0, 1, 2, 3, 4, 5, 6] (by decide +kernel) (ws := [(nB, .inr (5, [.ref aB, .int lu_5])), (aB, .inl (cI, 2400, .inl fu_5)), (oC, .inr (2, [.ref o4, .ref o5])), (o4, .inr (10, [.ref a41, .ref a42, .ref a43, .int l4])), (a42, .inl (cI, 512, .inl f42)), (a43, .inl (cI, 512, .inl f43)), (o5, .inr (10, [.ref a51, .ref a52, .ref a53, .int l5])), (a52, .inl (cI, 512, .inl f52)), (a53, .inl (cI, 512, .inl f53))]) rfl (wn := [(oP, .inr (7, [.ref oC, .ref nB, .int (-1)])), (nB, .inr (5, [.ref aB, .int lu_5])), (aB, .inl (cI, 2400, .inl fu_5)), (oC, .inr (2, [.ref o4, .ref o5])), (o4, .inr (10, [.ref a41, .ref a42, .ref a43, .int l4])), (a42, .inl (cI, 512, .inl f42)), (a43, .inl (cI, 512, .inl f43)), (o5, .inr (10, [.ref a51, .ref a52, .ref a53, .int l5])), (a52, .inl (cI, 512, .inl f52)), (a53, .inl (cI, 512, .inl f53)), (nx, .inr (5, [.ref ax, .int lx])), (ax, .inl (cI, 300, .inl fx))]) rfl
        clear hP hD hS hJ hPD9
        have hP := hPn
        have hD := hDn
        have hS := hSn
        clear hPn hDn hSn
        have hln5 := en_len hf5_2
        refine lv_if_ne (tgt := 50) hx hb dX7_write_40 (by decide) (fun c_6 => ?_) (fun c_6 => ?_)
        · have tc_6 : ¬ r_5.toInt = 0 := v_ne c_6
          obtain ⟨x_7, ex_7⟩ : ∃ y : Int32, y = i + 1 := ⟨_, rfl⟩
          have tx_7 : x_7.toInt = i.toInt + 1 := v_addR (l2 := 1) (h2 := 1) ex_7 g_i (by decide) (by decide) (by decide)
          refine lv_iinc (v := x_7) (lv' := [(3, .int x_7), (0, .ref oP), (1, .int cd), (2, .ref nx)]) hx hb dX7_write_50 hl (k := 0) rfl (by rw [ex_7]; rfl) (by decide) rfl (fun ls hl => ?_)
          refine lv_goto (tgt := 15) hx hb dX7_write_53 (by decide) ?_
          exact ih_15 x_7 lu_5 fu_5 _ _ _ (ms_lt hm_15 (by show ((lx.toInt - x_7.toInt : Int)) < lx.toInt - i.toInt; omega) (by show (0 : Int) < lx.toInt - i.toInt; omega)) (by show 0 ≤ x_7.toInt ∧ x_7.toInt ≤ 300; omega) (by show 0 ≤ lu_5.toInt ∧ lu_5.toInt ≤ 2400; omega) (by show x_7.toInt ≤ lx.toInt; omega) (by show lu_5.toInt ≤ 8 * x_7.toInt; omega) (WR_st hw (by show enc cd (fx i.toNatClampNeg) (Bc cd f42 f43 f52 f53 (fx i.toNatClampNeg)) = _; rw [← hg4]) hf5_2 (by omega) (by omega) (by omega)) hP hD hS (lv_sub hl [0, 1, 2, 3] rfl)
        · have tc_6 : r_5.toInt = 0 := v_eq c_6
          refine lv_aload_n hx hb dX7_write_43 rfl (lv_at hl 1 rfl) ?_
          refine lv_iload_n hx hb dX7_write_44 rfl (lv_at hl 0 rfl) ?_
          refine va_put (D := (dC, dI)) (ci := 7) (v := .int i) (ty := .int) (C := RX7) (T := TX7) (N := 3) hx hb hts in_X7 tyX7 tyX7_ok nmX7 hown hK hP hD hS 0 rfl rfl 2 (Nat.le_of_ble_eq_true rfl) (hts (.fieldLink RX7 24 "TextMender$Passage" "fault" "I") (List.mem_of_getElem? (i := 1) rfl)) (fun _ h9 => h9) rfl (tyX7_ok 2 (Nat.le_of_ble_eq_true rfl)) rfl rfl (Nat.le_of_ble_eq_true rfl) dX7_write_45 (kW (wn := [(oP, .inr (7, [.ref oC, .ref nB, .int i])), (nB, .inr (5, [.ref aB, .int lu_5])), (aB, .inl (cI, 2400, .inl fu_5)), (oC, .inr (2, [.ref o4, .ref o5])), (o4, .inr (10, [.ref a41, .ref a42, .ref a43, .int l4])), (a42, .inl (cI, 512, .inl f42)), (a43, .inl (cI, 512, .inl f43)), (o5, .inr (10, [.ref a51, .ref a52, .ref a53, .int l5])), (a52, .inl (cI, 512, .inl f52)), (a53, .inl (cI, 512, .inl f53)), (nx, .inr (5, [.ref ax, .int lx])), (ax, .inl (cI, 300, .inl fx))]) rfl (fun H locs hPn hDn hSn => ?_))
          clear hP hD hS
          have hP := hPn
          have hD := hDn
          have hS := hSn
          clear hPn hDn hSn
          refine lv_iconst (v := 0) hx hb dX7_write_48 (by decide) ?_
          exact kl_z (v := 0) hQQ hx hb hr hlocks hS dX7_write_49 (rfl) (fun PZ9 kZ9 => kZ9 i lu_5 fu_5 (⟨hP, hD⟩) (by omega) (by decide) (wr_no hw (by show enc cd (fx i.toNatClampNeg) (Bc cd f42 f43 f52 f53 (fx i.toNatClampNeg)) = _; rw [← hg4]) (F_en_0 hf5_2 (by omega)) (by omega) (by omega)))
  exact LOOP_15 _ 0 lu_1 fB _ _ _ (ms_s _) (by decide) (by show 0 ≤ lu_1.toInt ∧ lu_1.toInt ≤ 2400; omega) (by show 0 ≤ lx.toInt; omega) (by show lu_1.toInt ≤ 8 * 0; omega) (WR_0 (by omega)) hP hD hS (lv_sub hl [0, 1, 2, 3] rfl)

end

/-! 59g.a.rows -/
section
set_option maxRecDepth 100000 in
theorem dA183_cX12_put : kDec cX12_put [(0, .aload_n 0, 1), (1, .getfield 58, 3), (4, .aload_n 0, 1), (5, .getfield 91, 3), (8, .iload_n 1, 1), (9, .iastore, 1), (10, .aload_n 0, 1), (11, .dup, 1), (12, .getfield 91, 3), (15, .iconst 1, 1), (16, .iadd, 1), (17, .putfield 91, 3), (20, .return_, 1)] = true := by decide +kernel
theorem dX12_put_0 : decode cX12_put 0 = .ok (.aload_n 0, 1) := kDec_at dA183_cX12_put 0 rfl
theorem dX12_put_1 : decode cX12_put 1 = .ok (.getfield 58, 3) := kDec_at dA183_cX12_put 1 rfl
theorem dX12_put_4 : decode cX12_put 4 = .ok (.aload_n 0, 1) := kDec_at dA183_cX12_put 2 rfl
theorem dX12_put_5 : decode cX12_put 5 = .ok (.getfield 91, 3) := kDec_at dA183_cX12_put 3 rfl
theorem dX12_put_8 : decode cX12_put 8 = .ok (.iload_n 1, 1) := kDec_at dA183_cX12_put 4 rfl
theorem dX12_put_9 : decode cX12_put 9 = .ok (.iastore, 1) := kDec_at dA183_cX12_put 5 rfl
theorem dX12_put_10 : decode cX12_put 10 = .ok (.aload_n 0, 1) := kDec_at dA183_cX12_put 6 rfl
theorem dX12_put_11 : decode cX12_put 11 = .ok (.dup, 1) := kDec_at dA183_cX12_put 7 rfl
theorem dX12_put_12 : decode cX12_put 12 = .ok (.getfield 91, 3) := kDec_at dA183_cX12_put 8 rfl
theorem dX12_put_15 : decode cX12_put 15 = .ok (.iconst 1, 1) := kDec_at dA183_cX12_put 9 rfl
theorem dX12_put_16 : decode cX12_put 16 = .ok (.iadd, 1) := kDec_at dA183_cX12_put 10 rfl
theorem dX12_put_17 : decode cX12_put 17 = .ok (.putfield 91, 3) := kDec_at dA183_cX12_put 11 rfl
theorem dX12_put_20 : decode cX12_put 20 = .ok (.return_, 1) := kDec_at dA183_cX12_put 12 rfl
set_option maxRecDepth 100000 in
theorem dA184_cX12_writeLetter : kDec cX12_writeLetter [(0, .iload_n 1, 1), (1, .iconst 2, 1), (2, .if_icmp .ge 29, 3), (31, .iload_n 1, 1), (32, .iconst 2, 1), (33, .if_icmp .ne 95, 3), (128, .iload_n 1, 1), (129, .iconst 3, 1), (130, .if_icmp .ne 88, 3), (218, .aload_n 0, 1), (219, .getfield 23, 3), (222, .ldc 88, 2), (224, .iload_n 1, 1), (225, .iconst 4, 1), (226, .isub, 1), (227, .imul, 1), (228, .iload_n 2, 1), (229, .iadd, 1), (230, .saload, 1), (231, .istore_n 3, 1), (232, .iload_n 3, 1), (233, .iconst (-1), 1), (234, .if_icmp .ne 5, 3), (239, .aload_n 0, 1)] = true := by decide +kernel
theorem dX12_writeLetter_0 : decode cX12_writeLetter 0 = .ok (.iload_n 1, 1) := kDec_at dA184_cX12_writeLetter 0 rfl
theorem dX12_writeLetter_1 : decode cX12_writeLetter 1 = .ok (.iconst 2, 1) := kDec_at dA184_cX12_writeLetter 1 rfl
theorem dX12_writeLetter_2 : decode cX12_writeLetter 2 = .ok (.if_icmp .ge 29, 3) := kDec_at dA184_cX12_writeLetter 2 rfl
theorem dX12_writeLetter_31 : decode cX12_writeLetter 31 = .ok (.iload_n 1, 1) := kDec_at dA184_cX12_writeLetter 3 rfl
theorem dX12_writeLetter_32 : decode cX12_writeLetter 32 = .ok (.iconst 2, 1) := kDec_at dA184_cX12_writeLetter 4 rfl
theorem dX12_writeLetter_33 : decode cX12_writeLetter 33 = .ok (.if_icmp .ne 95, 3) := kDec_at dA184_cX12_writeLetter 5 rfl
theorem dX12_writeLetter_128 : decode cX12_writeLetter 128 = .ok (.iload_n 1, 1) := kDec_at dA184_cX12_writeLetter 6 rfl
theorem dX12_writeLetter_129 : decode cX12_writeLetter 129 = .ok (.iconst 3, 1) := kDec_at dA184_cX12_writeLetter 7 rfl
theorem dX12_writeLetter_130 : decode cX12_writeLetter 130 = .ok (.if_icmp .ne 88, 3) := kDec_at dA184_cX12_writeLetter 8 rfl
theorem dX12_writeLetter_218 : decode cX12_writeLetter 218 = .ok (.aload_n 0, 1) := kDec_at dA184_cX12_writeLetter 9 rfl
theorem dX12_writeLetter_219 : decode cX12_writeLetter 219 = .ok (.getfield 23, 3) := kDec_at dA184_cX12_writeLetter 10 rfl
theorem dX12_writeLetter_222 : decode cX12_writeLetter 222 = .ok (.ldc 88, 2) := kDec_at dA184_cX12_writeLetter 11 rfl
theorem dX12_writeLetter_224 : decode cX12_writeLetter 224 = .ok (.iload_n 1, 1) := kDec_at dA184_cX12_writeLetter 12 rfl
theorem dX12_writeLetter_225 : decode cX12_writeLetter 225 = .ok (.iconst 4, 1) := kDec_at dA184_cX12_writeLetter 13 rfl
theorem dX12_writeLetter_226 : decode cX12_writeLetter 226 = .ok (.isub, 1) := kDec_at dA184_cX12_writeLetter 14 rfl
theorem dX12_writeLetter_227 : decode cX12_writeLetter 227 = .ok (.imul, 1) := kDec_at dA184_cX12_writeLetter 15 rfl
theorem dX12_writeLetter_228 : decode cX12_writeLetter 228 = .ok (.iload_n 2, 1) := kDec_at dA184_cX12_writeLetter 16 rfl
theorem dX12_writeLetter_229 : decode cX12_writeLetter 229 = .ok (.iadd, 1) := kDec_at dA184_cX12_writeLetter 17 rfl
theorem dX12_writeLetter_230 : decode cX12_writeLetter 230 = .ok (.saload, 1) := kDec_at dA184_cX12_writeLetter 18 rfl
theorem dX12_writeLetter_231 : decode cX12_writeLetter 231 = .ok (.istore_n 3, 1) := kDec_at dA184_cX12_writeLetter 19 rfl
theorem dX12_writeLetter_232 : decode cX12_writeLetter 232 = .ok (.iload_n 3, 1) := kDec_at dA184_cX12_writeLetter 20 rfl
theorem dX12_writeLetter_233 : decode cX12_writeLetter 233 = .ok (.iconst (-1), 1) := kDec_at dA184_cX12_writeLetter 21 rfl
theorem dX12_writeLetter_234 : decode cX12_writeLetter 234 = .ok (.if_icmp .ne 5, 3) := kDec_at dA184_cX12_writeLetter 22 rfl
theorem dX12_writeLetter_239 : decode cX12_writeLetter 239 = .ok (.aload_n 0, 1) := kDec_at dA184_cX12_writeLetter 23 rfl
set_option maxRecDepth 100000 in
theorem dA185_cX12_writeLetter : kDec cX12_writeLetter [(240, .iload_n 3, 1), (241, .invokevirtual 94, 3), (244, .iconst 1, 1), (245, .ireturn, 1), (237, .iconst 0, 1), (238, .ireturn, 1), (133, .iload_n 2, 1), (134, .sipush 128, 3), (137, .if_icmp .ge 17, 3), (154, .aload_n 0, 1), (155, .bipush 38, 2), (157, .invokevirtual 94, 3), (160, .aload_n 0, 1), (161, .bipush 35, 2), (163, .invokevirtual 94, 3), (166, .iconst 1, 1), (167, .istore_n 3, 1), (168, .iload_n 2, 1), (169, .iload_n 3, 1), (170, .idiv, 1), (171, .bipush 10, 2), (173, .if_icmp .lt 11, 3), (176, .iload_n 3, 1), (177, .bipush 10, 2)] = true := by decide +kernel
theorem dX12_writeLetter_240 : decode cX12_writeLetter 240 = .ok (.iload_n 3, 1) := kDec_at dA185_cX12_writeLetter 0 rfl
theorem dX12_writeLetter_241 : decode cX12_writeLetter 241 = .ok (.invokevirtual 94, 3) := kDec_at dA185_cX12_writeLetter 1 rfl
theorem dX12_writeLetter_244 : decode cX12_writeLetter 244 = .ok (.iconst 1, 1) := kDec_at dA185_cX12_writeLetter 2 rfl
theorem dX12_writeLetter_245 : decode cX12_writeLetter 245 = .ok (.ireturn, 1) := kDec_at dA185_cX12_writeLetter 3 rfl
theorem dX12_writeLetter_237 : decode cX12_writeLetter 237 = .ok (.iconst 0, 1) := kDec_at dA185_cX12_writeLetter 4 rfl
theorem dX12_writeLetter_238 : decode cX12_writeLetter 238 = .ok (.ireturn, 1) := kDec_at dA185_cX12_writeLetter 5 rfl
theorem dX12_writeLetter_133 : decode cX12_writeLetter 133 = .ok (.iload_n 2, 1) := kDec_at dA185_cX12_writeLetter 6 rfl
theorem dX12_writeLetter_134 : decode cX12_writeLetter 134 = .ok (.sipush 128, 3) := kDec_at dA185_cX12_writeLetter 7 rfl
theorem dX12_writeLetter_137 : decode cX12_writeLetter 137 = .ok (.if_icmp .ge 17, 3) := kDec_at dA185_cX12_writeLetter 8 rfl
theorem dX12_writeLetter_154 : decode cX12_writeLetter 154 = .ok (.aload_n 0, 1) := kDec_at dA185_cX12_writeLetter 9 rfl
theorem dX12_writeLetter_155 : decode cX12_writeLetter 155 = .ok (.bipush 38, 2) := kDec_at dA185_cX12_writeLetter 10 rfl
theorem dX12_writeLetter_157 : decode cX12_writeLetter 157 = .ok (.invokevirtual 94, 3) := kDec_at dA185_cX12_writeLetter 11 rfl
theorem dX12_writeLetter_160 : decode cX12_writeLetter 160 = .ok (.aload_n 0, 1) := kDec_at dA185_cX12_writeLetter 12 rfl
theorem dX12_writeLetter_161 : decode cX12_writeLetter 161 = .ok (.bipush 35, 2) := kDec_at dA185_cX12_writeLetter 13 rfl
theorem dX12_writeLetter_163 : decode cX12_writeLetter 163 = .ok (.invokevirtual 94, 3) := kDec_at dA185_cX12_writeLetter 14 rfl
theorem dX12_writeLetter_166 : decode cX12_writeLetter 166 = .ok (.iconst 1, 1) := kDec_at dA185_cX12_writeLetter 15 rfl
theorem dX12_writeLetter_167 : decode cX12_writeLetter 167 = .ok (.istore_n 3, 1) := kDec_at dA185_cX12_writeLetter 16 rfl
theorem dX12_writeLetter_168 : decode cX12_writeLetter 168 = .ok (.iload_n 2, 1) := kDec_at dA185_cX12_writeLetter 17 rfl
theorem dX12_writeLetter_169 : decode cX12_writeLetter 169 = .ok (.iload_n 3, 1) := kDec_at dA185_cX12_writeLetter 18 rfl
theorem dX12_writeLetter_170 : decode cX12_writeLetter 170 = .ok (.idiv, 1) := kDec_at dA185_cX12_writeLetter 19 rfl
theorem dX12_writeLetter_171 : decode cX12_writeLetter 171 = .ok (.bipush 10, 2) := kDec_at dA185_cX12_writeLetter 20 rfl
theorem dX12_writeLetter_173 : decode cX12_writeLetter 173 = .ok (.if_icmp .lt 11, 3) := kDec_at dA185_cX12_writeLetter 21 rfl
theorem dX12_writeLetter_176 : decode cX12_writeLetter 176 = .ok (.iload_n 3, 1) := kDec_at dA185_cX12_writeLetter 22 rfl
theorem dX12_writeLetter_177 : decode cX12_writeLetter 177 = .ok (.bipush 10, 2) := kDec_at dA185_cX12_writeLetter 23 rfl
set_option maxRecDepth 20000 in
theorem gX12_put_all : wsX12_put.all goodWord = true := by
  unfold wsX12_put
  exact good_c (by decide +kernel) (good_a ((by decide +kernel)) gX12_clsall)
set_option maxRecDepth 20000 in
theorem ggX12_writeLetter_X12_put : GoodIn wsX12_writeLetter wsX12_put := goodIn_sub (fun _ h => List.mem_cons_of_mem _ (List.mem_append_right _ (h))) gX12_put_all
set_option maxRecDepth 20000 in
theorem gX12_writeLetter_X12_put : GoodIn wsX12_writeLetter (wsV RX12 94 RX12 yX12_put wsX12_put) := goodIn_app (goodIn_r _ [3, 4, 5, 6] rfl (by decide +kernel)) ggX12_writeLetter_X12_put
set_option maxRecDepth 100000 in
theorem dA186_cX12_writeLetter : kDec cX12_writeLetter [(179, .imul, 1), (180, .istore_n 3, 1), (181, .goto (-13), 3), (184, .iload_n 3, 1), (185, .ifCond .le 24, 3), (188, .aload_n 0, 1), (189, .bipush 48, 2), (191, .iload_n 2, 1), (192, .iload_n 3, 1), (193, .idiv, 1), (194, .bipush 10, 2), (196, .irem, 1), (197, .iadd, 1), (198, .invokevirtual 94, 3), (201, .iload_n 3, 1), (202, .bipush 10, 2), (204, .idiv, 1), (205, .istore_n 3, 1), (206, .goto (-22), 3), (209, .aload_n 0, 1), (210, .bipush 59, 2), (212, .invokevirtual 94, 3), (215, .goto 29, 3), (140, .iload_n 2, 1)] = true := by decide +kernel
theorem dX12_writeLetter_179 : decode cX12_writeLetter 179 = .ok (.imul, 1) := kDec_at dA186_cX12_writeLetter 0 rfl
theorem dX12_writeLetter_180 : decode cX12_writeLetter 180 = .ok (.istore_n 3, 1) := kDec_at dA186_cX12_writeLetter 1 rfl
theorem dX12_writeLetter_181 : decode cX12_writeLetter 181 = .ok (.goto (-13), 3) := kDec_at dA186_cX12_writeLetter 2 rfl
theorem dX12_writeLetter_184 : decode cX12_writeLetter 184 = .ok (.iload_n 3, 1) := kDec_at dA186_cX12_writeLetter 3 rfl
theorem dX12_writeLetter_185 : decode cX12_writeLetter 185 = .ok (.ifCond .le 24, 3) := kDec_at dA186_cX12_writeLetter 4 rfl
theorem dX12_writeLetter_188 : decode cX12_writeLetter 188 = .ok (.aload_n 0, 1) := kDec_at dA186_cX12_writeLetter 5 rfl
theorem dX12_writeLetter_189 : decode cX12_writeLetter 189 = .ok (.bipush 48, 2) := kDec_at dA186_cX12_writeLetter 6 rfl
theorem dX12_writeLetter_191 : decode cX12_writeLetter 191 = .ok (.iload_n 2, 1) := kDec_at dA186_cX12_writeLetter 7 rfl
theorem dX12_writeLetter_192 : decode cX12_writeLetter 192 = .ok (.iload_n 3, 1) := kDec_at dA186_cX12_writeLetter 8 rfl
theorem dX12_writeLetter_193 : decode cX12_writeLetter 193 = .ok (.idiv, 1) := kDec_at dA186_cX12_writeLetter 9 rfl
theorem dX12_writeLetter_194 : decode cX12_writeLetter 194 = .ok (.bipush 10, 2) := kDec_at dA186_cX12_writeLetter 10 rfl
theorem dX12_writeLetter_196 : decode cX12_writeLetter 196 = .ok (.irem, 1) := kDec_at dA186_cX12_writeLetter 11 rfl
theorem dX12_writeLetter_197 : decode cX12_writeLetter 197 = .ok (.iadd, 1) := kDec_at dA186_cX12_writeLetter 12 rfl
theorem dX12_writeLetter_198 : decode cX12_writeLetter 198 = .ok (.invokevirtual 94, 3) := kDec_at dA186_cX12_writeLetter 13 rfl
theorem dX12_writeLetter_201 : decode cX12_writeLetter 201 = .ok (.iload_n 3, 1) := kDec_at dA186_cX12_writeLetter 14 rfl
theorem dX12_writeLetter_202 : decode cX12_writeLetter 202 = .ok (.bipush 10, 2) := kDec_at dA186_cX12_writeLetter 15 rfl
theorem dX12_writeLetter_204 : decode cX12_writeLetter 204 = .ok (.idiv, 1) := kDec_at dA186_cX12_writeLetter 16 rfl
theorem dX12_writeLetter_205 : decode cX12_writeLetter 205 = .ok (.istore_n 3, 1) := kDec_at dA186_cX12_writeLetter 17 rfl
theorem dX12_writeLetter_206 : decode cX12_writeLetter 206 = .ok (.goto (-22), 3) := kDec_at dA186_cX12_writeLetter 18 rfl
theorem dX12_writeLetter_209 : decode cX12_writeLetter 209 = .ok (.aload_n 0, 1) := kDec_at dA186_cX12_writeLetter 19 rfl
theorem dX12_writeLetter_210 : decode cX12_writeLetter 210 = .ok (.bipush 59, 2) := kDec_at dA186_cX12_writeLetter 20 rfl
theorem dX12_writeLetter_212 : decode cX12_writeLetter 212 = .ok (.invokevirtual 94, 3) := kDec_at dA186_cX12_writeLetter 21 rfl
theorem dX12_writeLetter_215 : decode cX12_writeLetter 215 = .ok (.goto 29, 3) := kDec_at dA186_cX12_writeLetter 22 rfl
theorem dX12_writeLetter_140 : decode cX12_writeLetter 140 = .ok (.iload_n 2, 1) := kDec_at dA186_cX12_writeLetter 23 rfl
set_option maxRecDepth 100000 in
theorem dA187_cX12_writeLetter : kDec cX12_writeLetter [(141, .bipush 38, 2), (143, .if_icmp .eq 11, 3), (146, .aload_n 0, 1), (147, .iload_n 2, 1), (148, .invokevirtual 94, 3), (151, .goto 93, 3), (36, .iload_n 2, 1), (37, .sipush 128, 3), (40, .if_icmp .ge 11, 3), (51, .iload_n 2, 1), (52, .sipush 2048, 3), (55, .if_icmp .ge 30, 3), (85, .aload_n 0, 1), (86, .sipush 224, 3), (89, .iload_n 2, 1), (90, .sipush 4096, 3), (93, .idiv, 1), (94, .iadd, 1), (95, .invokevirtual 94, 3), (98, .aload_n 0, 1), (99, .sipush 128, 3), (102, .iload_n 2, 1), (103, .bipush 64, 2), (105, .idiv, 1)] = true := by decide +kernel
theorem dX12_writeLetter_141 : decode cX12_writeLetter 141 = .ok (.bipush 38, 2) := kDec_at dA187_cX12_writeLetter 0 rfl
theorem dX12_writeLetter_143 : decode cX12_writeLetter 143 = .ok (.if_icmp .eq 11, 3) := kDec_at dA187_cX12_writeLetter 1 rfl
theorem dX12_writeLetter_146 : decode cX12_writeLetter 146 = .ok (.aload_n 0, 1) := kDec_at dA187_cX12_writeLetter 2 rfl
theorem dX12_writeLetter_147 : decode cX12_writeLetter 147 = .ok (.iload_n 2, 1) := kDec_at dA187_cX12_writeLetter 3 rfl
theorem dX12_writeLetter_148 : decode cX12_writeLetter 148 = .ok (.invokevirtual 94, 3) := kDec_at dA187_cX12_writeLetter 4 rfl
theorem dX12_writeLetter_151 : decode cX12_writeLetter 151 = .ok (.goto 93, 3) := kDec_at dA187_cX12_writeLetter 5 rfl
theorem dX12_writeLetter_36 : decode cX12_writeLetter 36 = .ok (.iload_n 2, 1) := kDec_at dA187_cX12_writeLetter 6 rfl
theorem dX12_writeLetter_37 : decode cX12_writeLetter 37 = .ok (.sipush 128, 3) := kDec_at dA187_cX12_writeLetter 7 rfl
theorem dX12_writeLetter_40 : decode cX12_writeLetter 40 = .ok (.if_icmp .ge 11, 3) := kDec_at dA187_cX12_writeLetter 8 rfl
theorem dX12_writeLetter_51 : decode cX12_writeLetter 51 = .ok (.iload_n 2, 1) := kDec_at dA187_cX12_writeLetter 9 rfl
theorem dX12_writeLetter_52 : decode cX12_writeLetter 52 = .ok (.sipush 2048, 3) := kDec_at dA187_cX12_writeLetter 10 rfl
theorem dX12_writeLetter_55 : decode cX12_writeLetter 55 = .ok (.if_icmp .ge 30, 3) := kDec_at dA187_cX12_writeLetter 11 rfl
theorem dX12_writeLetter_85 : decode cX12_writeLetter 85 = .ok (.aload_n 0, 1) := kDec_at dA187_cX12_writeLetter 12 rfl
theorem dX12_writeLetter_86 : decode cX12_writeLetter 86 = .ok (.sipush 224, 3) := kDec_at dA187_cX12_writeLetter 13 rfl
theorem dX12_writeLetter_89 : decode cX12_writeLetter 89 = .ok (.iload_n 2, 1) := kDec_at dA187_cX12_writeLetter 14 rfl
theorem dX12_writeLetter_90 : decode cX12_writeLetter 90 = .ok (.sipush 4096, 3) := kDec_at dA187_cX12_writeLetter 15 rfl
theorem dX12_writeLetter_93 : decode cX12_writeLetter 93 = .ok (.idiv, 1) := kDec_at dA187_cX12_writeLetter 16 rfl
theorem dX12_writeLetter_94 : decode cX12_writeLetter 94 = .ok (.iadd, 1) := kDec_at dA187_cX12_writeLetter 17 rfl
theorem dX12_writeLetter_95 : decode cX12_writeLetter 95 = .ok (.invokevirtual 94, 3) := kDec_at dA187_cX12_writeLetter 18 rfl
theorem dX12_writeLetter_98 : decode cX12_writeLetter 98 = .ok (.aload_n 0, 1) := kDec_at dA187_cX12_writeLetter 19 rfl
theorem dX12_writeLetter_99 : decode cX12_writeLetter 99 = .ok (.sipush 128, 3) := kDec_at dA187_cX12_writeLetter 20 rfl
theorem dX12_writeLetter_102 : decode cX12_writeLetter 102 = .ok (.iload_n 2, 1) := kDec_at dA187_cX12_writeLetter 21 rfl
theorem dX12_writeLetter_103 : decode cX12_writeLetter 103 = .ok (.bipush 64, 2) := kDec_at dA187_cX12_writeLetter 22 rfl
theorem dX12_writeLetter_105 : decode cX12_writeLetter 105 = .ok (.idiv, 1) := kDec_at dA187_cX12_writeLetter 23 rfl
set_option maxRecDepth 100000 in
theorem dA188_cX12_writeLetter : kDec cX12_writeLetter [(106, .bipush 64, 2), (108, .irem, 1), (109, .iadd, 1), (110, .invokevirtual 94, 3), (113, .aload_n 0, 1), (114, .sipush 128, 3), (117, .iload_n 2, 1), (118, .bipush 64, 2), (120, .irem, 1), (121, .iadd, 1), (122, .invokevirtual 94, 3), (125, .goto 119, 3), (58, .aload_n 0, 1), (59, .sipush 192, 3), (62, .iload_n 2, 1), (63, .bipush 64, 2), (65, .idiv, 1), (66, .iadd, 1), (67, .invokevirtual 94, 3), (70, .aload_n 0, 1), (71, .sipush 128, 3), (74, .iload_n 2, 1), (75, .bipush 64, 2), (77, .irem, 1)] = true := by decide +kernel
theorem dX12_writeLetter_106 : decode cX12_writeLetter 106 = .ok (.bipush 64, 2) := kDec_at dA188_cX12_writeLetter 0 rfl
theorem dX12_writeLetter_108 : decode cX12_writeLetter 108 = .ok (.irem, 1) := kDec_at dA188_cX12_writeLetter 1 rfl
theorem dX12_writeLetter_109 : decode cX12_writeLetter 109 = .ok (.iadd, 1) := kDec_at dA188_cX12_writeLetter 2 rfl
theorem dX12_writeLetter_110 : decode cX12_writeLetter 110 = .ok (.invokevirtual 94, 3) := kDec_at dA188_cX12_writeLetter 3 rfl
theorem dX12_writeLetter_113 : decode cX12_writeLetter 113 = .ok (.aload_n 0, 1) := kDec_at dA188_cX12_writeLetter 4 rfl
theorem dX12_writeLetter_114 : decode cX12_writeLetter 114 = .ok (.sipush 128, 3) := kDec_at dA188_cX12_writeLetter 5 rfl
theorem dX12_writeLetter_117 : decode cX12_writeLetter 117 = .ok (.iload_n 2, 1) := kDec_at dA188_cX12_writeLetter 6 rfl
theorem dX12_writeLetter_118 : decode cX12_writeLetter 118 = .ok (.bipush 64, 2) := kDec_at dA188_cX12_writeLetter 7 rfl
theorem dX12_writeLetter_120 : decode cX12_writeLetter 120 = .ok (.irem, 1) := kDec_at dA188_cX12_writeLetter 8 rfl
theorem dX12_writeLetter_121 : decode cX12_writeLetter 121 = .ok (.iadd, 1) := kDec_at dA188_cX12_writeLetter 9 rfl
theorem dX12_writeLetter_122 : decode cX12_writeLetter 122 = .ok (.invokevirtual 94, 3) := kDec_at dA188_cX12_writeLetter 10 rfl
theorem dX12_writeLetter_125 : decode cX12_writeLetter 125 = .ok (.goto 119, 3) := kDec_at dA188_cX12_writeLetter 11 rfl
theorem dX12_writeLetter_58 : decode cX12_writeLetter 58 = .ok (.aload_n 0, 1) := kDec_at dA188_cX12_writeLetter 12 rfl
theorem dX12_writeLetter_59 : decode cX12_writeLetter 59 = .ok (.sipush 192, 3) := kDec_at dA188_cX12_writeLetter 13 rfl
theorem dX12_writeLetter_62 : decode cX12_writeLetter 62 = .ok (.iload_n 2, 1) := kDec_at dA188_cX12_writeLetter 14 rfl
theorem dX12_writeLetter_63 : decode cX12_writeLetter 63 = .ok (.bipush 64, 2) := kDec_at dA188_cX12_writeLetter 15 rfl
theorem dX12_writeLetter_65 : decode cX12_writeLetter 65 = .ok (.idiv, 1) := kDec_at dA188_cX12_writeLetter 16 rfl
theorem dX12_writeLetter_66 : decode cX12_writeLetter 66 = .ok (.iadd, 1) := kDec_at dA188_cX12_writeLetter 17 rfl
theorem dX12_writeLetter_67 : decode cX12_writeLetter 67 = .ok (.invokevirtual 94, 3) := kDec_at dA188_cX12_writeLetter 18 rfl
theorem dX12_writeLetter_70 : decode cX12_writeLetter 70 = .ok (.aload_n 0, 1) := kDec_at dA188_cX12_writeLetter 19 rfl
theorem dX12_writeLetter_71 : decode cX12_writeLetter 71 = .ok (.sipush 128, 3) := kDec_at dA188_cX12_writeLetter 20 rfl
theorem dX12_writeLetter_74 : decode cX12_writeLetter 74 = .ok (.iload_n 2, 1) := kDec_at dA188_cX12_writeLetter 21 rfl
theorem dX12_writeLetter_75 : decode cX12_writeLetter 75 = .ok (.bipush 64, 2) := kDec_at dA188_cX12_writeLetter 22 rfl
theorem dX12_writeLetter_77 : decode cX12_writeLetter 77 = .ok (.irem, 1) := kDec_at dA188_cX12_writeLetter 23 rfl
set_option maxRecDepth 100000 in
theorem dA189_cX12_writeLetter : kDec cX12_writeLetter [(78, .iadd, 1), (79, .invokevirtual 94, 3), (82, .goto 162, 3), (43, .aload_n 0, 1), (44, .iload_n 2, 1), (45, .invokevirtual 94, 3), (48, .goto 196, 3), (5, .iload_n 2, 1), (6, .iload_n 1, 1), (7, .ifCond .ne 8, 3), (15, .sipush 255, 3), (18, .if_icmp .le 5, 3), (23, .aload_n 0, 1), (24, .iload_n 2, 1), (25, .invokevirtual 94, 3), (28, .goto 216, 3), (21, .iconst 0, 1), (22, .ireturn, 1), (10, .bipush 127, 2), (12, .goto 6, 3)] = true := by decide +kernel
theorem dX12_writeLetter_78 : decode cX12_writeLetter 78 = .ok (.iadd, 1) := kDec_at dA189_cX12_writeLetter 0 rfl
theorem dX12_writeLetter_79 : decode cX12_writeLetter 79 = .ok (.invokevirtual 94, 3) := kDec_at dA189_cX12_writeLetter 1 rfl
theorem dX12_writeLetter_82 : decode cX12_writeLetter 82 = .ok (.goto 162, 3) := kDec_at dA189_cX12_writeLetter 2 rfl
theorem dX12_writeLetter_43 : decode cX12_writeLetter 43 = .ok (.aload_n 0, 1) := kDec_at dA189_cX12_writeLetter 3 rfl
theorem dX12_writeLetter_44 : decode cX12_writeLetter 44 = .ok (.iload_n 2, 1) := kDec_at dA189_cX12_writeLetter 4 rfl
theorem dX12_writeLetter_45 : decode cX12_writeLetter 45 = .ok (.invokevirtual 94, 3) := kDec_at dA189_cX12_writeLetter 5 rfl
theorem dX12_writeLetter_48 : decode cX12_writeLetter 48 = .ok (.goto 196, 3) := kDec_at dA189_cX12_writeLetter 6 rfl
theorem dX12_writeLetter_5 : decode cX12_writeLetter 5 = .ok (.iload_n 2, 1) := kDec_at dA189_cX12_writeLetter 7 rfl
theorem dX12_writeLetter_6 : decode cX12_writeLetter 6 = .ok (.iload_n 1, 1) := kDec_at dA189_cX12_writeLetter 8 rfl
theorem dX12_writeLetter_7 : decode cX12_writeLetter 7 = .ok (.ifCond .ne 8, 3) := kDec_at dA189_cX12_writeLetter 9 rfl
theorem dX12_writeLetter_15 : decode cX12_writeLetter 15 = .ok (.sipush 255, 3) := kDec_at dA189_cX12_writeLetter 10 rfl
theorem dX12_writeLetter_18 : decode cX12_writeLetter 18 = .ok (.if_icmp .le 5, 3) := kDec_at dA189_cX12_writeLetter 11 rfl
theorem dX12_writeLetter_23 : decode cX12_writeLetter 23 = .ok (.aload_n 0, 1) := kDec_at dA189_cX12_writeLetter 12 rfl
theorem dX12_writeLetter_24 : decode cX12_writeLetter 24 = .ok (.iload_n 2, 1) := kDec_at dA189_cX12_writeLetter 13 rfl
theorem dX12_writeLetter_25 : decode cX12_writeLetter 25 = .ok (.invokevirtual 94, 3) := kDec_at dA189_cX12_writeLetter 14 rfl
theorem dX12_writeLetter_28 : decode cX12_writeLetter 28 = .ok (.goto 216, 3) := kDec_at dA189_cX12_writeLetter 15 rfl
theorem dX12_writeLetter_21 : decode cX12_writeLetter 21 = .ok (.iconst 0, 1) := kDec_at dA189_cX12_writeLetter 16 rfl
theorem dX12_writeLetter_22 : decode cX12_writeLetter 22 = .ok (.ireturn, 1) := kDec_at dA189_cX12_writeLetter 17 rfl
theorem dX12_writeLetter_10 : decode cX12_writeLetter 10 = .ok (.bipush 127, 2) := kDec_at dA189_cX12_writeLetter 18 rfl
theorem dX12_writeLetter_12 : decode cX12_writeLetter 12 = .ok (.goto 6, 3) := kDec_at dA189_cX12_writeLetter 19 rfl
set_option maxRecDepth 100000 in
theorem dA190_cX12_write : kDec cX12_write [(0, .aload_n 0, 1), (1, .iconst 0, 1), (2, .putfield 91, 3), (5, .iconst 0, 1), (6, .istore 4, 2), (8, .iload 4, 2), (10, .iload_n 3, 1), (11, .if_icmp .ge 29, 3), (40, .iconst 1, 1), (41, .ireturn, 1), (14, .aload_n 0, 1), (15, .iload_n 1, 1), (16, .aload_n 2, 1), (17, .iload 4, 2), (19, .iaload, 1), (20, .invokevirtual 98, 3), (23, .ifCond .ne 11, 3), (34, .iinc 4 1, 3), (37, .goto (-29), 3), (26, .aload_n 0, 1), (27, .iload 4, 2), (29, .putfield 102, 3), (32, .iconst 0, 1), (33, .ireturn, 1)] = true := by decide +kernel
theorem dX12_write_0 : decode cX12_write 0 = .ok (.aload_n 0, 1) := kDec_at dA190_cX12_write 0 rfl
theorem dX12_write_1 : decode cX12_write 1 = .ok (.iconst 0, 1) := kDec_at dA190_cX12_write 1 rfl
theorem dX12_write_2 : decode cX12_write 2 = .ok (.putfield 91, 3) := kDec_at dA190_cX12_write 2 rfl
theorem dX12_write_5 : decode cX12_write 5 = .ok (.iconst 0, 1) := kDec_at dA190_cX12_write 3 rfl
theorem dX12_write_6 : decode cX12_write 6 = .ok (.istore 4, 2) := kDec_at dA190_cX12_write 4 rfl
theorem dX12_write_8 : decode cX12_write 8 = .ok (.iload 4, 2) := kDec_at dA190_cX12_write 5 rfl
theorem dX12_write_10 : decode cX12_write 10 = .ok (.iload_n 3, 1) := kDec_at dA190_cX12_write 6 rfl
theorem dX12_write_11 : decode cX12_write 11 = .ok (.if_icmp .ge 29, 3) := kDec_at dA190_cX12_write 7 rfl
theorem dX12_write_40 : decode cX12_write 40 = .ok (.iconst 1, 1) := kDec_at dA190_cX12_write 8 rfl
theorem dX12_write_41 : decode cX12_write 41 = .ok (.ireturn, 1) := kDec_at dA190_cX12_write 9 rfl
theorem dX12_write_14 : decode cX12_write 14 = .ok (.aload_n 0, 1) := kDec_at dA190_cX12_write 10 rfl
theorem dX12_write_15 : decode cX12_write 15 = .ok (.iload_n 1, 1) := kDec_at dA190_cX12_write 11 rfl
theorem dX12_write_16 : decode cX12_write 16 = .ok (.aload_n 2, 1) := kDec_at dA190_cX12_write 12 rfl
theorem dX12_write_17 : decode cX12_write 17 = .ok (.iload 4, 2) := kDec_at dA190_cX12_write 13 rfl
theorem dX12_write_19 : decode cX12_write 19 = .ok (.iaload, 1) := kDec_at dA190_cX12_write 14 rfl
theorem dX12_write_20 : decode cX12_write 20 = .ok (.invokevirtual 98, 3) := kDec_at dA190_cX12_write 15 rfl
theorem dX12_write_23 : decode cX12_write 23 = .ok (.ifCond .ne 11, 3) := kDec_at dA190_cX12_write 16 rfl
theorem dX12_write_34 : decode cX12_write 34 = .ok (.iinc 4 1, 3) := kDec_at dA190_cX12_write 17 rfl
theorem dX12_write_37 : decode cX12_write 37 = .ok (.goto (-29), 3) := kDec_at dA190_cX12_write 18 rfl
theorem dX12_write_26 : decode cX12_write 26 = .ok (.aload_n 0, 1) := kDec_at dA190_cX12_write 19 rfl
theorem dX12_write_27 : decode cX12_write 27 = .ok (.iload 4, 2) := kDec_at dA190_cX12_write 20 rfl
theorem dX12_write_29 : decode cX12_write 29 = .ok (.putfield 102, 3) := kDec_at dA190_cX12_write 21 rfl
theorem dX12_write_32 : decode cX12_write 32 = .ok (.iconst 0, 1) := kDec_at dA190_cX12_write 22 rfl
theorem dX12_write_33 : decode cX12_write 33 = .ok (.ireturn, 1) := kDec_at dA190_cX12_write 23 rfl
set_option maxRecDepth 20000 in
theorem gX12_writeLetter_all : wsX12_writeLetter.all goodWord = true := by
  unfold wsX12_writeLetter
  exact good_c (by decide +kernel) (good_a (good_a ((by decide +kernel)) gX12_clsall) gX12_put_all)
set_option maxRecDepth 20000 in
theorem ggX12_write_X12_writeLetter : GoodIn wsX12_write wsX12_writeLetter := goodIn_sub (fun _ h => List.mem_cons_of_mem _ (List.mem_append_right _ (h))) gX12_writeLetter_all
set_option maxRecDepth 20000 in
theorem gX12_write_X12_writeLetter : GoodIn wsX12_write (wsV RX12 98 RX12 yX12_writeLetter wsX12_writeLetter) := goodIn_app (goodIn_r _ [3, 4, 5, 6] rfl (by decide +kernel)) ggX12_write_X12_writeLetter

end
