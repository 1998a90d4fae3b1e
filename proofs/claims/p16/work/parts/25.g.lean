/-! 59.told -/
section
set_option maxHeartbeats 40000000 in
set_option maxRecDepth 100000 in
theorem f_X12_span (l : Launch) (dC : Nat → ClassId) (dI : Nat → Nat → Nat) (cI cS : ClassId) (sz : Nat) (oM : Nat) (mT : Nat) (mS : Nat) (mX : Nat) (mL : Nat) (mB : Nat) (mD : Nat) (m1 : Nat) (m2 : Nat) (mR : Nat) (x1 : Nat) (x2 : Nat) (x3 : Nat) (mH : Nat) (mY : Nat) (mE : Nat) (mW : Nat) (mO : Nat) (y1 : Nat) (y2 : Nat) (y3 : Nat) (y4 : Nat) (mZ : Nat) (zt : Int32) (zp : Int32) (zf : Int32) (zh : Int32) (zr : Int32) (zc : Int32) (zy : Int32) (za : Int32) (zb : Int32) (zs : Int32) (zq : Int32) (zw : Int32) (ze : Int32) (zn : Int32) (zm : Int32) (zl : Int32) (zk : Int32) (zd : Int32) (eL : Nat → Int32) (eB : Nat → Int32) (eD : Nat → Int32) (cd : Int32) (fr : Int32) (n : Int32) (le : Int32) (sp : Int32) (g_zt : 0 ≤ zt.toInt ∧ zt.toInt ≤ 900) (g_zp : 0 ≤ zp.toInt ∧ zp.toInt ≤ 20) (g_zf : 0 ≤ zf.toInt ∧ zf.toInt ≤ 19) (g_zh : 0 ≤ zh.toInt ∧ zh.toInt ≤ 6) (g_zr : 0 ≤ zr.toInt ∧ zr.toInt ≤ 258) (g_zc : 0 ≤ zc.toInt ∧ zc.toInt ≤ 300) (g_zy : 0 ≤ zy.toInt ∧ zy.toInt ≤ 65536) (g_za : 0 ≤ za.toInt ∧ za.toInt ≤ 5) (g_zb : 0 ≤ zb.toInt ∧ zb.toInt ≤ 5) (g_zs : 0 ≤ zs.toInt ∧ zs.toInt ≤ 2000000) (g_zq : -1 ≤ zq.toInt ∧ zq.toInt ≤ 2000000) (g_zn : 0 ≤ zn.toInt ∧ zn.toInt ≤ 2600) (g_zm : 0 ≤ zm.toInt ∧ zm.toInt ≤ 2600) (g_zk : 0 ≤ zk.toInt ∧ zk.toInt ≤ 300) (g_eL : rg (-1) 65535 eL) (g_eB : rg (-1) 255 eB) (hzs : zs.toInt ≤ 1000000) : kMi l yX12_span wsX12_span ({ frames := 1, cells := 0, slots := 0, locals := 20 } : Room) [.ref oM, .int cd, .int fr, .int n, .int le, .int sp] sz (dC, dI) vwCl [(cI, .int), (cS, .short)] [(oM, .inr (12, [.ref mT, .int zt, .ref mS, .ref mX, .int zp, .int zf, .ref mL, .ref mB, .ref mD, .ref m1, .ref m2, .int zh, .ref mR, .int zr, .ref x1, .ref x2, .ref x3, .int zc, .ref mH, .int zy, .int za, .int zb, .int zs, .int zq, .int zw, .int ze, .ref mY, .int zn, .ref mE, .int zm, .int zl, .ref mW, .int zk, .ref mO, .int zd, .ref y1, .ref y2, .ref y3, .ref y4, .ref mZ])), (mL, .inl (cI, 512, .inl eL)), (mB, .inl (cS, 131072, .inl eB)), (mD, .inl (cI, 2, .inl eD))] (fun _ => True) 0 0 (fun (A : Nat → Prop) (r : Int32) (hh9 : Heap) => ∀ PZ9 : Prop, (∀ (ze' : Int32) (zw' : Int32) (eL' : Nat → Int32) (eB' : Nat → Int32) (eD' : Nat → Int32) (zs' : Int32), kPD (dC, dI) vwCl A [(oM, .inr (12, [.ref mT, .int zt, .ref mS, .ref mX, .int zp, .int zf, .ref mL, .ref mB, .ref mD, .ref m1, .ref m2, .int zh, .ref mR, .int zr, .ref x1, .ref x2, .ref x3, .int zc, .ref mH, .int zy, .int za, .int zb, .int zs', .int zq, .int zw', .int ze', .ref mY, .int zn, .ref mE, .int zm, .int zl, .ref mW, .int zk, .ref mO, .int zd, .ref y1, .ref y2, .ref y3, .ref y4, .ref mZ])), (mL, .inl (cI, 512, .inl eL')), (mB, .inl (cS, 131072, .inl eB')), (mD, .inl (cI, 2, .inl eD'))] hh9 → (rg (-1) 65535 eL') → (rg (-1) 255 eB') → (0 ≤ zs'.toInt ∧ zs'.toInt ≤ 2000000) → (zs'.toInt ≤ zs.toInt + 1 ∧ zs.toInt ≤ zs'.toInt) → (F_spanR r cd fr n le sp eL eL' eB eB' eD eD') → (F_zsP (∃ t : Nat, cd.toInt = 4 + t ∧ t ≤ 1 ∧ CT fr n le sp (pL t eL) (pB t eB)) zs zs') → PZ9) → PZ9) := by
  refine kMi_of (cc := cX12_span) (maxL := 9) (ret := (some .int)) (lv := [(0, .ref oM), (1, .int cd), (2, .int fr), (3, .int n), (4, .int le), (5, .int sp)]) (by decide +kernel) rfl rfl (Nat.le_of_ble_eq_true rfl) ?_
  intro p e s m below meth c A QQ ls hx hb hr hts hml hown hlocks hA hQQ hK hX hP hD hS hl
  have hown : s.vm.findClass RX12 = some m.cls := hown
  have hcf := k_cf hx hb hml hown hts
  have in_X12 : ∀ w ∈ wsX120, w ∈ wsX12_span := fun _ h => List.mem_cons_of_mem _ (List.mem_append_left _ (List.mem_append_right _ (h)))
  replace g_zt := hid g_zt
  replace g_zp := hid g_zp
  replace g_zf := hid g_zf
  replace g_zh := hid g_zh
  replace g_zr := hid g_zr
  replace g_zc := hid g_zc
  replace g_zy := hid g_zy
  replace g_za := hid g_za
  replace g_zb := hid g_zb
  replace g_zq := hid g_zq
  replace g_zn := hid g_zn
  replace g_zm := hid g_zm
  replace g_zk := hid g_zk
  refine lv_aload_n hx hb dX12_span_0 rfl (lv_at hl 0 rfl) ?_
  refine lv_iconst (v := 0) hx hb dX12_span_1 (by decide) ?_
  refine va_put (D := (dC, dI)) (ci := 12) (v := .int 0) (ty := .int) (C := RX12) (T := TX12) (N := 40) hx hb hts in_X12 tyX12 tyX12_ok nmX12 hown hK hP hD hS 0 rfl rfl 25 (Nat.le_of_ble_eq_true rfl) (hts (.fieldLink RX12 85 "TextMenderModel" "thrown" "I") (List.mem_of_getElem? (i := 1) rfl)) (fun _ h9 => h9) rfl (tyX12_ok 25 (Nat.le_of_ble_eq_true rfl)) rfl rfl (Nat.le_of_ble_eq_true rfl) dX12_span_2 (kW (wn := [(oM, .inr (12, [.ref mT, .int zt, .ref mS, .ref mX, .int zp, .int zf, .ref mL, .ref mB, .ref mD, .ref m1, .ref m2, .int zh, .ref mR, .int zr, .ref x1, .ref x2, .ref x3, .int zc, .ref mH, .int zy, .int za, .int zb, .int zs, .int zq, .int zw, .int 0, .ref mY, .int zn, .ref mE, .int zm, .int zl, .ref mW, .int zk, .ref mO, .int zd, .ref y1, .ref y2, .ref y3, .ref y4, .ref mZ])), (mL, .inl (cI, 512, .inl eL)), (mB, .inl (cS, 131072, .inl eB)), (mD, .inl (cI, 2, .inl eD))]) rfl (fun H locs hPn hDn hSn => ?_))
  clear hP hD hS
  have hP := hPn
  have hD := hDn
  have hS := hSn
  clear hPn hDn hSn
  refine lv_aload_n hx hb dX12_span_5 rfl (lv_at hl 0 rfl) ?_
  refine lv_iconst (v := (-1)) hx hb dX12_span_6 (by decide) ?_
  refine va_put (D := (dC, dI)) (ci := 12) (v := .int (-1)) (ty := .int) (C := RX12) (T := TX12) (N := 40) hx hb hts in_X12 tyX12 tyX12_ok nmX12 hown hK hP hD hS 0 rfl rfl 24 (Nat.le_of_ble_eq_true rfl) (hts (.fieldLink RX12 55 "TextMenderModel" "where" "I") (List.mem_of_getElem? (i := 2) rfl)) (fun _ h9 => h9) rfl (tyX12_ok 24 (Nat.le_of_ble_eq_true rfl)) rfl rfl (Nat.le_of_ble_eq_true rfl) dX12_span_7 (kW (wn := [(oM, .inr (12, [.ref mT, .int zt, .ref mS, .ref mX, .int zp, .int zf, .ref mL, .ref mB, .ref mD, .ref m1, .ref m2, .int zh, .ref mR, .int zr, .ref x1, .ref x2, .ref x3, .int zc, .ref mH, .int zy, .int za, .int zb, .int zs, .int zq, .int (-1), .int 0, .ref mY, .int zn, .ref mE, .int zm, .int zl, .ref mW, .int zk, .ref mO, .int zd, .ref y1, .ref y2, .ref y3, .ref y4, .ref mZ])), (mL, .inl (cI, 512, .inl eL)), (mB, .inl (cS, 131072, .inl eB)), (mD, .inl (cI, 2, .inl eD))]) rfl (fun H locs hPn hDn hSn => ?_))
  clear hP hD hS
  have hP := hPn
  have hD := hDn
  have hS := hSn
  clear hPn hDn hSn
  refine lv_iload_n hx hb dX12_span_10 rfl (lv_at hl 1 rfl) ?_
  refine lv_iconst (v := 4) hx hb dX12_span_11 (by decide) ?_
  refine lv_icmp_lt (tgt := 71) hx hb dX12_span_12 (by decide) (fun c_1 => ?_) (fun c_1 => ?_)
  · have tc_1 : cd.toInt < 4 := v_lt c_1
    refine lv_iconst (v := (-1)) hx hb dX12_span_71 (by decide) ?_
    exact kl_i (v := (-1)) hQQ hx hb hr hlocks hS dX12_span_72 (fun PZ9 kZ9 => kZ9 0 (-1) eL eB eD zs (⟨hP, hD⟩) (g_eL) (g_eB) (g_zs) (by show zs.toInt ≤ zs.toInt + 1 ∧ zs.toInt ≤ zs.toInt; omega) (Or.inr ⟨rfl, rfl, rfl, rfl, fun t h1 h2 c => by have c1 := c.1; unfold isLz at c1; omega⟩) (Or.inr ⟨fun ⟨t9, z1, z2, z3⟩ => (fun t h1 h2 c => by have c1 := c.1; unfold isLz at c1; omega) t9 z1 z2 z3, rfl⟩))
  · have tc_1 : 4 ≤ cd.toInt := v_nlt c_1
    refine lv_iload_n hx hb dX12_span_15 rfl (lv_at hl 1 rfl) ?_
    refine lv_iconst (v := 5) hx hb dX12_span_16 (by decide) ?_
    refine lv_icmp_gt (tgt := 71) hx hb dX12_span_17 (by decide) (fun c_2 => ?_) (fun c_2 => ?_)
    · have tc_2 : 5 < cd.toInt := v_lt c_2
      refine lv_iconst (v := (-1)) hx hb dX12_span_71 (by decide) ?_
      exact kl_i (v := (-1)) hQQ hx hb hr hlocks hS dX12_span_72 (fun PZ9 kZ9 => kZ9 0 (-1) eL eB eD zs (⟨hP, hD⟩) (g_eL) (g_eB) (g_zs) (by show zs.toInt ≤ zs.toInt + 1 ∧ zs.toInt ≤ zs.toInt; omega) (Or.inr ⟨rfl, rfl, rfl, rfl, fun t h1 h2 c => by have c1 := c.1; unfold isLz at c1; omega⟩) (Or.inr ⟨fun ⟨t9, z1, z2, z3⟩ => (fun t h1 h2 c => by have c1 := c.1; unfold isLz at c1; omega) t9 z1 z2 z3, rfl⟩))
    · have tc_2 : cd.toInt ≤ 5 := v_nlt c_2
      refine lv_iload_n hx hb dX12_span_20 rfl (lv_at hl 2 rfl) ?_
      refine lv_if_lt (tgt := 71) hx hb dX12_span_21 (by decide) (fun c_3 => ?_) (fun c_3 => ?_)
      · have tc_3 : fr.toInt < 0 := v_lt c_3
        refine lv_iconst (v := (-1)) hx hb dX12_span_71 (by decide) ?_
        exact kl_i (v := (-1)) hQQ hx hb hr hlocks hS dX12_span_72 (fun PZ9 kZ9 => kZ9 0 (-1) eL eB eD zs (⟨hP, hD⟩) (g_eL) (g_eB) (g_zs) (by show zs.toInt ≤ zs.toInt + 1 ∧ zs.toInt ≤ zs.toInt; omega) (Or.inr ⟨rfl, rfl, rfl, rfl, fun t h1 h2 c => by have c1 := c.1; unfold isLz at c1; omega⟩) (Or.inr ⟨fun ⟨t9, z1, z2, z3⟩ => (fun t h1 h2 c => by have c1 := c.1; unfold isLz at c1; omega) t9 z1 z2 z3, rfl⟩))
      · have tc_3 : 0 ≤ fr.toInt := v_nlt c_3
        refine lv_iload_n hx hb dX12_span_24 rfl (lv_at hl 2 rfl) ?_
        refine lv_sipush (v := 255) hx hb dX12_span_25 (by decide) ?_
        refine lv_icmp_gt (tgt := 71) hx hb dX12_span_28 (by decide) (fun c_4 => ?_) (fun c_4 => ?_)
        · have tc_4 : 255 < fr.toInt := v_lt c_4
          refine lv_iconst (v := (-1)) hx hb dX12_span_71 (by decide) ?_
          exact kl_i (v := (-1)) hQQ hx hb hr hlocks hS dX12_span_72 (fun PZ9 kZ9 => kZ9 0 (-1) eL eB eD zs (⟨hP, hD⟩) (g_eL) (g_eB) (g_zs) (by show zs.toInt ≤ zs.toInt + 1 ∧ zs.toInt ≤ zs.toInt; omega) (Or.inr ⟨rfl, rfl, rfl, rfl, fun t h1 h2 c => by have c1 := c.1; unfold isLz at c1; omega⟩) (Or.inr ⟨fun ⟨t9, z1, z2, z3⟩ => (fun t h1 h2 c => by have c1 := c.1; unfold isLz at c1; omega) t9 z1 z2 z3, rfl⟩))
        · have tc_4 : fr.toInt ≤ 255 := v_nlt c_4
          refine lv_iload_n hx hb dX12_span_31 rfl (lv_at hl 3 rfl) ?_
          refine lv_iconst (v := 1) hx hb dX12_span_32 (by decide) ?_
          refine lv_icmp_lt (tgt := 71) hx hb dX12_span_33 (by decide) (fun c_5 => ?_) (fun c_5 => ?_)
          · have tc_5 : n.toInt < 1 := v_lt c_5
            refine lv_iconst (v := (-1)) hx hb dX12_span_71 (by decide) ?_
            exact kl_i (v := (-1)) hQQ hx hb hr hlocks hS dX12_span_72 (fun PZ9 kZ9 => kZ9 0 (-1) eL eB eD zs (⟨hP, hD⟩) (g_eL) (g_eB) (g_zs) (by show zs.toInt ≤ zs.toInt + 1 ∧ zs.toInt ≤ zs.toInt; omega) (Or.inr ⟨rfl, rfl, rfl, rfl, fun t h1 h2 c => by have c1 := c.1; unfold isLz at c1; omega⟩) (Or.inr ⟨fun ⟨t9, z1, z2, z3⟩ => (fun t h1 h2 c => by have c1 := c.1; unfold isLz at c1; omega) t9 z1 z2 z3, rfl⟩))
          · have tc_5 : 1 ≤ n.toInt := v_nlt c_5
            refine lv_iload_n hx hb dX12_span_36 rfl (lv_at hl 3 rfl) ?_
            refine lv_sipush (v := 256) hx hb dX12_span_37 (by decide) ?_
            refine lv_iload_n hx hb dX12_span_40 rfl (lv_at hl 2 rfl) ?_
            refine lv_isub hx hb dX12_span_41 ?_
            refine lv_topi (fun x_6 ex_6 => ?_)
            have tx_6 : x_6.toInt = 256 - fr.toInt := v_sub ex_6 (by show -2147483648 ≤ 256 - fr.toInt; omega) (by show 256 - fr.toInt < 2147483648; omega)
            refine lv_icmp_gt (tgt := 71) hx hb dX12_span_42 (by decide) (fun c_7 => ?_) (fun c_7 => ?_)
            · have tc_7 : x_6.toInt < n.toInt := v_lt c_7
              have rw7_0 := v_rng n
              refine lv_iconst (v := (-1)) hx hb dX12_span_71 (by decide) ?_
              exact kl_i (v := (-1)) hQQ hx hb hr hlocks hS dX12_span_72 (fun PZ9 kZ9 => kZ9 0 (-1) eL eB eD zs (⟨hP, hD⟩) (g_eL) (g_eB) (g_zs) (by show zs.toInt ≤ zs.toInt + 1 ∧ zs.toInt ≤ zs.toInt; omega) (Or.inr ⟨rfl, rfl, rfl, rfl, fun t h1 h2 c => by have c1 := c.1; unfold isLz at c1; omega⟩) (Or.inr ⟨fun ⟨t9, z1, z2, z3⟩ => (fun t h1 h2 c => by have c1 := c.1; unfold isLz at c1; omega) t9 z1 z2 z3, rfl⟩))
            · have tc_7 : n.toInt ≤ x_6.toInt := v_nlt c_7
              have rw7_0 := v_rng n
              refine lv_iload hx hb dX12_span_45 (lv_at hl 5 rfl) ?_
              refine lv_sipush (v := (-255)) hx hb dX12_span_47 (by decide) ?_
              refine lv_icmp_lt (tgt := 71) hx hb dX12_span_50 (by decide) (fun c_8 => ?_) (fun c_8 => ?_)
              · have tc_8 : sp.toInt < (-255) := v_lt c_8
                refine lv_iconst (v := (-1)) hx hb dX12_span_71 (by decide) ?_
                exact kl_i (v := (-1)) hQQ hx hb hr hlocks hS dX12_span_72 (fun PZ9 kZ9 => kZ9 0 (-1) eL eB eD zs (⟨hP, hD⟩) (g_eL) (g_eB) (g_zs) (by show zs.toInt ≤ zs.toInt + 1 ∧ zs.toInt ≤ zs.toInt; omega) (Or.inr ⟨rfl, rfl, rfl, rfl, fun t h1 h2 c => by have c1 := c.1; unfold isLz at c1; omega⟩) (Or.inr ⟨fun ⟨t9, z1, z2, z3⟩ => (fun t h1 h2 c => by have c1 := c.1; unfold isLz at c1; omega) t9 z1 z2 z3, rfl⟩))
              · have tc_8 : (-255) ≤ sp.toInt := v_nlt c_8
                refine lv_iload hx hb dX12_span_53 (lv_at hl 5 rfl) ?_
                refine lv_sipush (v := 255) hx hb dX12_span_55 (by decide) ?_
                refine lv_icmp_gt (tgt := 71) hx hb dX12_span_58 (by decide) (fun c_9 => ?_) (fun c_9 => ?_)
                · have tc_9 : 255 < sp.toInt := v_lt c_9
                  refine lv_iconst (v := (-1)) hx hb dX12_span_71 (by decide) ?_
                  exact kl_i (v := (-1)) hQQ hx hb hr hlocks hS dX12_span_72 (fun PZ9 kZ9 => kZ9 0 (-1) eL eB eD zs (⟨hP, hD⟩) (g_eL) (g_eB) (g_zs) (by show zs.toInt ≤ zs.toInt + 1 ∧ zs.toInt ≤ zs.toInt; omega) (Or.inr ⟨rfl, rfl, rfl, rfl, fun t h1 h2 c => by have c1 := c.1; unfold isLz at c1; omega⟩) (Or.inr ⟨fun ⟨t9, z1, z2, z3⟩ => (fun t h1 h2 c => by have c1 := c.1; unfold isLz at c1; omega) t9 z1 z2 z3, rfl⟩))
                · have tc_9 : sp.toInt ≤ 255 := v_nlt c_9
                  refine lv_iload_n hx hb dX12_span_61 rfl (lv_at hl 3 rfl) ?_
                  refine lv_iconst (v := 1) hx hb dX12_span_62 (by decide) ?_
                  refine lv_icmp_le (tgt := 73) hx hb dX12_span_63 (by decide) (fun c_10 => ?_) (fun c_10 => ?_)
                  · have tc_10 : n.toInt ≤ 1 := v_le c_10
                    refine lv_iload_n hx hb dX12_span_73 rfl (lv_at hl 1 rfl) ?_
                    refine lv_iconst (v := 4) hx hb dX12_span_74 (by decide) ?_
                    refine lv_isub hx hb dX12_span_75 ?_
                    refine lv_topi (fun x_11 ex_11 => ?_)
                    have tx_11 : x_11.toInt = cd.toInt - 4 := v_sub ex_11 (by show -2147483648 ≤ cd.toInt - 4; omega) (by show cd.toInt - 4 < 2147483648; omega)
                    refine lv_istore (lv' := [(6, .int x_11), (0, .ref oM), (1, .int cd), (2, .int fr), (3, .int n), (4, .int le), (5, .int sp)]) hx hb dX12_span_76 hl (by decide) rfl (fun ls hl => ?_)
                    refine lv_iload hx hb dX12_span_78 (lv_at hl 5 rfl) ?_
                    refine kS_i (rest := []) hcf (m_X12_isLetter l dC dI cI cS H.size le ) kc_X12_isLetter gX12_span_X12_isLetter rfl rfl ⟨Nat.le_of_ble_eq_true rfl, Nat.le_of_ble_eq_true rfl⟩ kX_t hK hP hD hS hA [] [0, 1, 2, 3] rfl (by decide +kernel) rfl hl rfl (Nat.le_of_ble_eq_true rfl) dX12_span_80 ⟨Nat.le_of_ble_eq_true rfl, Nat.le_of_ble_eq_true rfl⟩ (fun r_12 H locs hB hJ hSn => ?_)
                    refine hB _ (fun hPD9 hf12_0 hf12_1 => ?_)
                    clear hB
                    obtain ⟨hPn, hDn⟩ := hJ _ hPD9.1 hPD9.2 [(oM, .inr (12, [.ref mT, .int zt, .ref mS, .ref mX, .int zp, .int zf, .ref mL, .ref mB, .ref mD, .ref m1, .ref m2, .int zh, .ref mR, .int zr, .ref x1, .ref x2, .ref x3, .int zc, .ref mH, .int zy, .int za, .int zb, .int zs, .int zq, .int (-1), .int 0, .ref mY, .int zn, .ref mE, .int zm, .int zl, .ref mW, .int zk, .ref mO, .int zd, .ref y1, .ref y2, .ref y3, .ref y4, .ref mZ])), (mL, .inl (cI, 512, .inl eL)), (mB, .inl (cS, 131072, .inl eB)), (mD, .inl (cI, 2, .inl eD))] rfl
                    clear hP hD hS hJ hPD9
                    have hP := hPn
                    have hD := hDn
                    have hS := hSn
                    clear hPn hDn hSn
                    refine lv_if_ne (tgt := 88) hx hb dX12_span_83 (by decide) (fun c_13 => ?_) (fun c_13 => ?_)
                    · have tc_13 : ¬ r_12.toInt = 0 := v_ne c_13
                      refine lv_iconst (v := 0) hx hb dX12_span_88 (by decide) ?_
                      refine lv_istore (lv' := [(7, .int 0), (6, .int x_11), (0, .ref oM), (1, .int cd), (2, .int fr), (3, .int n), (4, .int le), (5, .int sp)]) hx hb dX12_span_89 hl (by decide) rfl (fun ls hl => ?_)
                      have LOOP_91 : ∀ (k_91 : Nat) (k : Int32) (H : Heap) (locs : List Loc) (ls : Array Slot), MSd (256 - k.toInt : Int) k_91 → (0 ≤ k.toInt ∧ k.toInt ≤ 256) → (CTk k.toInt fr le sp (pL (cd.toInt - 4).toNat eL) (pB (cd.toInt - 4).toNat eB)) → va_P (dC, dI) vwCl [(oM, .inr (12, [.ref mT, .int zt, .ref mS, .ref mX, .int zp, .int zf, .ref mL, .ref mB, .ref mD, .ref m1, .ref m2, .int zh, .ref mR, .int zr, .ref x1, .ref x2, .ref x3, .int zc, .ref mH, .int zy, .int za, .int zb, .int zs, .int zq, .int (-1), .int 0, .ref mY, .int zn, .ref mE, .int zm, .int zl, .ref mW, .int zk, .ref mO, .int zd, .ref y1, .ref y2, .ref y3, .ref y4, .ref mZ])), (mL, .inl (cI, 512, .inl eL)), (mB, .inl (cS, 131072, .inl eB)), (mD, .inl (cI, 2, .inl eD))] H → va_D A [(oM, .inr (12, [.ref mT, .int zt, .ref mS, .ref mX, .int zp, .int zf, .ref mL, .ref mB, .ref mD, .ref m1, .ref m2, .int zh, .ref mR, .int zr, .ref x1, .ref x2, .ref x3, .int zc, .ref mH, .int zy, .int za, .int zb, .int zs, .int zq, .int (-1), .int 0, .ref mY, .int zn, .ref mE, .int zm, .int zl, .ref mW, .int zk, .ref mO, .int zd, .ref y1, .ref y2, .ref y3, .ref y4, .ref mZ])), (mL, .inl (cI, 512, .inl eL)), (mB, .inl (cS, 131072, .inl eB)), (mD, .inl (cI, 2, .inl eD))] → va_S A s.heap H locs → lv_has ls 9 [(7, .int k), (6, .int x_11), (0, .ref oM), (1, .int cd), (2, .int fr), (3, .int n), (4, .int le), (5, .int sp)] → W p l e (headSpec wsX12_span ({ frames := 1, cells := 0, slots := 0, locals := 20 } : Room)).room s m ([.ref oM, .int cd, .int fr, .int n, .int le, .int sp] : List Value).toArray below meth c H locs 0 0 (MQ below QQ ([.ref oM, .int cd, .int fr, .int n, .int le, .int sp] : List Value).toArray s 0 0 A) (F0 m 91 ls []) := by
                        clear hP hD hS hl
                        intro k_91
                        induction k_91 with
                        | zero =>
                          intro k H locs ls hm_91 g_k hct hP hD hS hl
                          exact ms_0 hm_91
                        | succ k_91 ih_91 =>
                          intro k H locs ls hm_91 g_k hct hP hD hS hl
                          refine lv_iload hx hb dX12_span_91 (lv_at hl 0 rfl) ?_
                          refine lv_iload_n hx hb dX12_span_93 rfl (lv_at hl 5 rfl) ?_
                          refine lv_icmp_ge (tgt := 160) hx hb dX12_span_94 (by decide) (fun c_14 => ?_) (fun c_14 => ?_)
                          · have tc_14 : n.toInt ≤ k.toInt := v_le c_14
                            have hCT : CT fr n le sp (pL (cd.toInt - 4).toNat eL) (pB (cd.toInt - 4).toNat eB) := ⟨by unfold isLz; omega, CTk_le hct (by omega)⟩
                            have hokn : ∀ q : Int32, 0 ≤ q.toInt → q.toInt < n.toInt → 0 ≤ (le + q * sp).toInt ∧ (le + q * sp).toInt ≤ 65535 := fun q h1 h2 => ⟨(hCT.2 q h1 h2).1.1, (hCT.2 q h1 h2).1.2.1⟩
                            refine lv_iconst (v := 0) hx hb dX12_span_160 (by decide) ?_
                            refine lv_istore (lv' := [(7, .int 0), (6, .int x_11), (0, .ref oM), (1, .int cd), (2, .int fr), (3, .int n), (4, .int le), (5, .int sp)]) hx hb dX12_span_161 hl (by decide) rfl (fun ls hl => ?_)
                            have LOOP_163 : ∀ (k_163 : Nat) (k2 : Int32) (eLa : Nat → Int32) (eBa : Nat → Int32) (H : Heap) (locs : List Loc) (ls : Array Slot), MSd (256 - k2.toInt : Int) k_163 → (0 ≤ k2.toInt ∧ k2.toInt ≤ 256) → (rg (-1) 65535 eLa) → (rg (-1) 255 eBa) → (k2.toInt ≤ n.toInt) → (SPR (cd.toInt - 4).toNat k2 fr le sp eL eB eLa eBa) → va_P (dC, dI) vwCl [(oM, .inr (12, [.ref mT, .int zt, .ref mS, .ref mX, .int zp, .int zf, .ref mL, .ref mB, .ref mD, .ref m1, .ref m2, .int zh, .ref mR, .int zr, .ref x1, .ref x2, .ref x3, .int zc, .ref mH, .int zy, .int za, .int zb, .int zs, .int zq, .int (-1), .int 0, .ref mY, .int zn, .ref mE, .int zm, .int zl, .ref mW, .int zk, .ref mO, .int zd, .ref y1, .ref y2, .ref y3, .ref y4, .ref mZ])), (mL, .inl (cI, 512, .inl eLa)), (mB, .inl (cS, 131072, .inl eBa)), (mD, .inl (cI, 2, .inl eD))] H → va_D A [(oM, .inr (12, [.ref mT, .int zt, .ref mS, .ref mX, .int zp, .int zf, .ref mL, .ref mB, .ref mD, .ref m1, .ref m2, .int zh, .ref mR, .int zr, .ref x1, .ref x2, .ref x3, .int zc, .ref mH, .int zy, .int za, .int zb, .int zs, .int zq, .int (-1), .int 0, .ref mY, .int zn, .ref mE, .int zm, .int zl, .ref mW, .int zk, .ref mO, .int zd, .ref y1, .ref y2, .ref y3, .ref y4, .ref mZ])), (mL, .inl (cI, 512, .inl eLa)), (mB, .inl (cS, 131072, .inl eBa)), (mD, .inl (cI, 2, .inl eD))] → va_S A s.heap H locs → lv_has ls 9 [(7, .int k2), (6, .int x_11), (0, .ref oM), (1, .int cd), (2, .int fr), (3, .int n), (4, .int le), (5, .int sp)] → W p l e (headSpec wsX12_span ({ frames := 1, cells := 0, slots := 0, locals := 20 } : Room)).room s m ([.ref oM, .int cd, .int fr, .int n, .int le, .int sp] : List Value).toArray below meth c H locs 0 0 (MQ below QQ ([.ref oM, .int cd, .int fr, .int n, .int le, .int sp] : List Value).toArray s 0 0 A) (F0 m 163 ls []) := by
                              clear hP hD hS hl
                              intro k_163
                              induction k_163 with
                              | zero =>
                                intro k2 eLa eBa H locs ls hm_163 g_k2 g_eLa g_eBa hkn hspr hP hD hS hl
                                exact ms_0 hm_163
                              | succ k_163 ih_163 =>
                                intro k2 eLa eBa H locs ls hm_163 g_k2 g_eLa g_eBa hkn hspr hP hD hS hl
                                refine lv_iload hx hb dX12_span_163 (lv_at hl 0 rfl) ?_
                                refine lv_iload_n hx hb dX12_span_165 rfl (lv_at hl 5 rfl) ?_
                                refine lv_icmp_ge (tgt := 223) hx hb dX12_span_166 (by decide) (fun c_15 => ?_) (fun c_15 => ?_)
                                · have tc_15 : n.toInt ≤ k2.toInt := v_le c_15
                                  refine lv_aload_n hx hb dX12_span_223 rfl (lv_at hl 2 rfl) ?_
                                  refine va_get (D := (dC, dI)) (ci := 12) (v := .ref mD) (C := RX12) (T := TX12) (N := 40) hx hb hts in_X12 hown hK hP 0 rfl rfl 8 (Nat.le_of_ble_eq_true rfl) (hts (.fieldLink RX12 27 "TextMenderModel" "told" "[I") (List.mem_of_getElem? (i := 6) rfl)) (fun _ h9 => h9) rfl dX12_span_224 ?_
                                  refine lv_iload hx hb dX12_span_227 (lv_at hl 1 rfl) ?_
                                  refine lv_dup2_11 hx hb dX12_span_229 rfl rfl ?_
                                  refine va_iald hx hb hK hP 3 0 rfl rfl (v_in (by omega)) dX12_span_230 ?_
                                  refine lv_topi (fun x_16 ex_16 => ?_)
                                  refine lv_iload_n hx hb dX12_span_231 rfl (lv_at hl 5 rfl) ?_
                                  refine lv_iadd hx hb dX12_span_232 ?_
                                  refine lv_topi (fun x_17 ex_17 => ?_)
                                  have rv17_0 := v_rng x_16
                                  obtain ⟨f_18, ef_18⟩ : ∃ g : Nat → Int32, g = upd eD (x_11 : Int32).toNatClampNeg x_17 := ⟨_, rfl⟩
                                  refine va_iast hx hb hK hP hD hS 3 0 rfl rfl (v_in (by omega)) dX12_span_233 (kWf (g := f_18) (F := fun f_18 => [(oM, .inr (12, [.ref mT, .int zt, .ref mS, .ref mX, .int zp, .int zf, .ref mL, .ref mB, .ref mD, .ref m1, .ref m2, .int zh, .ref mR, .int zr, .ref x1, .ref x2, .ref x3, .int zc, .ref mH, .int zy, .int za, .int zb, .int zs, .int zq, .int (-1), .int 0, .ref mY, .int zn, .ref mE, .int zm, .int zl, .ref mW, .int zk, .ref mO, .int zd, .ref y1, .ref y2, .ref y3, .ref y4, .ref mZ])), (mL, .inl (cI, 512, .inl eLa)), (mB, .inl (cS, 131072, .inl eBa)), (mD, .inl (cI, 2, .inl f_18))]) ef_18 rfl (fun H locs hPn hDn hSn => ?_))
                                  clear hP hD hS
                                  have hP := hPn
                                  have hD := hDn
                                  have hS := hSn
                                  clear hPn hDn hSn
                                  refine lv_aload_n hx hb dX12_span_234 rfl (lv_at hl 2 rfl) ?_
                                  refine lv_dup hx hb dX12_span_235 rfl ?_
                                  refine va_get (D := (dC, dI)) (ci := 12) (v := .int zs) (C := RX12) (T := TX12) (N := 40) hx hb hts in_X12 hown hK hP 0 rfl rfl 22 (Nat.le_of_ble_eq_true rfl) (hts (.fieldLink RX12 148 "TextMenderModel" "state" "I") (List.mem_of_getElem? (i := 7) rfl)) (fun _ h9 => h9) rfl dX12_span_236 ?_
                                  refine lv_iconst (v := 1) hx hb dX12_span_239 (by decide) ?_
                                  refine lv_iadd hx hb dX12_span_240 ?_
                                  refine lv_topi (fun x_19 ex_19 => ?_)
                                  have tx_19 : x_19.toInt = zs.toInt + 1 := v_addR (l2 := 1) (h2 := 1) ex_19 g_zs (by decide) (by decide) (by decide)
                                  refine va_put (D := (dC, dI)) (ci := 12) (v := .int x_19) (ty := .int) (C := RX12) (T := TX12) (N := 40) hx hb hts in_X12 tyX12 tyX12_ok nmX12 hown hK hP hD hS 0 rfl rfl 22 (Nat.le_of_ble_eq_true rfl) (hts (.fieldLink RX12 148 "TextMenderModel" "state" "I") (List.mem_of_getElem? (i := 7) rfl)) (fun _ h9 => h9) rfl (tyX12_ok 22 (Nat.le_of_ble_eq_true rfl)) rfl rfl (Nat.le_of_ble_eq_true rfl) dX12_span_241 (kW (wn := [(oM, .inr (12, [.ref mT, .int zt, .ref mS, .ref mX, .int zp, .int zf, .ref mL, .ref mB, .ref mD, .ref m1, .ref m2, .int zh, .ref mR, .int zr, .ref x1, .ref x2, .ref x3, .int zc, .ref mH, .int zy, .int za, .int zb, .int x_19, .int zq, .int (-1), .int 0, .ref mY, .int zn, .ref mE, .int zm, .int zl, .ref mW, .int zk, .ref mO, .int zd, .ref y1, .ref y2, .ref y3, .ref y4, .ref mZ])), (mL, .inl (cI, 512, .inl eLa)), (mB, .inl (cS, 131072, .inl eBa)), (mD, .inl (cI, 2, .inl f_18))]) rfl (fun H locs hPn hDn hSn => ?_))
                                  clear hP hD hS
                                  have hP := hPn
                                  have hD := hDn
                                  have hS := hSn
                                  clear hPn hDn hSn
                                  refine lv_aload_n hx hb dX12_span_244 rfl (lv_at hl 2 rfl) ?_
                                  refine va_get (D := (dC, dI)) (ci := 12) (v := .ref mD) (C := RX12) (T := TX12) (N := 40) hx hb hts in_X12 hown hK hP 0 rfl rfl 8 (Nat.le_of_ble_eq_true rfl) (hts (.fieldLink RX12 27 "TextMenderModel" "told" "[I") (List.mem_of_getElem? (i := 6) rfl)) (fun _ h9 => h9) rfl dX12_span_245 ?_
                                  refine lv_iload hx hb dX12_span_248 (lv_at hl 1 rfl) ?_
                                  refine va_iald hx hb hK hP 3 0 rfl rfl (v_in (by omega)) dX12_span_250 ?_
                                  refine lv_topi (fun x_20 ex_20 => ?_)
                                  exact kl_i (v := x_20) hQQ hx hb hr hlocks hS dX12_span_251 (fun PZ9 kZ9 => kZ9 0 (-1) eLa eBa f_18 x_19 (⟨hP, hD⟩) (g_eLa) (g_eBa) (by omega) (by show x_19.toInt ≤ zs.toInt + 1 ∧ zs.toInt ≤ x_19.toInt; omega) (Or.inl ⟨(cd.toInt - 4).toNat, by omega, by omega, hCT, SPR_n hspr (by omega), (spanR_d (cd := cd) (by omega) (by omega) ex_16 ex_17 ef_18 ex_20).1, (spanR_d (cd := cd) (by omega) (by omega) ex_16 ex_17 ef_18 ex_20).2⟩) (Or.inl ⟨⟨(cd.toInt - 4).toNat, by omega, by omega, hCT⟩, by omega⟩))
                                · have tc_15 : k2.toInt < n.toInt := v_nle c_15
                                  refine lv_aload_n hx hb dX12_span_169 rfl (lv_at hl 2 rfl) ?_
                                  refine va_get (D := (dC, dI)) (ci := 12) (v := .ref mL) (C := RX12) (T := TX12) (N := 40) hx hb hts in_X12 hown hK hP 0 rfl rfl 6 (Nat.le_of_ble_eq_true rfl) (hts (.fieldLink RX12 19 "TextMenderModel" "letterOf" "[I") (List.mem_of_getElem? (i := 3) rfl)) (fun _ h9 => h9) rfl dX12_span_170 ?_
                                  refine lv_sipush (v := 256) hx hb dX12_span_173 (by decide) ?_
                                  refine lv_iload hx hb dX12_span_176 (lv_at hl 1 rfl) ?_
                                  refine lv_imul hx hb dX12_span_178 ?_
                                  refine lv_topi (fun x_21 ex_21 => ?_)
                                  have tx_21 : x_21.toInt = 256 * x_11.toInt := v_mul ex_21 (by show -2147483648 ≤ 256 * x_11.toInt; omega) (by show 256 * x_11.toInt < 2147483648; omega)
                                  refine lv_iload_n hx hb dX12_span_179 rfl (lv_at hl 4 rfl) ?_
                                  refine lv_iadd hx hb dX12_span_180 ?_
                                  refine lv_topi (fun x_22 ex_22 => ?_)
                                  have tx_22 : x_22.toInt = x_21.toInt + fr.toInt := v_add ex_22 (by show -2147483648 ≤ x_21.toInt + fr.toInt; omega) (by show x_21.toInt + fr.toInt < 2147483648; omega)
                                  refine lv_iload hx hb dX12_span_181 (lv_at hl 0 rfl) ?_
                                  refine lv_iadd hx hb dX12_span_183 ?_
                                  refine lv_topi (fun x_23 ex_23 => ?_)
                                  have tx_23 : x_23.toInt = x_22.toInt + k2.toInt := v_add ex_23 (by show -2147483648 ≤ x_22.toInt + k2.toInt; omega) (by show x_22.toInt + k2.toInt < 2147483648; omega)
                                  refine lv_iload hx hb dX12_span_184 (lv_at hl 6 rfl) ?_
                                  refine lv_iload hx hb dX12_span_186 (lv_at hl 0 rfl) ?_
                                  refine lv_iload hx hb dX12_span_188 (lv_at hl 7 rfl) ?_
                                  refine lv_imul hx hb dX12_span_190 ?_
                                  refine lv_topi (fun x_24 ex_24 => ?_)
                                  refine lv_iadd hx hb dX12_span_191 ?_
                                  refine lv_topi (fun x_25 ex_25 => ?_)
                                  have rv25_1 := v_rng x_24
                                  have ts_x_25 := sp_at (n := n.toInt) hokn ex_24 ex_25 (by omega) (by omega)
                                  obtain ⟨f_26, ef_26⟩ : ∃ g : Nat → Int32, g = upd eLa (x_23 : Int32).toNatClampNeg x_25 := ⟨_, rfl⟩
                                  refine va_iast hx hb hK hP hD hS 1 0 rfl rfl (v_in (by omega)) dX12_span_192 (kWf (g := f_26) (F := fun f_26 => [(oM, .inr (12, [.ref mT, .int zt, .ref mS, .ref mX, .int zp, .int zf, .ref mL, .ref mB, .ref mD, .ref m1, .ref m2, .int zh, .ref mR, .int zr, .ref x1, .ref x2, .ref x3, .int zc, .ref mH, .int zy, .int za, .int zb, .int zs, .int zq, .int (-1), .int 0, .ref mY, .int zn, .ref mE, .int zm, .int zl, .ref mW, .int zk, .ref mO, .int zd, .ref y1, .ref y2, .ref y3, .ref y4, .ref mZ])), (mL, .inl (cI, 512, .inl f_26)), (mB, .inl (cS, 131072, .inl eBa)), (mD, .inl (cI, 2, .inl eD))]) ef_26 rfl (fun H locs hPn hDn hSn => ?_))
                                  clear hP hD hS
                                  have hP := hPn
                                  have hD := hDn
                                  have hS := hSn
                                  clear hPn hDn hSn
                                  have g_f26 : rg (-1) 65535 f_26 := rg_upd ef_26 g_eLa (by omega)
                                  refine lv_aload_n hx hb dX12_span_193 rfl (lv_at hl 2 rfl) ?_
                                  refine va_get (D := (dC, dI)) (ci := 12) (v := .ref mB) (C := RX12) (T := TX12) (N := 40) hx hb hts in_X12 hown hK hP 0 rfl rfl 7 (Nat.le_of_ble_eq_true rfl) (hts (.fieldLink RX12 23 "TextMenderModel" "byteOfLetter" "[S") (List.mem_of_getElem? (i := 4) rfl)) (fun _ h9 => h9) rfl dX12_span_194 ?_
                                  refine lv_ldc hx hb hown (hts (.constant RX12 88 (65536)) (List.mem_of_getElem? (i := 5) rfl)) dX12_span_197 ?_
                                  refine lv_iload hx hb dX12_span_199 (lv_at hl 1 rfl) ?_
                                  refine lv_imul hx hb dX12_span_201 ?_
                                  refine lv_topi (fun x_27 ex_27 => ?_)
                                  have tx_27 : x_27.toInt = 65536 * x_11.toInt := v_mul ex_27 (by show -2147483648 ≤ 65536 * x_11.toInt; omega) (by show 65536 * x_11.toInt < 2147483648; omega)
                                  refine lv_iload hx hb dX12_span_202 (lv_at hl 6 rfl) ?_
                                  refine lv_iadd hx hb dX12_span_204 ?_
                                  refine lv_topi (fun x_28 ex_28 => ?_)
                                  have tx_28 : x_28.toInt = x_27.toInt + le.toInt := v_add ex_28 (by show -2147483648 ≤ x_27.toInt + le.toInt; omega) (by show x_27.toInt + le.toInt < 2147483648; omega)
                                  refine lv_iload hx hb dX12_span_205 (lv_at hl 0 rfl) ?_
                                  refine lv_iload hx hb dX12_span_207 (lv_at hl 7 rfl) ?_
                                  refine lv_imul hx hb dX12_span_209 ?_
                                  refine lv_topi (fun x_29 ex_29 => ?_)
                                  refine lv_iadd hx hb dX12_span_210 ?_
                                  refine lv_topi (fun x_30 ex_30 => ?_)
                                  have rv30_1 := v_rng x_29
                                  have ts_x_30 := sp_ix (n := n.toInt) hokn ex_29 ex_28 ex_30 (by omega) (by omega) (by omega)
                                  refine lv_iload_n hx hb dX12_span_211 rfl (lv_at hl 4 rfl) ?_
                                  refine lv_iload hx hb dX12_span_212 (lv_at hl 0 rfl) ?_
                                  refine lv_iadd hx hb dX12_span_214 ?_
                                  refine lv_topi (fun x_31 ex_31 => ?_)
                                  have tx_31 : x_31.toInt = fr.toInt + k2.toInt := v_add ex_31 (by show -2147483648 ≤ fr.toInt + k2.toInt; omega) (by show fr.toInt + k2.toInt < 2147483648; omega)
                                  obtain ⟨x_32, ex_32⟩ : ∃ v : Int32, v = (x_31 : Int32).toInt16.toInt32 := ⟨_, rfl⟩
                                  refine lv_i2s (v := x_32) hx hb dX12_span_215 ex_32.symm ?_
                                  have tx_32 : x_32.toInt = x_31.toInt := v_i2s ex_32 (by omega)
                                  obtain ⟨f_33, ef_33⟩ : ∃ g : Nat → Int32, g = upd eBa (x_30 : Int32).toNatClampNeg (vp_nar .short x_32) := ⟨_, rfl⟩
                                  refine va_sast hx hb hK hP hD hS 2 1 rfl rfl (v_in (by omega)) dX12_span_216 (kWf (g := f_33) (F := fun f_33 => [(oM, .inr (12, [.ref mT, .int zt, .ref mS, .ref mX, .int zp, .int zf, .ref mL, .ref mB, .ref mD, .ref m1, .ref m2, .int zh, .ref mR, .int zr, .ref x1, .ref x2, .ref x3, .int zc, .ref mH, .int zy, .int za, .int zb, .int zs, .int zq, .int (-1), .int 0, .ref mY, .int zn, .ref mE, .int zm, .int zl, .ref mW, .int zk, .ref mO, .int zd, .ref y1, .ref y2, .ref y3, .ref y4, .ref mZ])), (mL, .inl (cI, 512, .inl f_26)), (mB, .inl (cS, 131072, .inl f_33)), (mD, .inl (cI, 2, .inl eD))]) ef_33 rfl (fun H locs hPn hDn hSn => ?_))
                                  clear hP hD hS
                                  have hP := hPn
                                  have hD := hDn
                                  have hS := hSn
                                  clear hPn hDn hSn
                                  have g_f33 : rg (-1) 255 f_33 := rg_upd ef_33 g_eBa (v_nars (by omega) (by omega))
                                  obtain ⟨x_34, ex_34⟩ : ∃ y : Int32, y = k2 + 1 := ⟨_, rfl⟩
                                  have tx_34 : x_34.toInt = k2.toInt + 1 := v_addR (l2 := 1) (h2 := 1) ex_34 g_k2 (by decide) (by decide) (by decide)
                                  refine lv_iinc (v := x_34) (lv' := [(7, .int x_34), (6, .int x_11), (0, .ref oM), (1, .int cd), (2, .int fr), (3, .int n), (4, .int le), (5, .int sp)]) hx hb dX12_span_217 hl (k := 0) rfl (by rw [ex_34]; rfl) (by decide) rfl (fun ls hl => ?_)
                                  refine lv_goto (tgt := 163) hx hb dX12_span_220 (by decide) ?_
                                  exact ih_163 x_34 f_26 f_33 _ _ _ (ms_lt hm_163 (by show ((256 - x_34.toInt : Int)) < 256 - k2.toInt; omega) (by show (0 : Int) < 256 - k2.toInt; omega)) (by show 0 ≤ x_34.toInt ∧ x_34.toInt ≤ 256; omega) (g_f26) (g_f33) (by show x_34.toInt ≤ n.toInt; omega) (SPR_s hCT hspr (by omega) (by omega) (by omega) ex_24 ex_25 ex_29 ex_28 ex_30 (z := x_27) (by omega) (a := x_23) (by omega) (w := vp_nar .short x_32) (by rw [v_nar_s (by omega)]; omega) ef_26 ef_33 (by omega)) hP hD hS (lv_sub hl [0, 1, 2, 3, 4, 5, 6, 7] rfl)
                            exact LOOP_163 _ 0 eL eB _ _ _ (ms_s _) (by decide) (g_eL) (g_eB) (by show 0 ≤ n.toInt; omega) (SPR_0) hP hD hS (lv_sub hl [0, 1, 2, 3, 4, 5, 6, 7] rfl)
                          · have tc_14 : k.toInt < n.toInt := v_nle c_14
                            refine lv_iload hx hb dX12_span_97 (lv_at hl 6 rfl) ?_
                            refine lv_iload hx hb dX12_span_99 (lv_at hl 0 rfl) ?_
                            refine lv_iload hx hb dX12_span_101 (lv_at hl 7 rfl) ?_
                            refine lv_imul hx hb dX12_span_103 ?_
                            refine lv_topi (fun x_35 ex_35 => ?_)
                            refine lv_iadd hx hb dX12_span_104 ?_
                            refine lv_topi (fun x_36 ex_36 => ?_)
                            have rv36_1 := v_rng x_35
                            refine lv_istore (lv' := [(8, .int x_36), (7, .int k), (6, .int x_11), (0, .ref oM), (1, .int cd), (2, .int fr), (3, .int n), (4, .int le), (5, .int sp)]) hx hb dX12_span_105 hl (by decide) rfl (fun ls hl => ?_)
                            refine lv_iload hx hb dX12_span_107 (lv_at hl 0 rfl) ?_
                            refine kS_i (rest := []) hcf (m_X12_isLetter l dC dI cI cS H.size x_36 ) kc_X12_isLetter gX12_span_X12_isLetter rfl rfl ⟨Nat.le_of_ble_eq_true rfl, Nat.le_of_ble_eq_true rfl⟩ kX_t hK hP hD hS hA [] [0, 1, 2, 3] rfl (by decide +kernel) rfl hl rfl (Nat.le_of_ble_eq_true rfl) dX12_span_109 ⟨Nat.le_of_ble_eq_true rfl, Nat.le_of_ble_eq_true rfl⟩ (fun r_37 H locs hB hJ hSn => ?_)
                            refine hB _ (fun hPD9 hf37_0 hf37_1 => ?_)
                            clear hB
                            obtain ⟨hPn, hDn⟩ := hJ _ hPD9.1 hPD9.2 [(oM, .inr (12, [.ref mT, .int zt, .ref mS, .ref mX, .int zp, .int zf, .ref mL, .ref mB, .ref mD, .ref m1, .ref m2, .int zh, .ref mR, .int zr, .ref x1, .ref x2, .ref x3, .int zc, .ref mH, .int zy, .int za, .int zb, .int zs, .int zq, .int (-1), .int 0, .ref mY, .int zn, .ref mE, .int zm, .int zl, .ref mW, .int zk, .ref mO, .int zd, .ref y1, .ref y2, .ref y3, .ref y4, .ref mZ])), (mL, .inl (cI, 512, .inl eL)), (mB, .inl (cS, 131072, .inl eB)), (mD, .inl (cI, 2, .inl eD))] rfl
                            clear hP hD hS hJ hPD9
                            have hP := hPn
                            have hD := hDn
                            have hS := hSn
                            clear hPn hDn hSn
                            refine lv_if_eq (tgt := 152) hx hb dX12_span_112 (by decide) (fun c_38 => ?_) (fun c_38 => ?_)
                            · have tc_38 : r_37.toInt = 0 := v_eq c_38
                              refine lv_iconst (v := (-1)) hx hb dX12_span_152 (by decide) ?_
                              exact kl_i (v := (-1)) hQQ hx hb hr hlocks hS dX12_span_153 (fun PZ9 kZ9 => kZ9 0 (-1) eL eB eD zs (⟨hP, hD⟩) (g_eL) (g_eB) (g_zs) (by show zs.toInt ≤ zs.toInt + 1 ∧ zs.toInt ≤ zs.toInt; omega) (Or.inr ⟨rfl, rfl, rfl, rfl, spanR_no (by omega) ex_35 ex_36 (by omega) (by omega) (fun z => by have z1 := z.1; unfold isLz at z1; omega)⟩) (Or.inr ⟨fun ⟨t9, z1, z2, z3⟩ => (spanR_no (by omega) ex_35 ex_36 (by omega) (by omega) (fun z => by have z1 := z.1; unfold isLz at z1; omega)) t9 z1 z2 z3, rfl⟩))
                            · have tc_38 : ¬ r_37.toInt = 0 := v_ne c_38
                              have tl_x_36 : 0 ≤ x_36.toInt ∧ x_36.toInt ≤ 65535 := by omega
                              refine lv_aload_n hx hb dX12_span_115 rfl (lv_at hl 3 rfl) ?_
                              refine va_get (D := (dC, dI)) (ci := 12) (v := .ref mL) (C := RX12) (T := TX12) (N := 40) hx hb hts in_X12 hown hK hP 0 rfl rfl 6 (Nat.le_of_ble_eq_true rfl) (hts (.fieldLink RX12 19 "TextMenderModel" "letterOf" "[I") (List.mem_of_getElem? (i := 3) rfl)) (fun _ h9 => h9) rfl dX12_span_116 ?_
                              refine lv_sipush (v := 256) hx hb dX12_span_119 (by decide) ?_
                              refine lv_iload hx hb dX12_span_122 (lv_at hl 2 rfl) ?_
                              refine lv_imul hx hb dX12_span_124 ?_
                              refine lv_topi (fun x_39 ex_39 => ?_)
                              have tx_39 : x_39.toInt = 256 * x_11.toInt := v_mul ex_39 (by show -2147483648 ≤ 256 * x_11.toInt; omega) (by show 256 * x_11.toInt < 2147483648; omega)
                              refine lv_iload_n hx hb dX12_span_125 rfl (lv_at hl 5 rfl) ?_
                              refine lv_iadd hx hb dX12_span_126 ?_
                              refine lv_topi (fun x_40 ex_40 => ?_)
                              have tx_40 : x_40.toInt = x_39.toInt + fr.toInt := v_add ex_40 (by show -2147483648 ≤ x_39.toInt + fr.toInt; omega) (by show x_39.toInt + fr.toInt < 2147483648; omega)
                              refine lv_iload hx hb dX12_span_127 (lv_at hl 1 rfl) ?_
                              refine lv_iadd hx hb dX12_span_129 ?_
                              refine lv_topi (fun x_41 ex_41 => ?_)
                              have tx_41 : x_41.toInt = x_40.toInt + k.toInt := v_add ex_41 (by show -2147483648 ≤ x_40.toInt + k.toInt; omega) (by show x_40.toInt + k.toInt < 2147483648; omega)
                              refine va_iald hx hb hK hP 1 0 rfl rfl (v_in (by omega)) dX12_span_130 ?_
                              refine lv_topi (fun x_42 ex_42 => ?_)
                              have tx_42 : -1 ≤ x_42.toInt ∧ x_42.toInt ≤ 65535 := rg_at g_eL ex_42
                              refine lv_iconst (v := (-1)) hx hb dX12_span_131 (by decide) ?_
                              refine lv_icmp_ne (tgt := 152) hx hb dX12_span_132 (by decide) (fun c_43 => ?_) (fun c_43 => ?_)
                              · have tc_43 : ¬ x_42.toInt = (-1) := v_ne c_43
                                refine lv_iconst (v := (-1)) hx hb dX12_span_152 (by decide) ?_
                                exact kl_i (v := (-1)) hQQ hx hb hr hlocks hS dX12_span_153 (fun PZ9 kZ9 => kZ9 0 (-1) eL eB eD zs (⟨hP, hD⟩) (g_eL) (g_eB) (g_zs) (by show zs.toInt ≤ zs.toInt + 1 ∧ zs.toInt ≤ zs.toInt; omega) (Or.inr ⟨rfl, rfl, rfl, rfl, spanR_no (by omega) ex_35 ex_36 (by omega) (by omega) (fun z => c_43 (by rw [ex_42, ix_eq (x := x_41) (N := 256 * (cd.toInt - 4).toNat + (fr.toInt + k.toInt).toNat) (by omega)]; exact z.2.1))⟩) (Or.inr ⟨fun ⟨t9, z1, z2, z3⟩ => (spanR_no (by omega) ex_35 ex_36 (by omega) (by omega) (fun z => c_43 (by rw [ex_42, ix_eq (x := x_41) (N := 256 * (cd.toInt - 4).toNat + (fr.toInt + k.toInt).toNat) (by omega)]; exact z.2.1))) t9 z1 z2 z3, rfl⟩))
                              · have tc_43 : x_42.toInt = (-1) := v_eq c_43
                                refine lv_aload_n hx hb dX12_span_135 rfl (lv_at hl 3 rfl) ?_
                                refine va_get (D := (dC, dI)) (ci := 12) (v := .ref mB) (C := RX12) (T := TX12) (N := 40) hx hb hts in_X12 hown hK hP 0 rfl rfl 7 (Nat.le_of_ble_eq_true rfl) (hts (.fieldLink RX12 23 "TextMenderModel" "byteOfLetter" "[S") (List.mem_of_getElem? (i := 4) rfl)) (fun _ h9 => h9) rfl dX12_span_136 ?_
                                refine lv_ldc hx hb hown (hts (.constant RX12 88 (65536)) (List.mem_of_getElem? (i := 5) rfl)) dX12_span_139 ?_
                                refine lv_iload hx hb dX12_span_141 (lv_at hl 2 rfl) ?_
                                refine lv_imul hx hb dX12_span_143 ?_
                                refine lv_topi (fun x_44 ex_44 => ?_)
                                have tx_44 : x_44.toInt = 65536 * x_11.toInt := v_mul ex_44 (by show -2147483648 ≤ 65536 * x_11.toInt; omega) (by show 65536 * x_11.toInt < 2147483648; omega)
                                refine lv_iload hx hb dX12_span_144 (lv_at hl 0 rfl) ?_
                                refine lv_iadd hx hb dX12_span_146 ?_
                                refine lv_topi (fun x_45 ex_45 => ?_)
                                have tx_45 : x_45.toInt = x_44.toInt + x_36.toInt := v_add ex_45 (by show -2147483648 ≤ x_44.toInt + x_36.toInt; omega) (by show x_44.toInt + x_36.toInt < 2147483648; omega)
                                refine va_sald hx hb hK hP 2 1 rfl rfl (v_in (by omega)) dX12_span_147 ?_
                                refine lv_topi (fun x_46 ex_46 => ?_)
                                have tx_46 : -1 ≤ x_46.toInt ∧ x_46.toInt ≤ 255 := rg_at g_eB ex_46
                                refine lv_iconst (v := (-1)) hx hb dX12_span_148 (by decide) ?_
                                refine lv_icmp_eq (tgt := 154) hx hb dX12_span_149 (by decide) (fun c_47 => ?_) (fun c_47 => ?_)
                                · have tc_47 : x_46.toInt = (-1) := v_eq c_47
                                  obtain ⟨x_48, ex_48⟩ : ∃ y : Int32, y = k + 1 := ⟨_, rfl⟩
                                  have tx_48 : x_48.toInt = k.toInt + 1 := v_addR (l2 := 1) (h2 := 1) ex_48 g_k (by decide) (by decide) (by decide)
                                  refine lv_iinc (v := x_48) (lv' := [(7, .int x_48), (8, .int x_36), (6, .int x_11), (0, .ref oM), (1, .int cd), (2, .int fr), (3, .int n), (4, .int le), (5, .int sp)]) hx hb dX12_span_154 hl (k := 1) rfl (by rw [ex_48]; rfl) (by decide) rfl (fun ls hl => ?_)
                                  refine lv_goto (tgt := 91) hx hb dX12_span_157 (by decide) ?_
                                  exact ih_91 x_48 _ _ _ (ms_lt hm_91 (by show ((256 - x_48.toInt : Int)) < 256 - k.toInt; omega) (by show (0 : Int) < 256 - k.toInt; omega)) (by show 0 ≤ x_48.toInt ∧ x_48.toInt ≤ 256; omega) (CTk_s hct ex_35 ex_36 (by omega) (by unfold isLz; omega) (by unfold pL; rw [← ix_eq (x := x_41) (N := 256 * (cd.toInt - 4).toNat + (fr.toInt + k.toInt).toNat) (by omega), ← ex_42]; exact c_43) (by unfold pB; have c9 := v_clamp (x := x_36) (by omega); rw [← ix_eq (x := x_45) (N := 65536 * (cd.toInt - 4).toNat + x_36.toNatClampNeg) (by omega), ← ex_46]; exact c_47)) hP hD hS (lv_sub hl [0, 2, 3, 4, 5, 6, 7, 8] rfl)
                                · have tc_47 : ¬ x_46.toInt = (-1) := v_ne c_47
                                  refine lv_iconst (v := (-1)) hx hb dX12_span_152 (by decide) ?_
                                  exact kl_i (v := (-1)) hQQ hx hb hr hlocks hS dX12_span_153 (fun PZ9 kZ9 => kZ9 0 (-1) eL eB eD zs (⟨hP, hD⟩) (g_eL) (g_eB) (g_zs) (by show zs.toInt ≤ zs.toInt + 1 ∧ zs.toInt ≤ zs.toInt; omega) (Or.inr ⟨rfl, rfl, rfl, rfl, spanR_no (by omega) ex_35 ex_36 (by omega) (by omega) (fun z => c_47 (by have c9 := v_clamp (x := x_36) (by omega); rw [ex_46, ix_eq (x := x_45) (N := 65536 * (cd.toInt - 4).toNat + x_36.toNatClampNeg) (by omega)]; exact z.2.2))⟩) (Or.inr ⟨fun ⟨t9, z1, z2, z3⟩ => (spanR_no (by omega) ex_35 ex_36 (by omega) (by omega) (fun z => c_47 (by have c9 := v_clamp (x := x_36) (by omega); rw [ex_46, ix_eq (x := x_45) (N := 65536 * (cd.toInt - 4).toNat + x_36.toNatClampNeg) (by omega)]; exact z.2.2))) t9 z1 z2 z3, rfl⟩))
                      exact LOOP_91 _ 0 _ _ _ (ms_s _) (by decide) (CTk_0 (by decide)) hP hD hS (lv_sub hl [0, 1, 2, 3, 4, 5, 6, 7] rfl)
                    · have tc_13 : r_12.toInt = 0 := v_eq c_13
                      refine lv_iconst (v := (-1)) hx hb dX12_span_86 (by decide) ?_
                      exact kl_i (v := (-1)) hQQ hx hb hr hlocks hS dX12_span_87 (fun PZ9 kZ9 => kZ9 0 (-1) eL eB eD zs (⟨hP, hD⟩) (g_eL) (g_eB) (g_zs) (by show zs.toInt ≤ zs.toInt + 1 ∧ zs.toInt ≤ zs.toInt; omega) (Or.inr ⟨rfl, rfl, rfl, rfl, fun t h1 h2 c => by have c1 := c.1; unfold isLz at c1; omega⟩) (Or.inr ⟨fun ⟨t9, z1, z2, z3⟩ => (fun t h1 h2 c => by have c1 := c.1; unfold isLz at c1; omega) t9 z1 z2 z3, rfl⟩))
                  · have tc_10 : 1 < n.toInt := v_nle c_10
                    refine lv_iload hx hb dX12_span_66 (lv_at hl 5 rfl) ?_
                    refine lv_if_ne (tgt := 73) hx hb dX12_span_68 (by decide) (fun c_49 => ?_) (fun c_49 => ?_)
                    · have tc_49 : ¬ sp.toInt = 0 := v_ne c_49
                      refine lv_iload_n hx hb dX12_span_73 rfl (lv_at hl 1 rfl) ?_
                      refine lv_iconst (v := 4) hx hb dX12_span_74 (by decide) ?_
                      refine lv_isub hx hb dX12_span_75 ?_
                      refine lv_topi (fun x_50 ex_50 => ?_)
                      have tx_50 : x_50.toInt = cd.toInt - 4 := v_sub ex_50 (by show -2147483648 ≤ cd.toInt - 4; omega) (by show cd.toInt - 4 < 2147483648; omega)
                      refine lv_istore (lv' := [(6, .int x_50), (0, .ref oM), (1, .int cd), (2, .int fr), (3, .int n), (4, .int le), (5, .int sp)]) hx hb dX12_span_76 hl (by decide) rfl (fun ls hl => ?_)
                      refine lv_iload hx hb dX12_span_78 (lv_at hl 5 rfl) ?_
                      refine kS_i (rest := []) hcf (m_X12_isLetter l dC dI cI cS H.size le ) kc_X12_isLetter gX12_span_X12_isLetter rfl rfl ⟨Nat.le_of_ble_eq_true rfl, Nat.le_of_ble_eq_true rfl⟩ kX_t hK hP hD hS hA [] [0, 1, 2, 3] rfl (by decide +kernel) rfl hl rfl (Nat.le_of_ble_eq_true rfl) dX12_span_80 ⟨Nat.le_of_ble_eq_true rfl, Nat.le_of_ble_eq_true rfl⟩ (fun r_51 H locs hB hJ hSn => ?_)
                      refine hB _ (fun hPD9 hf51_0 hf51_1 => ?_)
                      clear hB
                      obtain ⟨hPn, hDn⟩ := hJ _ hPD9.1 hPD9.2 [(oM, .inr (12, [.ref mT, .int zt, .ref mS, .ref mX, .int zp, .int zf, .ref mL, .ref mB, .ref mD, .ref m1, .ref m2, .int zh, .ref mR, .int zr, .ref x1, .ref x2, .ref x3, .int zc, .ref mH, .int zy, .int za, .int zb, .int zs, .int zq, .int (-1), .int 0, .ref mY, .int zn, .ref mE, .int zm, .int zl, .ref mW, .int zk, .ref mO, .int zd, .ref y1, .ref y2, .ref y3, .ref y4, .ref mZ])), (mL, .inl (cI, 512, .inl eL)), (mB, .inl (cS, 131072, .inl eB)), (mD, .inl (cI, 2, .inl eD))] rfl
                      clear hP hD hS hJ hPD9
                      have hP := hPn
                      have hD := hDn
                      have hS := hSn
                      clear hPn hDn hSn
                      refine lv_if_ne (tgt := 88) hx hb dX12_span_83 (by decide) (fun c_52 => ?_) (fun c_52 => ?_)
                      · have tc_52 : ¬ r_51.toInt = 0 := v_ne c_52
                        refine lv_iconst (v := 0) hx hb dX12_span_88 (by decide) ?_
                        refine lv_istore (lv' := [(7, .int 0), (6, .int x_50), (0, .ref oM), (1, .int cd), (2, .int fr), (3, .int n), (4, .int le), (5, .int sp)]) hx hb dX12_span_89 hl (by decide) rfl (fun ls hl => ?_)
                        have LOOP_91 : ∀ (k_91 : Nat) (k : Int32) (H : Heap) (locs : List Loc) (ls : Array Slot), MSd (256 - k.toInt : Int) k_91 → (0 ≤ k.toInt ∧ k.toInt ≤ 256) → (CTk k.toInt fr le sp (pL (cd.toInt - 4).toNat eL) (pB (cd.toInt - 4).toNat eB)) → va_P (dC, dI) vwCl [(oM, .inr (12, [.ref mT, .int zt, .ref mS, .ref mX, .int zp, .int zf, .ref mL, .ref mB, .ref mD, .ref m1, .ref m2, .int zh, .ref mR, .int zr, .ref x1, .ref x2, .ref x3, .int zc, .ref mH, .int zy, .int za, .int zb, .int zs, .int zq, .int (-1), .int 0, .ref mY, .int zn, .ref mE, .int zm, .int zl, .ref mW, .int zk, .ref mO, .int zd, .ref y1, .ref y2, .ref y3, .ref y4, .ref mZ])), (mL, .inl (cI, 512, .inl eL)), (mB, .inl (cS, 131072, .inl eB)), (mD, .inl (cI, 2, .inl eD))] H → va_D A [(oM, .inr (12, [.ref mT, .int zt, .ref mS, .ref mX, .int zp, .int zf, .ref mL, .ref mB, .ref mD, .ref m1, .ref m2, .int zh, .ref mR, .int zr, .ref x1, .ref x2, .ref x3, .int zc, .ref mH, .int zy, .int za, .int zb, .int zs, .int zq, .int (-1), .int 0, .ref mY, .int zn, .ref mE, .int zm, .int zl, .ref mW, .int zk, .ref mO, .int zd, .ref y1, .ref y2, .ref y3, .ref y4, .ref mZ])), (mL, .inl (cI, 512, .inl eL)), (mB, .inl (cS, 131072, .inl eB)), (mD, .inl (cI, 2, .inl eD))] → va_S A s.heap H locs → lv_has ls 9 [(7, .int k), (6, .int x_50), (0, .ref oM), (1, .int cd), (2, .int fr), (3, .int n), (4, .int le), (5, .int sp)] → W p l e (headSpec wsX12_span ({ frames := 1, cells := 0, slots := 0, locals := 20 } : Room)).room s m ([.ref oM, .int cd, .int fr, .int n, .int le, .int sp] : List Value).toArray below meth c H locs 0 0 (MQ below QQ ([.ref oM, .int cd, .int fr, .int n, .int le, .int sp] : List Value).toArray s 0 0 A) (F0 m 91 ls []) := by
                          clear hP hD hS hl
                          intro k_91
                          induction k_91 with
                          | zero =>
                            intro k H locs ls hm_91 g_k hct hP hD hS hl
                            exact ms_0 hm_91
                          | succ k_91 ih_91 =>
                            intro k H locs ls hm_91 g_k hct hP hD hS hl
                            refine lv_iload hx hb dX12_span_91 (lv_at hl 0 rfl) ?_
                            refine lv_iload_n hx hb dX12_span_93 rfl (lv_at hl 5 rfl) ?_
                            refine lv_icmp_ge (tgt := 160) hx hb dX12_span_94 (by decide) (fun c_53 => ?_) (fun c_53 => ?_)
                            · have tc_53 : n.toInt ≤ k.toInt := v_le c_53
                              have hCT : CT fr n le sp (pL (cd.toInt - 4).toNat eL) (pB (cd.toInt - 4).toNat eB) := ⟨by unfold isLz; omega, CTk_le hct (by omega)⟩
                              have hokn : ∀ q : Int32, 0 ≤ q.toInt → q.toInt < n.toInt → 0 ≤ (le + q * sp).toInt ∧ (le + q * sp).toInt ≤ 65535 := fun q h1 h2 => ⟨(hCT.2 q h1 h2).1.1, (hCT.2 q h1 h2).1.2.1⟩
                              refine lv_iconst (v := 0) hx hb dX12_span_160 (by decide) ?_
                              refine lv_istore (lv' := [(7, .int 0), (6, .int x_50), (0, .ref oM), (1, .int cd), (2, .int fr), (3, .int n), (4, .int le), (5, .int sp)]) hx hb dX12_span_161 hl (by decide) rfl (fun ls hl => ?_)
                              have LOOP_163 : ∀ (k_163 : Nat) (k2 : Int32) (eLa : Nat → Int32) (eBa : Nat → Int32) (H : Heap) (locs : List Loc) (ls : Array Slot), MSd (256 - k2.toInt : Int) k_163 → (0 ≤ k2.toInt ∧ k2.toInt ≤ 256) → (rg (-1) 65535 eLa) → (rg (-1) 255 eBa) → (k2.toInt ≤ n.toInt) → (SPR (cd.toInt - 4).toNat k2 fr le sp eL eB eLa eBa) → va_P (dC, dI) vwCl [(oM, .inr (12, [.ref mT, .int zt, .ref mS, .ref mX, .int zp, .int zf, .ref mL, .ref mB, .ref mD, .ref m1, .ref m2, .int zh, .ref mR, .int zr, .ref x1, .ref x2, .ref x3, .int zc, .ref mH, .int zy, .int za, .int zb, .int zs, .int zq, .int (-1), .int 0, .ref mY, .int zn, .ref mE, .int zm, .int zl, .ref mW, .int zk, .ref mO, .int zd, .ref y1, .ref y2, .ref y3, .ref y4, .ref mZ])), (mL, .inl (cI, 512, .inl eLa)), (mB, .inl (cS, 131072, .inl eBa)), (mD, .inl (cI, 2, .inl eD))] H → va_D A [(oM, .inr (12, [.ref mT, .int zt, .ref mS, .ref mX, .int zp, .int zf, .ref mL, .ref mB, .ref mD, .ref m1, .ref m2, .int zh, .ref mR, .int zr, .ref x1, .ref x2, .ref x3, .int zc, .ref mH, .int zy, .int za, .int zb, .int zs, .int zq, .int (-1), .int 0, .ref mY, .int zn, .ref mE, .int zm, .int zl, .ref mW, .int zk, .ref mO, .int zd, .ref y1, .ref y2, .ref y3, .ref y4, .ref mZ])), (mL, .inl (cI, 512, .inl eLa)), (mB, .inl (cS, 131072, .inl eBa)), (mD, .inl (cI, 2, .inl eD))] → va_S A s.heap H locs → lv_has ls 9 [(7, .int k2), (6, .int x_50), (0, .ref oM), (1, .int cd), (2, .int fr), (3, .int n), (4, .int le), (5, .int sp)] → W p l e (headSpec wsX12_span ({ frames := 1, cells := 0, slots := 0, locals := 20 } : Room)).room s m ([.ref oM, .int cd, .int fr, .int n, .int le, .int sp] : List Value).toArray below meth c H locs 0 0 (MQ below QQ ([.ref oM, .int cd, .int fr, .int n, .int le, .int sp] : List Value).toArray s 0 0 A) (F0 m 163 ls []) := by
                                clear hP hD hS hl
                                intro k_163
                                induction k_163 with
                                | zero =>
                                  intro k2 eLa eBa H locs ls hm_163 g_k2 g_eLa g_eBa hkn hspr hP hD hS hl
                                  exact ms_0 hm_163
                                | succ k_163 ih_163 =>
                                  intro k2 eLa eBa H locs ls hm_163 g_k2 g_eLa g_eBa hkn hspr hP hD hS hl
                                  refine lv_iload hx hb dX12_span_163 (lv_at hl 0 rfl) ?_
                                  refine lv_iload_n hx hb dX12_span_165 rfl (lv_at hl 5 rfl) ?_
                                  refine lv_icmp_ge (tgt := 223) hx hb dX12_span_166 (by decide) (fun c_54 => ?_) (fun c_54 => ?_)
                                  · have tc_54 : n.toInt ≤ k2.toInt := v_le c_54
                                    refine lv_aload_n hx hb dX12_span_223 rfl (lv_at hl 2 rfl) ?_
                                    refine va_get (D := (dC, dI)) (ci := 12) (v := .ref mD) (C := RX12) (T := TX12) (N := 40) hx hb hts in_X12 hown hK hP 0 rfl rfl 8 (Nat.le_of_ble_eq_true rfl) (hts (.fieldLink RX12 27 "TextMenderModel" "told" "[I") (List.mem_of_getElem? (i := 6) rfl)) (fun _ h9 => h9) rfl dX12_span_224 ?_
                                    refine lv_iload hx hb dX12_span_227 (lv_at hl 1 rfl) ?_
                                    refine lv_dup2_11 hx hb dX12_span_229 rfl rfl ?_
                                    refine va_iald hx hb hK hP 3 0 rfl rfl (v_in (by omega)) dX12_span_230 ?_
                                    refine lv_topi (fun x_55 ex_55 => ?_)
                                    refine lv_iload_n hx hb dX12_span_231 rfl (lv_at hl 5 rfl) ?_
                                    refine lv_iadd hx hb dX12_span_232 ?_
                                    refine lv_topi (fun x_56 ex_56 => ?_)
                                    have rv56_0 := v_rng x_55
                                    obtain ⟨f_57, ef_57⟩ : ∃ g : Nat → Int32, g = upd eD (x_50 : Int32).toNatClampNeg x_56 := ⟨_, rfl⟩
                                    refine va_iast hx hb hK hP hD hS 3 0 rfl rfl (v_in (by omega)) dX12_span_233 (kWf (g := f_57) (F := fun f_57 => [(oM, .inr (12, [.ref mT, .int zt, .ref mS, .ref mX, .int zp, .int zf, .ref mL, .ref mB, .ref mD, .ref m1, .ref m2, .int zh, .ref mR, .int zr, .ref x1, .ref x2, .ref x3, .int zc, .ref mH, .int zy, .int za, .int zb, .int zs, .int zq, .int (-1), .int 0, .ref mY, .int zn, .ref mE, .int zm, .int zl, .ref mW, .int zk, .ref mO, .int zd, .ref y1, .ref y2, .ref y3, .ref y4, .ref mZ])), (mL, .inl (cI, 512, .inl eLa)), (mB, .inl (cS, 131072, .inl eBa)), (mD, .inl (cI, 2, .inl f_57))]) ef_57 rfl (fun H locs hPn hDn hSn => ?_))
                                    clear hP hD hS
                                    have hP := hPn
                                    have hD := hDn
                                    have hS := hSn
                                    clear hPn hDn hSn
                                    refine lv_aload_n hx hb dX12_span_234 rfl (lv_at hl 2 rfl) ?_
                                    refine lv_dup hx hb dX12_span_235 rfl ?_
                                    refine va_get (D := (dC, dI)) (ci := 12) (v := .int zs) (C := RX12) (T := TX12) (N := 40) hx hb hts in_X12 hown hK hP 0 rfl rfl 22 (Nat.le_of_ble_eq_true rfl) (hts (.fieldLink RX12 148 "TextMenderModel" "state" "I") (List.mem_of_getElem? (i := 7) rfl)) (fun _ h9 => h9) rfl dX12_span_236 ?_
                                    refine lv_iconst (v := 1) hx hb dX12_span_239 (by decide) ?_
                                    refine lv_iadd hx hb dX12_span_240 ?_
                                    refine lv_topi (fun x_58 ex_58 => ?_)
                                    have tx_58 : x_58.toInt = zs.toInt + 1 := v_addR (l2 := 1) (h2 := 1) ex_58 g_zs (by decide) (by decide) (by decide)
                                    refine va_put (D := (dC, dI)) (ci := 12) (v := .int x_58) (ty := .int) (C := RX12) (T := TX12) (N := 40) hx hb hts in_X12 tyX12 tyX12_ok nmX12 hown hK hP hD hS 0 rfl rfl 22 (Nat.le_of_ble_eq_true rfl) (hts (.fieldLink RX12 148 "TextMenderModel" "state" "I") (List.mem_of_getElem? (i := 7) rfl)) (fun _ h9 => h9) rfl (tyX12_ok 22 (Nat.le_of_ble_eq_true rfl)) rfl rfl (Nat.le_of_ble_eq_true rfl) dX12_span_241 (kW (wn := [(oM, .inr (12, [.ref mT, .int zt, .ref mS, .ref mX, .int zp, .int zf, .ref mL, .ref mB, .ref mD, .ref m1, .ref m2, .int zh, .ref mR, .int zr, .ref x1, .ref x2, .ref x3, .int zc, .ref mH, .int zy, .int za, .int zb, .int x_58, .int zq, .int (-1), .int 0, .ref mY, .int zn, .ref mE, .int zm, .int zl, .ref mW, .int zk, .ref mO, .int zd, .ref y1, .ref y2, .ref y3, .ref y4, .ref mZ])), (mL, .inl (cI, 512, .inl eLa)), (mB, .inl (cS, 131072, .inl eBa)), (mD, .inl (cI, 2, .inl f_57))]) rfl (fun H locs hPn hDn hSn => ?_))
                                    clear hP hD hS
                                    have hP := hPn
                                    have hD := hDn
                                    have hS := hSn
                                    clear hPn hDn hSn
                                    refine lv_aload_n hx hb dX12_span_244 rfl (lv_at hl 2 rfl) ?_
                                    refine va_get (D := (dC, dI)) (ci := 12) (v := .ref mD) (C := RX12) (T := TX12) (N := 40) hx hb hts in_X12 hown hK hP 0 rfl rfl 8 (Nat.le_of_ble_eq_true rfl) (hts (.fieldLink RX12 27 "TextMenderModel" "told" "[I") (List.mem_of_getElem? (i := 6) rfl)) (fun _ h9 => h9) rfl dX12_span_245 ?_
                                    refine lv_iload hx hb dX12_span_248 (lv_at hl 1 rfl) ?_
                                    refine va_iald hx hb hK hP 3 0 rfl rfl (v_in (by omega)) dX12_span_250 ?_
                                    refine lv_topi (fun x_59 ex_59 => ?_)
                                    exact kl_i (v := x_59) hQQ hx hb hr hlocks hS dX12_span_251 (fun PZ9 kZ9 => kZ9 0 (-1) eLa eBa f_57 x_58 (⟨hP, hD⟩) (g_eLa) (g_eBa) (by omega) (by show x_58.toInt ≤ zs.toInt + 1 ∧ zs.toInt ≤ x_58.toInt; omega) (Or.inl ⟨(cd.toInt - 4).toNat, by omega, by omega, hCT, SPR_n hspr (by omega), (spanR_d (cd := cd) (by omega) (by omega) ex_55 ex_56 ef_57 ex_59).1, (spanR_d (cd := cd) (by omega) (by omega) ex_55 ex_56 ef_57 ex_59).2⟩) (Or.inl ⟨⟨(cd.toInt - 4).toNat, by omega, by omega, hCT⟩, by omega⟩))
                                  · have tc_54 : k2.toInt < n.toInt := v_nle c_54
                                    refine lv_aload_n hx hb dX12_span_169 rfl (lv_at hl 2 rfl) ?_
                                    refine va_get (D := (dC, dI)) (ci := 12) (v := .ref mL) (C := RX12) (T := TX12) (N := 40) hx hb hts in_X12 hown hK hP 0 rfl rfl 6 (Nat.le_of_ble_eq_true rfl) (hts (.fieldLink RX12 19 "TextMenderModel" "letterOf" "[I") (List.mem_of_getElem? (i := 3) rfl)) (fun _ h9 => h9) rfl dX12_span_170 ?_
                                    refine lv_sipush (v := 256) hx hb dX12_span_173 (by decide) ?_
                                    refine lv_iload hx hb dX12_span_176 (lv_at hl 1 rfl) ?_
                                    refine lv_imul hx hb dX12_span_178 ?_
                                    refine lv_topi (fun x_60 ex_60 => ?_)
                                    have tx_60 : x_60.toInt = 256 * x_50.toInt := v_mul ex_60 (by show -2147483648 ≤ 256 * x_50.toInt; omega) (by show 256 * x_50.toInt < 2147483648; omega)
                                    refine lv_iload_n hx hb dX12_span_179 rfl (lv_at hl 4 rfl) ?_
                                    refine lv_iadd hx hb dX12_span_180 ?_
                                    refine lv_topi (fun x_61 ex_61 => ?_)
                                    have tx_61 : x_61.toInt = x_60.toInt + fr.toInt := v_add ex_61 (by show -2147483648 ≤ x_60.toInt + fr.toInt; omega) (by show x_60.toInt + fr.toInt < 2147483648; omega)
                                    refine lv_iload hx hb dX12_span_181 (lv_at hl 0 rfl) ?_
                                    refine lv_iadd hx hb dX12_span_183 ?_
                                    refine lv_topi (fun x_62 ex_62 => ?_)
                                    have tx_62 : x_62.toInt = x_61.toInt + k2.toInt := v_add ex_62 (by show -2147483648 ≤ x_61.toInt + k2.toInt; omega) (by show x_61.toInt + k2.toInt < 2147483648; omega)
                                    refine lv_iload hx hb dX12_span_184 (lv_at hl 6 rfl) ?_
                                    refine lv_iload hx hb dX12_span_186 (lv_at hl 0 rfl) ?_
                                    refine lv_iload hx hb dX12_span_188 (lv_at hl 7 rfl) ?_
                                    refine lv_imul hx hb dX12_span_190 ?_
                                    refine lv_topi (fun x_63 ex_63 => ?_)
                                    refine lv_iadd hx hb dX12_span_191 ?_
                                    refine lv_topi (fun x_64 ex_64 => ?_)
                                    have rv64_1 := v_rng x_63
                                    have ts_x_64 := sp_at (n := n.toInt) hokn ex_63 ex_64 (by omega) (by omega)
                                    obtain ⟨f_65, ef_65⟩ : ∃ g : Nat → Int32, g = upd eLa (x_62 : Int32).toNatClampNeg x_64 := ⟨_, rfl⟩
                                    refine va_iast hx hb hK hP hD hS 1 0 rfl rfl (v_in (by omega)) dX12_span_192 (kWf (g := f_65) (F := fun f_65 => [(oM, .inr (12, [.ref mT, .int zt, .ref mS, .ref mX, .int zp, .int zf, .ref mL, .ref mB, .ref mD, .ref m1, .ref m2, .int zh, .ref mR, .int zr, .ref x1, .ref x2, .ref x3, .int zc, .ref mH, .int zy, .int za, .int zb, .int zs, .int zq, .int (-1), .int 0, .ref mY, .int zn, .ref mE, .int zm, .int zl, .ref mW, .int zk, .ref mO, .int zd, .ref y1, .ref y2, .ref y3, .ref y4, .ref mZ])), (mL, .inl (cI, 512, .inl f_65)), (mB, .inl (cS, 131072, .inl eBa)), (mD, .inl (cI, 2, .inl eD))]) ef_65 rfl (fun H locs hPn hDn hSn => ?_))
                                    clear hP hD hS
                                    have hP := hPn
                                    have hD := hDn
                                    have hS := hSn
                                    clear hPn hDn hSn
                                    have g_f65 : rg (-1) 65535 f_65 := rg_upd ef_65 g_eLa (by omega)
                                    refine lv_aload_n hx hb dX12_span_193 rfl (lv_at hl 2 rfl) ?_
                                    refine va_get (D := (dC, dI)) (ci := 12) (v := .ref mB) (C := RX12) (T := TX12) (N := 40) hx hb hts in_X12 hown hK hP 0 rfl rfl 7 (Nat.le_of_ble_eq_true rfl) (hts (.fieldLink RX12 23 "TextMenderModel" "byteOfLetter" "[S") (List.mem_of_getElem? (i := 4) rfl)) (fun _ h9 => h9) rfl dX12_span_194 ?_
                                    refine lv_ldc hx hb hown (hts (.constant RX12 88 (65536)) (List.mem_of_getElem? (i := 5) rfl)) dX12_span_197 ?_
                                    refine lv_iload hx hb dX12_span_199 (lv_at hl 1 rfl) ?_
                                    refine lv_imul hx hb dX12_span_201 ?_
                                    refine lv_topi (fun x_66 ex_66 => ?_)
                                    have tx_66 : x_66.toInt = 65536 * x_50.toInt := v_mul ex_66 (by show -2147483648 ≤ 65536 * x_50.toInt; omega) (by show 65536 * x_50.toInt < 2147483648; omega)
                                    refine lv_iload hx hb dX12_span_202 (lv_at hl 6 rfl) ?_
                                    refine lv_iadd hx hb dX12_span_204 ?_
                                    refine lv_topi (fun x_67 ex_67 => ?_)
                                    have tx_67 : x_67.toInt = x_66.toInt + le.toInt := v_add ex_67 (by show -2147483648 ≤ x_66.toInt + le.toInt; omega) (by show x_66.toInt + le.toInt < 2147483648; omega)
                                    refine lv_iload hx hb dX12_span_205 (lv_at hl 0 rfl) ?_
                                    refine lv_iload hx hb dX12_span_207 (lv_at hl 7 rfl) ?_
                                    refine lv_imul hx hb dX12_span_209 ?_
                                    refine lv_topi (fun x_68 ex_68 => ?_)
                                    refine lv_iadd hx hb dX12_span_210 ?_
                                    refine lv_topi (fun x_69 ex_69 => ?_)
                                    have rv69_1 := v_rng x_68
                                    have ts_x_69 := sp_ix (n := n.toInt) hokn ex_68 ex_67 ex_69 (by omega) (by omega) (by omega)
                                    refine lv_iload_n hx hb dX12_span_211 rfl (lv_at hl 4 rfl) ?_
                                    refine lv_iload hx hb dX12_span_212 (lv_at hl 0 rfl) ?_
                                    refine lv_iadd hx hb dX12_span_214 ?_
                                    refine lv_topi (fun x_70 ex_70 => ?_)
                                    have tx_70 : x_70.toInt = fr.toInt + k2.toInt := v_add ex_70 (by show -2147483648 ≤ fr.toInt + k2.toInt; omega) (by show fr.toInt + k2.toInt < 2147483648; omega)
                                    obtain ⟨x_71, ex_71⟩ : ∃ v : Int32, v = (x_70 : Int32).toInt16.toInt32 := ⟨_, rfl⟩
                                    refine lv_i2s (v := x_71) hx hb dX12_span_215 ex_71.symm ?_
                                    have tx_71 : x_71.toInt = x_70.toInt := v_i2s ex_71 (by omega)
                                    obtain ⟨f_72, ef_72⟩ : ∃ g : Nat → Int32, g = upd eBa (x_69 : Int32).toNatClampNeg (vp_nar .short x_71) := ⟨_, rfl⟩
                                    refine va_sast hx hb hK hP hD hS 2 1 rfl rfl (v_in (by omega)) dX12_span_216 (kWf (g := f_72) (F := fun f_72 => [(oM, .inr (12, [.ref mT, .int zt, .ref mS, .ref mX, .int zp, .int zf, .ref mL, .ref mB, .ref mD, .ref m1, .ref m2, .int zh, .ref mR, .int zr, .ref x1, .ref x2, .ref x3, .int zc, .ref mH, .int zy, .int za, .int zb, .int zs, .int zq, .int (-1), .int 0, .ref mY, .int zn, .ref mE, .int zm, .int zl, .ref mW, .int zk, .ref mO, .int zd, .ref y1, .ref y2, .ref y3, .ref y4, .ref mZ])), (mL, .inl (cI, 512, .inl f_65)), (mB, .inl (cS, 131072, .inl f_72)), (mD, .inl (cI, 2, .inl eD))]) ef_72 rfl (fun H locs hPn hDn hSn => ?_))
                                    clear hP hD hS
                                    have hP := hPn
                                    have hD := hDn
                                    have hS := hSn
                                    clear hPn hDn hSn
                                    have g_f72 : rg (-1) 255 f_72 := rg_upd ef_72 g_eBa (v_nars (by omega) (by omega))
                                    obtain ⟨x_73, ex_73⟩ : ∃ y : Int32, y = k2 + 1 := ⟨_, rfl⟩
                                    have tx_73 : x_73.toInt = k2.toInt + 1 := v_addR (l2 := 1) (h2 := 1) ex_73 g_k2 (by decide) (by decide) (by decide)
                                    refine lv_iinc (v := x_73) (lv' := [(7, .int x_73), (6, .int x_50), (0, .ref oM), (1, .int cd), (2, .int fr), (3, .int n), (4, .int le), (5, .int sp)]) hx hb dX12_span_217 hl (k := 0) rfl (by rw [ex_73]; rfl) (by decide) rfl (fun ls hl => ?_)
                                    refine lv_goto (tgt := 163) hx hb dX12_span_220 (by decide) ?_
                                    exact ih_163 x_73 f_65 f_72 _ _ _ (ms_lt hm_163 (by show ((256 - x_73.toInt : Int)) < 256 - k2.toInt; omega) (by show (0 : Int) < 256 - k2.toInt; omega)) (by show 0 ≤ x_73.toInt ∧ x_73.toInt ≤ 256; omega) (g_f65) (g_f72) (by show x_73.toInt ≤ n.toInt; omega) (SPR_s hCT hspr (by omega) (by omega) (by omega) ex_63 ex_64 ex_68 ex_67 ex_69 (z := x_66) (by omega) (a := x_62) (by omega) (w := vp_nar .short x_71) (by rw [v_nar_s (by omega)]; omega) ef_65 ef_72 (by omega)) hP hD hS (lv_sub hl [0, 1, 2, 3, 4, 5, 6, 7] rfl)
                              exact LOOP_163 _ 0 eL eB _ _ _ (ms_s _) (by decide) (g_eL) (g_eB) (by show 0 ≤ n.toInt; omega) (SPR_0) hP hD hS (lv_sub hl [0, 1, 2, 3, 4, 5, 6, 7] rfl)
                            · have tc_53 : k.toInt < n.toInt := v_nle c_53
                              refine lv_iload hx hb dX12_span_97 (lv_at hl 6 rfl) ?_
                              refine lv_iload hx hb dX12_span_99 (lv_at hl 0 rfl) ?_
                              refine lv_iload hx hb dX12_span_101 (lv_at hl 7 rfl) ?_
                              refine lv_imul hx hb dX12_span_103 ?_
                              refine lv_topi (fun x_74 ex_74 => ?_)
                              refine lv_iadd hx hb dX12_span_104 ?_
                              refine lv_topi (fun x_75 ex_75 => ?_)
                              have rv75_1 := v_rng x_74
                              refine lv_istore (lv' := [(8, .int x_75), (7, .int k), (6, .int x_50), (0, .ref oM), (1, .int cd), (2, .int fr), (3, .int n), (4, .int le), (5, .int sp)]) hx hb dX12_span_105 hl (by decide) rfl (fun ls hl => ?_)
                              refine lv_iload hx hb dX12_span_107 (lv_at hl 0 rfl) ?_
                              refine kS_i (rest := []) hcf (m_X12_isLetter l dC dI cI cS H.size x_75 ) kc_X12_isLetter gX12_span_X12_isLetter rfl rfl ⟨Nat.le_of_ble_eq_true rfl, Nat.le_of_ble_eq_true rfl⟩ kX_t hK hP hD hS hA [] [0, 1, 2, 3] rfl (by decide +kernel) rfl hl rfl (Nat.le_of_ble_eq_true rfl) dX12_span_109 ⟨Nat.le_of_ble_eq_true rfl, Nat.le_of_ble_eq_true rfl⟩ (fun r_76 H locs hB hJ hSn => ?_)
                              refine hB _ (fun hPD9 hf76_0 hf76_1 => ?_)
                              clear hB
                              obtain ⟨hPn, hDn⟩ := hJ _ hPD9.1 hPD9.2 [(oM, .inr (12, [.ref mT, .int zt, .ref mS, .ref mX, .int zp, .int zf, .ref mL, .ref mB, .ref mD, .ref m1, .ref m2, .int zh, .ref mR, .int zr, .ref x1, .ref x2, .ref x3, .int zc, .ref mH, .int zy, .int za, .int zb, .int zs, .int zq, .int (-1), .int 0, .ref mY, .int zn, .ref mE, .int zm, .int zl, .ref mW, .int zk, .ref mO, .int zd, .ref y1, .ref y2, .ref y3, .ref y4, .ref mZ])), (mL, .inl (cI, 512, .inl eL)), (mB, .inl (cS, 131072, .inl eB)), (mD, .inl (cI, 2, .inl eD))] rfl
                              clear hP hD hS hJ hPD9
                              have hP := hPn
                              have hD := hDn
                              have hS := hSn
                              clear hPn hDn hSn
                              refine lv_if_eq (tgt := 152) hx hb dX12_span_112 (by decide) (fun c_77 => ?_) (fun c_77 => ?_)
                              · have tc_77 : r_76.toInt = 0 := v_eq c_77
                                refine lv_iconst (v := (-1)) hx hb dX12_span_152 (by decide) ?_
                                exact kl_i (v := (-1)) hQQ hx hb hr hlocks hS dX12_span_153 (fun PZ9 kZ9 => kZ9 0 (-1) eL eB eD zs (⟨hP, hD⟩) (g_eL) (g_eB) (g_zs) (by show zs.toInt ≤ zs.toInt + 1 ∧ zs.toInt ≤ zs.toInt; omega) (Or.inr ⟨rfl, rfl, rfl, rfl, spanR_no (by omega) ex_74 ex_75 (by omega) (by omega) (fun z => by have z1 := z.1; unfold isLz at z1; omega)⟩) (Or.inr ⟨fun ⟨t9, z1, z2, z3⟩ => (spanR_no (by omega) ex_74 ex_75 (by omega) (by omega) (fun z => by have z1 := z.1; unfold isLz at z1; omega)) t9 z1 z2 z3, rfl⟩))
                              · have tc_77 : ¬ r_76.toInt = 0 := v_ne c_77
                                have tl_x_75 : 0 ≤ x_75.toInt ∧ x_75.toInt ≤ 65535 := by omega
                                refine lv_aload_n hx hb dX12_span_115 rfl (lv_at hl 3 rfl) ?_
                                refine va_get (D := (dC, dI)) (ci := 12) (v := .ref mL) (C := RX12) (T := TX12) (N := 40) hx hb hts in_X12 hown hK hP 0 rfl rfl 6 (Nat.le_of_ble_eq_true rfl) (hts (.fieldLink RX12 19 "TextMenderModel" "letterOf" "[I") (List.mem_of_getElem? (i := 3) rfl)) (fun _ h9 => h9) rfl dX12_span_116 ?_
                                refine lv_sipush (v := 256) hx hb dX12_span_119 (by decide) ?_
                                refine lv_iload hx hb dX12_span_122 (lv_at hl 2 rfl) ?_
                                refine lv_imul hx hb dX12_span_124 ?_
                                refine lv_topi (fun x_78 ex_78 => ?_)
                                have tx_78 : x_78.toInt = 256 * x_50.toInt := v_mul ex_78 (by show -2147483648 ≤ 256 * x_50.toInt; omega) (by show 256 * x_50.toInt < 2147483648; omega)
                                refine lv_iload_n hx hb dX12_span_125 rfl (lv_at hl 5 rfl) ?_
                                refine lv_iadd hx hb dX12_span_126 ?_
                                refine lv_topi (fun x_79 ex_79 => ?_)
                                have tx_79 : x_79.toInt = x_78.toInt + fr.toInt := v_add ex_79 (by show -2147483648 ≤ x_78.toInt + fr.toInt; omega) (by show x_78.toInt + fr.toInt < 2147483648; omega)
                                refine lv_iload hx hb dX12_span_127 (lv_at hl 1 rfl) ?_
                                refine lv_iadd hx hb dX12_span_129 ?_
                                refine lv_topi (fun x_80 ex_80 => ?_)
                                have tx_80 : x_80.toInt = x_79.toInt + k.toInt := v_add ex_80 (by show -2147483648 ≤ x_79.toInt + k.toInt; omega) (by show x_79.toInt + k.toInt < 2147483648; omega)
                                refine va_iald hx hb hK hP 1 0 rfl rfl (v_in (by omega)) dX12_span_130 ?_
                                refine lv_topi (fun x_81 ex_81 => ?_)
                                have tx_81 : -1 ≤ x_81.toInt ∧ x_81.toInt ≤ 65535 := rg_at g_eL ex_81
                                refine lv_iconst (v := (-1)) hx hb dX12_span_131 (by decide) ?_
                                refine lv_icmp_ne (tgt := 152) hx hb dX12_span_132 (by decide) (fun c_82 => ?_) (fun c_82 => ?_)
                                · have tc_82 : ¬ x_81.toInt = (-1) := v_ne c_82
                                  refine lv_iconst (v := (-1)) hx hb dX12_span_152 (by decide) ?_
                                  exact kl_i (v := (-1)) hQQ hx hb hr hlocks hS dX12_span_153 (fun PZ9 kZ9 => kZ9 0 (-1) eL eB eD zs (⟨hP, hD⟩) (g_eL) (g_eB) (g_zs) (by show zs.toInt ≤ zs.toInt + 1 ∧ zs.toInt ≤ zs.toInt; omega) (Or.inr ⟨rfl, rfl, rfl, rfl, spanR_no (by omega) ex_74 ex_75 (by omega) (by omega) (fun z => c_82 (by rw [ex_81, ix_eq (x := x_80) (N := 256 * (cd.toInt - 4).toNat + (fr.toInt + k.toInt).toNat) (by omega)]; exact z.2.1))⟩) (Or.inr ⟨fun ⟨t9, z1, z2, z3⟩ => (spanR_no (by omega) ex_74 ex_75 (by omega) (by omega) (fun z => c_82 (by rw [ex_81, ix_eq (x := x_80) (N := 256 * (cd.toInt - 4).toNat + (fr.toInt + k.toInt).toNat) (by omega)]; exact z.2.1))) t9 z1 z2 z3, rfl⟩))
                                · have tc_82 : x_81.toInt = (-1) := v_eq c_82
                                  refine lv_aload_n hx hb dX12_span_135 rfl (lv_at hl 3 rfl) ?_
                                  refine va_get (D := (dC, dI)) (ci := 12) (v := .ref mB) (C := RX12) (T := TX12) (N := 40) hx hb hts in_X12 hown hK hP 0 rfl rfl 7 (Nat.le_of_ble_eq_true rfl) (hts (.fieldLink RX12 23 "TextMenderModel" "byteOfLetter" "[S") (List.mem_of_getElem? (i := 4) rfl)) (fun _ h9 => h9) rfl dX12_span_136 ?_
                                  refine lv_ldc hx hb hown (hts (.constant RX12 88 (65536)) (List.mem_of_getElem? (i := 5) rfl)) dX12_span_139 ?_
                                  refine lv_iload hx hb dX12_span_141 (lv_at hl 2 rfl) ?_
                                  refine lv_imul hx hb dX12_span_143 ?_
                                  refine lv_topi (fun x_83 ex_83 => ?_)
                                  have tx_83 : x_83.toInt = 65536 * x_50.toInt := v_mul ex_83 (by show -2147483648 ≤ 65536 * x_50.toInt; omega) (by show 65536 * x_50.toInt < 2147483648; omega)
                                  refine lv_iload hx hb dX12_span_144 (lv_at hl 0 rfl) ?_
                                  refine lv_iadd hx hb dX12_span_146 ?_
                                  refine lv_topi (fun x_84 ex_84 => ?_)
                                  have tx_84 : x_84.toInt = x_83.toInt + x_75.toInt := v_add ex_84 (by show -2147483648 ≤ x_83.toInt + x_75.toInt; omega) (by show x_83.toInt + x_75.toInt < 2147483648; omega)
                                  refine va_sald hx hb hK hP 2 1 rfl rfl (v_in (by omega)) dX12_span_147 ?_
                                  refine lv_topi (fun x_85 ex_85 => ?_)
                                  have tx_85 : -1 ≤ x_85.toInt ∧ x_85.toInt ≤ 255 := rg_at g_eB ex_85
                                  refine lv_iconst (v := (-1)) hx hb dX12_span_148 (by decide) ?_
                                  refine lv_icmp_eq (tgt := 154) hx hb dX12_span_149 (by decide) (fun c_86 => ?_) (fun c_86 => ?_)
                                  · have tc_86 : x_85.toInt = (-1) := v_eq c_86
                                    obtain ⟨x_87, ex_87⟩ : ∃ y : Int32, y = k + 1 := ⟨_, rfl⟩
                                    have tx_87 : x_87.toInt = k.toInt + 1 := v_addR (l2 := 1) (h2 := 1) ex_87 g_k (by decide) (by decide) (by decide)
                                    refine lv_iinc (v := x_87) (lv' := [(7, .int x_87), (8, .int x_75), (6, .int x_50), (0, .ref oM), (1, .int cd), (2, .int fr), (3, .int n), (4, .int le), (5, .int sp)]) hx hb dX12_span_154 hl (k := 1) rfl (by rw [ex_87]; rfl) (by decide) rfl (fun ls hl => ?_)
                                    refine lv_goto (tgt := 91) hx hb dX12_span_157 (by decide) ?_
                                    exact ih_91 x_87 _ _ _ (ms_lt hm_91 (by show ((256 - x_87.toInt : Int)) < 256 - k.toInt; omega) (by show (0 : Int) < 256 - k.toInt; omega)) (by show 0 ≤ x_87.toInt ∧ x_87.toInt ≤ 256; omega) (CTk_s hct ex_74 ex_75 (by omega) (by unfold isLz; omega) (by unfold pL; rw [← ix_eq (x := x_80) (N := 256 * (cd.toInt - 4).toNat + (fr.toInt + k.toInt).toNat) (by omega), ← ex_81]; exact c_82) (by unfold pB; have c9 := v_clamp (x := x_75) (by omega); rw [← ix_eq (x := x_84) (N := 65536 * (cd.toInt - 4).toNat + x_75.toNatClampNeg) (by omega), ← ex_85]; exact c_86)) hP hD hS (lv_sub hl [0, 2, 3, 4, 5, 6, 7, 8] rfl)
                                  · have tc_86 : ¬ x_85.toInt = (-1) := v_ne c_86
                                    refine lv_iconst (v := (-1)) hx hb dX12_span_152 (by decide) ?_
                                    exact kl_i (v := (-1)) hQQ hx hb hr hlocks hS dX12_span_153 (fun PZ9 kZ9 => kZ9 0 (-1) eL eB eD zs (⟨hP, hD⟩) (g_eL) (g_eB) (g_zs) (by show zs.toInt ≤ zs.toInt + 1 ∧ zs.toInt ≤ zs.toInt; omega) (Or.inr ⟨rfl, rfl, rfl, rfl, spanR_no (by omega) ex_74 ex_75 (by omega) (by omega) (fun z => c_86 (by have c9 := v_clamp (x := x_75) (by omega); rw [ex_85, ix_eq (x := x_84) (N := 65536 * (cd.toInt - 4).toNat + x_75.toNatClampNeg) (by omega)]; exact z.2.2))⟩) (Or.inr ⟨fun ⟨t9, z1, z2, z3⟩ => (spanR_no (by omega) ex_74 ex_75 (by omega) (by omega) (fun z => c_86 (by have c9 := v_clamp (x := x_75) (by omega); rw [ex_85, ix_eq (x := x_84) (N := 65536 * (cd.toInt - 4).toNat + x_75.toNatClampNeg) (by omega)]; exact z.2.2))) t9 z1 z2 z3, rfl⟩))
                        exact LOOP_91 _ 0 _ _ _ (ms_s _) (by decide) (CTk_0 (by decide)) hP hD hS (lv_sub hl [0, 1, 2, 3, 4, 5, 6, 7] rfl)
                      · have tc_52 : r_51.toInt = 0 := v_eq c_52
                        refine lv_iconst (v := (-1)) hx hb dX12_span_86 (by decide) ?_
                        exact kl_i (v := (-1)) hQQ hx hb hr hlocks hS dX12_span_87 (fun PZ9 kZ9 => kZ9 0 (-1) eL eB eD zs (⟨hP, hD⟩) (g_eL) (g_eB) (g_zs) (by show zs.toInt ≤ zs.toInt + 1 ∧ zs.toInt ≤ zs.toInt; omega) (Or.inr ⟨rfl, rfl, rfl, rfl, fun t h1 h2 c => by have c1 := c.1; unfold isLz at c1; omega⟩) (Or.inr ⟨fun ⟨t9, z1, z2, z3⟩ => (fun t h1 h2 c => by have c1 := c.1; unfold isLz at c1; omega) t9 z1 z2 z3, rfl⟩))
                    · have tc_49 : sp.toInt = 0 := v_eq c_49
                      refine lv_iconst (v := (-1)) hx hb dX12_span_71 (by decide) ?_
                      exact kl_i (v := (-1)) hQQ hx hb hr hlocks hS dX12_span_72 (fun PZ9 kZ9 => kZ9 0 (-1) eL eB eD zs (⟨hP, hD⟩) (g_eL) (g_eB) (g_zs) (by show zs.toInt ≤ zs.toInt + 1 ∧ zs.toInt ≤ zs.toInt; omega) (Or.inr ⟨rfl, rfl, rfl, rfl, fun t h1 h2 c => by have c1 := c.1; unfold isLz at c1; omega⟩) (Or.inr ⟨fun ⟨t9, z1, z2, z3⟩ => (fun t h1 h2 c => by have c1 := c.1; unfold isLz at c1; omega) t9 z1 z2 z3, rfl⟩))

set_option maxHeartbeats 40000000 in
set_option maxRecDepth 100000 in
theorem f_X12_blank (l : Launch) (dC : Nat → ClassId) (dI : Nat → Nat → Nat) (cI cS : ClassId) (sz : Nat) (oM : Nat) (mT : Nat) (mS : Nat) (mX : Nat) (mL : Nat) (mB : Nat) (mD : Nat) (m1 : Nat) (m2 : Nat) (mR : Nat) (x1 : Nat) (x2 : Nat) (x3 : Nat) (mH : Nat) (mY : Nat) (mE : Nat) (mW : Nat) (mO : Nat) (y1 : Nat) (y2 : Nat) (y3 : Nat) (y4 : Nat) (mZ : Nat) (zt : Int32) (zp : Int32) (zf : Int32) (zh : Int32) (zr : Int32) (zc : Int32) (zy : Int32) (za : Int32) (zb : Int32) (zs : Int32) (zq : Int32) (zw : Int32) (ze : Int32) (zn : Int32) (zm : Int32) (zl : Int32) (zk : Int32) (zd : Int32) (eL : Nat → Int32) (eB : Nat → Int32) (eD : Nat → Int32) (cd : Int32) (g_zt : 0 ≤ zt.toInt ∧ zt.toInt ≤ 900) (g_zp : 0 ≤ zp.toInt ∧ zp.toInt ≤ 20) (g_zf : 0 ≤ zf.toInt ∧ zf.toInt ≤ 19) (g_zh : 0 ≤ zh.toInt ∧ zh.toInt ≤ 6) (g_zr : 0 ≤ zr.toInt ∧ zr.toInt ≤ 258) (g_zc : 0 ≤ zc.toInt ∧ zc.toInt ≤ 300) (g_zy : 0 ≤ zy.toInt ∧ zy.toInt ≤ 65536) (g_za : 0 ≤ za.toInt ∧ za.toInt ≤ 5) (g_zb : 0 ≤ zb.toInt ∧ zb.toInt ≤ 5) (g_zs : 0 ≤ zs.toInt ∧ zs.toInt ≤ 2000000) (g_zq : -1 ≤ zq.toInt ∧ zq.toInt ≤ 2000000) (g_zn : 0 ≤ zn.toInt ∧ zn.toInt ≤ 2600) (g_zm : 0 ≤ zm.toInt ∧ zm.toInt ≤ 2600) (g_zk : 0 ≤ zk.toInt ∧ zk.toInt ≤ 300) (g_eL : rg (-1) 65535 eL) (g_eB : rg (-1) 255 eB) (hzs : zs.toInt ≤ 1000000) : kMi l yX12_blank wsX12_blank ({ frames := 0, cells := 0, slots := 0, locals := 0 } : Room) [.ref oM, .int cd] sz (dC, dI) vwCl [(cI, .int), (cS, .short)] [(oM, .inr (12, [.ref mT, .int zt, .ref mS, .ref mX, .int zp, .int zf, .ref mL, .ref mB, .ref mD, .ref m1, .ref m2, .int zh, .ref mR, .int zr, .ref x1, .ref x2, .ref x3, .int zc, .ref mH, .int zy, .int za, .int zb, .int zs, .int zq, .int zw, .int ze, .ref mY, .int zn, .ref mE, .int zm, .int zl, .ref mW, .int zk, .ref mO, .int zd, .ref y1, .ref y2, .ref y3, .ref y4, .ref mZ])), (mL, .inl (cI, 512, .inl eL)), (mB, .inl (cS, 131072, .inl eB)), (mD, .inl (cI, 2, .inl eD))] (fun _ => True) 0 0 (fun (A : Nat → Prop) (r : Int32) (hh9 : Heap) => ∀ PZ9 : Prop, (∀ (ze' : Int32) (eL' : Nat → Int32) (eB' : Nat → Int32) (eD' : Nat → Int32) (zs' : Int32), kPD (dC, dI) vwCl A [(oM, .inr (12, [.ref mT, .int zt, .ref mS, .ref mX, .int zp, .int zf, .ref mL, .ref mB, .ref mD, .ref m1, .ref m2, .int zh, .ref mR, .int zr, .ref x1, .ref x2, .ref x3, .int zc, .ref mH, .int zy, .int za, .int zb, .int zs', .int zq, .int zw, .int ze', .ref mY, .int zn, .ref mE, .int zm, .int zl, .ref mW, .int zk, .ref mO, .int zd, .ref y1, .ref y2, .ref y3, .ref y4, .ref mZ])), (mL, .inl (cI, 512, .inl eL')), (mB, .inl (cS, 131072, .inl eB')), (mD, .inl (cI, 2, .inl eD'))] hh9 → (rg (-1) 65535 eL') → (rg (-1) 255 eB') → (0 ≤ zs'.toInt ∧ zs'.toInt ≤ 2000000) → ((r.toInt = 1 ∧ (cd.toInt = 4 ∨ cd.toInt = 5)) ∨ (r.toInt = 0 ∧ ¬ cd.toInt = 4 ∧ ¬ cd.toInt = 5)) → (zs'.toInt ≤ zs.toInt + 1 ∧ zs.toInt ≤ zs'.toInt) → (F_blankR cd eL eL' eB eB' eD eD') → (F_zs (0) r zs zs') → PZ9) → PZ9) := by
  refine kMi_of (cc := cX12_blank) (maxL := 4) (ret := (some .boolean)) (lv := [(0, .ref oM), (1, .int cd)]) (by decide +kernel) rfl rfl (Nat.le_of_ble_eq_true rfl) ?_
  intro p e s m below meth c A QQ ls hx hb hr hts hml hown hlocks hA hQQ hK hX hP hD hS hl
  have hown : s.vm.findClass RX12 = some m.cls := hown
  have hcf := k_cf hx hb hml hown hts
  have in_X12 : ∀ w ∈ wsX120, w ∈ wsX12_blank := fun _ h => List.mem_cons_of_mem _ (List.mem_append_right _ (h))
  replace g_zt := hid g_zt
  replace g_zp := hid g_zp
  replace g_zf := hid g_zf
  replace g_zh := hid g_zh
  replace g_zr := hid g_zr
  replace g_zc := hid g_zc
  replace g_zy := hid g_zy
  replace g_za := hid g_za
  replace g_zb := hid g_zb
  replace g_zq := hid g_zq
  replace g_zn := hid g_zn
  replace g_zm := hid g_zm
  replace g_zk := hid g_zk
  refine lv_aload_n hx hb dX12_blank_0 rfl (lv_at hl 0 rfl) ?_
  refine lv_iconst (v := 0) hx hb dX12_blank_1 (by decide) ?_
  refine va_put (D := (dC, dI)) (ci := 12) (v := .int 0) (ty := .int) (C := RX12) (T := TX12) (N := 40) hx hb hts in_X12 tyX12 tyX12_ok nmX12 hown hK hP hD hS 0 rfl rfl 25 (Nat.le_of_ble_eq_true rfl) (hts (.fieldLink RX12 85 "TextMenderModel" "thrown" "I") (List.mem_of_getElem? (i := 1) rfl)) (fun _ h9 => h9) rfl (tyX12_ok 25 (Nat.le_of_ble_eq_true rfl)) rfl rfl (Nat.le_of_ble_eq_true rfl) dX12_blank_2 (kW (wn := [(oM, .inr (12, [.ref mT, .int zt, .ref mS, .ref mX, .int zp, .int zf, .ref mL, .ref mB, .ref mD, .ref m1, .ref m2, .int zh, .ref mR, .int zr, .ref x1, .ref x2, .ref x3, .int zc, .ref mH, .int zy, .int za, .int zb, .int zs, .int zq, .int zw, .int 0, .ref mY, .int zn, .ref mE, .int zm, .int zl, .ref mW, .int zk, .ref mO, .int zd, .ref y1, .ref y2, .ref y3, .ref y4, .ref mZ])), (mL, .inl (cI, 512, .inl eL)), (mB, .inl (cS, 131072, .inl eB)), (mD, .inl (cI, 2, .inl eD))]) rfl (fun H locs hPn hDn hSn => ?_))
  clear hP hD hS
  have hP := hPn
  have hD := hDn
  have hS := hSn
  clear hPn hDn hSn
  refine lv_iload_n hx hb dX12_blank_5 rfl (lv_at hl 1 rfl) ?_
  refine lv_iconst (v := 4) hx hb dX12_blank_6 (by decide) ?_
  refine lv_icmp_lt (tgt := 15) hx hb dX12_blank_7 (by decide) (fun c_1 => ?_) (fun c_1 => ?_)
  · have tc_1 : cd.toInt < 4 := v_lt c_1
    refine lv_iconst (v := 0) hx hb dX12_blank_15 (by decide) ?_
    exact kl_z (v := 0) hQQ hx hb hr hlocks hS dX12_blank_16 (rfl) (fun PZ9 kZ9 => kZ9 0 eL eB eD zs (⟨hP, hD⟩) (g_eL) (g_eB) (g_zs) (by show (0 = 1 ∧ (cd.toInt = 4 ∨ cd.toInt = 5)) ∨ (0 = 0 ∧ ¬ cd.toInt = 4 ∧ ¬ cd.toInt = 5); omega) (by show zs.toInt ≤ zs.toInt + 1 ∧ zs.toInt ≤ zs.toInt; omega) (Or.inr ⟨by omega, by omega, rfl, rfl, rfl⟩) (by first | exact Or.inl ⟨by first | rfl | omega, rfl⟩ | exact Or.inr ⟨by first | decide | omega, by omega⟩))
  · have tc_1 : 4 ≤ cd.toInt := v_nlt c_1
    refine lv_iload_n hx hb dX12_blank_10 rfl (lv_at hl 1 rfl) ?_
    refine lv_iconst (v := 5) hx hb dX12_blank_11 (by decide) ?_
    refine lv_icmp_le (tgt := 17) hx hb dX12_blank_12 (by decide) (fun c_2 => ?_) (fun c_2 => ?_)
    · have tc_2 : cd.toInt ≤ 5 := v_le c_2
      refine lv_iload_n hx hb dX12_blank_17 rfl (lv_at hl 1 rfl) ?_
      refine lv_iconst (v := 4) hx hb dX12_blank_18 (by decide) ?_
      refine lv_isub hx hb dX12_blank_19 ?_
      refine lv_topi (fun x_3 ex_3 => ?_)
      have tx_3 : x_3.toInt = cd.toInt - 4 := v_sub ex_3 (by show -2147483648 ≤ cd.toInt - 4; omega) (by show cd.toInt - 4 < 2147483648; omega)
      refine lv_istore_n (lv' := [(2, .int x_3), (0, .ref oM), (1, .int cd)]) hx hb dX12_blank_20 rfl hl (by decide) rfl (fun ls hl => ?_)
      refine lv_iconst (v := 0) hx hb dX12_blank_21 (by decide) ?_
      refine lv_istore_n (lv' := [(3, .int 0), (2, .int x_3), (0, .ref oM), (1, .int cd)]) hx hb dX12_blank_22 rfl hl (by decide) rfl (fun ls hl => ?_)
      have LOOP_23 : ∀ (k_23 : Nat) (k : Int32) (eLa : Nat → Int32) (H : Heap) (locs : List Loc) (ls : Array Slot), MSd (256 - k.toInt : Int) k_23 → (0 ≤ k.toInt ∧ k.toInt ≤ 256) → (rg (-1) 65535 eLa) → (FB (256 * x_3.toInt) k.toInt eL eLa) → va_P (dC, dI) vwCl [(oM, .inr (12, [.ref mT, .int zt, .ref mS, .ref mX, .int zp, .int zf, .ref mL, .ref mB, .ref mD, .ref m1, .ref m2, .int zh, .ref mR, .int zr, .ref x1, .ref x2, .ref x3, .int zc, .ref mH, .int zy, .int za, .int zb, .int zs, .int zq, .int zw, .int 0, .ref mY, .int zn, .ref mE, .int zm, .int zl, .ref mW, .int zk, .ref mO, .int zd, .ref y1, .ref y2, .ref y3, .ref y4, .ref mZ])), (mL, .inl (cI, 512, .inl eLa)), (mB, .inl (cS, 131072, .inl eB)), (mD, .inl (cI, 2, .inl eD))] H → va_D A [(oM, .inr (12, [.ref mT, .int zt, .ref mS, .ref mX, .int zp, .int zf, .ref mL, .ref mB, .ref mD, .ref m1, .ref m2, .int zh, .ref mR, .int zr, .ref x1, .ref x2, .ref x3, .int zc, .ref mH, .int zy, .int za, .int zb, .int zs, .int zq, .int zw, .int 0, .ref mY, .int zn, .ref mE, .int zm, .int zl, .ref mW, .int zk, .ref mO, .int zd, .ref y1, .ref y2, .ref y3, .ref y4, .ref mZ])), (mL, .inl (cI, 512, .inl eLa)), (mB, .inl (cS, 131072, .inl eB)), (mD, .inl (cI, 2, .inl eD))] → va_S A s.heap H locs → lv_has ls 4 [(3, .int k), (2, .int x_3), (0, .ref oM), (1, .int cd)] → W p l e (headSpec wsX12_blank ({ frames := 0, cells := 0, slots := 0, locals := 0 } : Room)).room s m ([.ref oM, .int cd] : List Value).toArray below meth c H locs 0 0 (MQ below QQ ([.ref oM, .int cd] : List Value).toArray s 0 0 A) (F0 m 23 ls []) := by
        clear hP hD hS hl
        intro k_23
        induction k_23 with
        | zero =>
          intro k eLa H locs ls hm_23 g_k g_eLa hfL hP hD hS hl
          exact ms_0 hm_23
        | succ k_23 ih_23 =>
          intro k eLa H locs ls hm_23 g_k g_eLa hfL hP hD hS hl
          refine lv_iload_n hx hb dX12_blank_23 rfl (lv_at hl 0 rfl) ?_
          refine lv_sipush (v := 256) hx hb dX12_blank_24 (by decide) ?_
          refine lv_icmp_ge (tgt := 49) hx hb dX12_blank_27 (by decide) (fun c_4 => ?_) (fun c_4 => ?_)
          · have tc_4 : 256 ≤ k.toInt := v_le c_4
            refine lv_iconst (v := 0) hx hb dX12_blank_49 (by decide) ?_
            refine lv_istore_n (lv' := [(3, .int 0), (2, .int x_3), (0, .ref oM), (1, .int cd)]) hx hb dX12_blank_50 rfl hl (by decide) rfl (fun ls hl => ?_)
            have LOOP_51 : ∀ (k_51 : Nat) (k2 : Int32) (eBa : Nat → Int32) (H : Heap) (locs : List Loc) (ls : Array Slot), MSd (65536 - k2.toInt : Int) k_51 → (0 ≤ k2.toInt ∧ k2.toInt ≤ 65536) → (rg (-1) 255 eBa) → (FB (65536 * x_3.toInt) k2.toInt eB eBa) → va_P (dC, dI) vwCl [(oM, .inr (12, [.ref mT, .int zt, .ref mS, .ref mX, .int zp, .int zf, .ref mL, .ref mB, .ref mD, .ref m1, .ref m2, .int zh, .ref mR, .int zr, .ref x1, .ref x2, .ref x3, .int zc, .ref mH, .int zy, .int za, .int zb, .int zs, .int zq, .int zw, .int 0, .ref mY, .int zn, .ref mE, .int zm, .int zl, .ref mW, .int zk, .ref mO, .int zd, .ref y1, .ref y2, .ref y3, .ref y4, .ref mZ])), (mL, .inl (cI, 512, .inl eLa)), (mB, .inl (cS, 131072, .inl eBa)), (mD, .inl (cI, 2, .inl eD))] H → va_D A [(oM, .inr (12, [.ref mT, .int zt, .ref mS, .ref mX, .int zp, .int zf, .ref mL, .ref mB, .ref mD, .ref m1, .ref m2, .int zh, .ref mR, .int zr, .ref x1, .ref x2, .ref x3, .int zc, .ref mH, .int zy, .int za, .int zb, .int zs, .int zq, .int zw, .int 0, .ref mY, .int zn, .ref mE, .int zm, .int zl, .ref mW, .int zk, .ref mO, .int zd, .ref y1, .ref y2, .ref y3, .ref y4, .ref mZ])), (mL, .inl (cI, 512, .inl eLa)), (mB, .inl (cS, 131072, .inl eBa)), (mD, .inl (cI, 2, .inl eD))] → va_S A s.heap H locs → lv_has ls 4 [(3, .int k2), (2, .int x_3), (0, .ref oM), (1, .int cd)] → W p l e (headSpec wsX12_blank ({ frames := 0, cells := 0, slots := 0, locals := 0 } : Room)).room s m ([.ref oM, .int cd] : List Value).toArray below meth c H locs 0 0 (MQ below QQ ([.ref oM, .int cd] : List Value).toArray s 0 0 A) (F0 m 51 ls []) := by
              clear hP hD hS hl
              intro k_51
              induction k_51 with
              | zero =>
                intro k2 eBa H locs ls hm_51 g_k2 g_eBa hfB hP hD hS hl
                exact ms_0 hm_51
              | succ k_51 ih_51 =>
                intro k2 eBa H locs ls hm_51 g_k2 g_eBa hfB hP hD hS hl
                refine lv_iload_n hx hb dX12_blank_51 rfl (lv_at hl 0 rfl) ?_
                refine lv_ldc hx hb hown (hts (.constant RX12 88 (65536)) (List.mem_of_getElem? (i := 3) rfl)) dX12_blank_52 ?_
                refine lv_icmp_ge (tgt := 75) hx hb dX12_blank_54 (by decide) (fun c_5 => ?_) (fun c_5 => ?_)
                · have tc_5 : 65536 ≤ k2.toInt := v_le c_5
                  refine lv_aload_n hx hb dX12_blank_75 rfl (lv_at hl 2 rfl) ?_
                  refine va_get (D := (dC, dI)) (ci := 12) (v := .ref mD) (C := RX12) (T := TX12) (N := 40) hx hb hts in_X12 hown hK hP 0 rfl rfl 8 (Nat.le_of_ble_eq_true rfl) (hts (.fieldLink RX12 27 "TextMenderModel" "told" "[I") (List.mem_of_getElem? (i := 5) rfl)) (fun _ h9 => h9) rfl dX12_blank_76 ?_
                  refine lv_iload_n hx hb dX12_blank_79 rfl (lv_at hl 1 rfl) ?_
                  refine lv_iconst (v := 0) hx hb dX12_blank_80 (by decide) ?_
                  obtain ⟨f_6, ef_6⟩ : ∃ g : Nat → Int32, g = upd eD (x_3 : Int32).toNatClampNeg 0 := ⟨_, rfl⟩
                  refine va_iast hx hb hK hP hD hS 3 0 rfl rfl (v_in (by omega)) dX12_blank_81 (kWf (g := f_6) (F := fun f_6 => [(oM, .inr (12, [.ref mT, .int zt, .ref mS, .ref mX, .int zp, .int zf, .ref mL, .ref mB, .ref mD, .ref m1, .ref m2, .int zh, .ref mR, .int zr, .ref x1, .ref x2, .ref x3, .int zc, .ref mH, .int zy, .int za, .int zb, .int zs, .int zq, .int zw, .int 0, .ref mY, .int zn, .ref mE, .int zm, .int zl, .ref mW, .int zk, .ref mO, .int zd, .ref y1, .ref y2, .ref y3, .ref y4, .ref mZ])), (mL, .inl (cI, 512, .inl eLa)), (mB, .inl (cS, 131072, .inl eBa)), (mD, .inl (cI, 2, .inl f_6))]) ef_6 rfl (fun H locs hPn hDn hSn => ?_))
                  clear hP hD hS
                  have hP := hPn
                  have hD := hDn
                  have hS := hSn
                  clear hPn hDn hSn
                  refine lv_aload_n hx hb dX12_blank_82 rfl (lv_at hl 2 rfl) ?_
                  refine lv_dup hx hb dX12_blank_83 rfl ?_
                  refine va_get (D := (dC, dI)) (ci := 12) (v := .int zs) (C := RX12) (T := TX12) (N := 40) hx hb hts in_X12 hown hK hP 0 rfl rfl 22 (Nat.le_of_ble_eq_true rfl) (hts (.fieldLink RX12 148 "TextMenderModel" "state" "I") (List.mem_of_getElem? (i := 6) rfl)) (fun _ h9 => h9) rfl dX12_blank_84 ?_
                  refine lv_iconst (v := 1) hx hb dX12_blank_87 (by decide) ?_
                  refine lv_iadd hx hb dX12_blank_88 ?_
                  refine lv_topi (fun x_7 ex_7 => ?_)
                  have tx_7 : x_7.toInt = zs.toInt + 1 := v_addR (l2 := 1) (h2 := 1) ex_7 g_zs (by decide) (by decide) (by decide)
                  refine va_put (D := (dC, dI)) (ci := 12) (v := .int x_7) (ty := .int) (C := RX12) (T := TX12) (N := 40) hx hb hts in_X12 tyX12 tyX12_ok nmX12 hown hK hP hD hS 0 rfl rfl 22 (Nat.le_of_ble_eq_true rfl) (hts (.fieldLink RX12 148 "TextMenderModel" "state" "I") (List.mem_of_getElem? (i := 6) rfl)) (fun _ h9 => h9) rfl (tyX12_ok 22 (Nat.le_of_ble_eq_true rfl)) rfl rfl (Nat.le_of_ble_eq_true rfl) dX12_blank_89 (kW (wn := [(oM, .inr (12, [.ref mT, .int zt, .ref mS, .ref mX, .int zp, .int zf, .ref mL, .ref mB, .ref mD, .ref m1, .ref m2, .int zh, .ref mR, .int zr, .ref x1, .ref x2, .ref x3, .int zc, .ref mH, .int zy, .int za, .int zb, .int x_7, .int zq, .int zw, .int 0, .ref mY, .int zn, .ref mE, .int zm, .int zl, .ref mW, .int zk, .ref mO, .int zd, .ref y1, .ref y2, .ref y3, .ref y4, .ref mZ])), (mL, .inl (cI, 512, .inl eLa)), (mB, .inl (cS, 131072, .inl eBa)), (mD, .inl (cI, 2, .inl f_6))]) rfl (fun H locs hPn hDn hSn => ?_))
                  clear hP hD hS
                  have hP := hPn
                  have hD := hDn
                  have hS := hSn
                  clear hPn hDn hSn
                  refine lv_iconst (v := 1) hx hb dX12_blank_92 (by decide) ?_
                  exact kl_z (v := 1) hQQ hx hb hr hlocks hS dX12_blank_93 (rfl) (fun PZ9 kZ9 => kZ9 0 eLa eBa f_6 x_7 (⟨hP, hD⟩) (g_eLa) (g_eBa) (by omega) (by show (1 = 1 ∧ (cd.toInt = 4 ∨ cd.toInt = 5)) ∨ (1 = 0 ∧ ¬ cd.toInt = 4 ∧ ¬ cd.toInt = 5); omega) (by show x_7.toInt ≤ zs.toInt + 1 ∧ zs.toInt ≤ x_7.toInt; omega) (blankR_of (t2 := x_3) (by omega) (by omega) (by omega) (FB_n hfL (by omega)) (FB_n hfB (by omega)) ef_6) (by first | exact Or.inl ⟨by first | rfl | omega, rfl⟩ | exact Or.inr ⟨by first | decide | omega, by omega⟩))
                · have tc_5 : k2.toInt < 65536 := v_nle c_5
                  refine lv_aload_n hx hb dX12_blank_57 rfl (lv_at hl 2 rfl) ?_
                  refine va_get (D := (dC, dI)) (ci := 12) (v := .ref mB) (C := RX12) (T := TX12) (N := 40) hx hb hts in_X12 hown hK hP 0 rfl rfl 7 (Nat.le_of_ble_eq_true rfl) (hts (.fieldLink RX12 23 "TextMenderModel" "byteOfLetter" "[S") (List.mem_of_getElem? (i := 4) rfl)) (fun _ h9 => h9) rfl dX12_blank_58 ?_
                  refine lv_ldc hx hb hown (hts (.constant RX12 88 (65536)) (List.mem_of_getElem? (i := 3) rfl)) dX12_blank_61 ?_
                  refine lv_iload_n hx hb dX12_blank_63 rfl (lv_at hl 1 rfl) ?_
                  refine lv_imul hx hb dX12_blank_64 ?_
                  refine lv_topi (fun x_8 ex_8 => ?_)
                  have tx_8 : x_8.toInt = 65536 * x_3.toInt := v_mul ex_8 (by show -2147483648 ≤ 65536 * x_3.toInt; omega) (by show 65536 * x_3.toInt < 2147483648; omega)
                  refine lv_iload_n hx hb dX12_blank_65 rfl (lv_at hl 0 rfl) ?_
                  refine lv_iadd hx hb dX12_blank_66 ?_
                  refine lv_topi (fun x_9 ex_9 => ?_)
                  have tx_9 : x_9.toInt = x_8.toInt + k2.toInt := v_add ex_9 (by show -2147483648 ≤ x_8.toInt + k2.toInt; omega) (by show x_8.toInt + k2.toInt < 2147483648; omega)
                  refine lv_iconst (v := (-1)) hx hb dX12_blank_67 (by decide) ?_
                  obtain ⟨f_10, ef_10⟩ : ∃ g : Nat → Int32, g = upd eBa (x_9 : Int32).toNatClampNeg (vp_nar .short (-1)) := ⟨_, rfl⟩
                  refine va_sast hx hb hK hP hD hS 2 1 rfl rfl (v_in (by omega)) dX12_blank_68 (kWf (g := f_10) (F := fun f_10 => [(oM, .inr (12, [.ref mT, .int zt, .ref mS, .ref mX, .int zp, .int zf, .ref mL, .ref mB, .ref mD, .ref m1, .ref m2, .int zh, .ref mR, .int zr, .ref x1, .ref x2, .ref x3, .int zc, .ref mH, .int zy, .int za, .int zb, .int zs, .int zq, .int zw, .int 0, .ref mY, .int zn, .ref mE, .int zm, .int zl, .ref mW, .int zk, .ref mO, .int zd, .ref y1, .ref y2, .ref y3, .ref y4, .ref mZ])), (mL, .inl (cI, 512, .inl eLa)), (mB, .inl (cS, 131072, .inl f_10)), (mD, .inl (cI, 2, .inl eD))]) ef_10 rfl (fun H locs hPn hDn hSn => ?_))
                  clear hP hD hS
                  have hP := hPn
                  have hD := hDn
                  have hS := hSn
                  clear hPn hDn hSn
                  have g_f10 : rg (-1) 255 f_10 := rg_upd ef_10 g_eBa (by decide)
                  obtain ⟨x_11, ex_11⟩ : ∃ y : Int32, y = k2 + 1 := ⟨_, rfl⟩
                  have tx_11 : x_11.toInt = k2.toInt + 1 := v_addR (l2 := 1) (h2 := 1) ex_11 g_k2 (by decide) (by decide) (by decide)
                  refine lv_iinc (v := x_11) (lv' := [(3, .int x_11), (2, .int x_3), (0, .ref oM), (1, .int cd)]) hx hb dX12_blank_69 hl (k := 0) rfl (by rw [ex_11]; rfl) (by decide) rfl (fun ls hl => ?_)
                  refine lv_goto (tgt := 51) hx hb dX12_blank_72 (by decide) ?_
                  exact ih_51 x_11 f_10 _ _ _ (ms_lt hm_51 (by show ((65536 - x_11.toInt : Int)) < 65536 - k2.toInt; omega) (by show (0 : Int) < 65536 - k2.toInt; omega)) (by show 0 ≤ x_11.toInt ∧ x_11.toInt ≤ 65536; omega) (g_f10) (FB_s hfB (by omega) (by omega) (a := x_9) (by omega) ef_10 (by decide) (by omega)) hP hD hS (lv_sub hl [0, 1, 2, 3] rfl)
            exact LOOP_51 _ 0 eB _ _ _ (ms_s _) (by decide) (g_eB) (FB_0 (by decide)) hP hD hS (lv_sub hl [0, 1, 2, 3] rfl)
          · have tc_4 : k.toInt < 256 := v_nle c_4
            refine lv_aload_n hx hb dX12_blank_30 rfl (lv_at hl 2 rfl) ?_
            refine va_get (D := (dC, dI)) (ci := 12) (v := .ref mL) (C := RX12) (T := TX12) (N := 40) hx hb hts in_X12 hown hK hP 0 rfl rfl 6 (Nat.le_of_ble_eq_true rfl) (hts (.fieldLink RX12 19 "TextMenderModel" "letterOf" "[I") (List.mem_of_getElem? (i := 2) rfl)) (fun _ h9 => h9) rfl dX12_blank_31 ?_
            refine lv_sipush (v := 256) hx hb dX12_blank_34 (by decide) ?_
            refine lv_iload_n hx hb dX12_blank_37 rfl (lv_at hl 1 rfl) ?_
            refine lv_imul hx hb dX12_blank_38 ?_
            refine lv_topi (fun x_12 ex_12 => ?_)
            have tx_12 : x_12.toInt = 256 * x_3.toInt := v_mul ex_12 (by show -2147483648 ≤ 256 * x_3.toInt; omega) (by show 256 * x_3.toInt < 2147483648; omega)
            refine lv_iload_n hx hb dX12_blank_39 rfl (lv_at hl 0 rfl) ?_
            refine lv_iadd hx hb dX12_blank_40 ?_
            refine lv_topi (fun x_13 ex_13 => ?_)
            have tx_13 : x_13.toInt = x_12.toInt + k.toInt := v_add ex_13 (by show -2147483648 ≤ x_12.toInt + k.toInt; omega) (by show x_12.toInt + k.toInt < 2147483648; omega)
            refine lv_iconst (v := (-1)) hx hb dX12_blank_41 (by decide) ?_
            obtain ⟨f_14, ef_14⟩ : ∃ g : Nat → Int32, g = upd eLa (x_13 : Int32).toNatClampNeg (-1) := ⟨_, rfl⟩
            refine va_iast hx hb hK hP hD hS 1 0 rfl rfl (v_in (by omega)) dX12_blank_42 (kWf (g := f_14) (F := fun f_14 => [(oM, .inr (12, [.ref mT, .int zt, .ref mS, .ref mX, .int zp, .int zf, .ref mL, .ref mB, .ref mD, .ref m1, .ref m2, .int zh, .ref mR, .int zr, .ref x1, .ref x2, .ref x3, .int zc, .ref mH, .int zy, .int za, .int zb, .int zs, .int zq, .int zw, .int 0, .ref mY, .int zn, .ref mE, .int zm, .int zl, .ref mW, .int zk, .ref mO, .int zd, .ref y1, .ref y2, .ref y3, .ref y4, .ref mZ])), (mL, .inl (cI, 512, .inl f_14)), (mB, .inl (cS, 131072, .inl eB)), (mD, .inl (cI, 2, .inl eD))]) ef_14 rfl (fun H locs hPn hDn hSn => ?_))
            clear hP hD hS
            have hP := hPn
            have hD := hDn
            have hS := hSn
            clear hPn hDn hSn
            have g_f14 : rg (-1) 65535 f_14 := rg_upd ef_14 g_eLa (by decide)
            obtain ⟨x_15, ex_15⟩ : ∃ y : Int32, y = k + 1 := ⟨_, rfl⟩
            have tx_15 : x_15.toInt = k.toInt + 1 := v_addR (l2 := 1) (h2 := 1) ex_15 g_k (by decide) (by decide) (by decide)
            refine lv_iinc (v := x_15) (lv' := [(3, .int x_15), (2, .int x_3), (0, .ref oM), (1, .int cd)]) hx hb dX12_blank_43 hl (k := 0) rfl (by rw [ex_15]; rfl) (by decide) rfl (fun ls hl => ?_)
            refine lv_goto (tgt := 23) hx hb dX12_blank_46 (by decide) ?_
            exact ih_23 x_15 f_14 _ _ _ (ms_lt hm_23 (by show ((256 - x_15.toInt : Int)) < 256 - k.toInt; omega) (by show (0 : Int) < 256 - k.toInt; omega)) (by show 0 ≤ x_15.toInt ∧ x_15.toInt ≤ 256; omega) (g_f14) (FB_s hfL (by omega) (by omega) (a := x_13) (by omega) ef_14 rfl (by omega)) hP hD hS (lv_sub hl [0, 1, 2, 3] rfl)
      exact LOOP_23 _ 0 eL _ _ _ (ms_s _) (by decide) (g_eL) (FB_0 (by decide)) hP hD hS (lv_sub hl [0, 1, 2, 3] rfl)
    · have tc_2 : 5 < cd.toInt := v_nle c_2
      refine lv_iconst (v := 0) hx hb dX12_blank_15 (by decide) ?_
      exact kl_z (v := 0) hQQ hx hb hr hlocks hS dX12_blank_16 (rfl) (fun PZ9 kZ9 => kZ9 0 eL eB eD zs (⟨hP, hD⟩) (g_eL) (g_eB) (g_zs) (by show (0 = 1 ∧ (cd.toInt = 4 ∨ cd.toInt = 5)) ∨ (0 = 0 ∧ ¬ cd.toInt = 4 ∧ ¬ cd.toInt = 5); omega) (by show zs.toInt ≤ zs.toInt + 1 ∧ zs.toInt ≤ zs.toInt; omega) (Or.inr ⟨by omega, by omega, rfl, rfl, rfl⟩) (by first | exact Or.inl ⟨by first | rfl | omega, rfl⟩ | exact Or.inr ⟨by first | decide | omega, by omega⟩))

set_option maxHeartbeats 40000000 in
set_option maxRecDepth 100000 in
theorem f_X2_letterAlone (l : Launch) (dC : Nat → ClassId) (dI : Nat → Nat → Nat) (cI cS : ClassId) (sz : Nat) (oC : Nat) (o4 : Nat) (o5 : Nat) (a41 : Nat) (a42 : Nat) (a43 : Nat) (a51 : Nat) (a52 : Nat) (a53 : Nat) (l4 : Int32) (f41 : Nat → Int32) (l5 : Int32) (f51 : Nat → Int32) (cd : Int32) (v : Int32) (g_v : 0 ≤ v.toInt ∧ v.toInt ≤ 255) : kMi l yX2_letterAlone wsX2_letterAlone ({ frames := 1, cells := 0, slots := 0, locals := 21 } : Room) [.ref oC, .int cd, .int v] sz (dC, dI) vwCl [(cI, .int), (cS, .short)] [(oC, .inr (2, [.ref o4, .ref o5])), (o4, .inr (10, [.ref a41, .ref a42, .ref a43, .int l4])), (a41, .inl (cI, 256, .inl f41)), (o5, .inr (10, [.ref a51, .ref a52, .ref a53, .int l5])), (a51, .inl (cI, 256, .inl f51))] (fun _ => True) 0 0 (fun (A : Nat → Prop) (r : Int32) (hh9 : Heap) => ∀ PZ9 : Prop, (kPD (dC, dI) vwCl A [(oC, .inr (2, [.ref o4, .ref o5])), (o4, .inr (10, [.ref a41, .ref a42, .ref a43, .int l4])), (a41, .inl (cI, 256, .inl f41)), (o5, .inr (10, [.ref a51, .ref a52, .ref a53, .int l5])), (a51, .inl (cI, 256, .inl f51))] hh9 → (r = alF cd v f41 f51) → PZ9) → PZ9) := by
  refine kMi_of (cc := cX2_letterAlone) (maxL := 4) (ret := (some .int)) (lv := [(0, .ref oC), (1, .int cd), (2, .int v)]) (by decide +kernel) rfl rfl (Nat.le_of_ble_eq_true rfl) ?_
  intro p e s m below meth c A QQ ls hx hb hr hts hml hown hlocks hA hQQ hK hX hP hD hS hl
  have hown : s.vm.findClass RX2 = some m.cls := hown
  have hcf := k_cf hx hb hml hown hts
  refine lv_iload_n hx hb dX2_letterAlone_0 rfl (lv_at hl 1 rfl) ?_
  by_cases c_1 : cd = 0
  · refine lv_tableIn (tgt := 32) hx hb dX2_letterAlone_1 (by rw [c_1]; decide) (by rw [c_1]; decide) (by rw [c_1]; rfl) (by decide) ?_
    have tc_1 : cd.toInt = 0 := v_eq c_1
    refine lv_iload_n hx hb dX2_letterAlone_32 rfl (lv_at hl 2 rfl) ?_
    refine lv_sipush (v := 128) hx hb dX2_letterAlone_33 (by decide) ?_
    refine lv_icmp_ge (tgt := 43) hx hb dX2_letterAlone_36 (by decide) (fun c_2 => ?_) (fun c_2 => ?_)
    · have tc_2 : 128 ≤ v.toInt := v_le c_2
      refine lv_iconst (v := (-1)) hx hb dX2_letterAlone_43 (by decide) ?_
      exact kl_i (v := (-1)) hQQ hx hb hr hlocks hS dX2_letterAlone_44 (fun PZ9 kZ9 => kZ9 (⟨hP, hD⟩) (by unfold alF; (repeat (first | rw [if_neg (by omega)] | rw [if_pos (by omega)]))))
    · have tc_2 : v.toInt < 128 := v_nle c_2
      refine lv_iload_n hx hb dX2_letterAlone_39 rfl (lv_at hl 2 rfl) ?_
      refine lv_goto (tgt := 44) hx hb dX2_letterAlone_40 (by decide) ?_
      exact kl_i (v := v) hQQ hx hb hr hlocks hS dX2_letterAlone_44 (fun PZ9 kZ9 => kZ9 (⟨hP, hD⟩) (by unfold alF; (repeat (first | rw [if_neg (by omega)] | rw [if_pos (by omega)]))))
  · skip
    have tc_1 : ¬ cd.toInt = 0 := v_ne c_1
    by_cases c_3 : cd = 1
    · refine lv_tableIn (tgt := 45) hx hb dX2_letterAlone_1 (by rw [c_3]; decide) (by rw [c_3]; decide) (by rw [c_3]; rfl) (by decide) ?_
      have tc_3 : cd.toInt = 1 := v_eq c_3
      refine lv_iload_n hx hb dX2_letterAlone_45 rfl (lv_at hl 2 rfl) ?_
      exact kl_i (v := v) hQQ hx hb hr hlocks hS dX2_letterAlone_46 (fun PZ9 kZ9 => kZ9 (⟨hP, hD⟩) (by unfold alF; (repeat (first | rw [if_neg (by omega)] | rw [if_pos (by omega)]))))
    · skip
      have tc_3 : ¬ cd.toInt = 1 := v_ne c_3
      by_cases c_4 : cd = 2
      · refine lv_tableIn (tgt := 32) hx hb dX2_letterAlone_1 (by rw [c_4]; decide) (by rw [c_4]; decide) (by rw [c_4]; rfl) (by decide) ?_
        have tc_4 : cd.toInt = 2 := v_eq c_4
        refine lv_iload_n hx hb dX2_letterAlone_32 rfl (lv_at hl 2 rfl) ?_
        refine lv_sipush (v := 128) hx hb dX2_letterAlone_33 (by decide) ?_
        refine lv_icmp_ge (tgt := 43) hx hb dX2_letterAlone_36 (by decide) (fun c_5 => ?_) (fun c_5 => ?_)
        · have tc_5 : 128 ≤ v.toInt := v_le c_5
          refine lv_iconst (v := (-1)) hx hb dX2_letterAlone_43 (by decide) ?_
          exact kl_i (v := (-1)) hQQ hx hb hr hlocks hS dX2_letterAlone_44 (fun PZ9 kZ9 => kZ9 (⟨hP, hD⟩) (by unfold alF; (repeat (first | rw [if_neg (by omega)] | rw [if_pos (by omega)]))))
        · have tc_5 : v.toInt < 128 := v_nle c_5
          refine lv_iload_n hx hb dX2_letterAlone_39 rfl (lv_at hl 2 rfl) ?_
          refine lv_goto (tgt := 44) hx hb dX2_letterAlone_40 (by decide) ?_
          exact kl_i (v := v) hQQ hx hb hr hlocks hS dX2_letterAlone_44 (fun PZ9 kZ9 => kZ9 (⟨hP, hD⟩) (by unfold alF; (repeat (first | rw [if_neg (by omega)] | rw [if_pos (by omega)]))))
      · skip
        have tc_4 : ¬ cd.toInt = 2 := v_ne c_4
        by_cases c_6 : cd = 3
        · refine lv_tableIn (tgt := 47) hx hb dX2_letterAlone_1 (by rw [c_6]; decide) (by rw [c_6]; decide) (by rw [c_6]; rfl) (by decide) ?_
          have tc_6 : cd.toInt = 3 := v_eq c_6
          refine lv_iload_n hx hb dX2_letterAlone_47 rfl (lv_at hl 2 rfl) ?_
          refine lv_sipush (v := 128) hx hb dX2_letterAlone_48 (by decide) ?_
          refine lv_icmp_ge (tgt := 64) hx hb dX2_letterAlone_51 (by decide) (fun c_7 => ?_) (fun c_7 => ?_)
          · have tc_7 : 128 ≤ v.toInt := v_le c_7
            refine lv_iconst (v := (-1)) hx hb dX2_letterAlone_64 (by decide) ?_
            exact kl_i (v := (-1)) hQQ hx hb hr hlocks hS dX2_letterAlone_65 (fun PZ9 kZ9 => kZ9 (⟨hP, hD⟩) (by unfold alF; (repeat (first | rw [if_neg (by omega)] | rw [if_pos (by omega)]))))
          · have tc_7 : v.toInt < 128 := v_nle c_7
            refine lv_iload_n hx hb dX2_letterAlone_54 rfl (lv_at hl 2 rfl) ?_
            refine lv_bipush (v := 38) hx hb dX2_letterAlone_55 (by decide) ?_
            refine lv_icmp_eq (tgt := 64) hx hb dX2_letterAlone_57 (by decide) (fun c_8 => ?_) (fun c_8 => ?_)
            · have tc_8 : v.toInt = 38 := v_eq c_8
              refine lv_iconst (v := (-1)) hx hb dX2_letterAlone_64 (by decide) ?_
              exact kl_i (v := (-1)) hQQ hx hb hr hlocks hS dX2_letterAlone_65 (fun PZ9 kZ9 => kZ9 (⟨hP, hD⟩) (by unfold alF; (repeat (first | rw [if_neg (by omega)] | rw [if_pos (by omega)]))))
            · have tc_8 : ¬ v.toInt = 38 := v_ne c_8
              refine lv_iload_n hx hb dX2_letterAlone_60 rfl (lv_at hl 2 rfl) ?_
              refine lv_goto (tgt := 65) hx hb dX2_letterAlone_61 (by decide) ?_
              exact kl_i (v := v) hQQ hx hb hr hlocks hS dX2_letterAlone_65 (fun PZ9 kZ9 => kZ9 (⟨hP, hD⟩) (by unfold alF; (repeat (first | rw [if_neg (by omega)] | rw [if_pos (by omega)]))))
        · skip
          have tc_6 : ¬ cd.toInt = 3 := v_ne c_6
          refine lv_tableOut (tgt := 66) hx hb dX2_letterAlone_1 (by omega) (by decide) ?_
          refine lv_aload_n hx hb dX2_letterAlone_66 rfl (lv_at hl 0 rfl) ?_
          refine lv_iload_n hx hb dX2_letterAlone_67 rfl (lv_at hl 1 rfl) ?_
          by_cases cs_9 : cd.toInt = 4
          · refine kV_r (rest := []) (q0 := 0) (ci := 2) hcf (m_X2_toldCode_4 l dC dI cI cS s.heap.size oC o4 o5 cd (by omega)) kc_X2_toldCode gX2_letterAlone_X2_toldCode rfl rfl rfl ⟨Nat.le_of_ble_eq_true rfl, Nat.le_of_ble_eq_true rfl⟩ kX_t hK hP hD hS hA [0] [1, 2, 3, 4] rfl (by decide +kernel) rfl rfl rfl hl rfl (Nat.le_of_ble_eq_true rfl) dX2_letterAlone_68 ⟨Nat.le_of_ble_eq_true rfl, Nat.le_of_ble_eq_true rfl⟩ (fun r_10 H locs hB hJ hSn => ?_)
            refine And.elim (fun hra hBr => ?_) hB
            clear hB
            refine hBr _ (fun hPD9 => ?_)
            clear hBr
            rw [hra]
            obtain ⟨hPn, hDn⟩ := hJ _ hPD9.1 hPD9.2 [(o4, .inr (10, [.ref a41, .ref a42, .ref a43, .int l4])), (a41, .inl (cI, 256, .inl f41)), (o5, .inr (10, [.ref a51, .ref a52, .ref a53, .int l5])), (a51, .inl (cI, 256, .inl f51)), (oC, .inr (2, [.ref o4, .ref o5]))] rfl
            clear hP hD hS hJ hPD9
            have hP := hPn
            have hD := hDn
            have hS := hSn
            clear hPn hDn hSn
            refine lv_astore_n (lv' := [(3, .ref o4), (0, .ref oC), (1, .int cd), (2, .int v)]) hx hb dX2_letterAlone_71 rfl hl (by decide) rfl (fun ls hl => ?_)
            refine lv_aload_n hx hb dX2_letterAlone_72 rfl (lv_at hl 0 rfl) ?_
            refine lv_ifnonnull (tgt := 80) hx hb dX2_letterAlone_73 (by decide) ?_
            refine lv_aload_n hx hb dX2_letterAlone_80 rfl (lv_at hl 0 rfl) ?_
            refine lv_iload_n hx hb dX2_letterAlone_81 rfl (lv_at hl 3 rfl) ?_
            refine kV_i (rest := []) (q0 := 0) (ci := 10) hcf (m_X10_letterFor l dC dI cI cS H.size o4 a41 a42 a43 l4 f41 v ) kc_X10_letterFor gX2_letterAlone_X10_letterFor rfl rfl rfl ⟨Nat.le_of_ble_eq_true rfl, Nat.le_of_ble_eq_true rfl⟩ kX_t hK hP hD hS hA [0, 1] [2, 3, 4] rfl (by decide +kernel) rfl rfl rfl hl rfl (Nat.le_of_ble_eq_true rfl) dX2_letterAlone_82 ⟨Nat.le_of_ble_eq_true rfl, Nat.le_of_ble_eq_true rfl⟩ (fun r_11 H locs hB hJ hSn => ?_)
            refine hB _ (fun hPD9 hf11_0 => ?_)
            clear hB
            obtain ⟨hPn, hDn⟩ := hJ _ hPD9.1 hPD9.2 [(o5, .inr (10, [.ref a51, .ref a52, .ref a53, .int l5])), (a51, .inl (cI, 256, .inl f51)), (oC, .inr (2, [.ref o4, .ref o5])), (o4, .inr (10, [.ref a41, .ref a42, .ref a43, .int l4])), (a41, .inl (cI, 256, .inl f41))] rfl
            clear hP hD hS hJ hPD9
            have hP := hPn
            have hD := hDn
            have hS := hSn
            clear hPn hDn hSn
            exact kl_i (v := r_11) hQQ hx hb hr hlocks hS dX2_letterAlone_85 (fun PZ9 kZ9 => kZ9 (kPD_sub hP hD [2, 3, 4, 0, 1] (by decide +kernel) rfl) ((F_get_f hf11_0 (by omega) (by show v.toInt < 256; omega)).trans (by unfold alF; (repeat (first | rw [if_neg (by omega)] | rw [if_pos (by omega)])))))
          · skip
            by_cases cs_12 : cd.toInt = 5
            · refine kV_r (rest := []) (q0 := 0) (ci := 2) hcf (m_X2_toldCode_5 l dC dI cI cS s.heap.size oC o4 o5 cd (by omega)) kc_X2_toldCode gX2_letterAlone_X2_toldCode rfl rfl rfl ⟨Nat.le_of_ble_eq_true rfl, Nat.le_of_ble_eq_true rfl⟩ kX_t hK hP hD hS hA [0] [1, 2, 3, 4] rfl (by decide +kernel) rfl rfl rfl hl rfl (Nat.le_of_ble_eq_true rfl) dX2_letterAlone_68 ⟨Nat.le_of_ble_eq_true rfl, Nat.le_of_ble_eq_true rfl⟩ (fun r_13 H locs hB hJ hSn => ?_)
              refine And.elim (fun hra hBr => ?_) hB
              clear hB
              refine hBr _ (fun hPD9 => ?_)
              clear hBr
              rw [hra]
              obtain ⟨hPn, hDn⟩ := hJ _ hPD9.1 hPD9.2 [(o4, .inr (10, [.ref a41, .ref a42, .ref a43, .int l4])), (a41, .inl (cI, 256, .inl f41)), (o5, .inr (10, [.ref a51, .ref a52, .ref a53, .int l5])), (a51, .inl (cI, 256, .inl f51)), (oC, .inr (2, [.ref o4, .ref o5]))] rfl
              clear hP hD hS hJ hPD9
              have hP := hPn
              have hD := hDn
              have hS := hSn
              clear hPn hDn hSn
              refine lv_astore_n (lv' := [(3, .ref o5), (0, .ref oC), (1, .int cd), (2, .int v)]) hx hb dX2_letterAlone_71 rfl hl (by decide) rfl (fun ls hl => ?_)
              refine lv_aload_n hx hb dX2_letterAlone_72 rfl (lv_at hl 0 rfl) ?_
              refine lv_ifnonnull (tgt := 80) hx hb dX2_letterAlone_73 (by decide) ?_
              refine lv_aload_n hx hb dX2_letterAlone_80 rfl (lv_at hl 0 rfl) ?_
              refine lv_iload_n hx hb dX2_letterAlone_81 rfl (lv_at hl 3 rfl) ?_
              refine kV_i (rest := []) (q0 := 0) (ci := 10) hcf (m_X10_letterFor l dC dI cI cS H.size o5 a51 a52 a53 l5 f51 v ) kc_X10_letterFor gX2_letterAlone_X10_letterFor rfl rfl rfl ⟨Nat.le_of_ble_eq_true rfl, Nat.le_of_ble_eq_true rfl⟩ kX_t hK hP hD hS hA [2, 3] [0, 1, 4] rfl (by decide +kernel) rfl rfl rfl hl rfl (Nat.le_of_ble_eq_true rfl) dX2_letterAlone_82 ⟨Nat.le_of_ble_eq_true rfl, Nat.le_of_ble_eq_true rfl⟩ (fun r_14 H locs hB hJ hSn => ?_)
              refine hB _ (fun hPD9 hf14_0 => ?_)
              clear hB
              obtain ⟨hPn, hDn⟩ := hJ _ hPD9.1 hPD9.2 [(o4, .inr (10, [.ref a41, .ref a42, .ref a43, .int l4])), (a41, .inl (cI, 256, .inl f41)), (oC, .inr (2, [.ref o4, .ref o5])), (o5, .inr (10, [.ref a51, .ref a52, .ref a53, .int l5])), (a51, .inl (cI, 256, .inl f51))] rfl
              clear hP hD hS hJ hPD9
              have hP := hPn
              have hD := hDn
              have hS := hSn
              clear hPn hDn hSn
              exact kl_i (v := r_14) hQQ hx hb hr hlocks hS dX2_letterAlone_85 (fun PZ9 kZ9 => kZ9 (kPD_sub hP hD [2, 0, 1, 3, 4] (by decide +kernel) rfl) ((F_get_f hf14_0 (by omega) (by show v.toInt < 256; omega)).trans (by unfold alF; (repeat (first | rw [if_neg (by omega)] | rw [if_pos (by omega)])))))
            · skip
              refine kV_q (rest := []) (q0 := 0) (ci := 2) hcf (m_X2_toldCode_n l dC dI cI cS s.heap.size oC o4 o5 cd (by omega) (by omega)) kc_X2_toldCode gX2_letterAlone_X2_toldCode rfl rfl rfl ⟨Nat.le_of_ble_eq_true rfl, Nat.le_of_ble_eq_true rfl⟩ kX_t hK hP hD hS hA [0] [1, 2, 3, 4] rfl (by decide +kernel) rfl rfl rfl hl rfl (Nat.le_of_ble_eq_true rfl) dX2_letterAlone_68 ⟨Nat.le_of_ble_eq_true rfl, Nat.le_of_ble_eq_true rfl⟩ (fun H locs hB hJ hSn => ?_)
              refine hB _ (fun hPD9 => ?_)
              clear hB
              obtain ⟨hPn, hDn⟩ := hJ _ hPD9.1 hPD9.2 [(o4, .inr (10, [.ref a41, .ref a42, .ref a43, .int l4])), (a41, .inl (cI, 256, .inl f41)), (o5, .inr (10, [.ref a51, .ref a52, .ref a53, .int l5])), (a51, .inl (cI, 256, .inl f51)), (oC, .inr (2, [.ref o4, .ref o5]))] rfl
              clear hP hD hS hJ hPD9
              have hP := hPn
              have hD := hDn
              have hS := hSn
              clear hPn hDn hSn
              refine lv_astore_nN (lv' := [(3, .null), (0, .ref oC), (1, .int cd), (2, .int v)]) hx hb dX2_letterAlone_71 rfl hl (by decide) rfl (fun ls hl => ?_)
              refine lv_aload_nN hx hb dX2_letterAlone_72 rfl (lv_at hl 0 rfl) ?_
              refine lv_ifnonnullN hx hb dX2_letterAlone_73 ?_
              refine lv_iconst (v := (-1)) hx hb dX2_letterAlone_76 (by decide) ?_
              refine lv_goto (tgt := 85) hx hb dX2_letterAlone_77 (by decide) ?_
              exact kl_i (v := (-1)) hQQ hx hb hr hlocks hS dX2_letterAlone_85 (fun PZ9 kZ9 => kZ9 (kPD_sub hP hD [4, 0, 1, 2, 3] (by decide +kernel) rfl) (by unfold alF; (repeat (first | rw [if_neg (by omega)] | rw [if_pos (by omega)]))))

set_option maxHeartbeats 40000000 in
set_option maxRecDepth 100000 in
theorem f_X2_isWritten (l : Launch) (dC : Nat → ClassId) (dI : Nat → Nat → Nat) (cI cS : ClassId) (sz : Nat) (oC : Nat) (o4 : Nat) (o5 : Nat) (a41 : Nat) (a42 : Nat) (a43 : Nat) (a51 : Nat) (a52 : Nat) (a53 : Nat) (l4 : Int32) (f41 : Nat → Int32) (l5 : Int32) (f51 : Nat → Int32) (cd : Int32) (v : Int32) (g_v : 0 ≤ v.toInt ∧ v.toInt ≤ 255) : kMi l yX2_isWritten wsX2_isWritten ({ frames := 2, cells := 0, slots := 0, locals := 44 } : Room) [.ref oC, .int cd, .int v] sz (dC, dI) vwCl [(cI, .int), (cS, .short)] [(oC, .inr (2, [.ref o4, .ref o5])), (o4, .inr (10, [.ref a41, .ref a42, .ref a43, .int l4])), (a41, .inl (cI, 256, .inl f41)), (o5, .inr (10, [.ref a51, .ref a52, .ref a53, .int l5])), (a51, .inl (cI, 256, .inl f51))] (fun _ => True) 0 0 (fun (A : Nat → Prop) (r : Int32) (hh9 : Heap) => ∀ PZ9 : Prop, (kPD (dC, dI) vwCl A [(oC, .inr (2, [.ref o4, .ref o5])), (o4, .inr (10, [.ref a41, .ref a42, .ref a43, .int l4])), (a41, .inl (cI, 256, .inl f41)), (o5, .inr (10, [.ref a51, .ref a52, .ref a53, .int l5])), (a51, .inl (cI, 256, .inl f51))] hh9 → (0 ≤ r.toInt ∧ r.toInt ≤ 1) → (F_w r cd v f41 f51) → PZ9) → PZ9) := by
  refine kMi_of (cc := cX2_isWritten) (maxL := 3) (ret := (some .boolean)) (lv := [(0, .ref oC), (1, .int cd), (2, .int v)]) (by decide +kernel) rfl rfl (Nat.le_of_ble_eq_true rfl) ?_
  intro p e s m below meth c A QQ ls hx hb hr hts hml hown hlocks hA hQQ hK hX hP hD hS hl
  have hown : s.vm.findClass RX2 = some m.cls := hown
  have hcf := k_cf hx hb hml hown hts
  refine lv_iload_n hx hb dX2_isWritten_0 rfl (lv_at hl 1 rfl) ?_
  by_cases c_1 : cd = 2
  · refine lv_lookup (tgt := 28) hx hb dX2_isWritten_1 (by decide) (by rw [c_1] <;> rfl) (by decide) ?_
    have tc_1 : cd.toInt = 2 := v_eq c_1
    refine lv_iload_n hx hb dX2_isWritten_28 rfl (lv_at hl 2 rfl) ?_
    refine lv_sipush (v := 192) hx hb dX2_isWritten_29 (by decide) ?_
    refine lv_icmp_lt (tgt := 49) hx hb dX2_isWritten_32 (by decide) (fun c_2 => ?_) (fun c_2 => ?_)
    · have tc_2 : v.toInt < 192 := v_lt c_2
      refine lv_iconst (v := 1) hx hb dX2_isWritten_49 (by decide) ?_
      refine lv_goto (tgt := 54) hx hb dX2_isWritten_50 (by decide) ?_
      exact kl_z (v := 1) hQQ hx hb hr hlocks hS dX2_isWritten_54 (rfl) (fun PZ9 kZ9 => kZ9 (⟨hP, hD⟩) (by decide) (by first | exact Or.inl ⟨rfl, Or.inl ⟨by omega, by omega⟩⟩ | exact Or.inl ⟨rfl, Or.inr (Or.inl ⟨by omega, by omega⟩)⟩))
    · have tc_2 : 192 ≤ v.toInt := v_nlt c_2
      refine lv_iload_n hx hb dX2_isWritten_35 rfl (lv_at hl 2 rfl) ?_
      refine lv_sipush (v := 193) hx hb dX2_isWritten_36 (by decide) ?_
      refine lv_icmp_le (tgt := 53) hx hb dX2_isWritten_39 (by decide) (fun c_3 => ?_) (fun c_3 => ?_)
      · have tc_3 : v.toInt ≤ 193 := v_le c_3
        refine lv_iconst (v := 0) hx hb dX2_isWritten_53 (by decide) ?_
        exact kl_z (v := 0) hQQ hx hb hr hlocks hS dX2_isWritten_54 (rfl) (fun PZ9 kZ9 => kZ9 (⟨hP, hD⟩) (by decide) (Or.inr ⟨rfl, fun h => h.elim (fun z => by omega) (fun z => z.elim (fun z => by omega) (fun z => by omega))⟩))
      · have tc_3 : 193 < v.toInt := v_nle c_3
        refine lv_iload_n hx hb dX2_isWritten_42 rfl (lv_at hl 2 rfl) ?_
        refine lv_sipush (v := 240) hx hb dX2_isWritten_43 (by decide) ?_
        refine lv_icmp_ge (tgt := 53) hx hb dX2_isWritten_46 (by decide) (fun c_4 => ?_) (fun c_4 => ?_)
        · have tc_4 : 240 ≤ v.toInt := v_le c_4
          refine lv_iconst (v := 0) hx hb dX2_isWritten_53 (by decide) ?_
          exact kl_z (v := 0) hQQ hx hb hr hlocks hS dX2_isWritten_54 (rfl) (fun PZ9 kZ9 => kZ9 (⟨hP, hD⟩) (by decide) (Or.inr ⟨rfl, fun h => h.elim (fun z => by omega) (fun z => z.elim (fun z => by omega) (fun z => by omega))⟩))
        · have tc_4 : v.toInt < 240 := v_nle c_4
          refine lv_iconst (v := 1) hx hb dX2_isWritten_49 (by decide) ?_
          refine lv_goto (tgt := 54) hx hb dX2_isWritten_50 (by decide) ?_
          exact kl_z (v := 1) hQQ hx hb hr hlocks hS dX2_isWritten_54 (rfl) (fun PZ9 kZ9 => kZ9 (⟨hP, hD⟩) (by decide) (by first | exact Or.inl ⟨rfl, Or.inl ⟨by omega, by omega⟩⟩ | exact Or.inl ⟨rfl, Or.inr (Or.inl ⟨by omega, by omega⟩)⟩))
  · skip
    have tc_1 : ¬ cd.toInt = 2 := v_ne c_1
    by_cases c_5 : cd = 3
    · refine lv_lookup (tgt := 55) hx hb dX2_isWritten_1 (by decide) (by rw [c_5] <;> rfl) (by decide) ?_
      have tc_5 : cd.toInt = 3 := v_eq c_5
      refine lv_iload_n hx hb dX2_isWritten_55 rfl (lv_at hl 2 rfl) ?_
      refine lv_sipush (v := 128) hx hb dX2_isWritten_56 (by decide) ?_
      refine lv_icmp_ge (tgt := 66) hx hb dX2_isWritten_59 (by decide) (fun c_6 => ?_) (fun c_6 => ?_)
      · have tc_6 : 128 ≤ v.toInt := v_le c_6
        refine lv_iconst (v := 0) hx hb dX2_isWritten_66 (by decide) ?_
        exact kl_z (v := 0) hQQ hx hb hr hlocks hS dX2_isWritten_67 (rfl) (fun PZ9 kZ9 => kZ9 (⟨hP, hD⟩) (by decide) (Or.inr ⟨rfl, fun h => h.elim (fun z => by omega) (fun z => z.elim (fun z => by omega) (fun z => by omega))⟩))
      · have tc_6 : v.toInt < 128 := v_nle c_6
        refine lv_iconst (v := 1) hx hb dX2_isWritten_62 (by decide) ?_
        refine lv_goto (tgt := 67) hx hb dX2_isWritten_63 (by decide) ?_
        exact kl_z (v := 1) hQQ hx hb hr hlocks hS dX2_isWritten_67 (rfl) (fun PZ9 kZ9 => kZ9 (⟨hP, hD⟩) (by decide) (by first | exact Or.inl ⟨rfl, Or.inl ⟨by omega, by omega⟩⟩ | exact Or.inl ⟨rfl, Or.inr (Or.inl ⟨by omega, by omega⟩)⟩))
    · skip
      have tc_5 : ¬ cd.toInt = 3 := v_ne c_5
      refine lv_lookup (tgt := 68) hx hb dX2_isWritten_1 (by decide) (by show Op.lookupswitch.offset [(2, 27), (3, 54)] _ _ = 67; rw [lv_osw (a := 2) c_1 rfl, lv_osw (a := 3) c_5 rfl] <;> rfl) (by decide) ?_
      refine lv_aload_n hx hb dX2_isWritten_68 rfl (lv_at hl 0 rfl) ?_
      refine lv_iload_n hx hb dX2_isWritten_69 rfl (lv_at hl 1 rfl) ?_
      refine lv_iload_n hx hb dX2_isWritten_70 rfl (lv_at hl 2 rfl) ?_
      refine kV_i (rest := []) (q0 := 0) (ci := 2) hcf (f_X2_letterAlone l dC dI cI cS s.heap.size oC o4 o5 a41 a42 a43 a51 a52 a53 l4 f41 l5 f51 cd v (g_v)) kc_X2_letterAlone gX2_isWritten_X2_letterAlone rfl rfl rfl ⟨Nat.le_of_ble_eq_true rfl, Nat.le_of_ble_eq_true rfl⟩ kX_t hK hP hD hS hA [0, 1, 2, 3, 4] [] rfl (by decide +kernel) rfl rfl rfl hl rfl (Nat.le_of_ble_eq_true rfl) dX2_isWritten_71 ⟨Nat.le_of_ble_eq_true rfl, Nat.le_of_ble_eq_true rfl⟩ (fun r_7 H locs hB hJ hSn => ?_)
      refine hB _ (fun hPD9 hf7_0 => ?_)
      clear hB
      obtain ⟨hPn, hDn⟩ := hJ _ hPD9.1 hPD9.2 [(oC, .inr (2, [.ref o4, .ref o5])), (o4, .inr (10, [.ref a41, .ref a42, .ref a43, .int l4])), (a41, .inl (cI, 256, .inl f41)), (o5, .inr (10, [.ref a51, .ref a52, .ref a53, .int l5])), (a51, .inl (cI, 256, .inl f51))] rfl
      clear hP hD hS hJ hPD9
      have hP := hPn
      have hD := hDn
      have hS := hSn
      clear hPn hDn hSn
      refine lv_iconst (v := (-1)) hx hb dX2_isWritten_74 (by decide) ?_
      refine lv_icmp_eq (tgt := 82) hx hb dX2_isWritten_75 (by decide) (fun c_8 => ?_) (fun c_8 => ?_)
      · have tc_8 : r_7.toInt = (-1) := v_eq c_8
        refine lv_iconst (v := 0) hx hb dX2_isWritten_82 (by decide) ?_
        exact kl_z (v := 0) hQQ hx hb hr hlocks hS dX2_isWritten_83 (rfl) (fun PZ9 kZ9 => kZ9 (⟨hP, hD⟩) (by decide) (Or.inr ⟨rfl, fun h => h.elim (fun z => by omega) (fun z => z.elim (fun z => by omega) (fun z => z.2.2 (hf7_0.symm.trans c_8)))⟩))
      · have tc_8 : ¬ r_7.toInt = (-1) := v_ne c_8
        refine lv_iconst (v := 1) hx hb dX2_isWritten_78 (by decide) ?_
        refine lv_goto (tgt := 83) hx hb dX2_isWritten_79 (by decide) ?_
        exact kl_z (v := 1) hQQ hx hb hr hlocks hS dX2_isWritten_83 (rfl) (fun PZ9 kZ9 => kZ9 (⟨hP, hD⟩) (by decide) (Or.inl ⟨rfl, Or.inr (Or.inr ⟨by omega, by omega, fun e => c_8 (hf7_0.trans e)⟩)⟩))

set_option maxHeartbeats 40000000 in
set_option maxRecDepth 100000 in
theorem f_X2_neverLost (l : Launch) (dC : Nat → ClassId) (dI : Nat → Nat → Nat) (cI cS : ClassId) (sz : Nat) (oC : Nat) (o4 : Nat) (o5 : Nat) (a41 : Nat) (a42 : Nat) (a43 : Nat) (a51 : Nat) (a52 : Nat) (a53 : Nat) (l4 : Int32) (f41 : Nat → Int32) (l5 : Int32) (f51 : Nat → Int32) (a : Int32) (b : Int32)  : kMi l yX2_neverLost wsX2_neverLost ({ frames := 3, cells := 0, slots := 0, locals := 66 } : Room) [.ref oC, .int a, .int b] sz (dC, dI) vwCl [(cI, .int), (cS, .short)] [(oC, .inr (2, [.ref o4, .ref o5])), (o4, .inr (10, [.ref a41, .ref a42, .ref a43, .int l4])), (a41, .inl (cI, 256, .inl f41)), (o5, .inr (10, [.ref a51, .ref a52, .ref a53, .int l5])), (a51, .inl (cI, 256, .inl f51))] (fun _ => True) 0 0 (fun (A : Nat → Prop) (r : Int32) (hh9 : Heap) => ∀ PZ9 : Prop, (kPD (dC, dI) vwCl A [(oC, .inr (2, [.ref o4, .ref o5])), (o4, .inr (10, [.ref a41, .ref a42, .ref a43, .int l4])), (a41, .inl (cI, 256, .inl f41)), (o5, .inr (10, [.ref a51, .ref a52, .ref a53, .int l5])), (a51, .inl (cI, 256, .inl f51))] hh9 → (0 ≤ r.toInt ∧ r.toInt ≤ 1) → (F_nl r a b f41 f51) → PZ9) → PZ9) := by
  refine kMi_of (cc := cX2_neverLost) (maxL := 4) (ret := (some .boolean)) (lv := [(0, .ref oC), (1, .int a), (2, .int b)]) (by decide +kernel) rfl rfl (Nat.le_of_ble_eq_true rfl) ?_
  intro p e s m below meth c A QQ ls hx hb hr hts hml hown hlocks hA hQQ hK hX hP hD hS hl
  have hown : s.vm.findClass RX2 = some m.cls := hown
  have hcf := k_cf hx hb hml hown hts
  refine lv_iload_n hx hb dX2_neverLost_0 rfl (lv_at hl 1 rfl) ?_
  refine lv_iload_n hx hb dX2_neverLost_1 rfl (lv_at hl 2 rfl) ?_
  refine lv_icmp_ne (tgt := 7) hx hb dX2_neverLost_2 (by decide) (fun c_1 => ?_) (fun c_1 => ?_)
  · have tc_1 : ¬ a.toInt = b.toInt := v_ne c_1
    have rw1_0 := v_rng a
    have rw1_1 := v_rng b
    refine lv_iconst (v := 0) hx hb dX2_neverLost_7 (by decide) ?_
    refine lv_istore_n (lv' := [(3, .int 0), (0, .ref oC), (1, .int a), (2, .int b)]) hx hb dX2_neverLost_8 rfl hl (by decide) rfl (fun ls hl => ?_)
    have LOOP_9 : ∀ (k_9 : Nat) (v : Int32) (H : Heap) (locs : List Loc) (ls : Array Slot), MSd (256 - v.toInt : Int) k_9 → (0 ≤ v.toInt ∧ v.toInt ≤ 256) → (∀ u : Int32, 0 ≤ u.toInt → u.toInt < v.toInt → wrP a u f41 f51 → ¬ alF b u f41 f51 = -1) → va_P (dC, dI) vwCl [(oC, .inr (2, [.ref o4, .ref o5])), (o4, .inr (10, [.ref a41, .ref a42, .ref a43, .int l4])), (a41, .inl (cI, 256, .inl f41)), (o5, .inr (10, [.ref a51, .ref a52, .ref a53, .int l5])), (a51, .inl (cI, 256, .inl f51))] H → va_D A [(oC, .inr (2, [.ref o4, .ref o5])), (o4, .inr (10, [.ref a41, .ref a42, .ref a43, .int l4])), (a41, .inl (cI, 256, .inl f41)), (o5, .inr (10, [.ref a51, .ref a52, .ref a53, .int l5])), (a51, .inl (cI, 256, .inl f51))] → va_S A s.heap H locs → lv_has ls 4 [(3, .int v), (0, .ref oC), (1, .int a), (2, .int b)] → W p l e (headSpec wsX2_neverLost ({ frames := 3, cells := 0, slots := 0, locals := 66 } : Room)).room s m ([.ref oC, .int a, .int b] : List Value).toArray below meth c H locs 0 0 (MQ below QQ ([.ref oC, .int a, .int b] : List Value).toArray s 0 0 A) (F0 m 9 ls []) := by
      clear hP hD hS hl
      intro k_9
      induction k_9 with
      | zero =>
        intro v H locs ls hm_9 g_v hnl hP hD hS hl
        exact ms_0 hm_9
      | succ k_9 ih_9 =>
        intro v H locs ls hm_9 g_v hnl hP hD hS hl
        refine lv_iload_n hx hb dX2_neverLost_9 rfl (lv_at hl 0 rfl) ?_
        refine lv_sipush (v := 256) hx hb dX2_neverLost_10 (by decide) ?_
        refine lv_icmp_ge (tgt := 43) hx hb dX2_neverLost_13 (by decide) (fun c_2 => ?_) (fun c_2 => ?_)
        · have tc_2 : 256 ≤ v.toInt := v_le c_2
          refine lv_iconst (v := 1) hx hb dX2_neverLost_43 (by decide) ?_
          exact kl_z (v := 1) hQQ hx hb hr hlocks hS dX2_neverLost_44 (rfl) (fun PZ9 kZ9 => kZ9 (⟨hP, hD⟩) (by decide) (Or.inl ⟨rfl, Or.inr (fun u h1 h2 => hnl u h1 (by omega))⟩))
        · have tc_2 : v.toInt < 256 := v_nle c_2
          refine lv_aload_n hx hb dX2_neverLost_16 rfl (lv_at hl 1 rfl) ?_
          refine lv_iload_n hx hb dX2_neverLost_17 rfl (lv_at hl 2 rfl) ?_
          refine lv_iload_n hx hb dX2_neverLost_18 rfl (lv_at hl 0 rfl) ?_
          refine kV_i (rest := []) (q0 := 0) (ci := 2) hcf (f_X2_isWritten l dC dI cI cS H.size oC o4 o5 a41 a42 a43 a51 a52 a53 l4 f41 l5 f51 a v (by omega)) kc_X2_isWritten gX2_neverLost_X2_isWritten rfl rfl rfl ⟨Nat.le_of_ble_eq_true rfl, Nat.le_of_ble_eq_true rfl⟩ kX_t hK hP hD hS hA [0, 1, 2, 3, 4] [] rfl (by decide +kernel) rfl rfl rfl hl rfl (Nat.le_of_ble_eq_true rfl) dX2_neverLost_19 ⟨Nat.le_of_ble_eq_true rfl, Nat.le_of_ble_eq_true rfl⟩ (fun r_3 H locs hB hJ hSn => ?_)
          refine hB _ (fun hPD9 hf3_0 hf3_1 => ?_)
          clear hB
          obtain ⟨hPn, hDn⟩ := hJ _ hPD9.1 hPD9.2 [(oC, .inr (2, [.ref o4, .ref o5])), (o4, .inr (10, [.ref a41, .ref a42, .ref a43, .int l4])), (a41, .inl (cI, 256, .inl f41)), (o5, .inr (10, [.ref a51, .ref a52, .ref a53, .int l5])), (a51, .inl (cI, 256, .inl f51))] rfl
          clear hP hD hS hJ hPD9
          have hP := hPn
          have hD := hDn
          have hS := hSn
          clear hPn hDn hSn
          refine lv_if_eq (tgt := 37) hx hb dX2_neverLost_22 (by decide) (fun c_4 => ?_) (fun c_4 => ?_)
          · have tc_4 : r_3.toInt = 0 := v_eq c_4
            obtain ⟨x_5, ex_5⟩ : ∃ y : Int32, y = v + 1 := ⟨_, rfl⟩
            have tx_5 : x_5.toInt = v.toInt + 1 := v_addR (l2 := 1) (h2 := 1) ex_5 g_v (by decide) (by decide) (by decide)
            refine lv_iinc (v := x_5) (lv' := [(3, .int x_5), (0, .ref oC), (1, .int a), (2, .int b)]) hx hb dX2_neverLost_37 hl (k := 0) rfl (by rw [ex_5]; rfl) (by decide) rfl (fun ls hl => ?_)
            refine lv_goto (tgt := 9) hx hb dX2_neverLost_40 (by decide) ?_
            exact ih_9 x_5 _ _ _ (ms_lt hm_9 (by show ((256 - x_5.toInt : Int)) < 256 - v.toInt; omega) (by show (0 : Int) < 256 - v.toInt; omega)) (by show 0 ≤ x_5.toInt ∧ x_5.toInt ≤ 256; omega) (nl_s hnl (by omega) (fun hw => absurd hw (F_w_0 hf3_1 (by omega)))) hP hD hS (lv_sub hl [0, 1, 2, 3] rfl)
          · have tc_4 : ¬ r_3.toInt = 0 := v_ne c_4
            refine lv_aload_n hx hb dX2_neverLost_25 rfl (lv_at hl 1 rfl) ?_
            refine lv_iload_n hx hb dX2_neverLost_26 rfl (lv_at hl 3 rfl) ?_
            refine lv_iload_n hx hb dX2_neverLost_27 rfl (lv_at hl 0 rfl) ?_
            refine kV_i (rest := []) (q0 := 0) (ci := 2) hcf (f_X2_letterAlone l dC dI cI cS H.size oC o4 o5 a41 a42 a43 a51 a52 a53 l4 f41 l5 f51 b v (by omega)) kc_X2_letterAlone gX2_neverLost_X2_letterAlone rfl rfl rfl ⟨Nat.le_of_ble_eq_true rfl, Nat.le_of_ble_eq_true rfl⟩ kX_t hK hP hD hS hA [0, 1, 2, 3, 4] [] rfl (by decide +kernel) rfl rfl rfl hl rfl (Nat.le_of_ble_eq_true rfl) dX2_neverLost_28 ⟨Nat.le_of_ble_eq_true rfl, Nat.le_of_ble_eq_true rfl⟩ (fun r_6 H locs hB hJ hSn => ?_)
            refine hB _ (fun hPD9 hf6_0 => ?_)
            clear hB
            obtain ⟨hPn, hDn⟩ := hJ _ hPD9.1 hPD9.2 [(oC, .inr (2, [.ref o4, .ref o5])), (o4, .inr (10, [.ref a41, .ref a42, .ref a43, .int l4])), (a41, .inl (cI, 256, .inl f41)), (o5, .inr (10, [.ref a51, .ref a52, .ref a53, .int l5])), (a51, .inl (cI, 256, .inl f51))] rfl
            clear hP hD hS hJ hPD9
            have hP := hPn
            have hD := hDn
            have hS := hSn
            clear hPn hDn hSn
            refine lv_iconst (v := (-1)) hx hb dX2_neverLost_31 (by decide) ?_
            refine lv_icmp_ne (tgt := 37) hx hb dX2_neverLost_32 (by decide) (fun c_7 => ?_) (fun c_7 => ?_)
            · have tc_7 : ¬ r_6.toInt = (-1) := v_ne c_7
              obtain ⟨x_8, ex_8⟩ : ∃ y : Int32, y = v + 1 := ⟨_, rfl⟩
              have tx_8 : x_8.toInt = v.toInt + 1 := v_addR (l2 := 1) (h2 := 1) ex_8 g_v (by decide) (by decide) (by decide)
              refine lv_iinc (v := x_8) (lv' := [(3, .int x_8), (0, .ref oC), (1, .int a), (2, .int b)]) hx hb dX2_neverLost_37 hl (k := 0) rfl (by rw [ex_8]; rfl) (by decide) rfl (fun ls hl => ?_)
              refine lv_goto (tgt := 9) hx hb dX2_neverLost_40 (by decide) ?_
              exact ih_9 x_8 _ _ _ (ms_lt hm_9 (by show ((256 - x_8.toInt : Int)) < 256 - v.toInt; omega) (by show (0 : Int) < 256 - v.toInt; omega)) (by show 0 ≤ x_8.toInt ∧ x_8.toInt ≤ 256; omega) (nl_s hnl (by omega) (fun _ e => c_7 (hf6_0.trans e))) hP hD hS (lv_sub hl [0, 1, 2, 3] rfl)
            · have tc_7 : r_6.toInt = (-1) := v_eq c_7
              refine lv_iconst (v := 0) hx hb dX2_neverLost_35 (by decide) ?_
              exact kl_z (v := 0) hQQ hx hb hr hlocks hS dX2_neverLost_36 (rfl) (fun PZ9 kZ9 => kZ9 (⟨hP, hD⟩) (by decide) (Or.inr ⟨rfl, fun h => h.elim (fun e => c_1 e) (fun h2 => h2 v (by omega) (by omega) (F_w_1 hf3_1 (by omega)) (hf6_0.symm.trans c_7))⟩))
    exact LOOP_9 _ 0 _ _ _ (ms_s _) (by decide) (fun u h1 h2 => absurd h2 (by show ¬ u.toInt < 0; omega)) hP hD hS (lv_sub hl [0, 1, 2, 3] rfl)
  · have tc_1 : a.toInt = b.toInt := v_eq c_1
    have rw1_0 := v_rng a
    have rw1_1 := v_rng b
    refine lv_iconst (v := 1) hx hb dX2_neverLost_5 (by decide) ?_
    exact kl_z (v := 1) hQQ hx hb hr hlocks hS dX2_neverLost_6 (rfl) (fun PZ9 kZ9 => kZ9 (⟨hP, hD⟩) (by decide) (Or.inl ⟨rfl, Or.inl c_1⟩))

set_option maxHeartbeats 40000000 in
set_option maxRecDepth 100000 in
theorem f_X11_safe (l : Launch) (dC : Nat → ClassId) (dI : Nat → Nat → Nat) (cI cS : ClassId) (sz : Nat) (oX : Nat) (nT : Nat) (nL : Nat) (nM : Nat) (oC : Nat) (oP : Nat) (oH : Nat) (oK : Nat) (oG : Nat) (oR : Nat) (oQ : Nat) (oW : Nat) (o4 : Nat) (o5 : Nat) (a41 : Nat) (a42 : Nat) (a43 : Nat) (a51 : Nat) (a52 : Nat) (a53 : Nat) (fa : Int32) (l4 : Int32) (f41 : Nat → Int32) (l5 : Int32) (f51 : Nat → Int32) (a : Int32) (b : Int32)  : kMi l yX11_safe wsX11_safe ({ frames := 4, cells := 0, slots := 0, locals := 89 } : Room) [.ref oX, .int a, .int b] sz (dC, dI) vwCl [(cI, .int), (cS, .short)] [(oX, .inr (11, [.ref nT, .ref nL, .ref nM, .ref oC, .ref oP, .ref oH, .ref oK, .ref oG, .ref oR, .ref oQ, .ref oW, .int fa])), (oC, .inr (2, [.ref o4, .ref o5])), (o4, .inr (10, [.ref a41, .ref a42, .ref a43, .int l4])), (a41, .inl (cI, 256, .inl f41)), (o5, .inr (10, [.ref a51, .ref a52, .ref a53, .int l5])), (a51, .inl (cI, 256, .inl f51))] (fun _ => True) 0 0 (fun (A : Nat → Prop) (r : Int32) (hh9 : Heap) => ∀ PZ9 : Prop, (∀ (fa' : Int32), kPD (dC, dI) vwCl A [(oX, .inr (11, [.ref nT, .ref nL, .ref nM, .ref oC, .ref oP, .ref oH, .ref oK, .ref oG, .ref oR, .ref oQ, .ref oW, .int fa'])), (oC, .inr (2, [.ref o4, .ref o5])), (o4, .inr (10, [.ref a41, .ref a42, .ref a43, .int l4])), (a41, .inl (cI, 256, .inl f41)), (o5, .inr (10, [.ref a51, .ref a52, .ref a53, .int l5])), (a51, .inl (cI, 256, .inl f51))] hh9 → (F_safe r a b f41 f51) → PZ9) → PZ9) := by
  refine kMi_of (cc := cX11_safe) (maxL := 3) (ret := (some .int)) (lv := [(0, .ref oX), (1, .int a), (2, .int b)]) (by decide +kernel) rfl rfl (Nat.le_of_ble_eq_true rfl) ?_
  intro p e s m below meth c A QQ ls hx hb hr hts hml hown hlocks hA hQQ hK hX hP hD hS hl
  have hown : s.vm.findClass RX11 = some m.cls := hown
  have hcf := k_cf hx hb hml hown hts
  have in_X11 : ∀ w ∈ wsX110, w ∈ wsX11_safe := fun _ h => List.mem_cons_of_mem _ (List.mem_append_left _ (List.mem_append_left _ (List.mem_append_left _ (List.mem_append_left _ (List.mem_append_right _ (h))))))
  refine lv_aload_n hx hb dX11_safe_0 rfl (lv_at hl 0 rfl) ?_
  refine lv_iconst (v := (-1)) hx hb dX11_safe_1 (by decide) ?_
  refine va_put (D := (dC, dI)) (ci := 11) (v := .int (-1)) (ty := .int) (C := RX11) (T := TX11) (N := 12) hx hb hts in_X11 tyX11 tyX11_ok nmX11 hown hK hP hD hS 0 rfl rfl 11 (Nat.le_of_ble_eq_true rfl) (hts (.fieldLink RX11 90 "TextMender" "fault" "I") (List.mem_of_getElem? (i := 1) rfl)) (fun _ h9 => h9) rfl (tyX11_ok 11 (Nat.le_of_ble_eq_true rfl)) rfl rfl (Nat.le_of_ble_eq_true rfl) dX11_safe_2 (kW (wn := [(oX, .inr (11, [.ref nT, .ref nL, .ref nM, .ref oC, .ref oP, .ref oH, .ref oK, .ref oG, .ref oR, .ref oQ, .ref oW, .int (-1)])), (oC, .inr (2, [.ref o4, .ref o5])), (o4, .inr (10, [.ref a41, .ref a42, .ref a43, .int l4])), (a41, .inl (cI, 256, .inl f41)), (o5, .inr (10, [.ref a51, .ref a52, .ref a53, .int l5])), (a51, .inl (cI, 256, .inl f51))]) rfl (fun H locs hPn hDn hSn => ?_))
  clear hP hD hS
  have hP := hPn
  have hD := hDn
  have hS := hSn
  clear hPn hDn hSn
  refine lv_iload_n hx hb dX11_safe_5 rfl (lv_at hl 1 rfl) ?_
  refine kS_i (rest := []) hcf (m_X2_known l dC dI cI cS H.size a ) kc_X2_known gX11_safe_X2_known rfl rfl ⟨Nat.le_of_ble_eq_true rfl, Nat.le_of_ble_eq_true rfl⟩ kX_t hK hP hD hS hA (posT mk_135 0) (posF mk_135 0) (kC_of mk_135 rfl rfl) (by decide +kernel) rfl hl rfl (Nat.le_of_ble_eq_true rfl) dX11_safe_6 ⟨Nat.le_of_ble_eq_true rfl, Nat.le_of_ble_eq_true rfl⟩ (fun r_1 H locs hB hJ hSn => ?_)
  refine hB _ (fun hPD9 hf1_0 hf1_1 => ?_)
  clear hB
  obtain ⟨hPn, hDn⟩ := kJi (m := mk_135) hJ rfl hPD9.1 hPD9.2 (wn := [(oX, .inr (11, [.ref nT, .ref nL, .ref nM, .ref oC, .ref oP, .ref oH, .ref oK, .ref oG, .ref oR, .ref oQ, .ref oW, .int (-1)])), (oC, .inr (2, [.ref o4, .ref o5])), (o4, .inr (10, [.ref a41, .ref a42, .ref a43, .int l4])), (a41, .inl (cI, 256, .inl f41)), (o5, .inr (10, [.ref a51, .ref a52, .ref a53, .int l5])), (a51, .inl (cI, 256, .inl f51))]) rfl
  clear hP hD hS hJ hPD9
  have hP := hPn
  have hD := hDn
  have hS := hSn
  clear hPn hDn hSn
  refine lv_if_eq (tgt := 19) hx hb dX11_safe_9 (by decide) (fun c_2 => ?_) (fun c_2 => ?_)
  · have tc_2 : r_1.toInt = 0 := v_eq c_2
    refine lv_iconst (v := (-1)) hx hb dX11_safe_19 (by decide) ?_
    exact kl_i (v := (-1)) hQQ hx hb hr hlocks hS dX11_safe_20 (fun PZ9 kZ9 => kZ9 (-1) (⟨hP, hD⟩) (Or.inl ⟨rfl, by unfold okd; omega⟩))
  · have tc_2 : ¬ r_1.toInt = 0 := v_ne c_2
    refine lv_iload_n hx hb dX11_safe_12 rfl (lv_at hl 2 rfl) ?_
    refine kS_i (rest := []) hcf (m_X2_known l dC dI cI cS H.size b ) kc_X2_known gX11_safe_X2_known rfl rfl ⟨Nat.le_of_ble_eq_true rfl, Nat.le_of_ble_eq_true rfl⟩ kX_t hK hP hD hS hA (posT mk_135 0) (posF mk_135 0) (kC_of mk_135 rfl rfl) (by decide +kernel) rfl hl rfl (Nat.le_of_ble_eq_true rfl) dX11_safe_13 ⟨Nat.le_of_ble_eq_true rfl, Nat.le_of_ble_eq_true rfl⟩ (fun r_3 H locs hB hJ hSn => ?_)
    refine hB _ (fun hPD9 hf3_0 hf3_1 => ?_)
    clear hB
    obtain ⟨hPn, hDn⟩ := kJi (m := mk_135) hJ rfl hPD9.1 hPD9.2 (wn := [(oX, .inr (11, [.ref nT, .ref nL, .ref nM, .ref oC, .ref oP, .ref oH, .ref oK, .ref oG, .ref oR, .ref oQ, .ref oW, .int (-1)])), (oC, .inr (2, [.ref o4, .ref o5])), (o4, .inr (10, [.ref a41, .ref a42, .ref a43, .int l4])), (a41, .inl (cI, 256, .inl f41)), (o5, .inr (10, [.ref a51, .ref a52, .ref a53, .int l5])), (a51, .inl (cI, 256, .inl f51))]) rfl
    clear hP hD hS hJ hPD9
    have hP := hPn
    have hD := hDn
    have hS := hSn
    clear hPn hDn hSn
    refine lv_if_ne (tgt := 21) hx hb dX11_safe_16 (by decide) (fun c_4 => ?_) (fun c_4 => ?_)
    · have tc_4 : ¬ r_3.toInt = 0 := v_ne c_4
      refine lv_aload_n hx hb dX11_safe_21 rfl (lv_at hl 0 rfl) ?_
      refine va_get (D := (dC, dI)) (ci := 11) (v := .ref oC) (C := RX11) (T := TX11) (N := 12) hx hb hts in_X11 hown hK hP 0 rfl rfl 3 (Nat.le_of_ble_eq_true rfl) (hts (.fieldLink RX11 40 "TextMender" "codes" "LTextMender$Codes;") (List.mem_of_getElem? (i := 2) rfl)) (fun _ h9 => h9) rfl dX11_safe_22 ?_
      refine lv_iload_n hx hb dX11_safe_25 rfl (lv_at hl 1 rfl) ?_
      refine lv_iload_n hx hb dX11_safe_26 rfl (lv_at hl 2 rfl) ?_
      refine kV_i (rest := []) (q0 := 0) (ci := 2) hcf (f_X2_neverLost l dC dI cI cS H.size oC o4 o5 a41 a42 a43 a51 a52 a53 l4 f41 l5 f51 a b ) kc_X2_neverLost gX11_safe_X2_neverLost rfl rfl rfl ⟨Nat.le_of_ble_eq_true rfl, Nat.le_of_ble_eq_true rfl⟩ kX_t hK hP hD hS hA (posT mk_136 0) (posF mk_136 0) (kC_of mk_136 rfl rfl) (by decide +kernel) rfl rfl rfl hl rfl (Nat.le_of_ble_eq_true rfl) dX11_safe_27 ⟨Nat.le_of_ble_eq_true rfl, Nat.le_of_ble_eq_true rfl⟩ (fun r_5 H locs hB hJ hSn => ?_)
      refine hB _ (fun hPD9 hf5_0 hf5_1 => ?_)
      clear hB
      obtain ⟨hPn, hDn⟩ := kJi (m := mk_136) hJ rfl hPD9.1 hPD9.2 (wn := [(oX, .inr (11, [.ref nT, .ref nL, .ref nM, .ref oC, .ref oP, .ref oH, .ref oK, .ref oG, .ref oR, .ref oQ, .ref oW, .int (-1)])), (oC, .inr (2, [.ref o4, .ref o5])), (o4, .inr (10, [.ref a41, .ref a42, .ref a43, .int l4])), (a41, .inl (cI, 256, .inl f41)), (o5, .inr (10, [.ref a51, .ref a52, .ref a53, .int l5])), (a51, .inl (cI, 256, .inl f51))]) rfl
      clear hP hD hS hJ hPD9
      have hP := hPn
      have hD := hDn
      have hS := hSn
      clear hPn hDn hSn
      refine lv_if_eq (tgt := 37) hx hb dX11_safe_30 (by decide) (fun c_6 => ?_) (fun c_6 => ?_)
      · have tc_6 : r_5.toInt = 0 := v_eq c_6
        refine lv_iconst (v := 0) hx hb dX11_safe_37 (by decide) ?_
        exact kl_i (v := 0) hQQ hx hb hr hlocks hS dX11_safe_38 (fun PZ9 kZ9 => kZ9 (-1) (⟨hP, hD⟩) (Or.inr ⟨by unfold okd; omega, by unfold okd; omega, (v_inj (by first | (show _ = (1 : Int); omega) | (show _ = (0 : Int); omega)) : r_5 = 0) ▸ hf5_1⟩))
      · have tc_6 : ¬ r_5.toInt = 0 := v_ne c_6
        refine lv_iconst (v := 1) hx hb dX11_safe_33 (by decide) ?_
        refine lv_goto (tgt := 38) hx hb dX11_safe_34 (by decide) ?_
        exact kl_i (v := 1) hQQ hx hb hr hlocks hS dX11_safe_38 (fun PZ9 kZ9 => kZ9 (-1) (⟨hP, hD⟩) (Or.inr ⟨by unfold okd; omega, by unfold okd; omega, (v_inj (by first | (show _ = (1 : Int); omega) | (show _ = (0 : Int); omega)) : r_5 = 1) ▸ hf5_1⟩))
    · have tc_4 : r_3.toInt = 0 := v_eq c_4
      refine lv_iconst (v := (-1)) hx hb dX11_safe_19 (by decide) ?_
      exact kl_i (v := (-1)) hQQ hx hb hr hlocks hS dX11_safe_20 (fun PZ9 kZ9 => kZ9 (-1) (⟨hP, hD⟩) (Or.inl ⟨rfl, by unfold okd; omega⟩))

set_option maxHeartbeats 40000000 in
set_option maxRecDepth 100000 in
theorem f_X12_canCome (l : Launch) (dC : Nat → ClassId) (dI : Nat → Nat → Nat) (cI cS : ClassId) (sz : Nat) (oM : Nat) (mT : Nat) (mS : Nat) (mX : Nat) (mL : Nat) (mB : Nat) (mD : Nat) (m1 : Nat) (m2 : Nat) (mR : Nat) (x1 : Nat) (x2 : Nat) (x3 : Nat) (mH : Nat) (mY : Nat) (mE : Nat) (mW : Nat) (mO : Nat) (y1 : Nat) (y2 : Nat) (y3 : Nat) (y4 : Nat) (mZ : Nat) (zt : Int32) (zp : Int32) (zf : Int32) (zh : Int32) (zr : Int32) (zc : Int32) (zy : Int32) (za : Int32) (zb : Int32) (zs : Int32) (zq : Int32) (zw : Int32) (ze : Int32) (zn : Int32) (zm : Int32) (zl : Int32) (zk : Int32) (zd : Int32) (eL : Nat → Int32) (cd : Int32) (v : Int32) (g_zt : 0 ≤ zt.toInt ∧ zt.toInt ≤ 900) (g_zp : 0 ≤ zp.toInt ∧ zp.toInt ≤ 20) (g_zf : 0 ≤ zf.toInt ∧ zf.toInt ≤ 19) (g_zh : 0 ≤ zh.toInt ∧ zh.toInt ≤ 6) (g_zr : 0 ≤ zr.toInt ∧ zr.toInt ≤ 258) (g_zc : 0 ≤ zc.toInt ∧ zc.toInt ≤ 300) (g_zy : 0 ≤ zy.toInt ∧ zy.toInt ≤ 65536) (g_za : 0 ≤ za.toInt ∧ za.toInt ≤ 5) (g_zb : 0 ≤ zb.toInt ∧ zb.toInt ≤ 5) (g_zs : 0 ≤ zs.toInt ∧ zs.toInt ≤ 2000000) (g_zq : -1 ≤ zq.toInt ∧ zq.toInt ≤ 2000000) (g_zn : 0 ≤ zn.toInt ∧ zn.toInt ≤ 2600) (g_zm : 0 ≤ zm.toInt ∧ zm.toInt ≤ 2600) (g_zk : 0 ≤ zk.toInt ∧ zk.toInt ≤ 300) (g_eL : rg (-1) 65535 eL) (g_cd : 0 ≤ cd.toInt ∧ cd.toInt ≤ 5) (g_v : 0 ≤ v.toInt ∧ v.toInt ≤ 255) : kMi l yX12_canCome wsX12_canCome ({ frames := 0, cells := 0, slots := 0, locals := 0 } : Room) [.ref oM, .int cd, .int v] sz (dC, dI) vwCl [(cI, .int), (cS, .short)] [(oM, .inr (12, [.ref mT, .int zt, .ref mS, .ref mX, .int zp, .int zf, .ref mL, .ref mB, .ref mD, .ref m1, .ref m2, .int zh, .ref mR, .int zr, .ref x1, .ref x2, .ref x3, .int zc, .ref mH, .int zy, .int za, .int zb, .int zs, .int zq, .int zw, .int ze, .ref mY, .int zn, .ref mE, .int zm, .int zl, .ref mW, .int zk, .ref mO, .int zd, .ref y1, .ref y2, .ref y3, .ref y4, .ref mZ])), (mL, .inl (cI, 512, .inl eL))] (fun _ => True) 0 0 (fun (A : Nat → Prop) (r : Int32) (hh9 : Heap) => ∀ PZ9 : Prop, (kPD (dC, dI) vwCl A [(oM, .inr (12, [.ref mT, .int zt, .ref mS, .ref mX, .int zp, .int zf, .ref mL, .ref mB, .ref mD, .ref m1, .ref m2, .int zh, .ref mR, .int zr, .ref x1, .ref x2, .ref x3, .int zc, .ref mH, .int zy, .int za, .int zb, .int zs, .int zq, .int zw, .int ze, .ref mY, .int zn, .ref mE, .int zm, .int zl, .ref mW, .int zk, .ref mO, .int zd, .ref y1, .ref y2, .ref y3, .ref y4, .ref mZ])), (mL, .inl (cI, 512, .inl eL))] hh9 → (0 ≤ r.toInt ∧ r.toInt ≤ 1) → (F_w r cd v (fun k => eL k) (fun k => eL (256 + k))) → PZ9) → PZ9) := by
  refine kMi_of (cc := cX12_canCome) (maxL := 3) (ret := (some .boolean)) (lv := [(0, .ref oM), (1, .int cd), (2, .int v)]) (by decide +kernel) rfl rfl (Nat.le_of_ble_eq_true rfl) ?_
  intro p e s m below meth c A QQ ls hx hb hr hts hml hown hlocks hA hQQ hK hX hP hD hS hl
  have hown : s.vm.findClass RX12 = some m.cls := hown
  have hcf := k_cf hx hb hml hown hts
  have in_X12 : ∀ w ∈ wsX120, w ∈ wsX12_canCome := fun _ h => List.mem_cons_of_mem _ (List.mem_append_right _ (h))
  replace g_zt := hid g_zt
  replace g_zp := hid g_zp
  replace g_zf := hid g_zf
  replace g_zh := hid g_zh
  replace g_zr := hid g_zr
  replace g_zc := hid g_zc
  replace g_zy := hid g_zy
  replace g_za := hid g_za
  replace g_zb := hid g_zb
  replace g_zs := hid g_zs
  replace g_zq := hid g_zq
  replace g_zn := hid g_zn
  replace g_zm := hid g_zm
  replace g_zk := hid g_zk
  refine lv_iload_n hx hb dX12_canCome_0 rfl (lv_at hl 1 rfl) ?_
  refine lv_if_eq (tgt := 9) hx hb dX12_canCome_1 (by decide) (fun c_1 => ?_) (fun c_1 => ?_)
  · have tc_1 : cd.toInt = 0 := v_eq c_1
    refine lv_iload_n hx hb dX12_canCome_9 rfl (lv_at hl 2 rfl) ?_
    refine lv_sipush (v := 128) hx hb dX12_canCome_10 (by decide) ?_
    refine lv_icmp_ge (tgt := 20) hx hb dX12_canCome_13 (by decide) (fun c_2 => ?_) (fun c_2 => ?_)
    · have tc_2 : 128 ≤ v.toInt := v_le c_2
      refine lv_iconst (v := 0) hx hb dX12_canCome_20 (by decide) ?_
      exact kl_z (v := 0) hQQ hx hb hr hlocks hS dX12_canCome_21 (rfl) (fun PZ9 kZ9 => kZ9 (⟨hP, hD⟩) (by decide) (by first | exact Or.inr ⟨rfl, fun h => h.elim (fun z => by omega) (fun z => z.elim (fun z => by omega) (fun z => by omega))⟩ | exact Or.inr ⟨rfl, fun h => h.elim (fun z => by omega) (fun z => z.elim (fun z => by omega) (fun z => z.2.2 (by unfold alF; (repeat (first | rw [if_neg (by omega)] | rw [if_pos (by omega)])))))⟩))
    · have tc_2 : v.toInt < 128 := v_nle c_2
      refine lv_iconst (v := 1) hx hb dX12_canCome_16 (by decide) ?_
      refine lv_goto (tgt := 21) hx hb dX12_canCome_17 (by decide) ?_
      exact kl_z (v := 1) hQQ hx hb hr hlocks hS dX12_canCome_21 (rfl) (fun PZ9 kZ9 => kZ9 (⟨hP, hD⟩) (by decide) (by first | exact Or.inl ⟨rfl, Or.inl ⟨by omega, by omega⟩⟩ | exact Or.inl ⟨rfl, Or.inr (Or.inl ⟨by omega, by omega⟩)⟩ | exact Or.inl ⟨rfl, Or.inr (Or.inr ⟨by omega, by omega, by unfold alF; (repeat (first | rw [if_neg (by omega)] | rw [if_pos (by omega)])); exact v_nn (by omega)⟩)⟩))
  · have tc_1 : ¬ cd.toInt = 0 := v_ne c_1
    refine lv_iload_n hx hb dX12_canCome_4 rfl (lv_at hl 1 rfl) ?_
    refine lv_iconst (v := 3) hx hb dX12_canCome_5 (by decide) ?_
    refine lv_icmp_ne (tgt := 22) hx hb dX12_canCome_6 (by decide) (fun c_3 => ?_) (fun c_3 => ?_)
    · have tc_3 : ¬ cd.toInt = 3 := v_ne c_3
      refine lv_iload_n hx hb dX12_canCome_22 rfl (lv_at hl 1 rfl) ?_
      refine lv_iconst (v := 1) hx hb dX12_canCome_23 (by decide) ?_
      refine lv_icmp_ne (tgt := 29) hx hb dX12_canCome_24 (by decide) (fun c_4 => ?_) (fun c_4 => ?_)
      · have tc_4 : ¬ cd.toInt = 1 := v_ne c_4
        refine lv_iload_n hx hb dX12_canCome_29 rfl (lv_at hl 1 rfl) ?_
        refine lv_iconst (v := 2) hx hb dX12_canCome_30 (by decide) ?_
        refine lv_icmp_ne (tgt := 61) hx hb dX12_canCome_31 (by decide) (fun c_5 => ?_) (fun c_5 => ?_)
        · have tc_5 : ¬ cd.toInt = 2 := v_ne c_5
          refine lv_aload_n hx hb dX12_canCome_61 rfl (lv_at hl 0 rfl) ?_
          refine va_get (D := (dC, dI)) (ci := 12) (v := .ref mL) (C := RX12) (T := TX12) (N := 40) hx hb hts in_X12 hown hK hP 0 rfl rfl 6 (Nat.le_of_ble_eq_true rfl) (hts (.fieldLink RX12 19 "TextMenderModel" "letterOf" "[I") (List.mem_of_getElem? (i := 1) rfl)) (fun _ h9 => h9) rfl dX12_canCome_62 ?_
          refine lv_sipush (v := 256) hx hb dX12_canCome_65 (by decide) ?_
          refine lv_iload_n hx hb dX12_canCome_68 rfl (lv_at hl 1 rfl) ?_
          refine lv_iconst (v := 4) hx hb dX12_canCome_69 (by decide) ?_
          refine lv_isub hx hb dX12_canCome_70 ?_
          refine lv_topi (fun x_6 ex_6 => ?_)
          have tx_6 : x_6.toInt = cd.toInt - 4 := v_subR (l2 := 4) (h2 := 4) ex_6 g_cd (by decide) (by decide) (by decide)
          refine lv_imul hx hb dX12_canCome_71 ?_
          refine lv_topi (fun x_7 ex_7 => ?_)
          have tx_7 : x_7.toInt = 256 * x_6.toInt := v_mul ex_7 (by show -2147483648 ≤ 256 * x_6.toInt; omega) (by show 256 * x_6.toInt < 2147483648; omega)
          refine lv_iload_n hx hb dX12_canCome_72 rfl (lv_at hl 2 rfl) ?_
          refine lv_iadd hx hb dX12_canCome_73 ?_
          refine lv_topi (fun x_8 ex_8 => ?_)
          have tx_8 : x_8.toInt = x_7.toInt + v.toInt := v_add ex_8 (by show -2147483648 ≤ x_7.toInt + v.toInt; omega) (by show x_7.toInt + v.toInt < 2147483648; omega)
          refine va_iald hx hb hK hP 1 0 rfl rfl (v_in (by omega)) dX12_canCome_74 ?_
          refine lv_topi (fun x_9 ex_9 => ?_)
          have tx_9 : -1 ≤ x_9.toInt ∧ x_9.toInt ≤ 65535 := rg_at g_eL ex_9
          refine lv_iconst (v := (-1)) hx hb dX12_canCome_75 (by decide) ?_
          refine lv_icmp_eq (tgt := 83) hx hb dX12_canCome_76 (by decide) (fun c_10 => ?_) (fun c_10 => ?_)
          · have tc_10 : x_9.toInt = (-1) := v_eq c_10
            refine lv_iconst (v := 0) hx hb dX12_canCome_83 (by decide) ?_
            exact kl_z (v := 0) hQQ hx hb hr hlocks hS dX12_canCome_84 (rfl) (fun PZ9 kZ9 => kZ9 (⟨hP, hD⟩) (by decide) (Or.inr ⟨rfl, fun h => h.elim (fun z => by omega) (fun z => z.elim (fun z => by omega) (fun z => z.2.2 ((alF_hi (b := cd) (v := v) (x := x_8) (eL := eL) (by omega) (by omega) (by omega) (by omega)).trans (ex_9.symm.trans c_10))))⟩))
          · have tc_10 : ¬ x_9.toInt = (-1) := v_ne c_10
            refine lv_iconst (v := 1) hx hb dX12_canCome_79 (by decide) ?_
            refine lv_goto (tgt := 84) hx hb dX12_canCome_80 (by decide) ?_
            exact kl_z (v := 1) hQQ hx hb hr hlocks hS dX12_canCome_84 (rfl) (fun PZ9 kZ9 => kZ9 (⟨hP, hD⟩) (by decide) (Or.inl ⟨rfl, Or.inr (Or.inr ⟨by omega, by omega, fun e => c_10 (ex_9.trans ((alF_hi (b := cd) (v := v) (x := x_8) (eL := eL) (by omega) (by omega) (by omega) (by omega)).symm.trans e))⟩)⟩))
        · have tc_5 : cd.toInt = 2 := v_eq c_5
          refine lv_iload_n hx hb dX12_canCome_34 rfl (lv_at hl 2 rfl) ?_
          refine lv_sipush (v := 192) hx hb dX12_canCome_35 (by decide) ?_
          refine lv_icmp_lt (tgt := 55) hx hb dX12_canCome_38 (by decide) (fun c_11 => ?_) (fun c_11 => ?_)
          · have tc_11 : v.toInt < 192 := v_lt c_11
            refine lv_iconst (v := 1) hx hb dX12_canCome_55 (by decide) ?_
            refine lv_goto (tgt := 60) hx hb dX12_canCome_56 (by decide) ?_
            exact kl_z (v := 1) hQQ hx hb hr hlocks hS dX12_canCome_60 (rfl) (fun PZ9 kZ9 => kZ9 (⟨hP, hD⟩) (by decide) (by first | exact Or.inl ⟨rfl, Or.inl ⟨by omega, by omega⟩⟩ | exact Or.inl ⟨rfl, Or.inr (Or.inl ⟨by omega, by omega⟩)⟩ | exact Or.inl ⟨rfl, Or.inr (Or.inr ⟨by omega, by omega, by unfold alF; (repeat (first | rw [if_neg (by omega)] | rw [if_pos (by omega)])); exact v_nn (by omega)⟩)⟩))
          · have tc_11 : 192 ≤ v.toInt := v_nlt c_11
            refine lv_iload_n hx hb dX12_canCome_41 rfl (lv_at hl 2 rfl) ?_
            refine lv_sipush (v := 193) hx hb dX12_canCome_42 (by decide) ?_
            refine lv_icmp_le (tgt := 59) hx hb dX12_canCome_45 (by decide) (fun c_12 => ?_) (fun c_12 => ?_)
            · have tc_12 : v.toInt ≤ 193 := v_le c_12
              refine lv_iconst (v := 0) hx hb dX12_canCome_59 (by decide) ?_
              exact kl_z (v := 0) hQQ hx hb hr hlocks hS dX12_canCome_60 (rfl) (fun PZ9 kZ9 => kZ9 (⟨hP, hD⟩) (by decide) (by first | exact Or.inr ⟨rfl, fun h => h.elim (fun z => by omega) (fun z => z.elim (fun z => by omega) (fun z => by omega))⟩ | exact Or.inr ⟨rfl, fun h => h.elim (fun z => by omega) (fun z => z.elim (fun z => by omega) (fun z => z.2.2 (by unfold alF; (repeat (first | rw [if_neg (by omega)] | rw [if_pos (by omega)])))))⟩))
            · have tc_12 : 193 < v.toInt := v_nle c_12
              refine lv_iload_n hx hb dX12_canCome_48 rfl (lv_at hl 2 rfl) ?_
              refine lv_sipush (v := 240) hx hb dX12_canCome_49 (by decide) ?_
              refine lv_icmp_ge (tgt := 59) hx hb dX12_canCome_52 (by decide) (fun c_13 => ?_) (fun c_13 => ?_)
              · have tc_13 : 240 ≤ v.toInt := v_le c_13
                refine lv_iconst (v := 0) hx hb dX12_canCome_59 (by decide) ?_
                exact kl_z (v := 0) hQQ hx hb hr hlocks hS dX12_canCome_60 (rfl) (fun PZ9 kZ9 => kZ9 (⟨hP, hD⟩) (by decide) (by first | exact Or.inr ⟨rfl, fun h => h.elim (fun z => by omega) (fun z => z.elim (fun z => by omega) (fun z => by omega))⟩ | exact Or.inr ⟨rfl, fun h => h.elim (fun z => by omega) (fun z => z.elim (fun z => by omega) (fun z => z.2.2 (by unfold alF; (repeat (first | rw [if_neg (by omega)] | rw [if_pos (by omega)])))))⟩))
              · have tc_13 : v.toInt < 240 := v_nle c_13
                refine lv_iconst (v := 1) hx hb dX12_canCome_55 (by decide) ?_
                refine lv_goto (tgt := 60) hx hb dX12_canCome_56 (by decide) ?_
                exact kl_z (v := 1) hQQ hx hb hr hlocks hS dX12_canCome_60 (rfl) (fun PZ9 kZ9 => kZ9 (⟨hP, hD⟩) (by decide) (by first | exact Or.inl ⟨rfl, Or.inl ⟨by omega, by omega⟩⟩ | exact Or.inl ⟨rfl, Or.inr (Or.inl ⟨by omega, by omega⟩)⟩ | exact Or.inl ⟨rfl, Or.inr (Or.inr ⟨by omega, by omega, by unfold alF; (repeat (first | rw [if_neg (by omega)] | rw [if_pos (by omega)])); exact v_nn (by omega)⟩)⟩))
      · have tc_4 : cd.toInt = 1 := v_eq c_4
        refine lv_iconst (v := 1) hx hb dX12_canCome_27 (by decide) ?_
        exact kl_z (v := 1) hQQ hx hb hr hlocks hS dX12_canCome_28 (rfl) (fun PZ9 kZ9 => kZ9 (⟨hP, hD⟩) (by decide) (by first | exact Or.inl ⟨rfl, Or.inl ⟨by omega, by omega⟩⟩ | exact Or.inl ⟨rfl, Or.inr (Or.inl ⟨by omega, by omega⟩)⟩ | exact Or.inl ⟨rfl, Or.inr (Or.inr ⟨by omega, by omega, by unfold alF; (repeat (first | rw [if_neg (by omega)] | rw [if_pos (by omega)])); exact v_nn (by omega)⟩)⟩))
    · have tc_3 : cd.toInt = 3 := v_eq c_3
      refine lv_iload_n hx hb dX12_canCome_9 rfl (lv_at hl 2 rfl) ?_
      refine lv_sipush (v := 128) hx hb dX12_canCome_10 (by decide) ?_
      refine lv_icmp_ge (tgt := 20) hx hb dX12_canCome_13 (by decide) (fun c_14 => ?_) (fun c_14 => ?_)
      · have tc_14 : 128 ≤ v.toInt := v_le c_14
        refine lv_iconst (v := 0) hx hb dX12_canCome_20 (by decide) ?_
        exact kl_z (v := 0) hQQ hx hb hr hlocks hS dX12_canCome_21 (rfl) (fun PZ9 kZ9 => kZ9 (⟨hP, hD⟩) (by decide) (by first | exact Or.inr ⟨rfl, fun h => h.elim (fun z => by omega) (fun z => z.elim (fun z => by omega) (fun z => by omega))⟩ | exact Or.inr ⟨rfl, fun h => h.elim (fun z => by omega) (fun z => z.elim (fun z => by omega) (fun z => z.2.2 (by unfold alF; (repeat (first | rw [if_neg (by omega)] | rw [if_pos (by omega)])))))⟩))
      · have tc_14 : v.toInt < 128 := v_nle c_14
        refine lv_iconst (v := 1) hx hb dX12_canCome_16 (by decide) ?_
        refine lv_goto (tgt := 21) hx hb dX12_canCome_17 (by decide) ?_
        exact kl_z (v := 1) hQQ hx hb hr hlocks hS dX12_canCome_21 (rfl) (fun PZ9 kZ9 => kZ9 (⟨hP, hD⟩) (by decide) (by first | exact Or.inl ⟨rfl, Or.inl ⟨by omega, by omega⟩⟩ | exact Or.inl ⟨rfl, Or.inr (Or.inl ⟨by omega, by omega⟩)⟩ | exact Or.inl ⟨rfl, Or.inr (Or.inr ⟨by omega, by omega, by unfold alF; (repeat (first | rw [if_neg (by omega)] | rw [if_pos (by omega)])); exact v_nn (by omega)⟩)⟩))

set_option maxHeartbeats 40000000 in
set_option maxRecDepth 100000 in
theorem f_X12_safe (l : Launch) (dC : Nat → ClassId) (dI : Nat → Nat → Nat) (cI cS : ClassId) (sz : Nat) (oM : Nat) (mT : Nat) (mS : Nat) (mX : Nat) (mL : Nat) (mB : Nat) (mD : Nat) (m1 : Nat) (m2 : Nat) (mR : Nat) (x1 : Nat) (x2 : Nat) (x3 : Nat) (mH : Nat) (mY : Nat) (mE : Nat) (mW : Nat) (mO : Nat) (y1 : Nat) (y2 : Nat) (y3 : Nat) (y4 : Nat) (mZ : Nat) (zt : Int32) (zp : Int32) (zf : Int32) (zh : Int32) (zr : Int32) (zc : Int32) (zy : Int32) (za : Int32) (zb : Int32) (zs : Int32) (zq : Int32) (zw : Int32) (ze : Int32) (zn : Int32) (zm : Int32) (zl : Int32) (zk : Int32) (zd : Int32) (eL : Nat → Int32) (a : Int32) (b : Int32) (g_zt : 0 ≤ zt.toInt ∧ zt.toInt ≤ 900) (g_zp : 0 ≤ zp.toInt ∧ zp.toInt ≤ 20) (g_zf : 0 ≤ zf.toInt ∧ zf.toInt ≤ 19) (g_zh : 0 ≤ zh.toInt ∧ zh.toInt ≤ 6) (g_zr : 0 ≤ zr.toInt ∧ zr.toInt ≤ 258) (g_zc : 0 ≤ zc.toInt ∧ zc.toInt ≤ 300) (g_zy : 0 ≤ zy.toInt ∧ zy.toInt ≤ 65536) (g_za : 0 ≤ za.toInt ∧ za.toInt ≤ 5) (g_zb : 0 ≤ zb.toInt ∧ zb.toInt ≤ 5) (g_zs : 0 ≤ zs.toInt ∧ zs.toInt ≤ 2000000) (g_zq : -1 ≤ zq.toInt ∧ zq.toInt ≤ 2000000) (g_zn : 0 ≤ zn.toInt ∧ zn.toInt ≤ 2600) (g_zm : 0 ≤ zm.toInt ∧ zm.toInt ≤ 2600) (g_zk : 0 ≤ zk.toInt ∧ zk.toInt ≤ 300) (g_eL : rg (-1) 65535 eL) (hzs : zs.toInt ≤ 1000000) : kMi l yX12_safe wsX12_safe ({ frames := 1, cells := 0, slots := 0, locals := 22 } : Room) [.ref oM, .int a, .int b] sz (dC, dI) vwCl [(cI, .int), (cS, .short)] [(oM, .inr (12, [.ref mT, .int zt, .ref mS, .ref mX, .int zp, .int zf, .ref mL, .ref mB, .ref mD, .ref m1, .ref m2, .int zh, .ref mR, .int zr, .ref x1, .ref x2, .ref x3, .int zc, .ref mH, .int zy, .int za, .int zb, .int zs, .int zq, .int zw, .int ze, .ref mY, .int zn, .ref mE, .int zm, .int zl, .ref mW, .int zk, .ref mO, .int zd, .ref y1, .ref y2, .ref y3, .ref y4, .ref mZ])), (mL, .inl (cI, 512, .inl eL))] (fun _ => True) 0 0 (fun (A : Nat → Prop) (r : Int32) (hh9 : Heap) => ∀ PZ9 : Prop, (∀ (ze' : Int32) (zw' : Int32), kPD (dC, dI) vwCl A [(oM, .inr (12, [.ref mT, .int zt, .ref mS, .ref mX, .int zp, .int zf, .ref mL, .ref mB, .ref mD, .ref m1, .ref m2, .int zh, .ref mR, .int zr, .ref x1, .ref x2, .ref x3, .int zc, .ref mH, .int zy, .int za, .int zb, .int zs, .int zq, .int zw', .int ze', .ref mY, .int zn, .ref mE, .int zm, .int zl, .ref mW, .int zk, .ref mO, .int zd, .ref y1, .ref y2, .ref y3, .ref y4, .ref mZ])), (mL, .inl (cI, 512, .inl eL))] hh9 → (F_safe r a b (fun k => eL k) (fun k => eL (256 + k))) → PZ9) → PZ9) := by
  refine kMi_of (cc := cX12_safe) (maxL := 5) (ret := (some .int)) (lv := [(0, .ref oM), (1, .int a), (2, .int b)]) (by decide +kernel) rfl rfl (Nat.le_of_ble_eq_true rfl) ?_
  intro p e s m below meth c A QQ ls hx hb hr hts hml hown hlocks hA hQQ hK hX hP hD hS hl
  have hown : s.vm.findClass RX12 = some m.cls := hown
  have hcf := k_cf hx hb hml hown hts
  have in_X12 : ∀ w ∈ wsX120, w ∈ wsX12_safe := fun _ h => List.mem_cons_of_mem _ (List.mem_append_left _ (List.mem_append_left _ (List.mem_append_right _ (h))))
  replace g_zt := hid g_zt
  replace g_zp := hid g_zp
  replace g_zf := hid g_zf
  replace g_zh := hid g_zh
  replace g_zr := hid g_zr
  replace g_zc := hid g_zc
  replace g_zy := hid g_zy
  replace g_za := hid g_za
  replace g_zb := hid g_zb
  replace g_zs := hid g_zs
  replace g_zq := hid g_zq
  replace g_zn := hid g_zn
  replace g_zm := hid g_zm
  replace g_zk := hid g_zk
  refine lv_aload_n hx hb dX12_safe_0 rfl (lv_at hl 0 rfl) ?_
  refine lv_iconst (v := 0) hx hb dX12_safe_1 (by decide) ?_
  refine va_put (D := (dC, dI)) (ci := 12) (v := .int 0) (ty := .int) (C := RX12) (T := TX12) (N := 40) hx hb hts in_X12 tyX12 tyX12_ok nmX12 hown hK hP hD hS 0 rfl rfl 25 (Nat.le_of_ble_eq_true rfl) (hts (.fieldLink RX12 85 "TextMenderModel" "thrown" "I") (List.mem_of_getElem? (i := 1) rfl)) (fun _ h9 => h9) rfl (tyX12_ok 25 (Nat.le_of_ble_eq_true rfl)) rfl rfl (Nat.le_of_ble_eq_true rfl) dX12_safe_2 (kW (wn := [(oM, .inr (12, [.ref mT, .int zt, .ref mS, .ref mX, .int zp, .int zf, .ref mL, .ref mB, .ref mD, .ref m1, .ref m2, .int zh, .ref mR, .int zr, .ref x1, .ref x2, .ref x3, .int zc, .ref mH, .int zy, .int za, .int zb, .int zs, .int zq, .int zw, .int 0, .ref mY, .int zn, .ref mE, .int zm, .int zl, .ref mW, .int zk, .ref mO, .int zd, .ref y1, .ref y2, .ref y3, .ref y4, .ref mZ])), (mL, .inl (cI, 512, .inl eL))]) rfl (fun H locs hPn hDn hSn => ?_))
  clear hP hD hS
  have hP := hPn
  have hD := hDn
  have hS := hSn
  clear hPn hDn hSn
  refine lv_aload_n hx hb dX12_safe_5 rfl (lv_at hl 0 rfl) ?_
  refine lv_iconst (v := (-1)) hx hb dX12_safe_6 (by decide) ?_
  refine va_put (D := (dC, dI)) (ci := 12) (v := .int (-1)) (ty := .int) (C := RX12) (T := TX12) (N := 40) hx hb hts in_X12 tyX12 tyX12_ok nmX12 hown hK hP hD hS 0 rfl rfl 24 (Nat.le_of_ble_eq_true rfl) (hts (.fieldLink RX12 55 "TextMenderModel" "where" "I") (List.mem_of_getElem? (i := 2) rfl)) (fun _ h9 => h9) rfl (tyX12_ok 24 (Nat.le_of_ble_eq_true rfl)) rfl rfl (Nat.le_of_ble_eq_true rfl) dX12_safe_7 (kW (wn := [(oM, .inr (12, [.ref mT, .int zt, .ref mS, .ref mX, .int zp, .int zf, .ref mL, .ref mB, .ref mD, .ref m1, .ref m2, .int zh, .ref mR, .int zr, .ref x1, .ref x2, .ref x3, .int zc, .ref mH, .int zy, .int za, .int zb, .int zs, .int zq, .int (-1), .int 0, .ref mY, .int zn, .ref mE, .int zm, .int zl, .ref mW, .int zk, .ref mO, .int zd, .ref y1, .ref y2, .ref y3, .ref y4, .ref mZ])), (mL, .inl (cI, 512, .inl eL))]) rfl (fun H locs hPn hDn hSn => ?_))
  clear hP hD hS
  have hP := hPn
  have hD := hDn
  have hS := hSn
  clear hPn hDn hSn
  refine lv_iload_n hx hb dX12_safe_10 rfl (lv_at hl 1 rfl) ?_
  refine kS_i (rest := []) hcf (m_X12_isCode l dC dI cI cS H.size a ) kc_X12_isCode gX12_safe_X12_isCode rfl rfl ⟨Nat.le_of_ble_eq_true rfl, Nat.le_of_ble_eq_true rfl⟩ kX_t hK hP hD hS hA [] [0, 1] rfl (by decide +kernel) rfl hl rfl (Nat.le_of_ble_eq_true rfl) dX12_safe_11 ⟨Nat.le_of_ble_eq_true rfl, Nat.le_of_ble_eq_true rfl⟩ (fun r_1 H locs hB hJ hSn => ?_)
  refine hB _ (fun hPD9 hf1_0 hf1_1 => ?_)
  clear hB
  obtain ⟨hPn, hDn⟩ := hJ _ hPD9.1 hPD9.2 [(oM, .inr (12, [.ref mT, .int zt, .ref mS, .ref mX, .int zp, .int zf, .ref mL, .ref mB, .ref mD, .ref m1, .ref m2, .int zh, .ref mR, .int zr, .ref x1, .ref x2, .ref x3, .int zc, .ref mH, .int zy, .int za, .int zb, .int zs, .int zq, .int (-1), .int 0, .ref mY, .int zn, .ref mE, .int zm, .int zl, .ref mW, .int zk, .ref mO, .int zd, .ref y1, .ref y2, .ref y3, .ref y4, .ref mZ])), (mL, .inl (cI, 512, .inl eL))] rfl
  clear hP hD hS hJ hPD9
  have hP := hPn
  have hD := hDn
  have hS := hSn
  clear hPn hDn hSn
  refine lv_if_eq (tgt := 24) hx hb dX12_safe_14 (by decide) (fun c_2 => ?_) (fun c_2 => ?_)
  · have tc_2 : r_1.toInt = 0 := v_eq c_2
    refine lv_iconst (v := (-1)) hx hb dX12_safe_24 (by decide) ?_
    exact kl_i (v := (-1)) hQQ hx hb hr hlocks hS dX12_safe_25 (fun PZ9 kZ9 => kZ9 0 (-1) (⟨hP, hD⟩) (Or.inl ⟨rfl, by unfold okd; omega⟩))
  · have tc_2 : ¬ r_1.toInt = 0 := v_ne c_2
    refine lv_iload_n hx hb dX12_safe_17 rfl (lv_at hl 2 rfl) ?_
    refine kS_i (rest := []) hcf (m_X12_isCode l dC dI cI cS H.size b ) kc_X12_isCode gX12_safe_X12_isCode rfl rfl ⟨Nat.le_of_ble_eq_true rfl, Nat.le_of_ble_eq_true rfl⟩ kX_t hK hP hD hS hA [] [0, 1] rfl (by decide +kernel) rfl hl rfl (Nat.le_of_ble_eq_true rfl) dX12_safe_18 ⟨Nat.le_of_ble_eq_true rfl, Nat.le_of_ble_eq_true rfl⟩ (fun r_3 H locs hB hJ hSn => ?_)
    refine hB _ (fun hPD9 hf3_0 hf3_1 => ?_)
    clear hB
    obtain ⟨hPn, hDn⟩ := hJ _ hPD9.1 hPD9.2 [(oM, .inr (12, [.ref mT, .int zt, .ref mS, .ref mX, .int zp, .int zf, .ref mL, .ref mB, .ref mD, .ref m1, .ref m2, .int zh, .ref mR, .int zr, .ref x1, .ref x2, .ref x3, .int zc, .ref mH, .int zy, .int za, .int zb, .int zs, .int zq, .int (-1), .int 0, .ref mY, .int zn, .ref mE, .int zm, .int zl, .ref mW, .int zk, .ref mO, .int zd, .ref y1, .ref y2, .ref y3, .ref y4, .ref mZ])), (mL, .inl (cI, 512, .inl eL))] rfl
    clear hP hD hS hJ hPD9
    have hP := hPn
    have hD := hDn
    have hS := hSn
    clear hPn hDn hSn
    refine lv_if_ne (tgt := 26) hx hb dX12_safe_21 (by decide) (fun c_4 => ?_) (fun c_4 => ?_)
    · have tc_4 : ¬ r_3.toInt = 0 := v_ne c_4
      refine lv_iload_n hx hb dX12_safe_26 rfl (lv_at hl 1 rfl) ?_
      refine lv_iload_n hx hb dX12_safe_27 rfl (lv_at hl 2 rfl) ?_
      refine lv_icmp_ne (tgt := 33) hx hb dX12_safe_28 (by decide) (fun c_5 => ?_) (fun c_5 => ?_)
      · have tc_5 : ¬ a.toInt = b.toInt := v_ne c_5
        refine lv_iconst (v := 0) hx hb dX12_safe_33 (by decide) ?_
        refine lv_istore_n (lv' := [(3, .int 0), (0, .ref oM), (1, .int a), (2, .int b)]) hx hb dX12_safe_34 rfl hl (by decide) rfl (fun ls hl => ?_)
        have LOOP_35 : ∀ (k_35 : Nat) (v : Int32) (H : Heap) (locs : List Loc) (ls : Array Slot), MSd (256 - v.toInt : Int) k_35 → (0 ≤ v.toInt ∧ v.toInt ≤ 256) → (∀ u : Int32, 0 ≤ u.toInt → u.toInt < v.toInt → wrP a u (fun k => eL k) (fun k => eL (256 + k)) → ¬ alF b u (fun k => eL k) (fun k => eL (256 + k)) = -1) → va_P (dC, dI) vwCl [(oM, .inr (12, [.ref mT, .int zt, .ref mS, .ref mX, .int zp, .int zf, .ref mL, .ref mB, .ref mD, .ref m1, .ref m2, .int zh, .ref mR, .int zr, .ref x1, .ref x2, .ref x3, .int zc, .ref mH, .int zy, .int za, .int zb, .int zs, .int zq, .int (-1), .int 0, .ref mY, .int zn, .ref mE, .int zm, .int zl, .ref mW, .int zk, .ref mO, .int zd, .ref y1, .ref y2, .ref y3, .ref y4, .ref mZ])), (mL, .inl (cI, 512, .inl eL))] H → va_D A [(oM, .inr (12, [.ref mT, .int zt, .ref mS, .ref mX, .int zp, .int zf, .ref mL, .ref mB, .ref mD, .ref m1, .ref m2, .int zh, .ref mR, .int zr, .ref x1, .ref x2, .ref x3, .int zc, .ref mH, .int zy, .int za, .int zb, .int zs, .int zq, .int (-1), .int 0, .ref mY, .int zn, .ref mE, .int zm, .int zl, .ref mW, .int zk, .ref mO, .int zd, .ref y1, .ref y2, .ref y3, .ref y4, .ref mZ])), (mL, .inl (cI, 512, .inl eL))] → va_S A s.heap H locs → lv_has ls 5 [(3, .int v), (0, .ref oM), (1, .int a), (2, .int b)] → W p l e (headSpec wsX12_safe ({ frames := 1, cells := 0, slots := 0, locals := 22 } : Room)).room s m ([.ref oM, .int a, .int b] : List Value).toArray below meth c H locs 0 0 (MQ below QQ ([.ref oM, .int a, .int b] : List Value).toArray s 0 0 A) (F0 m 35 ls []) := by
          clear hP hD hS hl
          try (clear hzs)
          intro k_35
          induction k_35 with
          | zero =>
            intro v H locs ls hm_35 g_v hnl hP hD hS hl
            exact ms_0 hm_35
          | succ k_35 ih_35 =>
            intro v H locs ls hm_35 g_v hnl hP hD hS hl
            refine lv_iload_n hx hb dX12_safe_35 rfl (lv_at hl 0 rfl) ?_
            refine lv_sipush (v := 256) hx hb dX12_safe_36 (by decide) ?_
            refine lv_icmp_ge (tgt := 136) hx hb dX12_safe_39 (by decide) (fun c_6 => ?_) (fun c_6 => ?_)
            · have tc_6 : 256 ≤ v.toInt := v_le c_6
              refine lv_iconst (v := 1) hx hb dX12_safe_136 (by decide) ?_
              exact kl_i (v := 1) hQQ hx hb hr hlocks hS dX12_safe_137 (fun PZ9 kZ9 => kZ9 0 (-1) (⟨hP, hD⟩) (Or.inr ⟨by unfold okd; omega, by unfold okd; omega, Or.inl ⟨rfl, Or.inr (fun u h1 h2 => hnl u h1 (by omega))⟩⟩))
            · have tc_6 : v.toInt < 256 := v_nle c_6
              refine lv_aload_n hx hb dX12_safe_42 rfl (lv_at hl 1 rfl) ?_
              refine lv_iload_n hx hb dX12_safe_43 rfl (lv_at hl 2 rfl) ?_
              refine lv_iload_n hx hb dX12_safe_44 rfl (lv_at hl 0 rfl) ?_
              refine kV_i (rest := []) (q0 := 0) (ci := 12) hcf (f_X12_canCome l dC dI cI cS H.size oM mT mS mX mL mB mD m1 m2 mR x1 x2 x3 mH mY mE mW mO y1 y2 y3 y4 mZ zt zp zf zh zr zc zy za zb zs zq (-1) 0 zn zm zl zk zd eL a v (g_zt) (g_zp) (g_zf) (g_zh) (g_zr) (g_zc) (g_zy) (g_za) (g_zb) (g_zs) (g_zq) (g_zn) (g_zm) (g_zk) (g_eL) (by omega) (by omega)) kc_X12_canCome gX12_safe_X12_canCome rfl rfl rfl ⟨Nat.le_of_ble_eq_true rfl, Nat.le_of_ble_eq_true rfl⟩ kX_t hK hP hD hS hA [0, 1] [] rfl (by decide +kernel) rfl rfl rfl hl rfl (Nat.le_of_ble_eq_true rfl) dX12_safe_45 ⟨Nat.le_of_ble_eq_true rfl, Nat.le_of_ble_eq_true rfl⟩ (fun r_7 H locs hB hJ hSn => ?_)
              refine hB _ (fun hPD9 hf7_0 hf7_1 => ?_)
              clear hB
              obtain ⟨hPn, hDn⟩ := hJ _ hPD9.1 hPD9.2 [(oM, .inr (12, [.ref mT, .int zt, .ref mS, .ref mX, .int zp, .int zf, .ref mL, .ref mB, .ref mD, .ref m1, .ref m2, .int zh, .ref mR, .int zr, .ref x1, .ref x2, .ref x3, .int zc, .ref mH, .int zy, .int za, .int zb, .int zs, .int zq, .int (-1), .int 0, .ref mY, .int zn, .ref mE, .int zm, .int zl, .ref mW, .int zk, .ref mO, .int zd, .ref y1, .ref y2, .ref y3, .ref y4, .ref mZ])), (mL, .inl (cI, 512, .inl eL))] rfl
              clear hP hD hS hJ hPD9
              have hP := hPn
              have hD := hDn
              have hS := hSn
              clear hPn hDn hSn
              refine lv_if_ne (tgt := 54) hx hb dX12_safe_48 (by decide) (fun c_8 => ?_) (fun c_8 => ?_)
              · have tc_8 : ¬ r_7.toInt = 0 := v_ne c_8
                refine lv_iload_n hx hb dX12_safe_54 rfl (lv_at hl 3 rfl) ?_
                refine lv_iconst (v := 1) hx hb dX12_safe_55 (by decide) ?_
                refine lv_icmp_eq (tgt := 116) hx hb dX12_safe_56 (by decide) (fun c_9 => ?_) (fun c_9 => ?_)
                · have tc_9 : b.toInt = 1 := v_eq c_9
                  refine lv_iconst (v := 1) hx hb dX12_safe_116 (by decide) ?_
                  refine lv_goto (tgt := 121) hx hb dX12_safe_117 (by decide) ?_
                  refine lv_istore (lv' := [(4, .int 1), (3, .int v), (0, .ref oM), (1, .int a), (2, .int b)]) hx hb dX12_safe_121 hl (by decide) rfl (fun ls hl => ?_)
                  refine lv_iload hx hb dX12_safe_123 (lv_at hl 0 rfl) ?_
                  refine lv_if_ne (tgt := 130) hx hb dX12_safe_125 (by decide) (fun c_10 => ?_) (fun c_10 => absurd c_10 (by decide))
                  obtain ⟨x_11, ex_11⟩ : ∃ y : Int32, y = v + 1 := ⟨_, rfl⟩
                  have tx_11 : x_11.toInt = v.toInt + 1 := v_addR (l2 := 1) (h2 := 1) ex_11 g_v (by decide) (by decide) (by decide)
                  refine lv_iinc (v := x_11) (lv' := [(3, .int x_11), (4, .int 1), (0, .ref oM), (1, .int a), (2, .int b)]) hx hb dX12_safe_130 hl (k := 1) rfl (by rw [ex_11]; rfl) (by decide) rfl (fun ls hl => ?_)
                  refine lv_goto (tgt := 35) hx hb dX12_safe_133 (by decide) ?_
                  exact ih_35 x_11 _ _ _ (ms_lt hm_35 (by show ((256 - x_11.toInt : Int)) < 256 - v.toInt; omega) (by show (0 : Int) < 256 - v.toInt; omega)) (by show 0 ≤ x_11.toInt ∧ x_11.toInt ≤ 256; omega) (nl_s hnl (by omega) (fun _ => by unfold alF; (repeat (first | rw [if_neg (by omega)] | rw [if_pos (by omega)])); exact v_nn (by omega))) hP hD hS (lv_sub hl [0, 2, 3, 4] rfl)
                · have tc_9 : ¬ b.toInt = 1 := v_ne c_9
                  refine lv_iload_n hx hb dX12_safe_59 rfl (lv_at hl 3 rfl) ?_
                  refine lv_if_eq (tgt := 68) hx hb dX12_safe_60 (by decide) (fun c_12 => ?_) (fun c_12 => ?_)
                  · have tc_12 : b.toInt = 0 := v_eq c_12
                    refine lv_iload_n hx hb dX12_safe_68 rfl (lv_at hl 0 rfl) ?_
                    refine lv_sipush (v := 128) hx hb dX12_safe_69 (by decide) ?_
                    refine lv_icmp_lt (tgt := 116) hx hb dX12_safe_72 (by decide) (fun c_13 => ?_) (fun c_13 => ?_)
                    · have tc_13 : v.toInt < 128 := v_lt c_13
                      refine lv_iconst (v := 1) hx hb dX12_safe_116 (by decide) ?_
                      refine lv_goto (tgt := 121) hx hb dX12_safe_117 (by decide) ?_
                      refine lv_istore (lv' := [(4, .int 1), (3, .int v), (0, .ref oM), (1, .int a), (2, .int b)]) hx hb dX12_safe_121 hl (by decide) rfl (fun ls hl => ?_)
                      refine lv_iload hx hb dX12_safe_123 (lv_at hl 0 rfl) ?_
                      refine lv_if_ne (tgt := 130) hx hb dX12_safe_125 (by decide) (fun c_14 => ?_) (fun c_14 => absurd c_14 (by decide))
                      obtain ⟨x_15, ex_15⟩ : ∃ y : Int32, y = v + 1 := ⟨_, rfl⟩
                      have tx_15 : x_15.toInt = v.toInt + 1 := v_addR (l2 := 1) (h2 := 1) ex_15 g_v (by decide) (by decide) (by decide)
                      refine lv_iinc (v := x_15) (lv' := [(3, .int x_15), (4, .int 1), (0, .ref oM), (1, .int a), (2, .int b)]) hx hb dX12_safe_130 hl (k := 1) rfl (by rw [ex_15]; rfl) (by decide) rfl (fun ls hl => ?_)
                      refine lv_goto (tgt := 35) hx hb dX12_safe_133 (by decide) ?_
                      exact ih_35 x_15 _ _ _ (ms_lt hm_35 (by show ((256 - x_15.toInt : Int)) < 256 - v.toInt; omega) (by show (0 : Int) < 256 - v.toInt; omega)) (by show 0 ≤ x_15.toInt ∧ x_15.toInt ≤ 256; omega) (nl_s hnl (by omega) (fun _ => by unfold alF; (repeat (first | rw [if_neg (by omega)] | rw [if_pos (by omega)])); exact v_nn (by omega))) hP hD hS (lv_sub hl [0, 2, 3, 4] rfl)
                    · have tc_13 : 128 ≤ v.toInt := v_nlt c_13
                      refine lv_iload_n hx hb dX12_safe_75 rfl (lv_at hl 3 rfl) ?_
                      refine lv_iconst (v := 3) hx hb dX12_safe_76 (by decide) ?_
                      refine lv_icmp_ne (tgt := 93) hx hb dX12_safe_77 (by decide) (fun c_16 => ?_) (fun c_16 => by exfalso; have tc_16 : b.toInt = 3 := v_eq c_16; omega)
                      have tc_16 : ¬ b.toInt = 3 := v_ne c_16
                      refine lv_iload_n hx hb dX12_safe_93 rfl (lv_at hl 3 rfl) ?_
                      refine lv_iconst (v := 3) hx hb dX12_safe_94 (by decide) ?_
                      refine lv_icmp_le (tgt := 120) hx hb dX12_safe_95 (by decide) (fun c_17 => ?_) (fun c_17 => by exfalso; have tc_17 : 3 < b.toInt := v_nle c_17; omega)
                      have tc_17 : b.toInt ≤ 3 := v_le c_17
                      refine lv_iconst (v := 0) hx hb dX12_safe_120 (by decide) ?_
                      refine lv_istore (lv' := [(4, .int 0), (3, .int v), (0, .ref oM), (1, .int a), (2, .int b)]) hx hb dX12_safe_121 hl (by decide) rfl (fun ls hl => ?_)
                      refine lv_iload hx hb dX12_safe_123 (lv_at hl 0 rfl) ?_
                      refine lv_if_ne (tgt := 130) hx hb dX12_safe_125 (by decide) (fun c_18 => absurd c_18 (by decide)) (fun c_18 => ?_)
                      refine lv_iconst (v := 0) hx hb dX12_safe_128 (by decide) ?_
                      exact kl_i (v := 0) hQQ hx hb hr hlocks hS dX12_safe_129 (fun PZ9 kZ9 => kZ9 0 (-1) (⟨hP, hD⟩) (Or.inr ⟨by unfold okd; omega, by unfold okd; omega, Or.inr ⟨rfl, fun h => h.elim (fun e => c_5 e) (fun h2 => h2 v (by omega) (by omega) (F_w_1 hf7_1 (by omega)) (by first | (unfold alF; (repeat (first | rw [if_neg (by omega)] | rw [if_pos (by omega)])); done) | (exfalso; omega)))⟩⟩))
                  · have tc_12 : ¬ b.toInt = 0 := v_ne c_12
                    refine lv_iload_n hx hb dX12_safe_63 rfl (lv_at hl 3 rfl) ?_
                    refine lv_iconst (v := 2) hx hb dX12_safe_64 (by decide) ?_
                    refine lv_icmp_ne (tgt := 75) hx hb dX12_safe_65 (by decide) (fun c_19 => ?_) (fun c_19 => ?_)
                    · have tc_19 : ¬ b.toInt = 2 := v_ne c_19
                      refine lv_iload_n hx hb dX12_safe_75 rfl (lv_at hl 3 rfl) ?_
                      refine lv_iconst (v := 3) hx hb dX12_safe_76 (by decide) ?_
                      refine lv_icmp_ne (tgt := 93) hx hb dX12_safe_77 (by decide) (fun c_20 => ?_) (fun c_20 => ?_)
                      · have tc_20 : ¬ b.toInt = 3 := v_ne c_20
                        refine lv_iload_n hx hb dX12_safe_93 rfl (lv_at hl 3 rfl) ?_
                        refine lv_iconst (v := 3) hx hb dX12_safe_94 (by decide) ?_
                        refine lv_icmp_le (tgt := 120) hx hb dX12_safe_95 (by decide) (fun c_21 => ?_) (fun c_21 => ?_)
                        · have tc_21 : b.toInt ≤ 3 := v_le c_21
                          refine lv_iconst (v := 0) hx hb dX12_safe_120 (by decide) ?_
                          refine lv_istore (lv' := [(4, .int 0), (3, .int v), (0, .ref oM), (1, .int a), (2, .int b)]) hx hb dX12_safe_121 hl (by decide) rfl (fun ls hl => ?_)
                          refine lv_iload hx hb dX12_safe_123 (lv_at hl 0 rfl) ?_
                          refine lv_if_ne (tgt := 130) hx hb dX12_safe_125 (by decide) (fun c_22 => absurd c_22 (by decide)) (fun c_22 => ?_)
                          refine lv_iconst (v := 0) hx hb dX12_safe_128 (by decide) ?_
                          exact kl_i (v := 0) hQQ hx hb hr hlocks hS dX12_safe_129 (fun PZ9 kZ9 => kZ9 0 (-1) (⟨hP, hD⟩) (Or.inr ⟨by unfold okd; omega, by unfold okd; omega, Or.inr ⟨rfl, fun h => h.elim (fun e => c_5 e) (fun h2 => h2 v (by omega) (by omega) (F_w_1 hf7_1 (by omega)) (by first | (unfold alF; (repeat (first | rw [if_neg (by omega)] | rw [if_pos (by omega)])); done) | (exfalso; omega)))⟩⟩))
                        · have tc_21 : 3 < b.toInt := v_nle c_21
                          refine lv_aload_n hx hb dX12_safe_98 rfl (lv_at hl 1 rfl) ?_
                          refine va_get (D := (dC, dI)) (ci := 12) (v := .ref mL) (C := RX12) (T := TX12) (N := 40) hx hb hts in_X12 hown hK hP 0 rfl rfl 6 (Nat.le_of_ble_eq_true rfl) (hts (.fieldLink RX12 19 "TextMenderModel" "letterOf" "[I") (List.mem_of_getElem? (i := 3) rfl)) (fun _ h9 => h9) rfl dX12_safe_99 ?_
                          refine lv_sipush (v := 256) hx hb dX12_safe_102 (by decide) ?_
                          refine lv_iload_n hx hb dX12_safe_105 rfl (lv_at hl 3 rfl) ?_
                          refine lv_iconst (v := 4) hx hb dX12_safe_106 (by decide) ?_
                          refine lv_isub hx hb dX12_safe_107 ?_
                          refine lv_topi (fun x_23 ex_23 => ?_)
                          have tx_23 : x_23.toInt = b.toInt - 4 := v_sub ex_23 (by show -2147483648 ≤ b.toInt - 4; omega) (by show b.toInt - 4 < 2147483648; omega)
                          refine lv_imul hx hb dX12_safe_108 ?_
                          refine lv_topi (fun x_24 ex_24 => ?_)
                          have tx_24 : x_24.toInt = 256 * x_23.toInt := v_mul ex_24 (by show -2147483648 ≤ 256 * x_23.toInt; omega) (by show 256 * x_23.toInt < 2147483648; omega)
                          refine lv_iload_n hx hb dX12_safe_109 rfl (lv_at hl 0 rfl) ?_
                          refine lv_iadd hx hb dX12_safe_110 ?_
                          refine lv_topi (fun x_25 ex_25 => ?_)
                          have tx_25 : x_25.toInt = x_24.toInt + v.toInt := v_add ex_25 (by show -2147483648 ≤ x_24.toInt + v.toInt; omega) (by show x_24.toInt + v.toInt < 2147483648; omega)
                          refine va_iald hx hb hK hP 1 0 rfl rfl (v_in (by omega)) dX12_safe_111 ?_
                          refine lv_topi (fun x_26 ex_26 => ?_)
                          have tx_26 : -1 ≤ x_26.toInt ∧ x_26.toInt ≤ 65535 := rg_at g_eL ex_26
                          refine lv_iconst (v := (-1)) hx hb dX12_safe_112 (by decide) ?_
                          refine lv_icmp_eq (tgt := 120) hx hb dX12_safe_113 (by decide) (fun c_27 => ?_) (fun c_27 => ?_)
                          · have tc_27 : x_26.toInt = (-1) := v_eq c_27
                            refine lv_iconst (v := 0) hx hb dX12_safe_120 (by decide) ?_
                            refine lv_istore (lv' := [(4, .int 0), (3, .int v), (0, .ref oM), (1, .int a), (2, .int b)]) hx hb dX12_safe_121 hl (by decide) rfl (fun ls hl => ?_)
                            refine lv_iload hx hb dX12_safe_123 (lv_at hl 0 rfl) ?_
                            refine lv_if_ne (tgt := 130) hx hb dX12_safe_125 (by decide) (fun c_28 => absurd c_28 (by decide)) (fun c_28 => ?_)
                            refine lv_iconst (v := 0) hx hb dX12_safe_128 (by decide) ?_
                            exact kl_i (v := 0) hQQ hx hb hr hlocks hS dX12_safe_129 (fun PZ9 kZ9 => kZ9 0 (-1) (⟨hP, hD⟩) (Or.inr ⟨by unfold okd; omega, by unfold okd; omega, Or.inr ⟨rfl, fun h => h.elim (fun e => c_5 e) (fun h2 => h2 v (by omega) (by omega) (F_w_1 hf7_1 (by omega)) ((alF_hi (b := b) (v := v) (x := x_25) (eL := eL) (by omega) (by omega) (by omega) (by omega)).trans (ex_26.symm.trans c_27)))⟩⟩))
                          · have tc_27 : ¬ x_26.toInt = (-1) := v_ne c_27
                            refine lv_iconst (v := 1) hx hb dX12_safe_116 (by decide) ?_
                            refine lv_goto (tgt := 121) hx hb dX12_safe_117 (by decide) ?_
                            refine lv_istore (lv' := [(4, .int 1), (3, .int v), (0, .ref oM), (1, .int a), (2, .int b)]) hx hb dX12_safe_121 hl (by decide) rfl (fun ls hl => ?_)
                            refine lv_iload hx hb dX12_safe_123 (lv_at hl 0 rfl) ?_
                            refine lv_if_ne (tgt := 130) hx hb dX12_safe_125 (by decide) (fun c_29 => ?_) (fun c_29 => absurd c_29 (by decide))
                            obtain ⟨x_30, ex_30⟩ : ∃ y : Int32, y = v + 1 := ⟨_, rfl⟩
                            have tx_30 : x_30.toInt = v.toInt + 1 := v_addR (l2 := 1) (h2 := 1) ex_30 g_v (by decide) (by decide) (by decide)
                            refine lv_iinc (v := x_30) (lv' := [(3, .int x_30), (4, .int 1), (0, .ref oM), (1, .int a), (2, .int b)]) hx hb dX12_safe_130 hl (k := 1) rfl (by rw [ex_30]; rfl) (by decide) rfl (fun ls hl => ?_)
                            refine lv_goto (tgt := 35) hx hb dX12_safe_133 (by decide) ?_
                            exact ih_35 x_30 _ _ _ (ms_lt hm_35 (by show ((256 - x_30.toInt : Int)) < 256 - v.toInt; omega) (by show (0 : Int) < 256 - v.toInt; omega)) (by show 0 ≤ x_30.toInt ∧ x_30.toInt ≤ 256; omega) (nl_s hnl (by omega) (fun _ e => c_27 (ex_26.trans ((alF_hi (b := b) (v := v) (x := x_25) (eL := eL) (by omega) (by omega) (by omega) (by omega)).symm.trans e)))) hP hD hS (lv_sub hl [0, 2, 3, 4] rfl)
                      · have tc_20 : b.toInt = 3 := v_eq c_20
                        refine lv_iload_n hx hb dX12_safe_80 rfl (lv_at hl 0 rfl) ?_
                        refine lv_sipush (v := 128) hx hb dX12_safe_81 (by decide) ?_
                        refine lv_icmp_ge (tgt := 93) hx hb dX12_safe_84 (by decide) (fun c_31 => ?_) (fun c_31 => ?_)
                        · have tc_31 : 128 ≤ v.toInt := v_le c_31
                          refine lv_iload_n hx hb dX12_safe_93 rfl (lv_at hl 3 rfl) ?_
                          refine lv_iconst (v := 3) hx hb dX12_safe_94 (by decide) ?_
                          refine lv_icmp_le (tgt := 120) hx hb dX12_safe_95 (by decide) (fun c_32 => ?_) (fun c_32 => by exfalso; have tc_32 : 3 < b.toInt := v_nle c_32; omega)
                          have tc_32 : b.toInt ≤ 3 := v_le c_32
                          refine lv_iconst (v := 0) hx hb dX12_safe_120 (by decide) ?_
                          refine lv_istore (lv' := [(4, .int 0), (3, .int v), (0, .ref oM), (1, .int a), (2, .int b)]) hx hb dX12_safe_121 hl (by decide) rfl (fun ls hl => ?_)
                          refine lv_iload hx hb dX12_safe_123 (lv_at hl 0 rfl) ?_
                          refine lv_if_ne (tgt := 130) hx hb dX12_safe_125 (by decide) (fun c_33 => absurd c_33 (by decide)) (fun c_33 => ?_)
                          refine lv_iconst (v := 0) hx hb dX12_safe_128 (by decide) ?_
                          exact kl_i (v := 0) hQQ hx hb hr hlocks hS dX12_safe_129 (fun PZ9 kZ9 => kZ9 0 (-1) (⟨hP, hD⟩) (Or.inr ⟨by unfold okd; omega, by unfold okd; omega, Or.inr ⟨rfl, fun h => h.elim (fun e => c_5 e) (fun h2 => h2 v (by omega) (by omega) (F_w_1 hf7_1 (by omega)) (by first | (unfold alF; (repeat (first | rw [if_neg (by omega)] | rw [if_pos (by omega)])); done) | (exfalso; omega)))⟩⟩))
                        · have tc_31 : v.toInt < 128 := v_nle c_31
                          refine lv_iload_n hx hb dX12_safe_87 rfl (lv_at hl 0 rfl) ?_
                          refine lv_bipush (v := 38) hx hb dX12_safe_88 (by decide) ?_
                          refine lv_icmp_ne (tgt := 116) hx hb dX12_safe_90 (by decide) (fun c_34 => ?_) (fun c_34 => ?_)
                          · have tc_34 : ¬ v.toInt = 38 := v_ne c_34
                            refine lv_iconst (v := 1) hx hb dX12_safe_116 (by decide) ?_
                            refine lv_goto (tgt := 121) hx hb dX12_safe_117 (by decide) ?_
                            refine lv_istore (lv' := [(4, .int 1), (3, .int v), (0, .ref oM), (1, .int a), (2, .int b)]) hx hb dX12_safe_121 hl (by decide) rfl (fun ls hl => ?_)
                            refine lv_iload hx hb dX12_safe_123 (lv_at hl 0 rfl) ?_
                            refine lv_if_ne (tgt := 130) hx hb dX12_safe_125 (by decide) (fun c_35 => ?_) (fun c_35 => absurd c_35 (by decide))
                            obtain ⟨x_36, ex_36⟩ : ∃ y : Int32, y = v + 1 := ⟨_, rfl⟩
                            have tx_36 : x_36.toInt = v.toInt + 1 := v_addR (l2 := 1) (h2 := 1) ex_36 g_v (by decide) (by decide) (by decide)
                            refine lv_iinc (v := x_36) (lv' := [(3, .int x_36), (4, .int 1), (0, .ref oM), (1, .int a), (2, .int b)]) hx hb dX12_safe_130 hl (k := 1) rfl (by rw [ex_36]; rfl) (by decide) rfl (fun ls hl => ?_)
                            refine lv_goto (tgt := 35) hx hb dX12_safe_133 (by decide) ?_
                            exact ih_35 x_36 _ _ _ (ms_lt hm_35 (by show ((256 - x_36.toInt : Int)) < 256 - v.toInt; omega) (by show (0 : Int) < 256 - v.toInt; omega)) (by show 0 ≤ x_36.toInt ∧ x_36.toInt ≤ 256; omega) (nl_s hnl (by omega) (fun _ => by unfold alF; (repeat (first | rw [if_neg (by omega)] | rw [if_pos (by omega)])); exact v_nn (by omega))) hP hD hS (lv_sub hl [0, 2, 3, 4] rfl)
                          · have tc_34 : v.toInt = 38 := v_eq c_34
                            refine lv_iload_n hx hb dX12_safe_93 rfl (lv_at hl 3 rfl) ?_
                            refine lv_iconst (v := 3) hx hb dX12_safe_94 (by decide) ?_
                            refine lv_icmp_le (tgt := 120) hx hb dX12_safe_95 (by decide) (fun c_37 => ?_) (fun c_37 => by exfalso; have tc_37 : 3 < b.toInt := v_nle c_37; omega)
                            have tc_37 : b.toInt ≤ 3 := v_le c_37
                            refine lv_iconst (v := 0) hx hb dX12_safe_120 (by decide) ?_
                            refine lv_istore (lv' := [(4, .int 0), (3, .int v), (0, .ref oM), (1, .int a), (2, .int b)]) hx hb dX12_safe_121 hl (by decide) rfl (fun ls hl => ?_)
                            refine lv_iload hx hb dX12_safe_123 (lv_at hl 0 rfl) ?_
                            refine lv_if_ne (tgt := 130) hx hb dX12_safe_125 (by decide) (fun c_38 => absurd c_38 (by decide)) (fun c_38 => ?_)
                            refine lv_iconst (v := 0) hx hb dX12_safe_128 (by decide) ?_
                            exact kl_i (v := 0) hQQ hx hb hr hlocks hS dX12_safe_129 (fun PZ9 kZ9 => kZ9 0 (-1) (⟨hP, hD⟩) (Or.inr ⟨by unfold okd; omega, by unfold okd; omega, Or.inr ⟨rfl, fun h => h.elim (fun e => c_5 e) (fun h2 => h2 v (by omega) (by omega) (F_w_1 hf7_1 (by omega)) (by first | (unfold alF; (repeat (first | rw [if_neg (by omega)] | rw [if_pos (by omega)])); done) | (exfalso; omega)))⟩⟩))
                    · have tc_19 : b.toInt = 2 := v_eq c_19
                      refine lv_iload_n hx hb dX12_safe_68 rfl (lv_at hl 0 rfl) ?_
                      refine lv_sipush (v := 128) hx hb dX12_safe_69 (by decide) ?_
                      refine lv_icmp_lt (tgt := 116) hx hb dX12_safe_72 (by decide) (fun c_39 => ?_) (fun c_39 => ?_)
                      · have tc_39 : v.toInt < 128 := v_lt c_39
                        refine lv_iconst (v := 1) hx hb dX12_safe_116 (by decide) ?_
                        refine lv_goto (tgt := 121) hx hb dX12_safe_117 (by decide) ?_
                        refine lv_istore (lv' := [(4, .int 1), (3, .int v), (0, .ref oM), (1, .int a), (2, .int b)]) hx hb dX12_safe_121 hl (by decide) rfl (fun ls hl => ?_)
                        refine lv_iload hx hb dX12_safe_123 (lv_at hl 0 rfl) ?_
                        refine lv_if_ne (tgt := 130) hx hb dX12_safe_125 (by decide) (fun c_40 => ?_) (fun c_40 => absurd c_40 (by decide))
                        obtain ⟨x_41, ex_41⟩ : ∃ y : Int32, y = v + 1 := ⟨_, rfl⟩
                        have tx_41 : x_41.toInt = v.toInt + 1 := v_addR (l2 := 1) (h2 := 1) ex_41 g_v (by decide) (by decide) (by decide)
                        refine lv_iinc (v := x_41) (lv' := [(3, .int x_41), (4, .int 1), (0, .ref oM), (1, .int a), (2, .int b)]) hx hb dX12_safe_130 hl (k := 1) rfl (by rw [ex_41]; rfl) (by decide) rfl (fun ls hl => ?_)
                        refine lv_goto (tgt := 35) hx hb dX12_safe_133 (by decide) ?_
                        exact ih_35 x_41 _ _ _ (ms_lt hm_35 (by show ((256 - x_41.toInt : Int)) < 256 - v.toInt; omega) (by show (0 : Int) < 256 - v.toInt; omega)) (by show 0 ≤ x_41.toInt ∧ x_41.toInt ≤ 256; omega) (nl_s hnl (by omega) (fun _ => by unfold alF; (repeat (first | rw [if_neg (by omega)] | rw [if_pos (by omega)])); exact v_nn (by omega))) hP hD hS (lv_sub hl [0, 2, 3, 4] rfl)
                      · have tc_39 : 128 ≤ v.toInt := v_nlt c_39
                        refine lv_iload_n hx hb dX12_safe_75 rfl (lv_at hl 3 rfl) ?_
                        refine lv_iconst (v := 3) hx hb dX12_safe_76 (by decide) ?_
                        refine lv_icmp_ne (tgt := 93) hx hb dX12_safe_77 (by decide) (fun c_42 => ?_) (fun c_42 => by exfalso; have tc_42 : b.toInt = 3 := v_eq c_42; omega)
                        have tc_42 : ¬ b.toInt = 3 := v_ne c_42
                        refine lv_iload_n hx hb dX12_safe_93 rfl (lv_at hl 3 rfl) ?_
                        refine lv_iconst (v := 3) hx hb dX12_safe_94 (by decide) ?_
                        refine lv_icmp_le (tgt := 120) hx hb dX12_safe_95 (by decide) (fun c_43 => ?_) (fun c_43 => by exfalso; have tc_43 : 3 < b.toInt := v_nle c_43; omega)
                        have tc_43 : b.toInt ≤ 3 := v_le c_43
                        refine lv_iconst (v := 0) hx hb dX12_safe_120 (by decide) ?_
                        refine lv_istore (lv' := [(4, .int 0), (3, .int v), (0, .ref oM), (1, .int a), (2, .int b)]) hx hb dX12_safe_121 hl (by decide) rfl (fun ls hl => ?_)
                        refine lv_iload hx hb dX12_safe_123 (lv_at hl 0 rfl) ?_
                        refine lv_if_ne (tgt := 130) hx hb dX12_safe_125 (by decide) (fun c_44 => absurd c_44 (by decide)) (fun c_44 => ?_)
                        refine lv_iconst (v := 0) hx hb dX12_safe_128 (by decide) ?_
                        exact kl_i (v := 0) hQQ hx hb hr hlocks hS dX12_safe_129 (fun PZ9 kZ9 => kZ9 0 (-1) (⟨hP, hD⟩) (Or.inr ⟨by unfold okd; omega, by unfold okd; omega, Or.inr ⟨rfl, fun h => h.elim (fun e => c_5 e) (fun h2 => h2 v (by omega) (by omega) (F_w_1 hf7_1 (by omega)) (by first | (unfold alF; (repeat (first | rw [if_neg (by omega)] | rw [if_pos (by omega)])); done) | (exfalso; omega)))⟩⟩))
              · have tc_8 : r_7.toInt = 0 := v_eq c_8
                refine lv_goto (tgt := 130) hx hb dX12_safe_51 (by decide) ?_
                obtain ⟨x_45, ex_45⟩ : ∃ y : Int32, y = v + 1 := ⟨_, rfl⟩
                have tx_45 : x_45.toInt = v.toInt + 1 := v_addR (l2 := 1) (h2 := 1) ex_45 g_v (by decide) (by decide) (by decide)
                refine lv_iinc (v := x_45) (lv' := [(3, .int x_45), (0, .ref oM), (1, .int a), (2, .int b)]) hx hb dX12_safe_130 hl (k := 0) rfl (by rw [ex_45]; rfl) (by decide) rfl (fun ls hl => ?_)
                refine lv_goto (tgt := 35) hx hb dX12_safe_133 (by decide) ?_
                exact ih_35 x_45 _ _ _ (ms_lt hm_35 (by show ((256 - x_45.toInt : Int)) < 256 - v.toInt; omega) (by show (0 : Int) < 256 - v.toInt; omega)) (by show 0 ≤ x_45.toInt ∧ x_45.toInt ≤ 256; omega) (nl_s hnl (by omega) (fun hw => absurd hw (F_w_0 hf7_1 (by omega)))) hP hD hS (lv_sub hl [0, 1, 2, 3] rfl)
        exact LOOP_35 _ 0 _ _ _ (ms_s _) (by decide) (fun u h1 h2 => absurd h2 (by show ¬ u.toInt < 0; omega)) hP hD hS (lv_sub hl [0, 1, 2, 3] rfl)
      · have tc_5 : a.toInt = b.toInt := v_eq c_5
        refine lv_iconst (v := 1) hx hb dX12_safe_31 (by decide) ?_
        exact kl_i (v := 1) hQQ hx hb hr hlocks hS dX12_safe_32 (fun PZ9 kZ9 => kZ9 0 (-1) (⟨hP, hD⟩) (Or.inr ⟨by unfold okd; omega, by unfold okd; omega, Or.inl ⟨rfl, Or.inl c_5⟩⟩))
    · have tc_4 : r_3.toInt = 0 := v_eq c_4
      refine lv_iconst (v := (-1)) hx hb dX12_safe_24 (by decide) ?_
      exact kl_i (v := (-1)) hQQ hx hb hr hlocks hS dX12_safe_25 (fun PZ9 kZ9 => kZ9 0 (-1) (⟨hP, hD⟩) (Or.inl ⟨rfl, by unfold okd; omega⟩))

end

/-! 59b.a.rows -/
section
set_option maxRecDepth 100000 in
theorem dA140_cX2_letterIn : kDec cX2_letterIn [(0, .iload_n 0, 1), (1, .iconst 4, 1), (2, .ishr, 1), (3, .ireturn, 1)] = true := by decide +kernel
theorem dX2_letterIn_0 : decode cX2_letterIn 0 = .ok (.iload_n 0, 1) := kDec_at dA140_cX2_letterIn 0 rfl
theorem dX2_letterIn_1 : decode cX2_letterIn 1 = .ok (.iconst 4, 1) := kDec_at dA140_cX2_letterIn 1 rfl
theorem dX2_letterIn_2 : decode cX2_letterIn 2 = .ok (.ishr, 1) := kDec_at dA140_cX2_letterIn 2 rfl
theorem dX2_letterIn_3 : decode cX2_letterIn 3 = .ok (.ireturn, 1) := kDec_at dA140_cX2_letterIn 3 rfl
set_option maxRecDepth 100000 in
theorem dA141_cX2_bytesIn : kDec cX2_bytesIn [(0, .iload_n 0, 1), (1, .bipush 15, 2), (3, .iand, 1), (4, .ireturn, 1)] = true := by decide +kernel
theorem dX2_bytesIn_0 : decode cX2_bytesIn 0 = .ok (.iload_n 0, 1) := kDec_at dA141_cX2_bytesIn 0 rfl
theorem dX2_bytesIn_1 : decode cX2_bytesIn 1 = .ok (.bipush 15, 2) := kDec_at dA141_cX2_bytesIn 1 rfl
theorem dX2_bytesIn_3 : decode cX2_bytesIn 3 = .ok (.iand, 1) := kDec_at dA141_cX2_bytesIn 2 rfl
theorem dX2_bytesIn_4 : decode cX2_bytesIn 4 = .ok (.ireturn, 1) := kDec_at dA141_cX2_bytesIn 3 rfl
set_option maxRecDepth 100000 in
theorem dA142_cX2_found : kDec cX2_found [(0, .iload_n 0, 1), (1, .iconst (-1), 1), (2, .if_icmp .ne 7, 3), (9, .iload_n 0, 1), (10, .iconst 4, 1), (11, .ishl, 1), (12, .iload_n 1, 1), (13, .iadd, 1), (14, .ireturn, 1)] = true := by decide +kernel
theorem dX2_found_0 : decode cX2_found 0 = .ok (.iload_n 0, 1) := kDec_at dA142_cX2_found 0 rfl
theorem dX2_found_1 : decode cX2_found 1 = .ok (.iconst (-1), 1) := kDec_at dA142_cX2_found 1 rfl
theorem dX2_found_2 : decode cX2_found 2 = .ok (.if_icmp .ne 7, 3) := kDec_at dA142_cX2_found 2 rfl
theorem dX2_found_9 : decode cX2_found 9 = .ok (.iload_n 0, 1) := kDec_at dA142_cX2_found 3 rfl
theorem dX2_found_10 : decode cX2_found 10 = .ok (.iconst 4, 1) := kDec_at dA142_cX2_found 4 rfl
theorem dX2_found_11 : decode cX2_found 11 = .ok (.ishl, 1) := kDec_at dA142_cX2_found 5 rfl
theorem dX2_found_12 : decode cX2_found 12 = .ok (.iload_n 1, 1) := kDec_at dA142_cX2_found 6 rfl
theorem dX2_found_13 : decode cX2_found 13 = .ok (.iadd, 1) := kDec_at dA142_cX2_found 7 rfl
theorem dX2_found_14 : decode cX2_found 14 = .ok (.ireturn, 1) := kDec_at dA142_cX2_found 8 rfl
set_option maxRecDepth 100000 in
theorem dA143_cX2_isNumbered : kDec cX2_isNumbered [(0, .iload_n 0, 1), (1, .sipush 128, 3), (4, .if_icmp .ge 9, 3), (13, .iconst 1, 1), (14, .goto 4, 3), (18, .ireturn, 1), (7, .iload_n 0, 1), (8, .bipush 38, 2), (10, .if_icmp .ne 7, 3), (17, .iconst 0, 1)] = true := by decide +kernel
theorem dX2_isNumbered_0 : decode cX2_isNumbered 0 = .ok (.iload_n 0, 1) := kDec_at dA143_cX2_isNumbered 0 rfl
theorem dX2_isNumbered_1 : decode cX2_isNumbered 1 = .ok (.sipush 128, 3) := kDec_at dA143_cX2_isNumbered 1 rfl
theorem dX2_isNumbered_4 : decode cX2_isNumbered 4 = .ok (.if_icmp .ge 9, 3) := kDec_at dA143_cX2_isNumbered 2 rfl
theorem dX2_isNumbered_13 : decode cX2_isNumbered 13 = .ok (.iconst 1, 1) := kDec_at dA143_cX2_isNumbered 3 rfl
theorem dX2_isNumbered_14 : decode cX2_isNumbered 14 = .ok (.goto 4, 3) := kDec_at dA143_cX2_isNumbered 4 rfl
theorem dX2_isNumbered_18 : decode cX2_isNumbered 18 = .ok (.ireturn, 1) := kDec_at dA143_cX2_isNumbered 5 rfl
theorem dX2_isNumbered_7 : decode cX2_isNumbered 7 = .ok (.iload_n 0, 1) := kDec_at dA143_cX2_isNumbered 6 rfl
theorem dX2_isNumbered_8 : decode cX2_isNumbered 8 = .ok (.bipush 38, 2) := kDec_at dA143_cX2_isNumbered 7 rfl
theorem dX2_isNumbered_10 : decode cX2_isNumbered 10 = .ok (.if_icmp .ne 7, 3) := kDec_at dA143_cX2_isNumbered 8 rfl
theorem dX2_isNumbered_17 : decode cX2_isNumbered 17 = .ok (.iconst 0, 1) := kDec_at dA143_cX2_isNumbered 9 rfl
set_option maxRecDepth 100000 in
theorem dA144_cX2_decodeMany : kDec cX2_decodeMany [(0, .aload_n 0, 1), (1, .iload_n 1, 1), (2, .invokevirtual 33, 3), (5, .istore_n 3, 1), (6, .iload_n 3, 1), (7, .sipush 224, 3), (10, .if_icmp .lt 7, 3), (17, .iconst 2, 1), (18, .istore 4, 2), (20, .iload_n 3, 1), (21, .sipush 192, 3), (24, .if_icmp .lt 18, 3), (42, .iconst (-1), 1), (43, .ireturn, 1), (27, .iload_n 3, 1), (28, .sipush 239, 3), (31, .if_icmp .gt 11, 3), (34, .iload 4, 2), (36, .iload_n 2, 1), (37, .iload_n 1, 1), (38, .isub, 1), (39, .if_icmp .le 5, 3), (44, .iload 4, 2), (46, .iconst 3, 1)] = true := by decide +kernel
theorem dX2_decodeMany_0 : decode cX2_decodeMany 0 = .ok (.aload_n 0, 1) := kDec_at dA144_cX2_decodeMany 0 rfl
theorem dX2_decodeMany_1 : decode cX2_decodeMany 1 = .ok (.iload_n 1, 1) := kDec_at dA144_cX2_decodeMany 1 rfl
theorem dX2_decodeMany_2 : decode cX2_decodeMany 2 = .ok (.invokevirtual 33, 3) := kDec_at dA144_cX2_decodeMany 2 rfl
theorem dX2_decodeMany_5 : decode cX2_decodeMany 5 = .ok (.istore_n 3, 1) := kDec_at dA144_cX2_decodeMany 3 rfl
theorem dX2_decodeMany_6 : decode cX2_decodeMany 6 = .ok (.iload_n 3, 1) := kDec_at dA144_cX2_decodeMany 4 rfl
theorem dX2_decodeMany_7 : decode cX2_decodeMany 7 = .ok (.sipush 224, 3) := kDec_at dA144_cX2_decodeMany 5 rfl
theorem dX2_decodeMany_10 : decode cX2_decodeMany 10 = .ok (.if_icmp .lt 7, 3) := kDec_at dA144_cX2_decodeMany 6 rfl
theorem dX2_decodeMany_17 : decode cX2_decodeMany 17 = .ok (.iconst 2, 1) := kDec_at dA144_cX2_decodeMany 7 rfl
theorem dX2_decodeMany_18 : decode cX2_decodeMany 18 = .ok (.istore 4, 2) := kDec_at dA144_cX2_decodeMany 8 rfl
theorem dX2_decodeMany_20 : decode cX2_decodeMany 20 = .ok (.iload_n 3, 1) := kDec_at dA144_cX2_decodeMany 9 rfl
theorem dX2_decodeMany_21 : decode cX2_decodeMany 21 = .ok (.sipush 192, 3) := kDec_at dA144_cX2_decodeMany 10 rfl
theorem dX2_decodeMany_24 : decode cX2_decodeMany 24 = .ok (.if_icmp .lt 18, 3) := kDec_at dA144_cX2_decodeMany 11 rfl
theorem dX2_decodeMany_42 : decode cX2_decodeMany 42 = .ok (.iconst (-1), 1) := kDec_at dA144_cX2_decodeMany 12 rfl
theorem dX2_decodeMany_43 : decode cX2_decodeMany 43 = .ok (.ireturn, 1) := kDec_at dA144_cX2_decodeMany 13 rfl
theorem dX2_decodeMany_27 : decode cX2_decodeMany 27 = .ok (.iload_n 3, 1) := kDec_at dA144_cX2_decodeMany 14 rfl
theorem dX2_decodeMany_28 : decode cX2_decodeMany 28 = .ok (.sipush 239, 3) := kDec_at dA144_cX2_decodeMany 15 rfl
theorem dX2_decodeMany_31 : decode cX2_decodeMany 31 = .ok (.if_icmp .gt 11, 3) := kDec_at dA144_cX2_decodeMany 16 rfl
theorem dX2_decodeMany_34 : decode cX2_decodeMany 34 = .ok (.iload 4, 2) := kDec_at dA144_cX2_decodeMany 17 rfl
theorem dX2_decodeMany_36 : decode cX2_decodeMany 36 = .ok (.iload_n 2, 1) := kDec_at dA144_cX2_decodeMany 18 rfl
theorem dX2_decodeMany_37 : decode cX2_decodeMany 37 = .ok (.iload_n 1, 1) := kDec_at dA144_cX2_decodeMany 19 rfl
theorem dX2_decodeMany_38 : decode cX2_decodeMany 38 = .ok (.isub, 1) := kDec_at dA144_cX2_decodeMany 20 rfl
theorem dX2_decodeMany_39 : decode cX2_decodeMany 39 = .ok (.if_icmp .le 5, 3) := kDec_at dA144_cX2_decodeMany 21 rfl
theorem dX2_decodeMany_44 : decode cX2_decodeMany 44 = .ok (.iload 4, 2) := kDec_at dA144_cX2_decodeMany 22 rfl
theorem dX2_decodeMany_46 : decode cX2_decodeMany 46 = .ok (.iconst 3, 1) := kDec_at dA144_cX2_decodeMany 23 rfl
set_option maxRecDepth 20000 in
theorem ggX2_decodeMany_X5_get : GoodIn wsX2_decodeMany wsX5_get := goodIn_sub (fun _ h => List.mem_cons_of_mem _ (List.mem_append_left _ (List.mem_append_left _ (List.mem_append_right _ (h))))) gX5_get_all
set_option maxRecDepth 20000 in
theorem gX2_decodeMany_X5_get : GoodIn wsX2_decodeMany (wsV RX2 33 RX5 yX5_get wsX5_get) := goodIn_app (goodIn_r _ [1, 2, 3, 4] rfl (by decide +kernel)) ggX2_decodeMany_X5_get
set_option maxRecDepth 100000 in
theorem dA145_cX2_decodeMany : kDec cX2_decodeMany [(47, .if_icmp .ne 11, 3), (58, .iload_n 3, 1), (59, .sipush 192, 3), (62, .isub, 1), (63, .istore 5, 2), (65, .iconst 1, 1), (66, .istore 6, 2), (68, .iload 6, 2), (70, .iload 4, 2), (72, .if_icmp .ge 51, 3), (75, .aload_n 0, 1), (76, .iload_n 1, 1), (77, .iload 6, 2), (79, .iadd, 1), (80, .invokevirtual 33, 3), (83, .istore 7, 2), (85, .iload 7, 2), (87, .sipush 128, 3), (90, .if_icmp .lt 11, 3), (101, .iconst (-1), 1), (102, .ireturn, 1), (93, .iload 7, 2), (95, .sipush 191, 3), (98, .if_icmp .le 5, 3)] = true := by decide +kernel
theorem dX2_decodeMany_47 : decode cX2_decodeMany 47 = .ok (.if_icmp .ne 11, 3) := kDec_at dA145_cX2_decodeMany 0 rfl
theorem dX2_decodeMany_58 : decode cX2_decodeMany 58 = .ok (.iload_n 3, 1) := kDec_at dA145_cX2_decodeMany 1 rfl
theorem dX2_decodeMany_59 : decode cX2_decodeMany 59 = .ok (.sipush 192, 3) := kDec_at dA145_cX2_decodeMany 2 rfl
theorem dX2_decodeMany_62 : decode cX2_decodeMany 62 = .ok (.isub, 1) := kDec_at dA145_cX2_decodeMany 3 rfl
theorem dX2_decodeMany_63 : decode cX2_decodeMany 63 = .ok (.istore 5, 2) := kDec_at dA145_cX2_decodeMany 4 rfl
theorem dX2_decodeMany_65 : decode cX2_decodeMany 65 = .ok (.iconst 1, 1) := kDec_at dA145_cX2_decodeMany 5 rfl
theorem dX2_decodeMany_66 : decode cX2_decodeMany 66 = .ok (.istore 6, 2) := kDec_at dA145_cX2_decodeMany 6 rfl
theorem dX2_decodeMany_68 : decode cX2_decodeMany 68 = .ok (.iload 6, 2) := kDec_at dA145_cX2_decodeMany 7 rfl
theorem dX2_decodeMany_70 : decode cX2_decodeMany 70 = .ok (.iload 4, 2) := kDec_at dA145_cX2_decodeMany 8 rfl
theorem dX2_decodeMany_72 : decode cX2_decodeMany 72 = .ok (.if_icmp .ge 51, 3) := kDec_at dA145_cX2_decodeMany 9 rfl
theorem dX2_decodeMany_75 : decode cX2_decodeMany 75 = .ok (.aload_n 0, 1) := kDec_at dA145_cX2_decodeMany 10 rfl
theorem dX2_decodeMany_76 : decode cX2_decodeMany 76 = .ok (.iload_n 1, 1) := kDec_at dA145_cX2_decodeMany 11 rfl
theorem dX2_decodeMany_77 : decode cX2_decodeMany 77 = .ok (.iload 6, 2) := kDec_at dA145_cX2_decodeMany 12 rfl
theorem dX2_decodeMany_79 : decode cX2_decodeMany 79 = .ok (.iadd, 1) := kDec_at dA145_cX2_decodeMany 13 rfl
theorem dX2_decodeMany_80 : decode cX2_decodeMany 80 = .ok (.invokevirtual 33, 3) := kDec_at dA145_cX2_decodeMany 14 rfl
theorem dX2_decodeMany_83 : decode cX2_decodeMany 83 = .ok (.istore 7, 2) := kDec_at dA145_cX2_decodeMany 15 rfl
theorem dX2_decodeMany_85 : decode cX2_decodeMany 85 = .ok (.iload 7, 2) := kDec_at dA145_cX2_decodeMany 16 rfl
theorem dX2_decodeMany_87 : decode cX2_decodeMany 87 = .ok (.sipush 128, 3) := kDec_at dA145_cX2_decodeMany 17 rfl
theorem dX2_decodeMany_90 : decode cX2_decodeMany 90 = .ok (.if_icmp .lt 11, 3) := kDec_at dA145_cX2_decodeMany 18 rfl
theorem dX2_decodeMany_101 : decode cX2_decodeMany 101 = .ok (.iconst (-1), 1) := kDec_at dA145_cX2_decodeMany 19 rfl
theorem dX2_decodeMany_102 : decode cX2_decodeMany 102 = .ok (.ireturn, 1) := kDec_at dA145_cX2_decodeMany 20 rfl
theorem dX2_decodeMany_93 : decode cX2_decodeMany 93 = .ok (.iload 7, 2) := kDec_at dA145_cX2_decodeMany 21 rfl
theorem dX2_decodeMany_95 : decode cX2_decodeMany 95 = .ok (.sipush 191, 3) := kDec_at dA145_cX2_decodeMany 22 rfl
theorem dX2_decodeMany_98 : decode cX2_decodeMany 98 = .ok (.if_icmp .le 5, 3) := kDec_at dA145_cX2_decodeMany 23 rfl
set_option maxRecDepth 100000 in
theorem dA146_cX2_decodeMany : kDec cX2_decodeMany [(103, .iload 5, 2), (105, .bipush 64, 2), (107, .imul, 1), (108, .iload 7, 2), (110, .iadd, 1), (111, .sipush 128, 3), (114, .isub, 1), (115, .istore 5, 2), (117, .iinc 6 1, 3), (120, .goto (-52), 3), (123, .iload 5, 2), (125, .iload 4, 2), (127, .iconst 3, 1), (128, .if_icmp .ne 9, 3), (137, .sipush 128, 3), (140, .if_icmp .lt 7, 3), (147, .iconst 0, 1), (148, .istore 6, 2), (150, .iload 6, 2), (152, .ifCond .eq 21, 3), (173, .iconst (-1), 1), (174, .ireturn, 1), (143, .iconst 1, 1), (144, .goto 4, 3)] = true := by decide +kernel
theorem dX2_decodeMany_103 : decode cX2_decodeMany 103 = .ok (.iload 5, 2) := kDec_at dA146_cX2_decodeMany 0 rfl
theorem dX2_decodeMany_105 : decode cX2_decodeMany 105 = .ok (.bipush 64, 2) := kDec_at dA146_cX2_decodeMany 1 rfl
theorem dX2_decodeMany_107 : decode cX2_decodeMany 107 = .ok (.imul, 1) := kDec_at dA146_cX2_decodeMany 2 rfl
theorem dX2_decodeMany_108 : decode cX2_decodeMany 108 = .ok (.iload 7, 2) := kDec_at dA146_cX2_decodeMany 3 rfl
theorem dX2_decodeMany_110 : decode cX2_decodeMany 110 = .ok (.iadd, 1) := kDec_at dA146_cX2_decodeMany 4 rfl
theorem dX2_decodeMany_111 : decode cX2_decodeMany 111 = .ok (.sipush 128, 3) := kDec_at dA146_cX2_decodeMany 5 rfl
theorem dX2_decodeMany_114 : decode cX2_decodeMany 114 = .ok (.isub, 1) := kDec_at dA146_cX2_decodeMany 6 rfl
theorem dX2_decodeMany_115 : decode cX2_decodeMany 115 = .ok (.istore 5, 2) := kDec_at dA146_cX2_decodeMany 7 rfl
theorem dX2_decodeMany_117 : decode cX2_decodeMany 117 = .ok (.iinc 6 1, 3) := kDec_at dA146_cX2_decodeMany 8 rfl
theorem dX2_decodeMany_120 : decode cX2_decodeMany 120 = .ok (.goto (-52), 3) := kDec_at dA146_cX2_decodeMany 9 rfl
theorem dX2_decodeMany_123 : decode cX2_decodeMany 123 = .ok (.iload 5, 2) := kDec_at dA146_cX2_decodeMany 10 rfl
theorem dX2_decodeMany_125 : decode cX2_decodeMany 125 = .ok (.iload 4, 2) := kDec_at dA146_cX2_decodeMany 11 rfl
theorem dX2_decodeMany_127 : decode cX2_decodeMany 127 = .ok (.iconst 3, 1) := kDec_at dA146_cX2_decodeMany 12 rfl
theorem dX2_decodeMany_128 : decode cX2_decodeMany 128 = .ok (.if_icmp .ne 9, 3) := kDec_at dA146_cX2_decodeMany 13 rfl
theorem dX2_decodeMany_137 : decode cX2_decodeMany 137 = .ok (.sipush 128, 3) := kDec_at dA146_cX2_decodeMany 14 rfl
theorem dX2_decodeMany_140 : decode cX2_decodeMany 140 = .ok (.if_icmp .lt 7, 3) := kDec_at dA146_cX2_decodeMany 15 rfl
theorem dX2_decodeMany_147 : decode cX2_decodeMany 147 = .ok (.iconst 0, 1) := kDec_at dA146_cX2_decodeMany 16 rfl
theorem dX2_decodeMany_148 : decode cX2_decodeMany 148 = .ok (.istore 6, 2) := kDec_at dA146_cX2_decodeMany 17 rfl
theorem dX2_decodeMany_150 : decode cX2_decodeMany 150 = .ok (.iload 6, 2) := kDec_at dA146_cX2_decodeMany 18 rfl
theorem dX2_decodeMany_152 : decode cX2_decodeMany 152 = .ok (.ifCond .eq 21, 3) := kDec_at dA146_cX2_decodeMany 19 rfl
theorem dX2_decodeMany_173 : decode cX2_decodeMany 173 = .ok (.iconst (-1), 1) := kDec_at dA146_cX2_decodeMany 20 rfl
theorem dX2_decodeMany_174 : decode cX2_decodeMany 174 = .ok (.ireturn, 1) := kDec_at dA146_cX2_decodeMany 21 rfl
theorem dX2_decodeMany_143 : decode cX2_decodeMany 143 = .ok (.iconst 1, 1) := kDec_at dA146_cX2_decodeMany 22 rfl
theorem dX2_decodeMany_144 : decode cX2_decodeMany 144 = .ok (.goto 4, 3) := kDec_at dA146_cX2_decodeMany 23 rfl
set_option maxRecDepth 100000 in
theorem dA147_cX2_decodeMany : kDec cX2_decodeMany [(155, .iload 5, 2), (157, .invokestatic 52, 3), (160, .ifCond .eq 13, 3), (163, .iload 5, 2), (165, .iload 4, 2), (167, .invokestatic 42, 3), (170, .goto 4, 3), (13, .iconst 3, 1), (14, .goto 4, 3), (50, .iload_n 3, 1), (51, .sipush 224, 3), (54, .isub, 1), (55, .goto 8, 3), (131, .sipush 2048, 3), (134, .goto 6, 3)] = true := by decide +kernel
theorem dX2_decodeMany_155 : decode cX2_decodeMany 155 = .ok (.iload 5, 2) := kDec_at dA147_cX2_decodeMany 0 rfl
theorem dX2_decodeMany_157 : decode cX2_decodeMany 157 = .ok (.invokestatic 52, 3) := kDec_at dA147_cX2_decodeMany 1 rfl
theorem dX2_decodeMany_160 : decode cX2_decodeMany 160 = .ok (.ifCond .eq 13, 3) := kDec_at dA147_cX2_decodeMany 2 rfl
theorem dX2_decodeMany_163 : decode cX2_decodeMany 163 = .ok (.iload 5, 2) := kDec_at dA147_cX2_decodeMany 3 rfl
theorem dX2_decodeMany_165 : decode cX2_decodeMany 165 = .ok (.iload 4, 2) := kDec_at dA147_cX2_decodeMany 4 rfl
theorem dX2_decodeMany_167 : decode cX2_decodeMany 167 = .ok (.invokestatic 42, 3) := kDec_at dA147_cX2_decodeMany 5 rfl
theorem dX2_decodeMany_170 : decode cX2_decodeMany 170 = .ok (.goto 4, 3) := kDec_at dA147_cX2_decodeMany 6 rfl
theorem dX2_decodeMany_13 : decode cX2_decodeMany 13 = .ok (.iconst 3, 1) := kDec_at dA147_cX2_decodeMany 7 rfl
theorem dX2_decodeMany_14 : decode cX2_decodeMany 14 = .ok (.goto 4, 3) := kDec_at dA147_cX2_decodeMany 8 rfl
theorem dX2_decodeMany_50 : decode cX2_decodeMany 50 = .ok (.iload_n 3, 1) := kDec_at dA147_cX2_decodeMany 9 rfl
theorem dX2_decodeMany_51 : decode cX2_decodeMany 51 = .ok (.sipush 224, 3) := kDec_at dA147_cX2_decodeMany 10 rfl
theorem dX2_decodeMany_54 : decode cX2_decodeMany 54 = .ok (.isub, 1) := kDec_at dA147_cX2_decodeMany 11 rfl
theorem dX2_decodeMany_55 : decode cX2_decodeMany 55 = .ok (.goto 8, 3) := kDec_at dA147_cX2_decodeMany 12 rfl
theorem dX2_decodeMany_131 : decode cX2_decodeMany 131 = .ok (.sipush 2048, 3) := kDec_at dA147_cX2_decodeMany 13 rfl
theorem dX2_decodeMany_134 : decode cX2_decodeMany 134 = .ok (.goto 6, 3) := kDec_at dA147_cX2_decodeMany 14 rfl
set_option maxRecDepth 20000 in
theorem ggX2_decodeMany_X11_isLetter : GoodIn wsX2_decodeMany wsX11_isLetter := goodIn_sub (fun _ h => List.mem_cons_of_mem _ (List.mem_append_left _ (List.mem_append_right _ (h)))) gX11_isLetter_all
set_option maxRecDepth 20000 in
theorem gX2_decodeMany_X11_isLetter_n52 : GoodIn wsX2_decodeMany (wsX11_isLetter) := ggX2_decodeMany_X11_isLetter
set_option maxRecDepth 20000 in
theorem gX2_found_all : wsX2_found.all goodWord = true := by
  unfold wsX2_found
  exact good_c (by decide +kernel) (rfl)
set_option maxRecDepth 20000 in
theorem ggX2_decodeMany_X2_found : GoodIn wsX2_decodeMany wsX2_found := goodIn_sub (fun _ h => List.mem_cons_of_mem _ (List.mem_append_right _ (h))) gX2_found_all
set_option maxRecDepth 20000 in
theorem gX2_decodeMany_X2_found : GoodIn wsX2_decodeMany (va_wsS RX2 42 yX2_found wsX2_found) := goodIn_app (goodIn_r _ [7, 8, 9] rfl (by decide +kernel)) ggX2_decodeMany_X2_found
set_option maxRecDepth 100000 in
theorem dA148_cX2_decodeNumber : kDec cX2_decodeNumber [(0, .aload_n 0, 1), (1, .iload_n 1, 1), (2, .invokevirtual 33, 3), (5, .bipush 38, 2), (7, .if_icmp .ne 22, 3), (29, .iconst (-1), 1), (30, .ireturn, 1), (10, .iload_n 1, 1), (11, .iconst 1, 1), (12, .iadd, 1), (13, .iload_n 2, 1), (14, .if_icmp .ge 15, 3), (17, .aload_n 0, 1), (18, .iload_n 1, 1), (19, .iconst 1, 1), (20, .iadd, 1), (21, .invokevirtual 33, 3), (24, .bipush 35, 2), (26, .if_icmp .eq 5, 3), (31, .iconst 0, 1), (32, .istore_n 3, 1), (33, .iload_n 1, 1), (34, .iconst 2, 1), (35, .iadd, 1)] = true := by decide +kernel
theorem dX2_decodeNumber_0 : decode cX2_decodeNumber 0 = .ok (.aload_n 0, 1) := kDec_at dA148_cX2_decodeNumber 0 rfl
theorem dX2_decodeNumber_1 : decode cX2_decodeNumber 1 = .ok (.iload_n 1, 1) := kDec_at dA148_cX2_decodeNumber 1 rfl
theorem dX2_decodeNumber_2 : decode cX2_decodeNumber 2 = .ok (.invokevirtual 33, 3) := kDec_at dA148_cX2_decodeNumber 2 rfl
theorem dX2_decodeNumber_5 : decode cX2_decodeNumber 5 = .ok (.bipush 38, 2) := kDec_at dA148_cX2_decodeNumber 3 rfl
theorem dX2_decodeNumber_7 : decode cX2_decodeNumber 7 = .ok (.if_icmp .ne 22, 3) := kDec_at dA148_cX2_decodeNumber 4 rfl
theorem dX2_decodeNumber_29 : decode cX2_decodeNumber 29 = .ok (.iconst (-1), 1) := kDec_at dA148_cX2_decodeNumber 5 rfl
theorem dX2_decodeNumber_30 : decode cX2_decodeNumber 30 = .ok (.ireturn, 1) := kDec_at dA148_cX2_decodeNumber 6 rfl
theorem dX2_decodeNumber_10 : decode cX2_decodeNumber 10 = .ok (.iload_n 1, 1) := kDec_at dA148_cX2_decodeNumber 7 rfl
theorem dX2_decodeNumber_11 : decode cX2_decodeNumber 11 = .ok (.iconst 1, 1) := kDec_at dA148_cX2_decodeNumber 8 rfl
theorem dX2_decodeNumber_12 : decode cX2_decodeNumber 12 = .ok (.iadd, 1) := kDec_at dA148_cX2_decodeNumber 9 rfl
theorem dX2_decodeNumber_13 : decode cX2_decodeNumber 13 = .ok (.iload_n 2, 1) := kDec_at dA148_cX2_decodeNumber 10 rfl
theorem dX2_decodeNumber_14 : decode cX2_decodeNumber 14 = .ok (.if_icmp .ge 15, 3) := kDec_at dA148_cX2_decodeNumber 11 rfl
theorem dX2_decodeNumber_17 : decode cX2_decodeNumber 17 = .ok (.aload_n 0, 1) := kDec_at dA148_cX2_decodeNumber 12 rfl
theorem dX2_decodeNumber_18 : decode cX2_decodeNumber 18 = .ok (.iload_n 1, 1) := kDec_at dA148_cX2_decodeNumber 13 rfl
theorem dX2_decodeNumber_19 : decode cX2_decodeNumber 19 = .ok (.iconst 1, 1) := kDec_at dA148_cX2_decodeNumber 14 rfl
theorem dX2_decodeNumber_20 : decode cX2_decodeNumber 20 = .ok (.iadd, 1) := kDec_at dA148_cX2_decodeNumber 15 rfl
theorem dX2_decodeNumber_21 : decode cX2_decodeNumber 21 = .ok (.invokevirtual 33, 3) := kDec_at dA148_cX2_decodeNumber 16 rfl
theorem dX2_decodeNumber_24 : decode cX2_decodeNumber 24 = .ok (.bipush 35, 2) := kDec_at dA148_cX2_decodeNumber 17 rfl
theorem dX2_decodeNumber_26 : decode cX2_decodeNumber 26 = .ok (.if_icmp .eq 5, 3) := kDec_at dA148_cX2_decodeNumber 18 rfl
theorem dX2_decodeNumber_31 : decode cX2_decodeNumber 31 = .ok (.iconst 0, 1) := kDec_at dA148_cX2_decodeNumber 19 rfl
theorem dX2_decodeNumber_32 : decode cX2_decodeNumber 32 = .ok (.istore_n 3, 1) := kDec_at dA148_cX2_decodeNumber 20 rfl
theorem dX2_decodeNumber_33 : decode cX2_decodeNumber 33 = .ok (.iload_n 1, 1) := kDec_at dA148_cX2_decodeNumber 21 rfl
theorem dX2_decodeNumber_34 : decode cX2_decodeNumber 34 = .ok (.iconst 2, 1) := kDec_at dA148_cX2_decodeNumber 22 rfl
theorem dX2_decodeNumber_35 : decode cX2_decodeNumber 35 = .ok (.iadd, 1) := kDec_at dA148_cX2_decodeNumber 23 rfl
set_option maxRecDepth 20000 in
theorem ggX2_decodeNumber_X5_get : GoodIn wsX2_decodeNumber wsX5_get := goodIn_sub (fun _ h => List.mem_cons_of_mem _ (List.mem_append_left _ (List.mem_append_left _ (List.mem_append_left _ (List.mem_append_right _ (h)))))) gX5_get_all
set_option maxRecDepth 20000 in
theorem gX2_decodeNumber_X5_get : GoodIn wsX2_decodeNumber (wsV RX2 33 RX5 yX5_get wsX5_get) := goodIn_app (goodIn_r _ [1, 2, 3, 4] rfl (by decide +kernel)) ggX2_decodeNumber_X5_get
set_option maxRecDepth 100000 in
theorem dA149_cX2_decodeNumber : kDec cX2_decodeNumber [(36, .istore 4, 2), (38, .iload 4, 2), (40, .iload_n 2, 1), (41, .if_icmp .ge 112, 3), (153, .iconst (-1), 1), (154, .ireturn, 1), (44, .iload 4, 2), (46, .iload_n 1, 1), (47, .bipush 8, 2), (49, .iadd, 1), (50, .if_icmp .ge 103, 3), (53, .aload_n 0, 1), (54, .iload 4, 2), (56, .invokevirtual 33, 3), (59, .istore 5, 2), (61, .iload 5, 2), (63, .bipush 59, 2), (65, .if_icmp .ne 32, 3), (97, .iload_n 3, 1), (98, .ifCond .ne 14, 3), (112, .iconst 0, 1), (113, .istore 6, 2), (115, .iload 5, 2), (117, .bipush 48, 2)] = true := by decide +kernel
theorem dX2_decodeNumber_36 : decode cX2_decodeNumber 36 = .ok (.istore 4, 2) := kDec_at dA149_cX2_decodeNumber 0 rfl
theorem dX2_decodeNumber_38 : decode cX2_decodeNumber 38 = .ok (.iload 4, 2) := kDec_at dA149_cX2_decodeNumber 1 rfl
theorem dX2_decodeNumber_40 : decode cX2_decodeNumber 40 = .ok (.iload_n 2, 1) := kDec_at dA149_cX2_decodeNumber 2 rfl
theorem dX2_decodeNumber_41 : decode cX2_decodeNumber 41 = .ok (.if_icmp .ge 112, 3) := kDec_at dA149_cX2_decodeNumber 3 rfl
theorem dX2_decodeNumber_153 : decode cX2_decodeNumber 153 = .ok (.iconst (-1), 1) := kDec_at dA149_cX2_decodeNumber 4 rfl
theorem dX2_decodeNumber_154 : decode cX2_decodeNumber 154 = .ok (.ireturn, 1) := kDec_at dA149_cX2_decodeNumber 5 rfl
theorem dX2_decodeNumber_44 : decode cX2_decodeNumber 44 = .ok (.iload 4, 2) := kDec_at dA149_cX2_decodeNumber 6 rfl
theorem dX2_decodeNumber_46 : decode cX2_decodeNumber 46 = .ok (.iload_n 1, 1) := kDec_at dA149_cX2_decodeNumber 7 rfl
theorem dX2_decodeNumber_47 : decode cX2_decodeNumber 47 = .ok (.bipush 8, 2) := kDec_at dA149_cX2_decodeNumber 8 rfl
theorem dX2_decodeNumber_49 : decode cX2_decodeNumber 49 = .ok (.iadd, 1) := kDec_at dA149_cX2_decodeNumber 9 rfl
theorem dX2_decodeNumber_50 : decode cX2_decodeNumber 50 = .ok (.if_icmp .ge 103, 3) := kDec_at dA149_cX2_decodeNumber 10 rfl
theorem dX2_decodeNumber_53 : decode cX2_decodeNumber 53 = .ok (.aload_n 0, 1) := kDec_at dA149_cX2_decodeNumber 11 rfl
theorem dX2_decodeNumber_54 : decode cX2_decodeNumber 54 = .ok (.iload 4, 2) := kDec_at dA149_cX2_decodeNumber 12 rfl
theorem dX2_decodeNumber_56 : decode cX2_decodeNumber 56 = .ok (.invokevirtual 33, 3) := kDec_at dA149_cX2_decodeNumber 13 rfl
theorem dX2_decodeNumber_59 : decode cX2_decodeNumber 59 = .ok (.istore 5, 2) := kDec_at dA149_cX2_decodeNumber 14 rfl
theorem dX2_decodeNumber_61 : decode cX2_decodeNumber 61 = .ok (.iload 5, 2) := kDec_at dA149_cX2_decodeNumber 15 rfl
theorem dX2_decodeNumber_63 : decode cX2_decodeNumber 63 = .ok (.bipush 59, 2) := kDec_at dA149_cX2_decodeNumber 16 rfl
theorem dX2_decodeNumber_65 : decode cX2_decodeNumber 65 = .ok (.if_icmp .ne 32, 3) := kDec_at dA149_cX2_decodeNumber 17 rfl
theorem dX2_decodeNumber_97 : decode cX2_decodeNumber 97 = .ok (.iload_n 3, 1) := kDec_at dA149_cX2_decodeNumber 18 rfl
theorem dX2_decodeNumber_98 : decode cX2_decodeNumber 98 = .ok (.ifCond .ne 14, 3) := kDec_at dA149_cX2_decodeNumber 19 rfl
theorem dX2_decodeNumber_112 : decode cX2_decodeNumber 112 = .ok (.iconst 0, 1) := kDec_at dA149_cX2_decodeNumber 20 rfl
theorem dX2_decodeNumber_113 : decode cX2_decodeNumber 113 = .ok (.istore 6, 2) := kDec_at dA149_cX2_decodeNumber 21 rfl
theorem dX2_decodeNumber_115 : decode cX2_decodeNumber 115 = .ok (.iload 5, 2) := kDec_at dA149_cX2_decodeNumber 22 rfl
theorem dX2_decodeNumber_117 : decode cX2_decodeNumber 117 = .ok (.bipush 48, 2) := kDec_at dA149_cX2_decodeNumber 23 rfl
set_option maxRecDepth 100000 in
theorem dA150_cX2_decodeNumber : kDec cX2_decodeNumber [(119, .if_icmp .lt 15, 3), (134, .iconst (-1), 1), (135, .ireturn, 1), (122, .iload 5, 2), (124, .bipush 57, 2), (126, .if_icmp .gt 8, 3), (129, .iload 6, 2), (131, .ifCond .eq 5, 3), (136, .iload_n 3, 1), (137, .bipush 10, 2), (139, .imul, 1), (140, .iload 5, 2), (142, .iadd, 1), (143, .bipush 48, 2), (145, .isub, 1), (146, .istore_n 3, 1), (147, .iinc 4 1, 3), (150, .goto (-112), 3), (101, .iload 5, 2), (103, .bipush 48, 2), (105, .if_icmp .ne 7, 3), (108, .iconst 1, 1), (109, .goto 4, 3), (68, .iload_n 3, 1)] = true := by decide +kernel
theorem dX2_decodeNumber_119 : decode cX2_decodeNumber 119 = .ok (.if_icmp .lt 15, 3) := kDec_at dA150_cX2_decodeNumber 0 rfl
theorem dX2_decodeNumber_134 : decode cX2_decodeNumber 134 = .ok (.iconst (-1), 1) := kDec_at dA150_cX2_decodeNumber 1 rfl
theorem dX2_decodeNumber_135 : decode cX2_decodeNumber 135 = .ok (.ireturn, 1) := kDec_at dA150_cX2_decodeNumber 2 rfl
theorem dX2_decodeNumber_122 : decode cX2_decodeNumber 122 = .ok (.iload 5, 2) := kDec_at dA150_cX2_decodeNumber 3 rfl
theorem dX2_decodeNumber_124 : decode cX2_decodeNumber 124 = .ok (.bipush 57, 2) := kDec_at dA150_cX2_decodeNumber 4 rfl
theorem dX2_decodeNumber_126 : decode cX2_decodeNumber 126 = .ok (.if_icmp .gt 8, 3) := kDec_at dA150_cX2_decodeNumber 5 rfl
theorem dX2_decodeNumber_129 : decode cX2_decodeNumber 129 = .ok (.iload 6, 2) := kDec_at dA150_cX2_decodeNumber 6 rfl
theorem dX2_decodeNumber_131 : decode cX2_decodeNumber 131 = .ok (.ifCond .eq 5, 3) := kDec_at dA150_cX2_decodeNumber 7 rfl
theorem dX2_decodeNumber_136 : decode cX2_decodeNumber 136 = .ok (.iload_n 3, 1) := kDec_at dA150_cX2_decodeNumber 8 rfl
theorem dX2_decodeNumber_137 : decode cX2_decodeNumber 137 = .ok (.bipush 10, 2) := kDec_at dA150_cX2_decodeNumber 9 rfl
theorem dX2_decodeNumber_139 : decode cX2_decodeNumber 139 = .ok (.imul, 1) := kDec_at dA150_cX2_decodeNumber 10 rfl
theorem dX2_decodeNumber_140 : decode cX2_decodeNumber 140 = .ok (.iload 5, 2) := kDec_at dA150_cX2_decodeNumber 11 rfl
theorem dX2_decodeNumber_142 : decode cX2_decodeNumber 142 = .ok (.iadd, 1) := kDec_at dA150_cX2_decodeNumber 12 rfl
theorem dX2_decodeNumber_143 : decode cX2_decodeNumber 143 = .ok (.bipush 48, 2) := kDec_at dA150_cX2_decodeNumber 13 rfl
theorem dX2_decodeNumber_145 : decode cX2_decodeNumber 145 = .ok (.isub, 1) := kDec_at dA150_cX2_decodeNumber 14 rfl
theorem dX2_decodeNumber_146 : decode cX2_decodeNumber 146 = .ok (.istore_n 3, 1) := kDec_at dA150_cX2_decodeNumber 15 rfl
theorem dX2_decodeNumber_147 : decode cX2_decodeNumber 147 = .ok (.iinc 4 1, 3) := kDec_at dA150_cX2_decodeNumber 16 rfl
theorem dX2_decodeNumber_150 : decode cX2_decodeNumber 150 = .ok (.goto (-112), 3) := kDec_at dA150_cX2_decodeNumber 17 rfl
theorem dX2_decodeNumber_101 : decode cX2_decodeNumber 101 = .ok (.iload 5, 2) := kDec_at dA150_cX2_decodeNumber 18 rfl
theorem dX2_decodeNumber_103 : decode cX2_decodeNumber 103 = .ok (.bipush 48, 2) := kDec_at dA150_cX2_decodeNumber 19 rfl
theorem dX2_decodeNumber_105 : decode cX2_decodeNumber 105 = .ok (.if_icmp .ne 7, 3) := kDec_at dA150_cX2_decodeNumber 20 rfl
theorem dX2_decodeNumber_108 : decode cX2_decodeNumber 108 = .ok (.iconst 1, 1) := kDec_at dA150_cX2_decodeNumber 21 rfl
theorem dX2_decodeNumber_109 : decode cX2_decodeNumber 109 = .ok (.goto 4, 3) := kDec_at dA150_cX2_decodeNumber 22 rfl
theorem dX2_decodeNumber_68 : decode cX2_decodeNumber 68 = .ok (.iload_n 3, 1) := kDec_at dA150_cX2_decodeNumber 23 rfl
set_option maxRecDepth 20000 in
theorem ggX2_decodeNumber_X11_isLetter : GoodIn wsX2_decodeNumber wsX11_isLetter := goodIn_sub (fun _ h => List.mem_cons_of_mem _ (List.mem_append_left _ (List.mem_append_left _ (List.mem_append_right _ (h))))) gX11_isLetter_all
set_option maxRecDepth 20000 in
theorem gX2_decodeNumber_X11_isLetter_n52 : GoodIn wsX2_decodeNumber (wsX11_isLetter) := ggX2_decodeNumber_X11_isLetter
set_option maxRecDepth 100000 in
theorem dA151_cX2_decodeNumber : kDec cX2_decodeNumber [(69, .invokestatic 52, 3), (72, .ifCond .eq 23, 3), (95, .iconst (-1), 1), (96, .ireturn, 1), (75, .iload_n 3, 1), (76, .invokestatic 56, 3), (79, .ifCond .eq 16, 3), (82, .iload_n 3, 1), (83, .iload 4, 2), (85, .iconst 1, 1), (86, .iadd, 1), (87, .iload_n 1, 1), (88, .isub, 1), (89, .invokestatic 42, 3), (92, .goto 4, 3)] = true := by decide +kernel
theorem dX2_decodeNumber_69 : decode cX2_decodeNumber 69 = .ok (.invokestatic 52, 3) := kDec_at dA151_cX2_decodeNumber 0 rfl
theorem dX2_decodeNumber_72 : decode cX2_decodeNumber 72 = .ok (.ifCond .eq 23, 3) := kDec_at dA151_cX2_decodeNumber 1 rfl
theorem dX2_decodeNumber_95 : decode cX2_decodeNumber 95 = .ok (.iconst (-1), 1) := kDec_at dA151_cX2_decodeNumber 2 rfl
theorem dX2_decodeNumber_96 : decode cX2_decodeNumber 96 = .ok (.ireturn, 1) := kDec_at dA151_cX2_decodeNumber 3 rfl
theorem dX2_decodeNumber_75 : decode cX2_decodeNumber 75 = .ok (.iload_n 3, 1) := kDec_at dA151_cX2_decodeNumber 4 rfl
theorem dX2_decodeNumber_76 : decode cX2_decodeNumber 76 = .ok (.invokestatic 56, 3) := kDec_at dA151_cX2_decodeNumber 5 rfl
theorem dX2_decodeNumber_79 : decode cX2_decodeNumber 79 = .ok (.ifCond .eq 16, 3) := kDec_at dA151_cX2_decodeNumber 6 rfl
theorem dX2_decodeNumber_82 : decode cX2_decodeNumber 82 = .ok (.iload_n 3, 1) := kDec_at dA151_cX2_decodeNumber 7 rfl
theorem dX2_decodeNumber_83 : decode cX2_decodeNumber 83 = .ok (.iload 4, 2) := kDec_at dA151_cX2_decodeNumber 8 rfl
theorem dX2_decodeNumber_85 : decode cX2_decodeNumber 85 = .ok (.iconst 1, 1) := kDec_at dA151_cX2_decodeNumber 9 rfl
theorem dX2_decodeNumber_86 : decode cX2_decodeNumber 86 = .ok (.iadd, 1) := kDec_at dA151_cX2_decodeNumber 10 rfl
theorem dX2_decodeNumber_87 : decode cX2_decodeNumber 87 = .ok (.iload_n 1, 1) := kDec_at dA151_cX2_decodeNumber 11 rfl
theorem dX2_decodeNumber_88 : decode cX2_decodeNumber 88 = .ok (.isub, 1) := kDec_at dA151_cX2_decodeNumber 12 rfl
theorem dX2_decodeNumber_89 : decode cX2_decodeNumber 89 = .ok (.invokestatic 42, 3) := kDec_at dA151_cX2_decodeNumber 13 rfl
theorem dX2_decodeNumber_92 : decode cX2_decodeNumber 92 = .ok (.goto 4, 3) := kDec_at dA151_cX2_decodeNumber 14 rfl
set_option maxRecDepth 20000 in
theorem gX2_isNumbered_all : wsX2_isNumbered.all goodWord = true := by
  unfold wsX2_isNumbered
  exact good_c (by decide +kernel) (rfl)
set_option maxRecDepth 20000 in
theorem ggX2_decodeNumber_X2_isNumbered : GoodIn wsX2_decodeNumber wsX2_isNumbered := goodIn_sub (fun _ h => List.mem_cons_of_mem _ (List.mem_append_left _ (List.mem_append_right _ (h)))) gX2_isNumbered_all
set_option maxRecDepth 20000 in
theorem gX2_decodeNumber_X2_isNumbered : GoodIn wsX2_decodeNumber (va_wsS RX2 56 yX2_isNumbered wsX2_isNumbered) := goodIn_app (goodIn_r _ [7, 8, 9] rfl (by decide +kernel)) ggX2_decodeNumber_X2_isNumbered
set_option maxRecDepth 20000 in
theorem ggX2_decodeNumber_X2_found : GoodIn wsX2_decodeNumber wsX2_found := goodIn_sub (fun _ h => List.mem_cons_of_mem _ (List.mem_append_right _ (h))) gX2_found_all
set_option maxRecDepth 20000 in
theorem gX2_decodeNumber_X2_found : GoodIn wsX2_decodeNumber (va_wsS RX2 42 yX2_found wsX2_found) := goodIn_app (goodIn_r _ [10, 11, 9] rfl (by decide +kernel)) ggX2_decodeNumber_X2_found

end

/-! 59b.dec -/
section
set_option maxHeartbeats 40000000 in
set_option maxRecDepth 100000 in
theorem f_X2_letterIn (l : Launch) (dC : Nat → ClassId) (dI : Nat → Nat → Nat) (cI cS : ClassId) (sz : Nat) (fd : Int32)  : kMi l yX2_letterIn wsX2_letterIn ({ frames := 0, cells := 0, slots := 0, locals := 0 } : Room) [.int fd] sz (dC, dI) vwCl [(cI, .int), (cS, .short)] [] (fun _ => True) 0 0 (fun (A : Nat → Prop) (r : Int32) (hh9 : Heap) => ∀ PZ9 : Prop, (kPD (dC, dI) vwCl A [] hh9 → (r.toInt = fd.toInt / 16) → PZ9) → PZ9) := by
  refine kMi_of (cc := cX2_letterIn) (maxL := 1) (ret := (some .int)) (lv := [(0, .int fd)]) (by decide +kernel) rfl rfl (Nat.le_of_ble_eq_true rfl) ?_
  intro p e s m below meth c A QQ ls hx hb hr hts hml hown hlocks hA hQQ hK hX hP hD hS hl
  have hown : s.vm.findClass RX2 = some m.cls := hown
  have hcf := k_cf hx hb hml hown hts
  refine lv_iload_n hx hb dX2_letterIn_0 rfl (lv_at hl 0 rfl) ?_
  refine lv_iconst (v := 4) hx hb dX2_letterIn_1 (by decide) ?_
  refine lv_ishr hx hb dX2_letterIn_2 ?_
  refine lv_topi (fun x_1 ex_1 => ?_)
  have rv1_0 := v_rng fd
  have tx_1 : x_1.toInt = fd.toInt / 16 := v_shr 4 ex_1 (by decide)
  exact kl_i (v := x_1) hQQ hx hb hr hlocks hS dX2_letterIn_3 (fun PZ9 kZ9 => kZ9 (⟨hP, hD⟩) (by show x_1.toInt = fd.toInt / 16; omega))

set_option maxHeartbeats 40000000 in
set_option maxRecDepth 100000 in
theorem f_X2_bytesIn (l : Launch) (dC : Nat → ClassId) (dI : Nat → Nat → Nat) (cI cS : ClassId) (sz : Nat) (fd : Int32) (g_fd : 0 ≤ fd.toInt ∧ fd.toInt ≤ 2000000) : kMi l yX2_bytesIn wsX2_bytesIn ({ frames := 0, cells := 0, slots := 0, locals := 0 } : Room) [.int fd] sz (dC, dI) vwCl [(cI, .int), (cS, .short)] [] (fun _ => True) 0 0 (fun (A : Nat → Prop) (r : Int32) (hh9 : Heap) => ∀ PZ9 : Prop, (kPD (dC, dI) vwCl A [] hh9 → (0 ≤ r.toInt ∧ r.toInt ≤ 15) → (r.toInt = fd.toInt % 16) → PZ9) → PZ9) := by
  refine kMi_of (cc := cX2_bytesIn) (maxL := 1) (ret := (some .int)) (lv := [(0, .int fd)]) (by decide +kernel) rfl rfl (Nat.le_of_ble_eq_true rfl) ?_
  intro p e s m below meth c A QQ ls hx hb hr hts hml hown hlocks hA hQQ hK hX hP hD hS hl
  have hown : s.vm.findClass RX2 = some m.cls := hown
  have hcf := k_cf hx hb hml hown hts
  refine lv_iload_n hx hb dX2_bytesIn_0 rfl (lv_at hl 0 rfl) ?_
  refine lv_bipush (v := 15) hx hb dX2_bytesIn_1 (by decide) ?_
  refine lv_iand hx hb dX2_bytesIn_3 ?_
  refine lv_topi (fun x_1 ex_1 => ?_)
  have tx_1 : 0 ≤ x_1.toInt ∧ x_1.toInt < 16 := v_and 4 ex_1 (by decide) (by decide)
  have tb_x_1 : x_1.toInt = fd.toInt % 16 := v_and15 ex_1 (by omega)
  exact kl_i (v := x_1) hQQ hx hb hr hlocks hS dX2_bytesIn_4 (fun PZ9 kZ9 => kZ9 (⟨hP, hD⟩) (by omega) (by show x_1.toInt = fd.toInt % 16; omega))

set_option maxHeartbeats 40000000 in
set_option maxRecDepth 100000 in
theorem f_X2_found (l : Launch) (dC : Nat → ClassId) (dI : Nat → Nat → Nat) (cI cS : ClassId) (sz : Nat) (le : Int32) (by_ : Int32) (g_le : 0 ≤ le.toInt ∧ le.toInt ≤ 65535) (g_by_ : 0 ≤ by_.toInt ∧ by_.toInt ≤ 15) : kMi l yX2_found wsX2_found ({ frames := 0, cells := 0, slots := 0, locals := 0 } : Room) [.int le, .int by_] sz (dC, dI) vwCl [(cI, .int), (cS, .short)] [] (fun _ => True) 0 0 (fun (A : Nat → Prop) (r : Int32) (hh9 : Heap) => ∀ PZ9 : Prop, (kPD (dC, dI) vwCl A [] hh9 → (r.toInt = 16 * le.toInt + by_.toInt) → PZ9) → PZ9) := by
  refine kMi_of (cc := cX2_found) (maxL := 2) (ret := (some .int)) (lv := [(0, .int le), (1, .int by_)]) (by decide +kernel) rfl rfl (Nat.le_of_ble_eq_true rfl) ?_
  intro p e s m below meth c A QQ ls hx hb hr hts hml hown hlocks hA hQQ hK hX hP hD hS hl
  have hown : s.vm.findClass RX2 = some m.cls := hown
  have hcf := k_cf hx hb hml hown hts
  refine lv_iload_n hx hb dX2_found_0 rfl (lv_at hl 0 rfl) ?_
  refine lv_iconst (v := (-1)) hx hb dX2_found_1 (by decide) ?_
  refine lv_icmp_ne (tgt := 9) hx hb dX2_found_2 (by decide) (fun c_1 => ?_) (fun c_1 => by exfalso; have tc_1 : le.toInt = (-1) := v_eq c_1; omega)
  have tc_1 : ¬ le.toInt = (-1) := v_ne c_1
  refine lv_iload_n hx hb dX2_found_9 rfl (lv_at hl 0 rfl) ?_
  refine lv_iconst (v := 4) hx hb dX2_found_10 (by decide) ?_
  refine lv_ishl hx hb dX2_found_11 ?_
  refine lv_topi (fun x_2 ex_2 => ?_)
  have tb_x_2 : x_2.toInt = 16 * le.toInt := v_shl4 ex_2 (by omega)
  refine lv_iload_n hx hb dX2_found_12 rfl (lv_at hl 1 rfl) ?_
  refine lv_iadd hx hb dX2_found_13 ?_
  refine lv_topi (fun x_3 ex_3 => ?_)
  have tx_3 : x_3.toInt = x_2.toInt + by_.toInt := v_add ex_3 (by show -2147483648 ≤ x_2.toInt + by_.toInt; omega) (by show x_2.toInt + by_.toInt < 2147483648; omega)
  exact kl_i (v := x_3) hQQ hx hb hr hlocks hS dX2_found_14 (fun PZ9 kZ9 => kZ9 (⟨hP, hD⟩) (by show x_3.toInt = 16 * le.toInt + by_.toInt; omega))

set_option maxHeartbeats 40000000 in
set_option maxRecDepth 100000 in
theorem f_X2_isNumbered (l : Launch) (dC : Nat → ClassId) (dI : Nat → Nat → Nat) (cI cS : ClassId) (sz : Nat) (le : Int32)  : kMi l yX2_isNumbered wsX2_isNumbered ({ frames := 0, cells := 0, slots := 0, locals := 0 } : Room) [.int le] sz (dC, dI) vwCl [(cI, .int), (cS, .short)] [] (fun _ => True) 0 0 (fun (A : Nat → Prop) (r : Int32) (hh9 : Heap) => ∀ PZ9 : Prop, (kPD (dC, dI) vwCl A [] hh9 → (0 ≤ r.toInt ∧ r.toInt ≤ 1) → ((r.toInt = 1 ∧ (128 ≤ le.toInt ∨ le.toInt = 38)) ∨ (r.toInt = 0 ∧ le.toInt < 128 ∧ ¬ le.toInt = 38)) → PZ9) → PZ9) := by
  refine kMi_of (cc := cX2_isNumbered) (maxL := 1) (ret := (some .boolean)) (lv := [(0, .int le)]) (by decide +kernel) rfl rfl (Nat.le_of_ble_eq_true rfl) ?_
  intro p e s m below meth c A QQ ls hx hb hr hts hml hown hlocks hA hQQ hK hX hP hD hS hl
  have hown : s.vm.findClass RX2 = some m.cls := hown
  have hcf := k_cf hx hb hml hown hts
  refine lv_iload_n hx hb dX2_isNumbered_0 rfl (lv_at hl 0 rfl) ?_
  refine lv_sipush (v := 128) hx hb dX2_isNumbered_1 (by decide) ?_
  refine lv_icmp_ge (tgt := 13) hx hb dX2_isNumbered_4 (by decide) (fun c_1 => ?_) (fun c_1 => ?_)
  · have tc_1 : 128 ≤ le.toInt := v_le c_1
    refine lv_iconst (v := 1) hx hb dX2_isNumbered_13 (by decide) ?_
    refine lv_goto (tgt := 18) hx hb dX2_isNumbered_14 (by decide) ?_
    exact kl_z (v := 1) hQQ hx hb hr hlocks hS dX2_isNumbered_18 (rfl) (fun PZ9 kZ9 => kZ9 (⟨hP, hD⟩) (by decide) (by show (1 = 1 ∧ (128 ≤ le.toInt ∨ le.toInt = 38)) ∨ (1 = 0 ∧ le.toInt < 128 ∧ ¬ le.toInt = 38); omega))
  · have tc_1 : le.toInt < 128 := v_nle c_1
    refine lv_iload_n hx hb dX2_isNumbered_7 rfl (lv_at hl 0 rfl) ?_
    refine lv_bipush (v := 38) hx hb dX2_isNumbered_8 (by decide) ?_
    refine lv_icmp_ne (tgt := 17) hx hb dX2_isNumbered_10 (by decide) (fun c_2 => ?_) (fun c_2 => ?_)
    · have tc_2 : ¬ le.toInt = 38 := v_ne c_2
      refine lv_iconst (v := 0) hx hb dX2_isNumbered_17 (by decide) ?_
      exact kl_z (v := 0) hQQ hx hb hr hlocks hS dX2_isNumbered_18 (rfl) (fun PZ9 kZ9 => kZ9 (⟨hP, hD⟩) (by decide) (by show (0 = 1 ∧ (128 ≤ le.toInt ∨ le.toInt = 38)) ∨ (0 = 0 ∧ le.toInt < 128 ∧ ¬ le.toInt = 38); omega))
    · have tc_2 : le.toInt = 38 := v_eq c_2
      refine lv_iconst (v := 1) hx hb dX2_isNumbered_13 (by decide) ?_
      refine lv_goto (tgt := 18) hx hb dX2_isNumbered_14 (by decide) ?_
      exact kl_z (v := 1) hQQ hx hb hr hlocks hS dX2_isNumbered_18 (rfl) (fun PZ9 kZ9 => kZ9 (⟨hP, hD⟩) (by decide) (by show (1 = 1 ∧ (128 ≤ le.toInt ∨ le.toInt = 38)) ∨ (1 = 0 ∧ le.toInt < 128 ∧ ¬ le.toInt = 38); omega))

set_option maxHeartbeats 40000000 in
set_option maxRecDepth 100000 in
theorem f_X2_decodeMany (l : Launch) (dC : Nat → ClassId) (dI : Nat → Nat → Nat) (cI cS : ClassId) (sz : Nat) (nu : Nat) (au : Nat) (cap : Nat) (lu : Int32) (fu : Nat → Int32) (fr : Int32) (en : Int32) (g_lu : 0 ≤ lu.toInt ∧ lu.toInt ≤ (cap : Int)) (g_fr : 0 ≤ fr.toInt ∧ fr.toInt ≤ 2400) (hcap : cap ≤ 2400) (hen : en.toInt ≤ lu.toInt) (hfe : fr.toInt < en.toInt) : kMi l yX2_decodeMany wsX2_decodeMany ({ frames := 1, cells := 0, slots := 0, locals := 21 } : Room) [.ref nu, .int fr, .int en] sz (dC, dI) vwCl [(cI, .int), (cS, .short)] [(nu, .inr (5, [.ref au, .int lu])), (au, .inl (cI, cap, .inl fu))] (va_Nw (.methodLinkNest RX2 52 yX11_isLetter "TextMender")) 0 0 (fun (A : Nat → Prop) (r : Int32) (hh9 : Heap) => ∀ PZ9 : Prop, (kPD (dC, dI) vwCl A [(nu, .inr (5, [.ref au, .int lu])), (au, .inl (cI, cap, .inl fu))] hh9 → (F_dm r fu en.toInt fr.toNatClampNeg) → PZ9) → PZ9) := by
  refine kMi_of (cc := cX2_decodeMany) (maxL := 8) (ret := (some .int)) (lv := [(0, .ref nu), (1, .int fr), (2, .int en)]) (by decide +kernel) rfl rfl (Nat.le_of_ble_eq_true rfl) ?_
  intro p e s m below meth c A QQ ls hx hb hr hts hml hown hlocks hA hQQ hK hX hP hD hS hl
  have hown : s.vm.findClass RX2 = some m.cls := hown
  have hcf := k_cf hx hb hml hown hts
  have hN52 := hX
  have c0 := v_clamp (x := fr) (by omega)
  have z0 : (0 : Int32).toInt = 0 := rfl
  have z1 : (1 : Int32).toInt = 1 := rfl
  have z2 : (2 : Int32).toInt = 2 := rfl
  have z3 : (3 : Int32).toInt = 3 := rfl
  refine lv_aload_n hx hb dX2_decodeMany_0 rfl (lv_at hl 0 rfl) ?_
  refine lv_iload_n hx hb dX2_decodeMany_1 rfl (lv_at hl 1 rfl) ?_
  refine kV_i (rest := []) (q0 := 0) (ci := 5) hcf (m_X5_get l dC dI cI cS s.heap.size nu au cap lu fu fr (g_lu) (by omega)) kc_X5_get gX2_decodeMany_X5_get rfl rfl rfl ⟨Nat.le_of_ble_eq_true rfl, Nat.le_of_ble_eq_true rfl⟩ kX_t hK hP hD hS hA [0, 1] [] rfl (by decide +kernel) rfl rfl rfl hl rfl (Nat.le_of_ble_eq_true rfl) dX2_decodeMany_2 ⟨Nat.le_of_ble_eq_true rfl, Nat.le_of_ble_eq_true rfl⟩ (fun r_1 H locs hB hJ hSn => ?_)
  refine hB _ (fun hPD9 hf1_0 => ?_)
  clear hB
  obtain ⟨hPn, hDn⟩ := hJ _ hPD9.1 hPD9.2 [(nu, .inr (5, [.ref au, .int lu])), (au, .inl (cI, cap, .inl fu))] rfl
  clear hP hD hS hJ hPD9
  have hP := hPn
  have hD := hDn
  have hS := hSn
  clear hPn hDn hSn
  have hb1 : r_1.toInt = bt fu en.toInt fr.toNatClampNeg := get_bt (k := fr.toNatClampNeg) hf1_0 (by omega) (by omega) hen
  refine lv_istore_n (lv' := [(3, .int r_1), (0, .ref nu), (1, .int fr), (2, .int en)]) hx hb dX2_decodeMany_5 rfl hl (by decide) rfl (fun ls hl => ?_)
  refine lv_iload_n hx hb dX2_decodeMany_6 rfl (lv_at hl 0 rfl) ?_
  refine lv_sipush (v := 224) hx hb dX2_decodeMany_7 (by decide) ?_
  refine lv_icmp_lt (tgt := 17) hx hb dX2_decodeMany_10 (by decide) (fun c_2 => ?_) (fun c_2 => ?_)
  · have tc_2 : r_1.toInt < 224 := v_lt c_2
    refine lv_iconst (v := 2) hx hb dX2_decodeMany_17 (by decide) ?_
    refine lv_istore (lv' := [(4, .int 2), (3, .int r_1), (0, .ref nu), (1, .int fr), (2, .int en)]) hx hb dX2_decodeMany_18 hl (by decide) rfl (fun ls hl => ?_)
    refine lv_iload_n hx hb dX2_decodeMany_20 rfl (lv_at hl 1 rfl) ?_
    refine lv_sipush (v := 192) hx hb dX2_decodeMany_21 (by decide) ?_
    refine lv_icmp_lt (tgt := 42) hx hb dX2_decodeMany_24 (by decide) (fun c_3 => ?_) (fun c_3 => ?_)
    · have tc_3 : r_1.toInt < 192 := v_lt c_3
      refine lv_iconst (v := (-1)) hx hb dX2_decodeMany_42 (by decide) ?_
      exact kl_i (v := (-1)) hQQ hx hb hr hlocks hS dX2_decodeMany_43 (fun PZ9 kZ9 => kZ9 (⟨hP, hD⟩) (Or.inr ⟨rfl, fun l x h => by have o1 := bt_c fu en.toInt (fr.toNatClampNeg + 1); have o2 := bt_c fu en.toInt (fr.toNatClampNeg + 2); unfold DMa DM at h; omega⟩))
    · have tc_3 : 192 ≤ r_1.toInt := v_nlt c_3
      refine lv_iload_n hx hb dX2_decodeMany_27 rfl (lv_at hl 1 rfl) ?_
      refine lv_sipush (v := 239) hx hb dX2_decodeMany_28 (by decide) ?_
      refine lv_icmp_gt (tgt := 42) hx hb dX2_decodeMany_31 (by decide) (fun c_4 => by exfalso; have tc_4 : 239 < r_1.toInt := v_lt c_4; omega) (fun c_4 => ?_)
      have tc_4 : r_1.toInt ≤ 239 := v_nlt c_4
      refine lv_iload hx hb dX2_decodeMany_34 (lv_at hl 0 rfl) ?_
      refine lv_iload_n hx hb dX2_decodeMany_36 rfl (lv_at hl 4 rfl) ?_
      refine lv_iload_n hx hb dX2_decodeMany_37 rfl (lv_at hl 3 rfl) ?_
      refine lv_isub hx hb dX2_decodeMany_38 ?_
      refine lv_topi (fun x_5 ex_5 => ?_)
      have tx_5 : x_5.toInt = en.toInt - fr.toInt := v_sub ex_5 (by show -2147483648 ≤ en.toInt - fr.toInt; omega) (by show en.toInt - fr.toInt < 2147483648; omega)
      refine lv_icmp_le (tgt := 44) hx hb dX2_decodeMany_39 (by decide) (fun c_6 => ?_) (fun c_6 => ?_)
      · have tc_6 : 2 ≤ x_5.toInt := v_le c_6
        refine lv_iload hx hb dX2_decodeMany_44 (lv_at hl 0 rfl) ?_
        refine lv_iconst (v := 3) hx hb dX2_decodeMany_46 (by decide) ?_
        refine lv_icmp_ne (tgt := 58) hx hb dX2_decodeMany_47 (by decide) (fun c_7 => ?_) (fun c_7 => absurd c_7 (by decide))
        refine lv_iload_n hx hb dX2_decodeMany_58 rfl (lv_at hl 1 rfl) ?_
        refine lv_sipush (v := 192) hx hb dX2_decodeMany_59 (by decide) ?_
        refine lv_isub hx hb dX2_decodeMany_62 ?_
        refine lv_topi (fun x_8 ex_8 => ?_)
        have tx_8 : x_8.toInt = r_1.toInt - 192 := v_sub ex_8 (by show -2147483648 ≤ r_1.toInt - 192; omega) (by show r_1.toInt - 192 < 2147483648; omega)
        refine lv_istore (lv' := [(5, .int x_8), (4, .int 2), (3, .int r_1), (0, .ref nu), (1, .int fr), (2, .int en)]) hx hb dX2_decodeMany_63 hl (by decide) rfl (fun ls hl => ?_)
        refine lv_iconst (v := 1) hx hb dX2_decodeMany_65 (by decide) ?_
        refine lv_istore (lv' := [(6, .int 1), (5, .int x_8), (4, .int 2), (3, .int r_1), (0, .ref nu), (1, .int fr), (2, .int en)]) hx hb dX2_decodeMany_66 hl (by decide) rfl (fun ls hl => ?_)
        refine lv_iload hx hb dX2_decodeMany_68 (lv_at hl 0 rfl) ?_
        refine lv_iload hx hb dX2_decodeMany_70 (lv_at hl 2 rfl) ?_
        refine lv_icmp_ge (tgt := 123) hx hb dX2_decodeMany_72 (by decide) (fun c_9 => absurd c_9 (by decide)) (fun c_9 => ?_)
        refine lv_aload_n hx hb dX2_decodeMany_75 rfl (lv_at hl 4 rfl) ?_
        refine lv_iload_n hx hb dX2_decodeMany_76 rfl (lv_at hl 5 rfl) ?_
        refine lv_iload hx hb dX2_decodeMany_77 (lv_at hl 0 rfl) ?_
        refine lv_iadd hx hb dX2_decodeMany_79 ?_
        refine lv_topi (fun x_10 ex_10 => ?_)
        have tx_10 : x_10.toInt = fr.toInt + 1 := v_addR (l2 := 1) (h2 := 1) ex_10 g_fr (by decide) (by decide) (by decide)
        refine kV_i (rest := []) (q0 := 0) (ci := 5) hcf (m_X5_get l dC dI cI cS H.size nu au cap lu fu x_10 (g_lu) (by omega)) kc_X5_get gX2_decodeMany_X5_get rfl rfl rfl ⟨Nat.le_of_ble_eq_true rfl, Nat.le_of_ble_eq_true rfl⟩ kX_t hK hP hD hS hA [0, 1] [] rfl (by decide +kernel) rfl rfl rfl hl rfl (Nat.le_of_ble_eq_true rfl) dX2_decodeMany_80 ⟨Nat.le_of_ble_eq_true rfl, Nat.le_of_ble_eq_true rfl⟩ (fun r_11 H locs hB hJ hSn => ?_)
        refine hB _ (fun hPD9 hf11_0 => ?_)
        clear hB
        obtain ⟨hPn, hDn⟩ := hJ _ hPD9.1 hPD9.2 [(nu, .inr (5, [.ref au, .int lu])), (au, .inl (cI, cap, .inl fu))] rfl
        clear hP hD hS hJ hPD9
        have hP := hPn
        have hD := hDn
        have hS := hSn
        clear hPn hDn hSn
        have hb11 : r_11.toInt = bt fu en.toInt (fr.toNatClampNeg + 1) := get_bt (k := fr.toNatClampNeg + 1) hf11_0 (by omega) (by omega) hen
        refine lv_istore (lv' := [(7, .int r_11), (6, .int 1), (5, .int x_8), (4, .int 2), (3, .int r_1), (0, .ref nu), (1, .int fr), (2, .int en)]) hx hb dX2_decodeMany_83 hl (by decide) rfl (fun ls hl => ?_)
        refine lv_iload hx hb dX2_decodeMany_85 (lv_at hl 0 rfl) ?_
        refine lv_sipush (v := 128) hx hb dX2_decodeMany_87 (by decide) ?_
        refine lv_icmp_lt (tgt := 101) hx hb dX2_decodeMany_90 (by decide) (fun c_12 => ?_) (fun c_12 => ?_)
        · have tc_12 : r_11.toInt < 128 := v_lt c_12
          refine lv_iconst (v := (-1)) hx hb dX2_decodeMany_101 (by decide) ?_
          exact kl_i (v := (-1)) hQQ hx hb hr hlocks hS dX2_decodeMany_102 (fun PZ9 kZ9 => kZ9 (⟨hP, hD⟩) (Or.inr ⟨rfl, fun l x h => by have o1 := bt_c fu en.toInt (fr.toNatClampNeg + 1); have o2 := bt_c fu en.toInt (fr.toNatClampNeg + 2); unfold DMa DM at h; omega⟩))
        · have tc_12 : 128 ≤ r_11.toInt := v_nlt c_12
          refine lv_iload hx hb dX2_decodeMany_93 (lv_at hl 0 rfl) ?_
          refine lv_sipush (v := 191) hx hb dX2_decodeMany_95 (by decide) ?_
          refine lv_icmp_le (tgt := 103) hx hb dX2_decodeMany_98 (by decide) (fun c_13 => ?_) (fun c_13 => ?_)
          · have tc_13 : r_11.toInt ≤ 191 := v_le c_13
            refine lv_iload hx hb dX2_decodeMany_103 (lv_at hl 2 rfl) ?_
            refine lv_bipush (v := 64) hx hb dX2_decodeMany_105 (by decide) ?_
            refine lv_imul hx hb dX2_decodeMany_107 ?_
            refine lv_topi (fun x_14 ex_14 => ?_)
            have tx_14 : x_14.toInt = x_8.toInt * 64 := v_mul ex_14 (by show -2147483648 ≤ x_8.toInt * 64; omega) (by show x_8.toInt * 64 < 2147483648; omega)
            refine lv_iload hx hb dX2_decodeMany_108 (lv_at hl 0 rfl) ?_
            refine lv_iadd hx hb dX2_decodeMany_110 ?_
            refine lv_topi (fun x_15 ex_15 => ?_)
            have tx_15 : x_15.toInt = x_14.toInt + r_11.toInt := v_add ex_15 (by show -2147483648 ≤ x_14.toInt + r_11.toInt; omega) (by show x_14.toInt + r_11.toInt < 2147483648; omega)
            refine lv_sipush (v := 128) hx hb dX2_decodeMany_111 (by decide) ?_
            refine lv_isub hx hb dX2_decodeMany_114 ?_
            refine lv_topi (fun x_16 ex_16 => ?_)
            have tx_16 : x_16.toInt = x_15.toInt - 128 := v_sub ex_16 (by show -2147483648 ≤ x_15.toInt - 128; omega) (by show x_15.toInt - 128 < 2147483648; omega)
            refine lv_istore (lv' := [(5, .int x_16), (7, .int r_11), (6, .int 1), (4, .int 2), (3, .int r_1), (0, .ref nu), (1, .int fr), (2, .int en)]) hx hb dX2_decodeMany_115 hl (by decide) rfl (fun ls hl => ?_)
            refine lv_iinc (v := 2) (lv' := [(6, .int 2), (5, .int x_16), (7, .int r_11), (4, .int 2), (3, .int r_1), (0, .ref nu), (1, .int fr), (2, .int en)]) hx hb dX2_decodeMany_117 hl (k := 2) rfl (by decide) (by decide) rfl (fun ls hl => ?_)
            refine lv_goto (tgt := 68) hx hb dX2_decodeMany_120 (by decide) ?_
            refine lv_iload hx hb dX2_decodeMany_68 (lv_at hl 0 rfl) ?_
            refine lv_iload hx hb dX2_decodeMany_70 (lv_at hl 3 rfl) ?_
            refine lv_icmp_ge (tgt := 123) hx hb dX2_decodeMany_72 (by decide) (fun c_17 => ?_) (fun c_17 => absurd c_17 (by decide))
            refine lv_iload hx hb dX2_decodeMany_123 (lv_at hl 1 rfl) ?_
            refine lv_iload hx hb dX2_decodeMany_125 (lv_at hl 3 rfl) ?_
            refine lv_iconst (v := 3) hx hb dX2_decodeMany_127 (by decide) ?_
            refine lv_icmp_ne (tgt := 137) hx hb dX2_decodeMany_128 (by decide) (fun c_18 => ?_) (fun c_18 => absurd c_18 (by decide))
            refine lv_sipush (v := 128) hx hb dX2_decodeMany_137 (by decide) ?_
            refine lv_icmp_lt (tgt := 147) hx hb dX2_decodeMany_140 (by decide) (fun c_19 => ?_) (fun c_19 => ?_)
            · have tc_19 : x_16.toInt < 128 := v_lt c_19
              refine lv_iconst (v := 0) hx hb dX2_decodeMany_147 (by decide) ?_
              refine lv_istore (lv' := [(6, .int 0), (5, .int x_16), (7, .int r_11), (4, .int 2), (3, .int r_1), (0, .ref nu), (1, .int fr), (2, .int en)]) hx hb dX2_decodeMany_148 hl (by decide) rfl (fun ls hl => ?_)
              refine lv_iload hx hb dX2_decodeMany_150 (lv_at hl 0 rfl) ?_
              refine lv_if_eq (tgt := 173) hx hb dX2_decodeMany_152 (by decide) (fun c_20 => ?_) (fun c_20 => absurd c_20 (by decide))
              refine lv_iconst (v := (-1)) hx hb dX2_decodeMany_173 (by decide) ?_
              exact kl_i (v := (-1)) hQQ hx hb hr hlocks hS dX2_decodeMany_174 (fun PZ9 kZ9 => kZ9 (⟨hP, hD⟩) (Or.inr ⟨rfl, fun l x h => by have o1 := bt_c fu en.toInt (fr.toNatClampNeg + 1); have o2 := bt_c fu en.toInt (fr.toNatClampNeg + 2); unfold DMa DM at h; omega⟩))
            · have tc_19 : 128 ≤ x_16.toInt := v_nlt c_19
              refine lv_iconst (v := 1) hx hb dX2_decodeMany_143 (by decide) ?_
              refine lv_goto (tgt := 148) hx hb dX2_decodeMany_144 (by decide) ?_
              refine lv_istore (lv' := [(6, .int 1), (5, .int x_16), (7, .int r_11), (4, .int 2), (3, .int r_1), (0, .ref nu), (1, .int fr), (2, .int en)]) hx hb dX2_decodeMany_148 hl (by decide) rfl (fun ls hl => ?_)
              refine lv_iload hx hb dX2_decodeMany_150 (lv_at hl 0 rfl) ?_
              refine lv_if_eq (tgt := 173) hx hb dX2_decodeMany_152 (by decide) (fun c_21 => absurd c_21 (by decide)) (fun c_21 => ?_)
              refine lv_iload hx hb dX2_decodeMany_155 (lv_at hl 1 rfl) ?_
              refine kSN_i (rest := []) hcf (m_X11_isLetter l dC dI cI cS H.size x_16 ) ⟨va_cnB 1 hts gX2_decodeMany_X11_isLetter_n52 rfl rfl rfl hN52 (hts (.initialized RX11) (List.mem_of_getElem? (i := 6) rfl)) (by decide +kernel) ⟨Nat.le_of_ble_eq_true rfl, Nat.le_of_ble_eq_true rfl⟩, (hts (.static yX11_isLetter) (List.mem_of_getElem? (i := 5) rfl)), trivial⟩ kX_t hK hP hD hS hA [] [0, 1] rfl (by decide +kernel) rfl hl rfl (Nat.le_of_ble_eq_true rfl) dX2_decodeMany_157 ⟨Nat.le_of_ble_eq_true rfl, Nat.le_of_ble_eq_true rfl⟩ (fun r_22 H locs hB hJ hSn => ?_)
              refine hB _ (fun hPD9 hf22_0 hf22_1 => ?_)
              clear hB
              obtain ⟨hPn, hDn⟩ := hJ _ hPD9.1 hPD9.2 [(nu, .inr (5, [.ref au, .int lu])), (au, .inl (cI, cap, .inl fu))] rfl
              clear hP hD hS hJ hPD9
              have hP := hPn
              have hD := hDn
              have hS := hSn
              clear hPn hDn hSn
              refine lv_if_eq (tgt := 173) hx hb dX2_decodeMany_160 (by decide) (fun c_23 => ?_) (fun c_23 => ?_)
              · have tc_23 : r_22.toInt = 0 := v_eq c_23
                refine lv_iconst (v := (-1)) hx hb dX2_decodeMany_173 (by decide) ?_
                exact kl_i (v := (-1)) hQQ hx hb hr hlocks hS dX2_decodeMany_174 (fun PZ9 kZ9 => kZ9 (⟨hP, hD⟩) (Or.inr ⟨rfl, fun l x h => by have o1 := bt_c fu en.toInt (fr.toNatClampNeg + 1); have o2 := bt_c fu en.toInt (fr.toNatClampNeg + 2); unfold DMa DM at h; omega⟩))
              · have tc_23 : ¬ r_22.toInt = 0 := v_ne c_23
                refine lv_iload hx hb dX2_decodeMany_163 (lv_at hl 1 rfl) ?_
                refine lv_iload hx hb dX2_decodeMany_165 (lv_at hl 3 rfl) ?_
                refine kS_i (rest := []) hcf (f_X2_found l dC dI cI cS H.size x_16 2 (by omega) (by decide)) kc_X2_found gX2_decodeMany_X2_found rfl rfl ⟨Nat.le_of_ble_eq_true rfl, Nat.le_of_ble_eq_true rfl⟩ kX_t hK hP hD hS hA [] [0, 1] rfl (by decide +kernel) rfl hl rfl (Nat.le_of_ble_eq_true rfl) dX2_decodeMany_167 ⟨Nat.le_of_ble_eq_true rfl, Nat.le_of_ble_eq_true rfl⟩ (fun r_24 H locs hB hJ hSn => ?_)
                refine hB _ (fun hPD9 hf24_0 => ?_)
                clear hB
                obtain ⟨hPn, hDn⟩ := hJ _ hPD9.1 hPD9.2 [(nu, .inr (5, [.ref au, .int lu])), (au, .inl (cI, cap, .inl fu))] rfl
                clear hP hD hS hJ hPD9
                have hP := hPn
                have hD := hDn
                have hS := hSn
                clear hPn hDn hSn
                refine lv_goto (tgt := 174) hx hb dX2_decodeMany_170 (by decide) ?_
                exact kl_i (v := r_24) hQQ hx hb hr hlocks hS dX2_decodeMany_174 (fun PZ9 kZ9 => kZ9 (⟨hP, hD⟩) (Or.inl ⟨2, x_16, by unfold DMa DM; omega, by omega, by omega, by omega⟩))
          · have tc_13 : 191 < r_11.toInt := v_nle c_13
            refine lv_iconst (v := (-1)) hx hb dX2_decodeMany_101 (by decide) ?_
            exact kl_i (v := (-1)) hQQ hx hb hr hlocks hS dX2_decodeMany_102 (fun PZ9 kZ9 => kZ9 (⟨hP, hD⟩) (Or.inr ⟨rfl, fun l x h => by have o1 := bt_c fu en.toInt (fr.toNatClampNeg + 1); have o2 := bt_c fu en.toInt (fr.toNatClampNeg + 2); unfold DMa DM at h; omega⟩))
      · have tc_6 : x_5.toInt < 2 := v_nle c_6
        refine lv_iconst (v := (-1)) hx hb dX2_decodeMany_42 (by decide) ?_
        exact kl_i (v := (-1)) hQQ hx hb hr hlocks hS dX2_decodeMany_43 (fun PZ9 kZ9 => kZ9 (⟨hP, hD⟩) (Or.inr ⟨rfl, fun l x h => by have o1 := bt_c fu en.toInt (fr.toNatClampNeg + 1); have o2 := bt_c fu en.toInt (fr.toNatClampNeg + 2); unfold DMa DM at h; omega⟩))
  · have tc_2 : 224 ≤ r_1.toInt := v_nlt c_2
    refine lv_iconst (v := 3) hx hb dX2_decodeMany_13 (by decide) ?_
    refine lv_goto (tgt := 18) hx hb dX2_decodeMany_14 (by decide) ?_
    refine lv_istore (lv' := [(4, .int 3), (3, .int r_1), (0, .ref nu), (1, .int fr), (2, .int en)]) hx hb dX2_decodeMany_18 hl (by decide) rfl (fun ls hl => ?_)
    refine lv_iload_n hx hb dX2_decodeMany_20 rfl (lv_at hl 1 rfl) ?_
    refine lv_sipush (v := 192) hx hb dX2_decodeMany_21 (by decide) ?_
    refine lv_icmp_lt (tgt := 42) hx hb dX2_decodeMany_24 (by decide) (fun c_25 => by exfalso; have tc_25 : r_1.toInt < 192 := v_lt c_25; omega) (fun c_25 => ?_)
    have tc_25 : 192 ≤ r_1.toInt := v_nlt c_25
    refine lv_iload_n hx hb dX2_decodeMany_27 rfl (lv_at hl 1 rfl) ?_
    refine lv_sipush (v := 239) hx hb dX2_decodeMany_28 (by decide) ?_
    refine lv_icmp_gt (tgt := 42) hx hb dX2_decodeMany_31 (by decide) (fun c_26 => ?_) (fun c_26 => ?_)
    · have tc_26 : 239 < r_1.toInt := v_lt c_26
      refine lv_iconst (v := (-1)) hx hb dX2_decodeMany_42 (by decide) ?_
      exact kl_i (v := (-1)) hQQ hx hb hr hlocks hS dX2_decodeMany_43 (fun PZ9 kZ9 => kZ9 (⟨hP, hD⟩) (Or.inr ⟨rfl, fun l x h => by have o1 := bt_c fu en.toInt (fr.toNatClampNeg + 1); have o2 := bt_c fu en.toInt (fr.toNatClampNeg + 2); unfold DMa DM at h; omega⟩))
    · have tc_26 : r_1.toInt ≤ 239 := v_nlt c_26
      refine lv_iload hx hb dX2_decodeMany_34 (lv_at hl 0 rfl) ?_
      refine lv_iload_n hx hb dX2_decodeMany_36 rfl (lv_at hl 4 rfl) ?_
      refine lv_iload_n hx hb dX2_decodeMany_37 rfl (lv_at hl 3 rfl) ?_
      refine lv_isub hx hb dX2_decodeMany_38 ?_
      refine lv_topi (fun x_27 ex_27 => ?_)
      have tx_27 : x_27.toInt = en.toInt - fr.toInt := v_sub ex_27 (by show -2147483648 ≤ en.toInt - fr.toInt; omega) (by show en.toInt - fr.toInt < 2147483648; omega)
      refine lv_icmp_le (tgt := 44) hx hb dX2_decodeMany_39 (by decide) (fun c_28 => ?_) (fun c_28 => ?_)
      · have tc_28 : 3 ≤ x_27.toInt := v_le c_28
        refine lv_iload hx hb dX2_decodeMany_44 (lv_at hl 0 rfl) ?_
        refine lv_iconst (v := 3) hx hb dX2_decodeMany_46 (by decide) ?_
        refine lv_icmp_ne (tgt := 58) hx hb dX2_decodeMany_47 (by decide) (fun c_29 => absurd c_29 (by decide)) (fun c_29 => ?_)
        refine lv_iload_n hx hb dX2_decodeMany_50 rfl (lv_at hl 1 rfl) ?_
        refine lv_sipush (v := 224) hx hb dX2_decodeMany_51 (by decide) ?_
        refine lv_isub hx hb dX2_decodeMany_54 ?_
        refine lv_topi (fun x_30 ex_30 => ?_)
        have tx_30 : x_30.toInt = r_1.toInt - 224 := v_sub ex_30 (by show -2147483648 ≤ r_1.toInt - 224; omega) (by show r_1.toInt - 224 < 2147483648; omega)
        refine lv_goto (tgt := 63) hx hb dX2_decodeMany_55 (by decide) ?_
        refine lv_istore (lv' := [(5, .int x_30), (4, .int 3), (3, .int r_1), (0, .ref nu), (1, .int fr), (2, .int en)]) hx hb dX2_decodeMany_63 hl (by decide) rfl (fun ls hl => ?_)
        refine lv_iconst (v := 1) hx hb dX2_decodeMany_65 (by decide) ?_
        refine lv_istore (lv' := [(6, .int 1), (5, .int x_30), (4, .int 3), (3, .int r_1), (0, .ref nu), (1, .int fr), (2, .int en)]) hx hb dX2_decodeMany_66 hl (by decide) rfl (fun ls hl => ?_)
        refine lv_iload hx hb dX2_decodeMany_68 (lv_at hl 0 rfl) ?_
        refine lv_iload hx hb dX2_decodeMany_70 (lv_at hl 2 rfl) ?_
        refine lv_icmp_ge (tgt := 123) hx hb dX2_decodeMany_72 (by decide) (fun c_31 => absurd c_31 (by decide)) (fun c_31 => ?_)
        refine lv_aload_n hx hb dX2_decodeMany_75 rfl (lv_at hl 4 rfl) ?_
        refine lv_iload_n hx hb dX2_decodeMany_76 rfl (lv_at hl 5 rfl) ?_
        refine lv_iload hx hb dX2_decodeMany_77 (lv_at hl 0 rfl) ?_
        refine lv_iadd hx hb dX2_decodeMany_79 ?_
        refine lv_topi (fun x_32 ex_32 => ?_)
        have tx_32 : x_32.toInt = fr.toInt + 1 := v_addR (l2 := 1) (h2 := 1) ex_32 g_fr (by decide) (by decide) (by decide)
        refine kV_i (rest := []) (q0 := 0) (ci := 5) hcf (m_X5_get l dC dI cI cS H.size nu au cap lu fu x_32 (g_lu) (by omega)) kc_X5_get gX2_decodeMany_X5_get rfl rfl rfl ⟨Nat.le_of_ble_eq_true rfl, Nat.le_of_ble_eq_true rfl⟩ kX_t hK hP hD hS hA [0, 1] [] rfl (by decide +kernel) rfl rfl rfl hl rfl (Nat.le_of_ble_eq_true rfl) dX2_decodeMany_80 ⟨Nat.le_of_ble_eq_true rfl, Nat.le_of_ble_eq_true rfl⟩ (fun r_33 H locs hB hJ hSn => ?_)
        refine hB _ (fun hPD9 hf33_0 => ?_)
        clear hB
        obtain ⟨hPn, hDn⟩ := hJ _ hPD9.1 hPD9.2 [(nu, .inr (5, [.ref au, .int lu])), (au, .inl (cI, cap, .inl fu))] rfl
        clear hP hD hS hJ hPD9
        have hP := hPn
        have hD := hDn
        have hS := hSn
        clear hPn hDn hSn
        have hb33 : r_33.toInt = bt fu en.toInt (fr.toNatClampNeg + 1) := get_bt (k := fr.toNatClampNeg + 1) hf33_0 (by omega) (by omega) hen
        refine lv_istore (lv' := [(7, .int r_33), (6, .int 1), (5, .int x_30), (4, .int 3), (3, .int r_1), (0, .ref nu), (1, .int fr), (2, .int en)]) hx hb dX2_decodeMany_83 hl (by decide) rfl (fun ls hl => ?_)
        refine lv_iload hx hb dX2_decodeMany_85 (lv_at hl 0 rfl) ?_
        refine lv_sipush (v := 128) hx hb dX2_decodeMany_87 (by decide) ?_
        refine lv_icmp_lt (tgt := 101) hx hb dX2_decodeMany_90 (by decide) (fun c_34 => ?_) (fun c_34 => ?_)
        · have tc_34 : r_33.toInt < 128 := v_lt c_34
          refine lv_iconst (v := (-1)) hx hb dX2_decodeMany_101 (by decide) ?_
          exact kl_i (v := (-1)) hQQ hx hb hr hlocks hS dX2_decodeMany_102 (fun PZ9 kZ9 => kZ9 (⟨hP, hD⟩) (Or.inr ⟨rfl, fun l x h => by have o1 := bt_c fu en.toInt (fr.toNatClampNeg + 1); have o2 := bt_c fu en.toInt (fr.toNatClampNeg + 2); unfold DMa DM at h; omega⟩))
        · have tc_34 : 128 ≤ r_33.toInt := v_nlt c_34
          refine lv_iload hx hb dX2_decodeMany_93 (lv_at hl 0 rfl) ?_
          refine lv_sipush (v := 191) hx hb dX2_decodeMany_95 (by decide) ?_
          refine lv_icmp_le (tgt := 103) hx hb dX2_decodeMany_98 (by decide) (fun c_35 => ?_) (fun c_35 => ?_)
          · have tc_35 : r_33.toInt ≤ 191 := v_le c_35
            refine lv_iload hx hb dX2_decodeMany_103 (lv_at hl 2 rfl) ?_
            refine lv_bipush (v := 64) hx hb dX2_decodeMany_105 (by decide) ?_
            refine lv_imul hx hb dX2_decodeMany_107 ?_
            refine lv_topi (fun x_36 ex_36 => ?_)
            have tx_36 : x_36.toInt = x_30.toInt * 64 := v_mul ex_36 (by show -2147483648 ≤ x_30.toInt * 64; omega) (by show x_30.toInt * 64 < 2147483648; omega)
            refine lv_iload hx hb dX2_decodeMany_108 (lv_at hl 0 rfl) ?_
            refine lv_iadd hx hb dX2_decodeMany_110 ?_
            refine lv_topi (fun x_37 ex_37 => ?_)
            have tx_37 : x_37.toInt = x_36.toInt + r_33.toInt := v_add ex_37 (by show -2147483648 ≤ x_36.toInt + r_33.toInt; omega) (by show x_36.toInt + r_33.toInt < 2147483648; omega)
            refine lv_sipush (v := 128) hx hb dX2_decodeMany_111 (by decide) ?_
            refine lv_isub hx hb dX2_decodeMany_114 ?_
            refine lv_topi (fun x_38 ex_38 => ?_)
            have tx_38 : x_38.toInt = x_37.toInt - 128 := v_sub ex_38 (by show -2147483648 ≤ x_37.toInt - 128; omega) (by show x_37.toInt - 128 < 2147483648; omega)
            refine lv_istore (lv' := [(5, .int x_38), (7, .int r_33), (6, .int 1), (4, .int 3), (3, .int r_1), (0, .ref nu), (1, .int fr), (2, .int en)]) hx hb dX2_decodeMany_115 hl (by decide) rfl (fun ls hl => ?_)
            refine lv_iinc (v := 2) (lv' := [(6, .int 2), (5, .int x_38), (7, .int r_33), (4, .int 3), (3, .int r_1), (0, .ref nu), (1, .int fr), (2, .int en)]) hx hb dX2_decodeMany_117 hl (k := 2) rfl (by decide) (by decide) rfl (fun ls hl => ?_)
            refine lv_goto (tgt := 68) hx hb dX2_decodeMany_120 (by decide) ?_
            refine lv_iload hx hb dX2_decodeMany_68 (lv_at hl 0 rfl) ?_
            refine lv_iload hx hb dX2_decodeMany_70 (lv_at hl 3 rfl) ?_
            refine lv_icmp_ge (tgt := 123) hx hb dX2_decodeMany_72 (by decide) (fun c_39 => absurd c_39 (by decide)) (fun c_39 => ?_)
            refine lv_aload_n hx hb dX2_decodeMany_75 rfl (lv_at hl 5 rfl) ?_
            refine lv_iload_n hx hb dX2_decodeMany_76 rfl (lv_at hl 6 rfl) ?_
            refine lv_iload hx hb dX2_decodeMany_77 (lv_at hl 0 rfl) ?_
            refine lv_iadd hx hb dX2_decodeMany_79 ?_
            refine lv_topi (fun x_40 ex_40 => ?_)
            have tx_40 : x_40.toInt = fr.toInt + 2 := v_addR (l2 := 2) (h2 := 2) ex_40 g_fr (by decide) (by decide) (by decide)
            refine kV_i (rest := []) (q0 := 0) (ci := 5) hcf (m_X5_get l dC dI cI cS H.size nu au cap lu fu x_40 (g_lu) (by omega)) kc_X5_get gX2_decodeMany_X5_get rfl rfl rfl ⟨Nat.le_of_ble_eq_true rfl, Nat.le_of_ble_eq_true rfl⟩ kX_t hK hP hD hS hA [0, 1] [] rfl (by decide +kernel) rfl rfl rfl hl rfl (Nat.le_of_ble_eq_true rfl) dX2_decodeMany_80 ⟨Nat.le_of_ble_eq_true rfl, Nat.le_of_ble_eq_true rfl⟩ (fun r_41 H locs hB hJ hSn => ?_)
            refine hB _ (fun hPD9 hf41_0 => ?_)
            clear hB
            obtain ⟨hPn, hDn⟩ := hJ _ hPD9.1 hPD9.2 [(nu, .inr (5, [.ref au, .int lu])), (au, .inl (cI, cap, .inl fu))] rfl
            clear hP hD hS hJ hPD9
            have hP := hPn
            have hD := hDn
            have hS := hSn
            clear hPn hDn hSn
            have hb41 : r_41.toInt = bt fu en.toInt (fr.toNatClampNeg + 2) := get_bt (k := fr.toNatClampNeg + 2) hf41_0 (by omega) (by omega) hen
            refine lv_istore (lv' := [(7, .int r_41), (6, .int 2), (5, .int x_38), (4, .int 3), (3, .int r_1), (0, .ref nu), (1, .int fr), (2, .int en)]) hx hb dX2_decodeMany_83 hl (by decide) rfl (fun ls hl => ?_)
            refine lv_iload hx hb dX2_decodeMany_85 (lv_at hl 0 rfl) ?_
            refine lv_sipush (v := 128) hx hb dX2_decodeMany_87 (by decide) ?_
            refine lv_icmp_lt (tgt := 101) hx hb dX2_decodeMany_90 (by decide) (fun c_42 => ?_) (fun c_42 => ?_)
            · have tc_42 : r_41.toInt < 128 := v_lt c_42
              refine lv_iconst (v := (-1)) hx hb dX2_decodeMany_101 (by decide) ?_
              exact kl_i (v := (-1)) hQQ hx hb hr hlocks hS dX2_decodeMany_102 (fun PZ9 kZ9 => kZ9 (⟨hP, hD⟩) (Or.inr ⟨rfl, fun l x h => by have o1 := bt_c fu en.toInt (fr.toNatClampNeg + 1); have o2 := bt_c fu en.toInt (fr.toNatClampNeg + 2); unfold DMa DM at h; omega⟩))
            · have tc_42 : 128 ≤ r_41.toInt := v_nlt c_42
              refine lv_iload hx hb dX2_decodeMany_93 (lv_at hl 0 rfl) ?_
              refine lv_sipush (v := 191) hx hb dX2_decodeMany_95 (by decide) ?_
              refine lv_icmp_le (tgt := 103) hx hb dX2_decodeMany_98 (by decide) (fun c_43 => ?_) (fun c_43 => ?_)
              · have tc_43 : r_41.toInt ≤ 191 := v_le c_43
                refine lv_iload hx hb dX2_decodeMany_103 (lv_at hl 2 rfl) ?_
                refine lv_bipush (v := 64) hx hb dX2_decodeMany_105 (by decide) ?_
                refine lv_imul hx hb dX2_decodeMany_107 ?_
                refine lv_topi (fun x_44 ex_44 => ?_)
                have tx_44 : x_44.toInt = x_38.toInt * 64 := v_mul ex_44 (by show -2147483648 ≤ x_38.toInt * 64; omega) (by show x_38.toInt * 64 < 2147483648; omega)
                refine lv_iload hx hb dX2_decodeMany_108 (lv_at hl 0 rfl) ?_
                refine lv_iadd hx hb dX2_decodeMany_110 ?_
                refine lv_topi (fun x_45 ex_45 => ?_)
                have tx_45 : x_45.toInt = x_44.toInt + r_41.toInt := v_add ex_45 (by show -2147483648 ≤ x_44.toInt + r_41.toInt; omega) (by show x_44.toInt + r_41.toInt < 2147483648; omega)
                refine lv_sipush (v := 128) hx hb dX2_decodeMany_111 (by decide) ?_
                refine lv_isub hx hb dX2_decodeMany_114 ?_
                refine lv_topi (fun x_46 ex_46 => ?_)
                have tx_46 : x_46.toInt = x_45.toInt - 128 := v_sub ex_46 (by show -2147483648 ≤ x_45.toInt - 128; omega) (by show x_45.toInt - 128 < 2147483648; omega)
                refine lv_istore (lv' := [(5, .int x_46), (7, .int r_41), (6, .int 2), (4, .int 3), (3, .int r_1), (0, .ref nu), (1, .int fr), (2, .int en)]) hx hb dX2_decodeMany_115 hl (by decide) rfl (fun ls hl => ?_)
                refine lv_iinc (v := 3) (lv' := [(6, .int 3), (5, .int x_46), (7, .int r_41), (4, .int 3), (3, .int r_1), (0, .ref nu), (1, .int fr), (2, .int en)]) hx hb dX2_decodeMany_117 hl (k := 2) rfl (by decide) (by decide) rfl (fun ls hl => ?_)
                refine lv_goto (tgt := 68) hx hb dX2_decodeMany_120 (by decide) ?_
                refine lv_iload hx hb dX2_decodeMany_68 (lv_at hl 0 rfl) ?_
                refine lv_iload hx hb dX2_decodeMany_70 (lv_at hl 3 rfl) ?_
                refine lv_icmp_ge (tgt := 123) hx hb dX2_decodeMany_72 (by decide) (fun c_47 => ?_) (fun c_47 => absurd c_47 (by decide))
                refine lv_iload hx hb dX2_decodeMany_123 (lv_at hl 1 rfl) ?_
                refine lv_iload hx hb dX2_decodeMany_125 (lv_at hl 3 rfl) ?_
                refine lv_iconst (v := 3) hx hb dX2_decodeMany_127 (by decide) ?_
                refine lv_icmp_ne (tgt := 137) hx hb dX2_decodeMany_128 (by decide) (fun c_48 => absurd c_48 (by decide)) (fun c_48 => ?_)
                refine lv_sipush (v := 2048) hx hb dX2_decodeMany_131 (by decide) ?_
                refine lv_goto (tgt := 140) hx hb dX2_decodeMany_134 (by decide) ?_
                refine lv_icmp_lt (tgt := 147) hx hb dX2_decodeMany_140 (by decide) (fun c_49 => ?_) (fun c_49 => ?_)
                · have tc_49 : x_46.toInt < 2048 := v_lt c_49
                  refine lv_iconst (v := 0) hx hb dX2_decodeMany_147 (by decide) ?_
                  refine lv_istore (lv' := [(6, .int 0), (5, .int x_46), (7, .int r_41), (4, .int 3), (3, .int r_1), (0, .ref nu), (1, .int fr), (2, .int en)]) hx hb dX2_decodeMany_148 hl (by decide) rfl (fun ls hl => ?_)
                  refine lv_iload hx hb dX2_decodeMany_150 (lv_at hl 0 rfl) ?_
                  refine lv_if_eq (tgt := 173) hx hb dX2_decodeMany_152 (by decide) (fun c_50 => ?_) (fun c_50 => absurd c_50 (by decide))
                  refine lv_iconst (v := (-1)) hx hb dX2_decodeMany_173 (by decide) ?_
                  exact kl_i (v := (-1)) hQQ hx hb hr hlocks hS dX2_decodeMany_174 (fun PZ9 kZ9 => kZ9 (⟨hP, hD⟩) (Or.inr ⟨rfl, fun l x h => by have o1 := bt_c fu en.toInt (fr.toNatClampNeg + 1); have o2 := bt_c fu en.toInt (fr.toNatClampNeg + 2); unfold DMa DM at h; omega⟩))
                · have tc_49 : 2048 ≤ x_46.toInt := v_nlt c_49
                  refine lv_iconst (v := 1) hx hb dX2_decodeMany_143 (by decide) ?_
                  refine lv_goto (tgt := 148) hx hb dX2_decodeMany_144 (by decide) ?_
                  refine lv_istore (lv' := [(6, .int 1), (5, .int x_46), (7, .int r_41), (4, .int 3), (3, .int r_1), (0, .ref nu), (1, .int fr), (2, .int en)]) hx hb dX2_decodeMany_148 hl (by decide) rfl (fun ls hl => ?_)
                  refine lv_iload hx hb dX2_decodeMany_150 (lv_at hl 0 rfl) ?_
                  refine lv_if_eq (tgt := 173) hx hb dX2_decodeMany_152 (by decide) (fun c_51 => absurd c_51 (by decide)) (fun c_51 => ?_)
                  refine lv_iload hx hb dX2_decodeMany_155 (lv_at hl 1 rfl) ?_
                  refine kSN_i (rest := []) hcf (m_X11_isLetter l dC dI cI cS H.size x_46 ) ⟨va_cnB 1 hts gX2_decodeMany_X11_isLetter_n52 rfl rfl rfl hN52 (hts (.initialized RX11) (List.mem_of_getElem? (i := 6) rfl)) (by decide +kernel) ⟨Nat.le_of_ble_eq_true rfl, Nat.le_of_ble_eq_true rfl⟩, (hts (.static yX11_isLetter) (List.mem_of_getElem? (i := 5) rfl)), trivial⟩ kX_t hK hP hD hS hA [] [0, 1] rfl (by decide +kernel) rfl hl rfl (Nat.le_of_ble_eq_true rfl) dX2_decodeMany_157 ⟨Nat.le_of_ble_eq_true rfl, Nat.le_of_ble_eq_true rfl⟩ (fun r_52 H locs hB hJ hSn => ?_)
                  refine hB _ (fun hPD9 hf52_0 hf52_1 => ?_)
                  clear hB
                  obtain ⟨hPn, hDn⟩ := hJ _ hPD9.1 hPD9.2 [(nu, .inr (5, [.ref au, .int lu])), (au, .inl (cI, cap, .inl fu))] rfl
                  clear hP hD hS hJ hPD9
                  have hP := hPn
                  have hD := hDn
                  have hS := hSn
                  clear hPn hDn hSn
                  refine lv_if_eq (tgt := 173) hx hb dX2_decodeMany_160 (by decide) (fun c_53 => ?_) (fun c_53 => ?_)
                  · have tc_53 : r_52.toInt = 0 := v_eq c_53
                    refine lv_iconst (v := (-1)) hx hb dX2_decodeMany_173 (by decide) ?_
                    exact kl_i (v := (-1)) hQQ hx hb hr hlocks hS dX2_decodeMany_174 (fun PZ9 kZ9 => kZ9 (⟨hP, hD⟩) (Or.inr ⟨rfl, fun l x h => by have o1 := bt_c fu en.toInt (fr.toNatClampNeg + 1); have o2 := bt_c fu en.toInt (fr.toNatClampNeg + 2); unfold DMa DM at h; omega⟩))
                  · have tc_53 : ¬ r_52.toInt = 0 := v_ne c_53
                    refine lv_iload hx hb dX2_decodeMany_163 (lv_at hl 1 rfl) ?_
                    refine lv_iload hx hb dX2_decodeMany_165 (lv_at hl 3 rfl) ?_
                    refine kS_i (rest := []) hcf (f_X2_found l dC dI cI cS H.size x_46 3 (by omega) (by decide)) kc_X2_found gX2_decodeMany_X2_found rfl rfl ⟨Nat.le_of_ble_eq_true rfl, Nat.le_of_ble_eq_true rfl⟩ kX_t hK hP hD hS hA [] [0, 1] rfl (by decide +kernel) rfl hl rfl (Nat.le_of_ble_eq_true rfl) dX2_decodeMany_167 ⟨Nat.le_of_ble_eq_true rfl, Nat.le_of_ble_eq_true rfl⟩ (fun r_54 H locs hB hJ hSn => ?_)
                    refine hB _ (fun hPD9 hf54_0 => ?_)
                    clear hB
                    obtain ⟨hPn, hDn⟩ := hJ _ hPD9.1 hPD9.2 [(nu, .inr (5, [.ref au, .int lu])), (au, .inl (cI, cap, .inl fu))] rfl
                    clear hP hD hS hJ hPD9
                    have hP := hPn
                    have hD := hDn
                    have hS := hSn
                    clear hPn hDn hSn
                    refine lv_goto (tgt := 174) hx hb dX2_decodeMany_170 (by decide) ?_
                    exact kl_i (v := r_54) hQQ hx hb hr hlocks hS dX2_decodeMany_174 (fun PZ9 kZ9 => kZ9 (⟨hP, hD⟩) (Or.inl ⟨3, x_46, by unfold DMa DM; omega, by omega, by omega, by omega⟩))
              · have tc_43 : 191 < r_41.toInt := v_nle c_43
                refine lv_iconst (v := (-1)) hx hb dX2_decodeMany_101 (by decide) ?_
                exact kl_i (v := (-1)) hQQ hx hb hr hlocks hS dX2_decodeMany_102 (fun PZ9 kZ9 => kZ9 (⟨hP, hD⟩) (Or.inr ⟨rfl, fun l x h => by have o1 := bt_c fu en.toInt (fr.toNatClampNeg + 1); have o2 := bt_c fu en.toInt (fr.toNatClampNeg + 2); unfold DMa DM at h; omega⟩))
          · have tc_35 : 191 < r_33.toInt := v_nle c_35
            refine lv_iconst (v := (-1)) hx hb dX2_decodeMany_101 (by decide) ?_
            exact kl_i (v := (-1)) hQQ hx hb hr hlocks hS dX2_decodeMany_102 (fun PZ9 kZ9 => kZ9 (⟨hP, hD⟩) (Or.inr ⟨rfl, fun l x h => by have o1 := bt_c fu en.toInt (fr.toNatClampNeg + 1); have o2 := bt_c fu en.toInt (fr.toNatClampNeg + 2); unfold DMa DM at h; omega⟩))
      · have tc_28 : x_27.toInt < 3 := v_nle c_28
        refine lv_iconst (v := (-1)) hx hb dX2_decodeMany_42 (by decide) ?_
        exact kl_i (v := (-1)) hQQ hx hb hr hlocks hS dX2_decodeMany_43 (fun PZ9 kZ9 => kZ9 (⟨hP, hD⟩) (Or.inr ⟨rfl, fun l x h => by have o1 := bt_c fu en.toInt (fr.toNatClampNeg + 1); have o2 := bt_c fu en.toInt (fr.toNatClampNeg + 2); unfold DMa DM at h; omega⟩))

set_option maxHeartbeats 40000000 in
set_option maxRecDepth 100000 in
theorem f_X2_decodeNumber (l : Launch) (dC : Nat → ClassId) (dI : Nat → Nat → Nat) (cI cS : ClassId) (sz : Nat) (nu : Nat) (au : Nat) (cap : Nat) (lu : Int32) (fu : Nat → Int32) (fr : Int32) (en : Int32) (g_lu : 0 ≤ lu.toInt ∧ lu.toInt ≤ (cap : Int)) (g_fr : 0 ≤ fr.toInt ∧ fr.toInt ≤ 2400) (hcap : cap ≤ 2400) (hen : en.toInt ≤ lu.toInt) (hfe : fr.toInt < en.toInt) : kMi l yX2_decodeNumber wsX2_decodeNumber ({ frames := 1, cells := 0, slots := 0, locals := 21 } : Room) [.ref nu, .int fr, .int en] sz (dC, dI) vwCl [(cI, .int), (cS, .short)] [(nu, .inr (5, [.ref au, .int lu])), (au, .inl (cI, cap, .inl fu))] (va_Nw (.methodLinkNest RX2 52 yX11_isLetter "TextMender")) 0 0 (fun (A : Nat → Prop) (r : Int32) (hh9 : Heap) => ∀ PZ9 : Prop, (kPD (dC, dI) vwCl A [(nu, .inr (5, [.ref au, .int lu])), (au, .inl (cI, cap, .inl fu))] hh9 → (F_dn r fu en.toInt fr.toNatClampNeg) → PZ9) → PZ9) := by
  refine kMi_of (cc := cX2_decodeNumber) (maxL := 7) (ret := (some .int)) (lv := [(0, .ref nu), (1, .int fr), (2, .int en)]) (by decide +kernel) rfl rfl (Nat.le_of_ble_eq_true rfl) ?_
  intro p e s m below meth c A QQ ls hx hb hr hts hml hown hlocks hA hQQ hK hX hP hD hS hl
  have hown : s.vm.findClass RX2 = some m.cls := hown
  have hcf := k_cf hx hb hml hown hts
  have hN52 := hX
  have c0 := v_clamp (x := fr) (by omega)
  have z0 : (0 : Int32).toInt = 0 := rfl
  have z1 : (1 : Int32).toInt = 1 := rfl
  have z2 : (2 : Int32).toInt = 2 := rfl
  have z3 : (3 : Int32).toInt = 3 := rfl
  refine lv_aload_n hx hb dX2_decodeNumber_0 rfl (lv_at hl 0 rfl) ?_
  refine lv_iload_n hx hb dX2_decodeNumber_1 rfl (lv_at hl 1 rfl) ?_
  refine kV_i (rest := []) (q0 := 0) (ci := 5) hcf (m_X5_get l dC dI cI cS s.heap.size nu au cap lu fu fr (g_lu) (by omega)) kc_X5_get gX2_decodeNumber_X5_get rfl rfl rfl ⟨Nat.le_of_ble_eq_true rfl, Nat.le_of_ble_eq_true rfl⟩ kX_t hK hP hD hS hA [0, 1] [] rfl (by decide +kernel) rfl rfl rfl hl rfl (Nat.le_of_ble_eq_true rfl) dX2_decodeNumber_2 ⟨Nat.le_of_ble_eq_true rfl, Nat.le_of_ble_eq_true rfl⟩ (fun r_1 H locs hB hJ hSn => ?_)
  refine hB _ (fun hPD9 hf1_0 => ?_)
  clear hB
  obtain ⟨hPn, hDn⟩ := hJ _ hPD9.1 hPD9.2 [(nu, .inr (5, [.ref au, .int lu])), (au, .inl (cI, cap, .inl fu))] rfl
  clear hP hD hS hJ hPD9
  have hP := hPn
  have hD := hDn
  have hS := hSn
  clear hPn hDn hSn
  have hb1 : r_1.toInt = bt fu en.toInt fr.toNatClampNeg := get_bt (k := fr.toNatClampNeg) hf1_0 (by omega) (by omega) hen
  refine lv_bipush (v := 38) hx hb dX2_decodeNumber_5 (by decide) ?_
  refine lv_icmp_ne (tgt := 29) hx hb dX2_decodeNumber_7 (by decide) (fun c_2 => ?_) (fun c_2 => ?_)
  · have tc_2 : ¬ r_1.toInt = 38 := v_ne c_2
    refine lv_iconst (v := (-1)) hx hb dX2_decodeNumber_29 (by decide) ?_
    exact kl_i (v := (-1)) hQQ hx hb hr hlocks hS dX2_decodeNumber_30 (fun PZ9 kZ9 => kZ9 (⟨hP, hD⟩) (Or.inr ⟨rfl, fun l x h => by have o1 := bt_c fu en.toInt (fr.toNatClampNeg + 1); unfold DNa DN at h; omega⟩))
  · have tc_2 : r_1.toInt = 38 := v_eq c_2
    refine lv_iload_n hx hb dX2_decodeNumber_10 rfl (lv_at hl 1 rfl) ?_
    refine lv_iconst (v := 1) hx hb dX2_decodeNumber_11 (by decide) ?_
    refine lv_iadd hx hb dX2_decodeNumber_12 ?_
    refine lv_topi (fun x_3 ex_3 => ?_)
    have tx_3 : x_3.toInt = fr.toInt + 1 := v_addR (l2 := 1) (h2 := 1) ex_3 g_fr (by decide) (by decide) (by decide)
    refine lv_iload_n hx hb dX2_decodeNumber_13 rfl (lv_at hl 2 rfl) ?_
    refine lv_icmp_ge (tgt := 29) hx hb dX2_decodeNumber_14 (by decide) (fun c_4 => ?_) (fun c_4 => ?_)
    · have tc_4 : en.toInt ≤ x_3.toInt := v_le c_4
      refine lv_iconst (v := (-1)) hx hb dX2_decodeNumber_29 (by decide) ?_
      exact kl_i (v := (-1)) hQQ hx hb hr hlocks hS dX2_decodeNumber_30 (fun PZ9 kZ9 => kZ9 (⟨hP, hD⟩) (Or.inr ⟨rfl, fun l x h => by have o1 := bt_c fu en.toInt (fr.toNatClampNeg + 1); unfold DNa DN at h; omega⟩))
    · have tc_4 : x_3.toInt < en.toInt := v_nle c_4
      refine lv_aload_n hx hb dX2_decodeNumber_17 rfl (lv_at hl 0 rfl) ?_
      refine lv_iload_n hx hb dX2_decodeNumber_18 rfl (lv_at hl 1 rfl) ?_
      refine lv_iconst (v := 1) hx hb dX2_decodeNumber_19 (by decide) ?_
      refine lv_iadd hx hb dX2_decodeNumber_20 ?_
      refine lv_topi (fun x_5 ex_5 => ?_)
      have tx_5 : x_5.toInt = fr.toInt + 1 := v_addR (l2 := 1) (h2 := 1) ex_5 g_fr (by decide) (by decide) (by decide)
      refine kV_i (rest := []) (q0 := 0) (ci := 5) hcf (m_X5_get l dC dI cI cS H.size nu au cap lu fu x_5 (g_lu) (by omega)) kc_X5_get gX2_decodeNumber_X5_get rfl rfl rfl ⟨Nat.le_of_ble_eq_true rfl, Nat.le_of_ble_eq_true rfl⟩ kX_t hK hP hD hS hA [0, 1] [] rfl (by decide +kernel) rfl rfl rfl hl rfl (Nat.le_of_ble_eq_true rfl) dX2_decodeNumber_21 ⟨Nat.le_of_ble_eq_true rfl, Nat.le_of_ble_eq_true rfl⟩ (fun r_6 H locs hB hJ hSn => ?_)
      refine hB _ (fun hPD9 hf6_0 => ?_)
      clear hB
      obtain ⟨hPn, hDn⟩ := hJ _ hPD9.1 hPD9.2 [(nu, .inr (5, [.ref au, .int lu])), (au, .inl (cI, cap, .inl fu))] rfl
      clear hP hD hS hJ hPD9
      have hP := hPn
      have hD := hDn
      have hS := hSn
      clear hPn hDn hSn
      have hb6 : r_6.toInt = bt fu en.toInt (fr.toNatClampNeg + 1) := get_bt (k := fr.toNatClampNeg + 1) hf6_0 (by omega) (by omega) hen
      refine lv_bipush (v := 35) hx hb dX2_decodeNumber_24 (by decide) ?_
      refine lv_icmp_eq (tgt := 31) hx hb dX2_decodeNumber_26 (by decide) (fun c_7 => ?_) (fun c_7 => ?_)
      · have tc_7 : r_6.toInt = 35 := v_eq c_7
        refine lv_iconst (v := 0) hx hb dX2_decodeNumber_31 (by decide) ?_
        refine lv_istore_n (lv' := [(3, .int 0), (0, .ref nu), (1, .int fr), (2, .int en)]) hx hb dX2_decodeNumber_32 rfl hl (by decide) rfl (fun ls hl => ?_)
        refine lv_iload_n hx hb dX2_decodeNumber_33 rfl (lv_at hl 2 rfl) ?_
        refine lv_iconst (v := 2) hx hb dX2_decodeNumber_34 (by decide) ?_
        refine lv_iadd hx hb dX2_decodeNumber_35 ?_
        refine lv_topi (fun x_8 ex_8 => ?_)
        have tx_8 : x_8.toInt = fr.toInt + 2 := v_addR (l2 := 2) (h2 := 2) ex_8 g_fr (by decide) (by decide) (by decide)
        refine lv_istore (lv' := [(4, .int x_8), (3, .int 0), (0, .ref nu), (1, .int fr), (2, .int en)]) hx hb dX2_decodeNumber_36 hl (by decide) rfl (fun ls hl => ?_)
        have LOOP_38 : ∀ (k_38 : Nat) (nb : Int32) (p_ : Int32) (H : Heap) (locs : List Loc) (ls : Array Slot), MSd (en.toInt - p_.toInt : Int) k_38 → (0 ≤ nb.toInt ∧ nb.toInt ≤ 999999) → (2 ≤ p_.toInt ∧ p_.toInt ≤ 2408) → (fr.toInt + 2 ≤ p_.toInt ∧ p_.toInt ≤ fr.toInt + 8) → (NI (bo fu en.toInt fr.toNatClampNeg) (p_.toInt - fr.toInt - 2).toNat nb.toInt) → va_P (dC, dI) vwCl [(nu, .inr (5, [.ref au, .int lu])), (au, .inl (cI, cap, .inl fu))] H → va_D A [(nu, .inr (5, [.ref au, .int lu])), (au, .inl (cI, cap, .inl fu))] → va_S A s.heap H locs → lv_has ls 7 [(4, .int p_), (3, .int nb), (0, .ref nu), (1, .int fr), (2, .int en)] → W p l e (headSpec wsX2_decodeNumber ({ frames := 1, cells := 0, slots := 0, locals := 21 } : Room)).room s m ([.ref nu, .int fr, .int en] : List Value).toArray below meth c H locs 0 0 (MQ below QQ ([.ref nu, .int fr, .int en] : List Value).toArray s 0 0 A) (F0 m 38 ls []) := by
          clear hP hD hS hl
          intro k_38
          induction k_38 with
          | zero =>
            intro nb p_ H locs ls hm_38 g_nb g_p_ hp2 hni hP hD hS hl
            exact ms_0 hm_38
          | succ k_38 ih_38 =>
            intro nb p_ H locs ls hm_38 g_nb g_p_ hp2 hni hP hD hS hl
            refine lv_iload hx hb dX2_decodeNumber_38 (lv_at hl 0 rfl) ?_
            refine lv_iload_n hx hb dX2_decodeNumber_40 rfl (lv_at hl 4 rfl) ?_
            refine lv_icmp_ge (tgt := 153) hx hb dX2_decodeNumber_41 (by decide) (fun c_9 => ?_) (fun c_9 => ?_)
            · have tc_9 : en.toInt ≤ p_.toInt := v_le c_9
              refine lv_iconst (v := (-1)) hx hb dX2_decodeNumber_153 (by decide) ?_
              exact kl_i (v := (-1)) hQQ hx hb hr hlocks hS dX2_decodeNumber_154 (fun PZ9 kZ9 => kZ9 (⟨hP, hD⟩) (Or.inr ⟨rfl, by first | exact DN_no (B := bo fu en.toInt fr.toNatClampNeg) (next := -1) hni (bt_out (by omega)).symm (by omega) | exact DN_no (B := bo fu en.toInt fr.toNatClampNeg) hni rfl (Or.inr (Or.inr (Or.inl (by omega))))⟩))
            · have tc_9 : p_.toInt < en.toInt := v_nle c_9
              refine lv_iload hx hb dX2_decodeNumber_44 (lv_at hl 0 rfl) ?_
              refine lv_iload_n hx hb dX2_decodeNumber_46 rfl (lv_at hl 3 rfl) ?_
              refine lv_bipush (v := 8) hx hb dX2_decodeNumber_47 (by decide) ?_
              refine lv_iadd hx hb dX2_decodeNumber_49 ?_
              refine lv_topi (fun x_10 ex_10 => ?_)
              have tx_10 : x_10.toInt = fr.toInt + 8 := v_addR (l2 := 8) (h2 := 8) ex_10 g_fr (by decide) (by decide) (by decide)
              refine lv_icmp_ge (tgt := 153) hx hb dX2_decodeNumber_50 (by decide) (fun c_11 => ?_) (fun c_11 => ?_)
              · have tc_11 : x_10.toInt ≤ p_.toInt := v_le c_11
                refine lv_iconst (v := (-1)) hx hb dX2_decodeNumber_153 (by decide) ?_
                exact kl_i (v := (-1)) hQQ hx hb hr hlocks hS dX2_decodeNumber_154 (fun PZ9 kZ9 => kZ9 (⟨hP, hD⟩) (Or.inr ⟨rfl, by first | exact DN_no (B := bo fu en.toInt fr.toNatClampNeg) (next := -1) hni (bt_out (by omega)).symm (by omega) | exact DN_no (B := bo fu en.toInt fr.toNatClampNeg) hni rfl (Or.inr (Or.inr (Or.inl (by omega))))⟩))
              · have tc_11 : p_.toInt < x_10.toInt := v_nle c_11
                have hnr := NI_r hni
                refine lv_aload_n hx hb dX2_decodeNumber_53 rfl (lv_at hl 2 rfl) ?_
                refine lv_iload hx hb dX2_decodeNumber_54 (lv_at hl 0 rfl) ?_
                refine kV_i (rest := []) (q0 := 0) (ci := 5) hcf (m_X5_get l dC dI cI cS H.size nu au cap lu fu p_ (g_lu) (by omega)) kc_X5_get gX2_decodeNumber_X5_get rfl rfl rfl ⟨Nat.le_of_ble_eq_true rfl, Nat.le_of_ble_eq_true rfl⟩ kX_t hK hP hD hS hA [0, 1] [] rfl (by decide +kernel) rfl rfl rfl hl rfl (Nat.le_of_ble_eq_true rfl) dX2_decodeNumber_56 ⟨Nat.le_of_ble_eq_true rfl, Nat.le_of_ble_eq_true rfl⟩ (fun r_12 H locs hB hJ hSn => ?_)
                refine hB _ (fun hPD9 hf12_0 => ?_)
                clear hB
                obtain ⟨hPn, hDn⟩ := hJ _ hPD9.1 hPD9.2 [(nu, .inr (5, [.ref au, .int lu])), (au, .inl (cI, cap, .inl fu))] rfl
                clear hP hD hS hJ hPD9
                have hP := hPn
                have hD := hDn
                have hS := hSn
                clear hPn hDn hSn
                have hb12 : r_12.toInt = bo fu en.toInt fr.toNatClampNeg (2 + (p_.toInt - fr.toInt - 2).toNat) := get_bt (k := fr.toNatClampNeg + (2 + (p_.toInt - fr.toInt - 2).toNat)) hf12_0 (by omega) (by omega) hen
                refine lv_istore (lv' := [(5, .int r_12), (4, .int p_), (3, .int nb), (0, .ref nu), (1, .int fr), (2, .int en)]) hx hb dX2_decodeNumber_59 hl (by decide) rfl (fun ls hl => ?_)
                refine lv_iload hx hb dX2_decodeNumber_61 (lv_at hl 0 rfl) ?_
                refine lv_bipush (v := 59) hx hb dX2_decodeNumber_63 (by decide) ?_
                refine lv_icmp_ne (tgt := 97) hx hb dX2_decodeNumber_65 (by decide) (fun c_13 => ?_) (fun c_13 => ?_)
                · have tc_13 : ¬ r_12.toInt = 59 := v_ne c_13
                  refine lv_iload_n hx hb dX2_decodeNumber_97 rfl (lv_at hl 2 rfl) ?_
                  refine lv_if_ne (tgt := 112) hx hb dX2_decodeNumber_98 (by decide) (fun c_14 => ?_) (fun c_14 => ?_)
                  · have tc_14 : ¬ nb.toInt = 0 := v_ne c_14
                    refine lv_iconst (v := 0) hx hb dX2_decodeNumber_112 (by decide) ?_
                    refine lv_istore (lv' := [(6, .int 0), (5, .int r_12), (4, .int p_), (3, .int nb), (0, .ref nu), (1, .int fr), (2, .int en)]) hx hb dX2_decodeNumber_113 hl (by decide) rfl (fun ls hl => ?_)
                    refine lv_iload hx hb dX2_decodeNumber_115 (lv_at hl 1 rfl) ?_
                    refine lv_bipush (v := 48) hx hb dX2_decodeNumber_117 (by decide) ?_
                    refine lv_icmp_lt (tgt := 134) hx hb dX2_decodeNumber_119 (by decide) (fun c_15 => ?_) (fun c_15 => ?_)
                    · have tc_15 : r_12.toInt < 48 := v_lt c_15
                      refine lv_iconst (v := (-1)) hx hb dX2_decodeNumber_134 (by decide) ?_
                      exact kl_i (v := (-1)) hQQ hx hb hr hlocks hS dX2_decodeNumber_135 (fun PZ9 kZ9 => kZ9 (⟨hP, hD⟩) (Or.inr ⟨rfl, DN_no (B := bo fu en.toInt fr.toNatClampNeg) hni hb12 (by omega)⟩))
                    · have tc_15 : 48 ≤ r_12.toInt := v_nlt c_15
                      refine lv_iload hx hb dX2_decodeNumber_122 (lv_at hl 1 rfl) ?_
                      refine lv_bipush (v := 57) hx hb dX2_decodeNumber_124 (by decide) ?_
                      refine lv_icmp_gt (tgt := 134) hx hb dX2_decodeNumber_126 (by decide) (fun c_16 => ?_) (fun c_16 => ?_)
                      · have tc_16 : 57 < r_12.toInt := v_lt c_16
                        refine lv_iconst (v := (-1)) hx hb dX2_decodeNumber_134 (by decide) ?_
                        exact kl_i (v := (-1)) hQQ hx hb hr hlocks hS dX2_decodeNumber_135 (fun PZ9 kZ9 => kZ9 (⟨hP, hD⟩) (Or.inr ⟨rfl, DN_no (B := bo fu en.toInt fr.toNatClampNeg) hni hb12 (by omega)⟩))
                      · have tc_16 : r_12.toInt ≤ 57 := v_nlt c_16
                        refine lv_iload hx hb dX2_decodeNumber_129 (lv_at hl 0 rfl) ?_
                        refine lv_if_eq (tgt := 136) hx hb dX2_decodeNumber_131 (by decide) (fun c_17 => ?_) (fun c_17 => absurd c_17 (by decide))
                        refine lv_iload_n hx hb dX2_decodeNumber_136 rfl (lv_at hl 3 rfl) ?_
                        refine lv_bipush (v := 10) hx hb dX2_decodeNumber_137 (by decide) ?_
                        refine lv_imul hx hb dX2_decodeNumber_139 ?_
                        refine lv_topi (fun x_18 ex_18 => ?_)
                        have tx_18 : x_18.toInt = nb.toInt * 10 := v_mul ex_18 (by show -2147483648 ≤ nb.toInt * 10; omega) (by show nb.toInt * 10 < 2147483648; omega)
                        refine lv_iload hx hb dX2_decodeNumber_140 (lv_at hl 1 rfl) ?_
                        refine lv_iadd hx hb dX2_decodeNumber_142 ?_
                        refine lv_topi (fun x_19 ex_19 => ?_)
                        have tx_19 : x_19.toInt = x_18.toInt + r_12.toInt := v_add ex_19 (by show -2147483648 ≤ x_18.toInt + r_12.toInt; omega) (by show x_18.toInt + r_12.toInt < 2147483648; omega)
                        refine lv_bipush (v := 48) hx hb dX2_decodeNumber_143 (by decide) ?_
                        refine lv_isub hx hb dX2_decodeNumber_145 ?_
                        refine lv_topi (fun x_20 ex_20 => ?_)
                        have tx_20 : x_20.toInt = x_19.toInt - 48 := v_sub ex_20 (by show -2147483648 ≤ x_19.toInt - 48; omega) (by show x_19.toInt - 48 < 2147483648; omega)
                        refine lv_istore_n (lv' := [(3, .int x_20), (6, .int 0), (5, .int r_12), (4, .int p_), (0, .ref nu), (1, .int fr), (2, .int en)]) hx hb dX2_decodeNumber_146 rfl hl (by decide) rfl (fun ls hl => ?_)
                        obtain ⟨x_21, ex_21⟩ : ∃ y : Int32, y = p_ + 1 := ⟨_, rfl⟩
                        have tx_21 : x_21.toInt = p_.toInt + 1 := v_addR (l2 := 1) (h2 := 1) ex_21 g_p_ (by decide) (by decide) (by decide)
                        refine lv_iinc (v := x_21) (lv' := [(4, .int x_21), (3, .int x_20), (6, .int 0), (5, .int r_12), (0, .ref nu), (1, .int fr), (2, .int en)]) hx hb dX2_decodeNumber_147 hl (k := 3) rfl (by rw [ex_21]; rfl) (by decide) rfl (fun ls hl => ?_)
                        refine lv_goto (tgt := 38) hx hb dX2_decodeNumber_150 (by decide) ?_
                        exact ih_38 x_20 x_21 _ _ _ (ms_lt hm_38 (by show ((en.toInt - x_21.toInt : Int)) < en.toInt - p_.toInt; omega) (by show (0 : Int) < en.toInt - p_.toInt; omega)) (by show 0 ≤ x_20.toInt ∧ x_20.toInt ≤ 999999; omega) (by show 2 ≤ x_21.toInt ∧ x_21.toInt ≤ 2408; omega) (by show fr.toInt + 2 ≤ x_21.toInt ∧ x_21.toInt ≤ fr.toInt + 8; omega) (NI_s hni hb12 (by omega) (by omega) (by omega) (by omega) (by omega)) hP hD hS (lv_sub hl [0, 1, 4, 5, 6] rfl)
                  · have tc_14 : nb.toInt = 0 := v_eq c_14
                    refine lv_iload hx hb dX2_decodeNumber_101 (lv_at hl 0 rfl) ?_
                    refine lv_bipush (v := 48) hx hb dX2_decodeNumber_103 (by decide) ?_
                    refine lv_icmp_ne (tgt := 112) hx hb dX2_decodeNumber_105 (by decide) (fun c_22 => ?_) (fun c_22 => ?_)
                    · have tc_22 : ¬ r_12.toInt = 48 := v_ne c_22
                      refine lv_iconst (v := 0) hx hb dX2_decodeNumber_112 (by decide) ?_
                      refine lv_istore (lv' := [(6, .int 0), (5, .int r_12), (4, .int p_), (3, .int nb), (0, .ref nu), (1, .int fr), (2, .int en)]) hx hb dX2_decodeNumber_113 hl (by decide) rfl (fun ls hl => ?_)
                      refine lv_iload hx hb dX2_decodeNumber_115 (lv_at hl 1 rfl) ?_
                      refine lv_bipush (v := 48) hx hb dX2_decodeNumber_117 (by decide) ?_
                      refine lv_icmp_lt (tgt := 134) hx hb dX2_decodeNumber_119 (by decide) (fun c_23 => ?_) (fun c_23 => ?_)
                      · have tc_23 : r_12.toInt < 48 := v_lt c_23
                        refine lv_iconst (v := (-1)) hx hb dX2_decodeNumber_134 (by decide) ?_
                        exact kl_i (v := (-1)) hQQ hx hb hr hlocks hS dX2_decodeNumber_135 (fun PZ9 kZ9 => kZ9 (⟨hP, hD⟩) (Or.inr ⟨rfl, DN_no (B := bo fu en.toInt fr.toNatClampNeg) hni hb12 (by omega)⟩))
                      · have tc_23 : 48 ≤ r_12.toInt := v_nlt c_23
                        refine lv_iload hx hb dX2_decodeNumber_122 (lv_at hl 1 rfl) ?_
                        refine lv_bipush (v := 57) hx hb dX2_decodeNumber_124 (by decide) ?_
                        refine lv_icmp_gt (tgt := 134) hx hb dX2_decodeNumber_126 (by decide) (fun c_24 => ?_) (fun c_24 => ?_)
                        · have tc_24 : 57 < r_12.toInt := v_lt c_24
                          refine lv_iconst (v := (-1)) hx hb dX2_decodeNumber_134 (by decide) ?_
                          exact kl_i (v := (-1)) hQQ hx hb hr hlocks hS dX2_decodeNumber_135 (fun PZ9 kZ9 => kZ9 (⟨hP, hD⟩) (Or.inr ⟨rfl, DN_no (B := bo fu en.toInt fr.toNatClampNeg) hni hb12 (by omega)⟩))
                        · have tc_24 : r_12.toInt ≤ 57 := v_nlt c_24
                          refine lv_iload hx hb dX2_decodeNumber_129 (lv_at hl 0 rfl) ?_
                          refine lv_if_eq (tgt := 136) hx hb dX2_decodeNumber_131 (by decide) (fun c_25 => ?_) (fun c_25 => absurd c_25 (by decide))
                          refine lv_iload_n hx hb dX2_decodeNumber_136 rfl (lv_at hl 3 rfl) ?_
                          refine lv_bipush (v := 10) hx hb dX2_decodeNumber_137 (by decide) ?_
                          refine lv_imul hx hb dX2_decodeNumber_139 ?_
                          refine lv_topi (fun x_26 ex_26 => ?_)
                          have tx_26 : x_26.toInt = nb.toInt * 10 := v_mul ex_26 (by show -2147483648 ≤ nb.toInt * 10; omega) (by show nb.toInt * 10 < 2147483648; omega)
                          refine lv_iload hx hb dX2_decodeNumber_140 (lv_at hl 1 rfl) ?_
                          refine lv_iadd hx hb dX2_decodeNumber_142 ?_
                          refine lv_topi (fun x_27 ex_27 => ?_)
                          have tx_27 : x_27.toInt = x_26.toInt + r_12.toInt := v_add ex_27 (by show -2147483648 ≤ x_26.toInt + r_12.toInt; omega) (by show x_26.toInt + r_12.toInt < 2147483648; omega)
                          refine lv_bipush (v := 48) hx hb dX2_decodeNumber_143 (by decide) ?_
                          refine lv_isub hx hb dX2_decodeNumber_145 ?_
                          refine lv_topi (fun x_28 ex_28 => ?_)
                          have tx_28 : x_28.toInt = x_27.toInt - 48 := v_sub ex_28 (by show -2147483648 ≤ x_27.toInt - 48; omega) (by show x_27.toInt - 48 < 2147483648; omega)
                          refine lv_istore_n (lv' := [(3, .int x_28), (6, .int 0), (5, .int r_12), (4, .int p_), (0, .ref nu), (1, .int fr), (2, .int en)]) hx hb dX2_decodeNumber_146 rfl hl (by decide) rfl (fun ls hl => ?_)
                          obtain ⟨x_29, ex_29⟩ : ∃ y : Int32, y = p_ + 1 := ⟨_, rfl⟩
                          have tx_29 : x_29.toInt = p_.toInt + 1 := v_addR (l2 := 1) (h2 := 1) ex_29 g_p_ (by decide) (by decide) (by decide)
                          refine lv_iinc (v := x_29) (lv' := [(4, .int x_29), (3, .int x_28), (6, .int 0), (5, .int r_12), (0, .ref nu), (1, .int fr), (2, .int en)]) hx hb dX2_decodeNumber_147 hl (k := 3) rfl (by rw [ex_29]; rfl) (by decide) rfl (fun ls hl => ?_)
                          refine lv_goto (tgt := 38) hx hb dX2_decodeNumber_150 (by decide) ?_
                          exact ih_38 x_28 x_29 _ _ _ (ms_lt hm_38 (by show ((en.toInt - x_29.toInt : Int)) < en.toInt - p_.toInt; omega) (by show (0 : Int) < en.toInt - p_.toInt; omega)) (by show 0 ≤ x_28.toInt ∧ x_28.toInt ≤ 999999; omega) (by show 2 ≤ x_29.toInt ∧ x_29.toInt ≤ 2408; omega) (by show fr.toInt + 2 ≤ x_29.toInt ∧ x_29.toInt ≤ fr.toInt + 8; omega) (NI_s hni hb12 (by omega) (by omega) (by omega) (by omega) (by omega)) hP hD hS (lv_sub hl [0, 1, 4, 5, 6] rfl)
                    · have tc_22 : r_12.toInt = 48 := v_eq c_22
                      refine lv_iconst (v := 1) hx hb dX2_decodeNumber_108 (by decide) ?_
                      refine lv_goto (tgt := 113) hx hb dX2_decodeNumber_109 (by decide) ?_
                      refine lv_istore (lv' := [(6, .int 1), (5, .int r_12), (4, .int p_), (3, .int nb), (0, .ref nu), (1, .int fr), (2, .int en)]) hx hb dX2_decodeNumber_113 hl (by decide) rfl (fun ls hl => ?_)
                      refine lv_iload hx hb dX2_decodeNumber_115 (lv_at hl 1 rfl) ?_
                      refine lv_bipush (v := 48) hx hb dX2_decodeNumber_117 (by decide) ?_
                      refine lv_icmp_lt (tgt := 134) hx hb dX2_decodeNumber_119 (by decide) (fun c_30 => by exfalso; have tc_30 : r_12.toInt < 48 := v_lt c_30; omega) (fun c_30 => ?_)
                      have tc_30 : 48 ≤ r_12.toInt := v_nlt c_30
                      refine lv_iload hx hb dX2_decodeNumber_122 (lv_at hl 1 rfl) ?_
                      refine lv_bipush (v := 57) hx hb dX2_decodeNumber_124 (by decide) ?_
                      refine lv_icmp_gt (tgt := 134) hx hb dX2_decodeNumber_126 (by decide) (fun c_31 => by exfalso; have tc_31 : 57 < r_12.toInt := v_lt c_31; omega) (fun c_31 => ?_)
                      have tc_31 : r_12.toInt ≤ 57 := v_nlt c_31
                      refine lv_iload hx hb dX2_decodeNumber_129 (lv_at hl 0 rfl) ?_
                      refine lv_if_eq (tgt := 136) hx hb dX2_decodeNumber_131 (by decide) (fun c_32 => absurd c_32 (by decide)) (fun c_32 => ?_)
                      refine lv_iconst (v := (-1)) hx hb dX2_decodeNumber_134 (by decide) ?_
                      exact kl_i (v := (-1)) hQQ hx hb hr hlocks hS dX2_decodeNumber_135 (fun PZ9 kZ9 => kZ9 (⟨hP, hD⟩) (Or.inr ⟨rfl, DN_no (B := bo fu en.toInt fr.toNatClampNeg) hni hb12 (by omega)⟩))
                · have tc_13 : r_12.toInt = 59 := v_eq c_13
                  refine lv_iload_n hx hb dX2_decodeNumber_68 rfl (lv_at hl 2 rfl) ?_
                  refine kSN_i (rest := []) hcf (m_X11_isLetter l dC dI cI cS H.size nb ) ⟨va_cnB 1 hts gX2_decodeNumber_X11_isLetter_n52 rfl rfl rfl hN52 (hts (.initialized RX11) (List.mem_of_getElem? (i := 6) rfl)) (by decide +kernel) ⟨Nat.le_of_ble_eq_true rfl, Nat.le_of_ble_eq_true rfl⟩, (hts (.static yX11_isLetter) (List.mem_of_getElem? (i := 5) rfl)), trivial⟩ kX_t hK hP hD hS hA [] [0, 1] rfl (by decide +kernel) rfl hl rfl (Nat.le_of_ble_eq_true rfl) dX2_decodeNumber_69 ⟨Nat.le_of_ble_eq_true rfl, Nat.le_of_ble_eq_true rfl⟩ (fun r_33 H locs hB hJ hSn => ?_)
                  refine hB _ (fun hPD9 hf33_0 hf33_1 => ?_)
                  clear hB
                  obtain ⟨hPn, hDn⟩ := hJ _ hPD9.1 hPD9.2 [(nu, .inr (5, [.ref au, .int lu])), (au, .inl (cI, cap, .inl fu))] rfl
                  clear hP hD hS hJ hPD9
                  have hP := hPn
                  have hD := hDn
                  have hS := hSn
                  clear hPn hDn hSn
                  refine lv_if_eq (tgt := 95) hx hb dX2_decodeNumber_72 (by decide) (fun c_34 => ?_) (fun c_34 => ?_)
                  · have tc_34 : r_33.toInt = 0 := v_eq c_34
                    refine lv_iconst (v := (-1)) hx hb dX2_decodeNumber_95 (by decide) ?_
                    exact kl_i (v := (-1)) hQQ hx hb hr hlocks hS dX2_decodeNumber_96 (fun PZ9 kZ9 => kZ9 (⟨hP, hD⟩) (Or.inr ⟨rfl, DN_no (B := bo fu en.toInt fr.toNatClampNeg) hni hb12 (by omega)⟩))
                  · have tc_34 : ¬ r_33.toInt = 0 := v_ne c_34
                    refine lv_iload_n hx hb dX2_decodeNumber_75 rfl (lv_at hl 2 rfl) ?_
                    refine kS_i (rest := []) hcf (f_X2_isNumbered l dC dI cI cS H.size nb ) kc_X2_isNumbered gX2_decodeNumber_X2_isNumbered rfl rfl ⟨Nat.le_of_ble_eq_true rfl, Nat.le_of_ble_eq_true rfl⟩ kX_t hK hP hD hS hA [] [0, 1] rfl (by decide +kernel) rfl hl rfl (Nat.le_of_ble_eq_true rfl) dX2_decodeNumber_76 ⟨Nat.le_of_ble_eq_true rfl, Nat.le_of_ble_eq_true rfl⟩ (fun r_35 H locs hB hJ hSn => ?_)
                    refine hB _ (fun hPD9 hf35_0 hf35_1 => ?_)
                    clear hB
                    obtain ⟨hPn, hDn⟩ := hJ _ hPD9.1 hPD9.2 [(nu, .inr (5, [.ref au, .int lu])), (au, .inl (cI, cap, .inl fu))] rfl
                    clear hP hD hS hJ hPD9
                    have hP := hPn
                    have hD := hDn
                    have hS := hSn
                    clear hPn hDn hSn
                    refine lv_if_eq (tgt := 95) hx hb dX2_decodeNumber_79 (by decide) (fun c_36 => ?_) (fun c_36 => ?_)
                    · have tc_36 : r_35.toInt = 0 := v_eq c_36
                      refine lv_iconst (v := (-1)) hx hb dX2_decodeNumber_95 (by decide) ?_
                      exact kl_i (v := (-1)) hQQ hx hb hr hlocks hS dX2_decodeNumber_96 (fun PZ9 kZ9 => kZ9 (⟨hP, hD⟩) (Or.inr ⟨rfl, DN_no (B := bo fu en.toInt fr.toNatClampNeg) hni hb12 (by omega)⟩))
                    · have tc_36 : ¬ r_35.toInt = 0 := v_ne c_36
                      refine lv_iload_n hx hb dX2_decodeNumber_82 rfl (lv_at hl 2 rfl) ?_
                      refine lv_iload hx hb dX2_decodeNumber_83 (lv_at hl 1 rfl) ?_
                      refine lv_iconst (v := 1) hx hb dX2_decodeNumber_85 (by decide) ?_
                      refine lv_iadd hx hb dX2_decodeNumber_86 ?_
                      refine lv_topi (fun x_37 ex_37 => ?_)
                      have tx_37 : x_37.toInt = p_.toInt + 1 := v_addR (l2 := 1) (h2 := 1) ex_37 g_p_ (by decide) (by decide) (by decide)
                      refine lv_iload_n hx hb dX2_decodeNumber_87 rfl (lv_at hl 4 rfl) ?_
                      refine lv_isub hx hb dX2_decodeNumber_88 ?_
                      refine lv_topi (fun x_38 ex_38 => ?_)
                      have tx_38 : x_38.toInt = x_37.toInt - fr.toInt := v_subR ex_38 (v_sumR (l := 3) (h := 2409) (l2 := 1) (h2 := 1) tx_37 g_p_ (by decide) (by decide) (by decide)) g_fr (by decide) (by decide)
                      refine kS_i (rest := []) hcf (f_X2_found l dC dI cI cS H.size nb x_38 (by omega) (by omega)) kc_X2_found gX2_decodeNumber_X2_found rfl rfl ⟨Nat.le_of_ble_eq_true rfl, Nat.le_of_ble_eq_true rfl⟩ kX_t hK hP hD hS hA [] [0, 1] rfl (by decide +kernel) rfl hl rfl (Nat.le_of_ble_eq_true rfl) dX2_decodeNumber_89 ⟨Nat.le_of_ble_eq_true rfl, Nat.le_of_ble_eq_true rfl⟩ (fun r_39 H locs hB hJ hSn => ?_)
                      refine hB _ (fun hPD9 hf39_0 => ?_)
                      clear hB
                      obtain ⟨hPn, hDn⟩ := hJ _ hPD9.1 hPD9.2 [(nu, .inr (5, [.ref au, .int lu])), (au, .inl (cI, cap, .inl fu))] rfl
                      clear hP hD hS hJ hPD9
                      have hP := hPn
                      have hD := hDn
                      have hS := hSn
                      clear hPn hDn hSn
                      refine lv_goto (tgt := 96) hx hb dX2_decodeNumber_92 (by decide) ?_
                      exact kl_i (v := r_39) hQQ hx hb hr hlocks hS dX2_decodeNumber_96 (fun PZ9 kZ9 => kZ9 (⟨hP, hD⟩) (Or.inl ⟨(p_.toInt - fr.toInt - 2).toNat + 3, nb, DN_of (B := bo fu en.toInt fr.toNatClampNeg) hni (by rw [← hb12]; omega) (by show bt fu en.toInt fr.toNatClampNeg = 38; omega) (by show bt fu en.toInt (fr.toNatClampNeg + 1) = 35; omega) (by omega) (by omega) (by omega) (by omega), by omega, by omega, by omega⟩))
        exact LOOP_38 _ 0 x_8 _ _ _ (ms_s _) (by decide) (v_rr (v_sumR (l := 2) (h := 2402) (l2 := 2) (h2 := 2) tx_8 g_fr (by decide) (by decide) (by decide)) (by decide) (by decide)) (by show fr.toInt + 2 ≤ x_8.toInt ∧ x_8.toInt ≤ fr.toInt + 8; omega) (NI_0 (by omega) rfl) hP hD hS (lv_sub hl [0, 1, 2, 3, 4] rfl)
      · have tc_7 : ¬ r_6.toInt = 35 := v_ne c_7
        refine lv_iconst (v := (-1)) hx hb dX2_decodeNumber_29 (by decide) ?_
        exact kl_i (v := (-1)) hQQ hx hb hr hlocks hS dX2_decodeNumber_30 (fun PZ9 kZ9 => kZ9 (⟨hP, hD⟩) (Or.inr ⟨rfl, fun l x h => by have o1 := bt_c fu en.toInt (fr.toNatClampNeg + 1); unfold DNa DN at h; omega⟩))

end

/-! 59c.a.rows -/
section
set_option maxRecDepth 100000 in
theorem dA152_cX2_decode : kDec cX2_decode [(0, .aload_n 2, 1), (1, .iload_n 3, 1), (2, .invokevirtual 33, 3), (5, .istore 5, 2), (7, .iload 5, 2), (9, .iconst (-1), 1), (10, .if_icmp .eq 9, 3), (19, .iconst (-1), 1), (20, .ireturn, 1), (13, .iload_n 3, 1), (14, .iload 4, 2), (16, .if_icmp .lt 5, 3), (21, .aload_n 0, 1), (22, .iload_n 1, 1), (23, .iload 5, 2), (25, .invokevirtual 38, 3), (28, .istore 6, 2), (30, .iload 6, 2), (32, .iconst (-1), 1), (33, .if_icmp .eq 10, 3), (43, .iload_n 1, 1), (44, .iconst 2, 1), (45, .if_icmp .ne 11, 3), (56, .iload_n 1, 1)] = true := by decide +kernel
theorem dX2_decode_0 : decode cX2_decode 0 = .ok (.aload_n 2, 1) := kDec_at dA152_cX2_decode 0 rfl
theorem dX2_decode_1 : decode cX2_decode 1 = .ok (.iload_n 3, 1) := kDec_at dA152_cX2_decode 1 rfl
theorem dX2_decode_2 : decode cX2_decode 2 = .ok (.invokevirtual 33, 3) := kDec_at dA152_cX2_decode 2 rfl
theorem dX2_decode_5 : decode cX2_decode 5 = .ok (.istore 5, 2) := kDec_at dA152_cX2_decode 3 rfl
theorem dX2_decode_7 : decode cX2_decode 7 = .ok (.iload 5, 2) := kDec_at dA152_cX2_decode 4 rfl
theorem dX2_decode_9 : decode cX2_decode 9 = .ok (.iconst (-1), 1) := kDec_at dA152_cX2_decode 5 rfl
theorem dX2_decode_10 : decode cX2_decode 10 = .ok (.if_icmp .eq 9, 3) := kDec_at dA152_cX2_decode 6 rfl
theorem dX2_decode_19 : decode cX2_decode 19 = .ok (.iconst (-1), 1) := kDec_at dA152_cX2_decode 7 rfl
theorem dX2_decode_20 : decode cX2_decode 20 = .ok (.ireturn, 1) := kDec_at dA152_cX2_decode 8 rfl
theorem dX2_decode_13 : decode cX2_decode 13 = .ok (.iload_n 3, 1) := kDec_at dA152_cX2_decode 9 rfl
theorem dX2_decode_14 : decode cX2_decode 14 = .ok (.iload 4, 2) := kDec_at dA152_cX2_decode 10 rfl
theorem dX2_decode_16 : decode cX2_decode 16 = .ok (.if_icmp .lt 5, 3) := kDec_at dA152_cX2_decode 11 rfl
theorem dX2_decode_21 : decode cX2_decode 21 = .ok (.aload_n 0, 1) := kDec_at dA152_cX2_decode 12 rfl
theorem dX2_decode_22 : decode cX2_decode 22 = .ok (.iload_n 1, 1) := kDec_at dA152_cX2_decode 13 rfl
theorem dX2_decode_23 : decode cX2_decode 23 = .ok (.iload 5, 2) := kDec_at dA152_cX2_decode 14 rfl
theorem dX2_decode_25 : decode cX2_decode 25 = .ok (.invokevirtual 38, 3) := kDec_at dA152_cX2_decode 15 rfl
theorem dX2_decode_28 : decode cX2_decode 28 = .ok (.istore 6, 2) := kDec_at dA152_cX2_decode 16 rfl
theorem dX2_decode_30 : decode cX2_decode 30 = .ok (.iload 6, 2) := kDec_at dA152_cX2_decode 17 rfl
theorem dX2_decode_32 : decode cX2_decode 32 = .ok (.iconst (-1), 1) := kDec_at dA152_cX2_decode 18 rfl
theorem dX2_decode_33 : decode cX2_decode 33 = .ok (.if_icmp .eq 10, 3) := kDec_at dA152_cX2_decode 19 rfl
theorem dX2_decode_43 : decode cX2_decode 43 = .ok (.iload_n 1, 1) := kDec_at dA152_cX2_decode 20 rfl
theorem dX2_decode_44 : decode cX2_decode 44 = .ok (.iconst 2, 1) := kDec_at dA152_cX2_decode 21 rfl
theorem dX2_decode_45 : decode cX2_decode 45 = .ok (.if_icmp .ne 11, 3) := kDec_at dA152_cX2_decode 22 rfl
theorem dX2_decode_56 : decode cX2_decode 56 = .ok (.iload_n 1, 1) := kDec_at dA152_cX2_decode 23 rfl
set_option maxRecDepth 20000 in
theorem ggX2_decode_X5_get : GoodIn wsX2_decode wsX5_get := goodIn_sub (fun _ h => List.mem_cons_of_mem _ (List.mem_append_left _ (List.mem_append_left _ (List.mem_append_left _ (List.mem_append_left _ (List.mem_append_right _ (h))))))) gX5_get_all
set_option maxRecDepth 20000 in
theorem gX2_decode_X5_get : GoodIn wsX2_decode (wsV RX2 33 RX5 yX5_get wsX5_get) := goodIn_app (goodIn_r _ [1, 2, 3, 4] rfl (by decide +kernel)) ggX2_decode_X5_get
set_option maxRecDepth 20000 in
theorem ggX2_decode_X2_letterAlone : GoodIn wsX2_decode wsX2_letterAlone := goodIn_sub (fun _ h => List.mem_cons_of_mem _ (List.mem_append_left _ (List.mem_append_left _ (List.mem_append_left _ (List.mem_append_right _ (h)))))) gX2_letterAlone_all
set_option maxRecDepth 20000 in
theorem gX2_decode_X2_letterAlone : GoodIn wsX2_decode (wsV RX2 38 RX2 yX2_letterAlone wsX2_letterAlone) := goodIn_app (goodIn_r _ [5, 6, 7, 8] rfl (by decide +kernel)) ggX2_decode_X2_letterAlone
set_option maxRecDepth 100000 in
theorem dA153_cX2_decode : kDec cX2_decode [(57, .iconst 3, 1), (58, .if_icmp .ne 13, 3), (71, .iconst (-1), 1), (72, .ireturn, 1), (61, .aload_n 2, 1), (62, .iload_n 3, 1), (63, .iload 4, 2), (65, .invokestatic 49, 3), (68, .goto 4, 3), (48, .aload_n 2, 1), (49, .iload_n 3, 1), (50, .iload 4, 2), (52, .invokestatic 45, 3), (55, .ireturn, 1), (36, .iload 6, 2), (38, .iconst 1, 1), (39, .invokestatic 42, 3), (42, .ireturn, 1)] = true := by decide +kernel
theorem dX2_decode_57 : decode cX2_decode 57 = .ok (.iconst 3, 1) := kDec_at dA153_cX2_decode 0 rfl
theorem dX2_decode_58 : decode cX2_decode 58 = .ok (.if_icmp .ne 13, 3) := kDec_at dA153_cX2_decode 1 rfl
theorem dX2_decode_71 : decode cX2_decode 71 = .ok (.iconst (-1), 1) := kDec_at dA153_cX2_decode 2 rfl
theorem dX2_decode_72 : decode cX2_decode 72 = .ok (.ireturn, 1) := kDec_at dA153_cX2_decode 3 rfl
theorem dX2_decode_61 : decode cX2_decode 61 = .ok (.aload_n 2, 1) := kDec_at dA153_cX2_decode 4 rfl
theorem dX2_decode_62 : decode cX2_decode 62 = .ok (.iload_n 3, 1) := kDec_at dA153_cX2_decode 5 rfl
theorem dX2_decode_63 : decode cX2_decode 63 = .ok (.iload 4, 2) := kDec_at dA153_cX2_decode 6 rfl
theorem dX2_decode_65 : decode cX2_decode 65 = .ok (.invokestatic 49, 3) := kDec_at dA153_cX2_decode 7 rfl
theorem dX2_decode_68 : decode cX2_decode 68 = .ok (.goto 4, 3) := kDec_at dA153_cX2_decode 8 rfl
theorem dX2_decode_48 : decode cX2_decode 48 = .ok (.aload_n 2, 1) := kDec_at dA153_cX2_decode 9 rfl
theorem dX2_decode_49 : decode cX2_decode 49 = .ok (.iload_n 3, 1) := kDec_at dA153_cX2_decode 10 rfl
theorem dX2_decode_50 : decode cX2_decode 50 = .ok (.iload 4, 2) := kDec_at dA153_cX2_decode 11 rfl
theorem dX2_decode_52 : decode cX2_decode 52 = .ok (.invokestatic 45, 3) := kDec_at dA153_cX2_decode 12 rfl
theorem dX2_decode_55 : decode cX2_decode 55 = .ok (.ireturn, 1) := kDec_at dA153_cX2_decode 13 rfl
theorem dX2_decode_36 : decode cX2_decode 36 = .ok (.iload 6, 2) := kDec_at dA153_cX2_decode 14 rfl
theorem dX2_decode_38 : decode cX2_decode 38 = .ok (.iconst 1, 1) := kDec_at dA153_cX2_decode 15 rfl
theorem dX2_decode_39 : decode cX2_decode 39 = .ok (.invokestatic 42, 3) := kDec_at dA153_cX2_decode 16 rfl
theorem dX2_decode_42 : decode cX2_decode 42 = .ok (.ireturn, 1) := kDec_at dA153_cX2_decode 17 rfl
set_option maxRecDepth 20000 in
theorem gX2_decodeNumber_all : wsX2_decodeNumber.all goodWord = true := by
  unfold wsX2_decodeNumber
  exact good_c (by decide +kernel) (good_a (good_a (good_a (good_a (good_a ((by decide +kernel)) gX5_clsall) gX5_get_all) gX11_isLetter_all) gX2_isNumbered_all) gX2_found_all)
set_option maxRecDepth 20000 in
theorem ggX2_decode_X2_decodeNumber : GoodIn wsX2_decode wsX2_decodeNumber := goodIn_sub (fun _ h => List.mem_cons_of_mem _ (List.mem_append_right _ (h))) gX2_decodeNumber_all
set_option maxRecDepth 20000 in
theorem gX2_decode_X2_decodeNumber : GoodIn wsX2_decode (va_wsS RX2 49 yX2_decodeNumber wsX2_decodeNumber) := goodIn_app (goodIn_r _ [13, 14, 8] rfl (by decide +kernel)) ggX2_decode_X2_decodeNumber
set_option maxRecDepth 20000 in
theorem gX2_decodeMany_all : wsX2_decodeMany.all goodWord = true := by
  unfold wsX2_decodeMany
  exact good_c (by decide +kernel) (good_a (good_a (good_a (good_a ((by decide +kernel)) gX5_clsall) gX5_get_all) gX11_isLetter_all) gX2_found_all)
set_option maxRecDepth 20000 in
theorem ggX2_decode_X2_decodeMany : GoodIn wsX2_decode wsX2_decodeMany := goodIn_sub (fun _ h => List.mem_cons_of_mem _ (List.mem_append_left _ (List.mem_append_right _ (h)))) gX2_decodeMany_all
set_option maxRecDepth 20000 in
theorem gX2_decode_X2_decodeMany : GoodIn wsX2_decode (va_wsS RX2 45 yX2_decodeMany wsX2_decodeMany) := goodIn_app (goodIn_r _ [11, 12, 8] rfl (by decide +kernel)) ggX2_decode_X2_decodeMany
set_option maxRecDepth 20000 in
theorem ggX2_decode_X2_found : GoodIn wsX2_decode wsX2_found := goodIn_sub (fun _ h => List.mem_cons_of_mem _ (List.mem_append_left _ (List.mem_append_left _ (List.mem_append_right _ (h))))) gX2_found_all
set_option maxRecDepth 20000 in
theorem gX2_decode_X2_found : GoodIn wsX2_decode (va_wsS RX2 42 yX2_found wsX2_found) := goodIn_app (goodIn_r _ [9, 10, 8] rfl (by decide +kernel)) ggX2_decode_X2_found
set_option maxRecDepth 100000 in
theorem dA154_cX7_readExactly : kDec cX7_readExactly [(0, .aload_n 0, 1), (1, .iconst (-1), 1), (2, .putfield 24, 3), (5, .aload_n 3, 1), (6, .iconst 0, 1), (7, .invokevirtual 28, 3), (10, .iconst 1, 1), (11, .istore 4, 2), (13, .iconst 0, 1), (14, .istore 5, 2), (16, .iload 5, 2), (18, .aload_n 2, 1), (19, .invokevirtual 31, 3), (22, .if_icmp .ge 75, 3), (97, .iload 4, 2), (99, .ireturn, 1), (25, .aload_n 0, 1), (26, .getfield 20, 3), (29, .iload_n 1, 1), (30, .aload_n 2, 1), (31, .iload 5, 2), (33, .aload_n 2, 1), (34, .invokevirtual 31, 3), (37, .invokevirtual 45, 3)] = true := by decide +kernel
theorem dX7_readExactly_0 : decode cX7_readExactly 0 = .ok (.aload_n 0, 1) := kDec_at dA154_cX7_readExactly 0 rfl
theorem dX7_readExactly_1 : decode cX7_readExactly 1 = .ok (.iconst (-1), 1) := kDec_at dA154_cX7_readExactly 1 rfl
theorem dX7_readExactly_2 : decode cX7_readExactly 2 = .ok (.putfield 24, 3) := kDec_at dA154_cX7_readExactly 2 rfl
theorem dX7_readExactly_5 : decode cX7_readExactly 5 = .ok (.aload_n 3, 1) := kDec_at dA154_cX7_readExactly 3 rfl
theorem dX7_readExactly_6 : decode cX7_readExactly 6 = .ok (.iconst 0, 1) := kDec_at dA154_cX7_readExactly 4 rfl
theorem dX7_readExactly_7 : decode cX7_readExactly 7 = .ok (.invokevirtual 28, 3) := kDec_at dA154_cX7_readExactly 5 rfl
theorem dX7_readExactly_10 : decode cX7_readExactly 10 = .ok (.iconst 1, 1) := kDec_at dA154_cX7_readExactly 6 rfl
theorem dX7_readExactly_11 : decode cX7_readExactly 11 = .ok (.istore 4, 2) := kDec_at dA154_cX7_readExactly 7 rfl
theorem dX7_readExactly_13 : decode cX7_readExactly 13 = .ok (.iconst 0, 1) := kDec_at dA154_cX7_readExactly 8 rfl
theorem dX7_readExactly_14 : decode cX7_readExactly 14 = .ok (.istore 5, 2) := kDec_at dA154_cX7_readExactly 9 rfl
theorem dX7_readExactly_16 : decode cX7_readExactly 16 = .ok (.iload 5, 2) := kDec_at dA154_cX7_readExactly 10 rfl
theorem dX7_readExactly_18 : decode cX7_readExactly 18 = .ok (.aload_n 2, 1) := kDec_at dA154_cX7_readExactly 11 rfl
theorem dX7_readExactly_19 : decode cX7_readExactly 19 = .ok (.invokevirtual 31, 3) := kDec_at dA154_cX7_readExactly 12 rfl
theorem dX7_readExactly_22 : decode cX7_readExactly 22 = .ok (.if_icmp .ge 75, 3) := kDec_at dA154_cX7_readExactly 13 rfl
theorem dX7_readExactly_97 : decode cX7_readExactly 97 = .ok (.iload 4, 2) := kDec_at dA154_cX7_readExactly 14 rfl
theorem dX7_readExactly_99 : decode cX7_readExactly 99 = .ok (.ireturn, 1) := kDec_at dA154_cX7_readExactly 15 rfl
theorem dX7_readExactly_25 : decode cX7_readExactly 25 = .ok (.aload_n 0, 1) := kDec_at dA154_cX7_readExactly 16 rfl
theorem dX7_readExactly_26 : decode cX7_readExactly 26 = .ok (.getfield 20, 3) := kDec_at dA154_cX7_readExactly 17 rfl
theorem dX7_readExactly_29 : decode cX7_readExactly 29 = .ok (.iload_n 1, 1) := kDec_at dA154_cX7_readExactly 18 rfl
theorem dX7_readExactly_30 : decode cX7_readExactly 30 = .ok (.aload_n 2, 1) := kDec_at dA154_cX7_readExactly 19 rfl
theorem dX7_readExactly_31 : decode cX7_readExactly 31 = .ok (.iload 5, 2) := kDec_at dA154_cX7_readExactly 20 rfl
theorem dX7_readExactly_33 : decode cX7_readExactly 33 = .ok (.aload_n 2, 1) := kDec_at dA154_cX7_readExactly 21 rfl
theorem dX7_readExactly_34 : decode cX7_readExactly 34 = .ok (.invokevirtual 31, 3) := kDec_at dA154_cX7_readExactly 22 rfl
theorem dX7_readExactly_37 : decode cX7_readExactly 37 = .ok (.invokevirtual 45, 3) := kDec_at dA154_cX7_readExactly 23 rfl
set_option maxRecDepth 20000 in
theorem ggX7_readExactly_X5_cut : GoodIn wsX7_readExactly wsX5_cut := goodIn_sub (fun _ h => List.mem_cons_of_mem _ (List.mem_append_left _ (List.mem_append_left _ (List.mem_append_left _ (List.mem_append_left _ (List.mem_append_left _ (List.mem_append_right _ (h)))))))) gX5_cut_all
set_option maxRecDepth 20000 in
theorem gX7_readExactly_X5_cut : GoodIn wsX7_readExactly (wsV RX7 28 RX5 yX5_cut wsX5_cut) := goodIn_app (goodIn_r _ [7, 8, 9, 10] rfl (by decide +kernel)) ggX7_readExactly_X5_cut
set_option maxRecDepth 20000 in
theorem ggX7_readExactly_X5_length : GoodIn wsX7_readExactly wsX5_length := goodIn_sub (fun _ h => List.mem_cons_of_mem _ (List.mem_append_left _ (List.mem_append_left _ (List.mem_append_left _ (List.mem_append_left _ (List.mem_append_right _ (h))))))) gX5_length_all
set_option maxRecDepth 20000 in
theorem gX7_readExactly_X5_length : GoodIn wsX7_readExactly (wsV RX7 31 RX5 yX5_length wsX5_length) := goodIn_app (goodIn_r _ [11, 12, 13, 10] rfl (by decide +kernel)) ggX7_readExactly_X5_length
set_option maxRecDepth 20000 in
theorem gX2_decode_all : wsX2_decode.all goodWord = true := by
  unfold wsX2_decode
  exact good_c (by decide +kernel) (good_a (good_a (good_a (good_a (good_a (good_a (good_a (good_a ((by decide +kernel)) gX5_clsall) gX2_clsall) gX10_clsall) gX5_get_all) gX2_letterAlone_all) gX2_found_all) gX2_decodeMany_all) gX2_decodeNumber_all)
set_option maxRecDepth 20000 in
theorem ggX7_readExactly_X2_decode : GoodIn wsX7_readExactly wsX2_decode := goodIn_sub (fun _ h => List.mem_cons_of_mem _ (List.mem_append_left _ (List.mem_append_left _ (List.mem_append_left _ (List.mem_append_right _ (h)))))) gX2_decode_all
set_option maxRecDepth 20000 in
theorem gX7_readExactly_X2_decode : GoodIn wsX7_readExactly (wsV RX7 45 RX2 yX2_decode wsX2_decode) := goodIn_app (goodIn_r _ [14, 15, 16, 17] rfl (by decide +kernel)) ggX7_readExactly_X2_decode
set_option maxRecDepth 100000 in
theorem dA155_cX7_readExactly : kDec cX7_readExactly [(40, .istore 6, 2), (42, .iload 6, 2), (44, .iconst (-1), 1), (45, .if_icmp .ne 11, 3), (56, .aload_n 3, 1), (57, .iload 6, 2), (59, .invokestatic 49, 3), (62, .invokevirtual 52, 3), (65, .ifCond .eq 12, 3), (77, .iconst 0, 1), (78, .istore 4, 2), (80, .iload 5, 2), (82, .iconst 1, 1), (83, .iload 6, 2), (85, .invokestatic 56, 3), (88, .invokestatic 59, 3), (91, .iadd, 1), (92, .istore 5, 2), (94, .goto (-78), 3), (68, .iload 4, 2), (70, .ifCond .eq 7, 3), (73, .iconst 1, 1), (74, .goto 4, 3), (48, .aload_n 0, 1)] = true := by decide +kernel
theorem dX7_readExactly_40 : decode cX7_readExactly 40 = .ok (.istore 6, 2) := kDec_at dA155_cX7_readExactly 0 rfl
theorem dX7_readExactly_42 : decode cX7_readExactly 42 = .ok (.iload 6, 2) := kDec_at dA155_cX7_readExactly 1 rfl
theorem dX7_readExactly_44 : decode cX7_readExactly 44 = .ok (.iconst (-1), 1) := kDec_at dA155_cX7_readExactly 2 rfl
theorem dX7_readExactly_45 : decode cX7_readExactly 45 = .ok (.if_icmp .ne 11, 3) := kDec_at dA155_cX7_readExactly 3 rfl
theorem dX7_readExactly_56 : decode cX7_readExactly 56 = .ok (.aload_n 3, 1) := kDec_at dA155_cX7_readExactly 4 rfl
theorem dX7_readExactly_57 : decode cX7_readExactly 57 = .ok (.iload 6, 2) := kDec_at dA155_cX7_readExactly 5 rfl
theorem dX7_readExactly_59 : decode cX7_readExactly 59 = .ok (.invokestatic 49, 3) := kDec_at dA155_cX7_readExactly 6 rfl
theorem dX7_readExactly_62 : decode cX7_readExactly 62 = .ok (.invokevirtual 52, 3) := kDec_at dA155_cX7_readExactly 7 rfl
theorem dX7_readExactly_65 : decode cX7_readExactly 65 = .ok (.ifCond .eq 12, 3) := kDec_at dA155_cX7_readExactly 8 rfl
theorem dX7_readExactly_77 : decode cX7_readExactly 77 = .ok (.iconst 0, 1) := kDec_at dA155_cX7_readExactly 9 rfl
theorem dX7_readExactly_78 : decode cX7_readExactly 78 = .ok (.istore 4, 2) := kDec_at dA155_cX7_readExactly 10 rfl
theorem dX7_readExactly_80 : decode cX7_readExactly 80 = .ok (.iload 5, 2) := kDec_at dA155_cX7_readExactly 11 rfl
theorem dX7_readExactly_82 : decode cX7_readExactly 82 = .ok (.iconst 1, 1) := kDec_at dA155_cX7_readExactly 12 rfl
theorem dX7_readExactly_83 : decode cX7_readExactly 83 = .ok (.iload 6, 2) := kDec_at dA155_cX7_readExactly 13 rfl
theorem dX7_readExactly_85 : decode cX7_readExactly 85 = .ok (.invokestatic 56, 3) := kDec_at dA155_cX7_readExactly 14 rfl
theorem dX7_readExactly_88 : decode cX7_readExactly 88 = .ok (.invokestatic 59, 3) := kDec_at dA155_cX7_readExactly 15 rfl
theorem dX7_readExactly_91 : decode cX7_readExactly 91 = .ok (.iadd, 1) := kDec_at dA155_cX7_readExactly 16 rfl
theorem dX7_readExactly_92 : decode cX7_readExactly 92 = .ok (.istore 5, 2) := kDec_at dA155_cX7_readExactly 17 rfl
theorem dX7_readExactly_94 : decode cX7_readExactly 94 = .ok (.goto (-78), 3) := kDec_at dA155_cX7_readExactly 18 rfl
theorem dX7_readExactly_68 : decode cX7_readExactly 68 = .ok (.iload 4, 2) := kDec_at dA155_cX7_readExactly 19 rfl
theorem dX7_readExactly_70 : decode cX7_readExactly 70 = .ok (.ifCond .eq 7, 3) := kDec_at dA155_cX7_readExactly 20 rfl
theorem dX7_readExactly_73 : decode cX7_readExactly 73 = .ok (.iconst 1, 1) := kDec_at dA155_cX7_readExactly 21 rfl
theorem dX7_readExactly_74 : decode cX7_readExactly 74 = .ok (.goto 4, 3) := kDec_at dA155_cX7_readExactly 22 rfl
theorem dX7_readExactly_48 : decode cX7_readExactly 48 = .ok (.aload_n 0, 1) := kDec_at dA155_cX7_readExactly 23 rfl
set_option maxRecDepth 20000 in
theorem gX2_letterIn_all : wsX2_letterIn.all goodWord = true := by
  unfold wsX2_letterIn
  exact good_c (by decide +kernel) (rfl)
set_option maxRecDepth 20000 in
theorem ggX7_readExactly_X2_letterIn : GoodIn wsX7_readExactly wsX2_letterIn := goodIn_sub (fun _ h => List.mem_cons_of_mem _ (List.mem_append_left _ (List.mem_append_left _ (List.mem_append_right _ (h))))) gX2_letterIn_all
set_option maxRecDepth 20000 in
theorem gX7_readExactly_X2_letterIn : GoodIn wsX7_readExactly (va_wsS RX7 49 yX2_letterIn wsX2_letterIn) := goodIn_app (goodIn_r _ [18, 19, 17] rfl (by decide +kernel)) ggX7_readExactly_X2_letterIn
set_option maxRecDepth 20000 in
theorem ggX7_readExactly_X5_add : GoodIn wsX7_readExactly wsX5_add := goodIn_sub (fun _ h => List.mem_cons_of_mem _ (List.mem_append_left _ (List.mem_append_right _ (h)))) gX5_add_all
set_option maxRecDepth 20000 in
theorem gX7_readExactly_X5_add : GoodIn wsX7_readExactly (wsV RX7 52 RX5 yX5_add wsX5_add) := goodIn_app (goodIn_r _ [20, 21, 22, 10] rfl (by decide +kernel)) ggX7_readExactly_X5_add
set_option maxRecDepth 20000 in
theorem gX2_bytesIn_all : wsX2_bytesIn.all goodWord = true := by
  unfold wsX2_bytesIn
  exact good_c (by decide +kernel) (rfl)
set_option maxRecDepth 20000 in
theorem ggX7_readExactly_X2_bytesIn : GoodIn wsX7_readExactly wsX2_bytesIn := goodIn_sub (fun _ h => List.mem_cons_of_mem _ (List.mem_append_right _ (h))) gX2_bytesIn_all
set_option maxRecDepth 20000 in
theorem gX7_readExactly_X2_bytesIn : GoodIn wsX7_readExactly (va_wsS RX7 56 yX2_bytesIn wsX2_bytesIn) := goodIn_app (goodIn_r _ [23, 24, 17] rfl (by decide +kernel)) ggX7_readExactly_X2_bytesIn
set_option maxRecDepth 100000 in
theorem dA156_cX7_readExactly : kDec cX7_readExactly [(49, .iload 5, 2), (51, .putfield 24, 3), (54, .iconst 0, 1), (55, .ireturn, 1)] = true := by decide +kernel
theorem dX7_readExactly_49 : decode cX7_readExactly 49 = .ok (.iload 5, 2) := kDec_at dA156_cX7_readExactly 0 rfl
theorem dX7_readExactly_51 : decode cX7_readExactly 51 = .ok (.putfield 24, 3) := kDec_at dA156_cX7_readExactly 1 rfl
theorem dX7_readExactly_54 : decode cX7_readExactly 54 = .ok (.iconst 0, 1) := kDec_at dA156_cX7_readExactly 2 rfl
theorem dX7_readExactly_55 : decode cX7_readExactly 55 = .ok (.ireturn, 1) := kDec_at dA156_cX7_readExactly 3 rfl

end

/-! 59c.dec -/
section
set_option maxHeartbeats 40000000 in
set_option maxRecDepth 100000 in
theorem f_X2_decode (l : Launch) (dC : Nat → ClassId) (dI : Nat → Nat → Nat) (cI cS : ClassId) (sz : Nat) (oC : Nat) (nu : Nat) (o4 : Nat) (o5 : Nat) (a41 : Nat) (a42 : Nat) (a43 : Nat) (a51 : Nat) (a52 : Nat) (a53 : Nat) (au : Nat) (cap : Nat) (l4 : Int32) (f41 : Nat → Int32) (l5 : Int32) (f51 : Nat → Int32) (lu : Int32) (fu : Nat → Int32) (cd : Int32) (fr : Int32) (en : Int32) (g_lu : 0 ≤ lu.toInt ∧ lu.toInt ≤ (cap : Int)) (hcap : cap ≤ 2400) (hen : en.toInt ≤ lu.toInt) (hfr : 0 ≤ fr.toInt) (hby : prg en.toInt 0 255 fu) (hL4 : prg 256 (-1) 65535 f41) (hL5 : prg 256 (-1) 65535 f51) : kMi l yX2_decode wsX2_decode ({ frames := 2, cells := 0, slots := 0, locals := 48 } : Room) [.ref oC, .int cd, .ref nu, .int fr, .int en] sz (dC, dI) vwCl [(cI, .int), (cS, .short)] [(oC, .inr (2, [.ref o4, .ref o5])), (o4, .inr (10, [.ref a41, .ref a42, .ref a43, .int l4])), (a41, .inl (cI, 256, .inl f41)), (o5, .inr (10, [.ref a51, .ref a52, .ref a53, .int l5])), (a51, .inl (cI, 256, .inl f51)), (nu, .inr (5, [.ref au, .int lu])), (au, .inl (cI, cap, .inl fu))] (va_Nw (.methodLinkNest RX2 52 yX11_isLetter "TextMender")) 0 0 (fun (A : Nat → Prop) (r : Int32) (hh9 : Heap) => ∀ PZ9 : Prop, (kPD (dC, dI) vwCl A [(oC, .inr (2, [.ref o4, .ref o5])), (o4, .inr (10, [.ref a41, .ref a42, .ref a43, .int l4])), (a41, .inl (cI, 256, .inl f41)), (o5, .inr (10, [.ref a51, .ref a52, .ref a53, .int l5])), (a51, .inl (cI, 256, .inl f51)), (nu, .inr (5, [.ref au, .int lu])), (au, .inl (cI, cap, .inl fu))] hh9 → (F_dc r cd f41 f51 fu en.toInt fr.toNatClampNeg) → PZ9) → PZ9) := by
  refine kMi_of (cc := cX2_decode) (maxL := 7) (ret := (some .int)) (lv := [(0, .ref oC), (1, .int cd), (2, .ref nu), (3, .int fr), (4, .int en)]) (by decide +kernel) rfl rfl (Nat.le_of_ble_eq_true rfl) ?_
  intro p e s m below meth c A QQ ls hx hb hr hts hml hown hlocks hA hQQ hK hX hP hD hS hl
  have hown : s.vm.findClass RX2 = some m.cls := hown
  have hcf := k_cf hx hb hml hown hts
  have hN52 := hX
  have c0 := v_clamp (x := fr) (by omega)
  have z0 : (0 : Int32).toInt = 0 := rfl
  have z1 : (1 : Int32).toInt = 1 := rfl
  have z2 : (2 : Int32).toInt = 2 := rfl
  have z3 : (3 : Int32).toInt = 3 := rfl
  refine lv_aload_n hx hb dX2_decode_0 rfl (lv_at hl 2 rfl) ?_
  refine lv_iload_n hx hb dX2_decode_1 rfl (lv_at hl 3 rfl) ?_
  refine kV_i (rest := []) (q0 := 0) (ci := 5) hcf (m_X5_get l dC dI cI cS s.heap.size nu au cap lu fu fr (g_lu) (by omega)) kc_X5_get gX2_decode_X5_get rfl rfl rfl ⟨Nat.le_of_ble_eq_true rfl, Nat.le_of_ble_eq_true rfl⟩ kX_t hK hP hD hS hA (posT mk_0 0) (posF mk_0 0) (kC_of mk_0 rfl rfl) (by decide +kernel) rfl rfl rfl hl rfl (Nat.le_of_ble_eq_true rfl) dX2_decode_2 ⟨Nat.le_of_ble_eq_true rfl, Nat.le_of_ble_eq_true rfl⟩ (fun r_1 H locs hB hJ hSn => ?_)
  refine hB _ (fun hPD9 hf1_0 => ?_)
  clear hB
  obtain ⟨hPn, hDn⟩ := kJi (m := mk_0) hJ rfl hPD9.1 hPD9.2 (wn := [(oC, .inr (2, [.ref o4, .ref o5])), (o4, .inr (10, [.ref a41, .ref a42, .ref a43, .int l4])), (a41, .inl (cI, 256, .inl f41)), (o5, .inr (10, [.ref a51, .ref a52, .ref a53, .int l5])), (a51, .inl (cI, 256, .inl f51)), (nu, .inr (5, [.ref au, .int lu])), (au, .inl (cI, cap, .inl fu))]) rfl
  clear hP hD hS hJ hPD9
  have hP := hPn
  have hD := hDn
  have hS := hSn
  clear hPn hDn hSn
  refine lv_istore (lv' := [(5, .int r_1), (0, .ref oC), (1, .int cd), (2, .ref nu), (3, .int fr), (4, .int en)]) hx hb dX2_decode_5 hl (by decide) rfl (fun ls hl => ?_)
  refine lv_iload hx hb dX2_decode_7 (lv_at hl 0 rfl) ?_
  refine lv_iconst (v := (-1)) hx hb dX2_decode_9 (by decide) ?_
  refine lv_icmp_eq (tgt := 19) hx hb dX2_decode_10 (by decide) (fun c_2 => ?_) (fun c_2 => ?_)
  · have tc_2 : r_1.toInt = (-1) := v_eq c_2
    refine lv_iconst (v := (-1)) hx hb dX2_decode_19 (by decide) ?_
    exact kl_i (v := (-1)) hQQ hx hb hr hlocks hS dX2_decode_20 (fun PZ9 kZ9 => kZ9 (⟨hP, hD⟩) (Or.inr ⟨rfl, dc_first hf1_0 hfr hen hby (Or.inl c_2)⟩))
  · have tc_2 : ¬ r_1.toInt = (-1) := v_ne c_2
    refine lv_iload_n hx hb dX2_decode_13 rfl (lv_at hl 4 rfl) ?_
    refine lv_iload hx hb dX2_decode_14 (lv_at hl 5 rfl) ?_
    refine lv_icmp_lt (tgt := 21) hx hb dX2_decode_16 (by decide) (fun c_3 => ?_) (fun c_3 => ?_)
    · have tc_3 : fr.toInt < en.toInt := v_lt c_3
      have rw3_0 := v_rng fr
      have hq1 : r_1 = fu fr.toNatClampNeg := F_get_f hf1_0 (by omega) (by omega)
      have hr1 : -1 ≤ r_1.toInt ∧ r_1.toInt ≤ 255 := by rw [get_bt (n := en.toInt) (k := fr.toNatClampNeg) hf1_0 (by omega) (by omega) hen]; exact bt_r hby _
      refine lv_aload_n hx hb dX2_decode_21 rfl (lv_at hl 1 rfl) ?_
      refine lv_iload_n hx hb dX2_decode_22 rfl (lv_at hl 2 rfl) ?_
      refine lv_iload hx hb dX2_decode_23 (lv_at hl 0 rfl) ?_
      refine kV_i (rest := []) (q0 := 0) (ci := 2) hcf (f_X2_letterAlone l dC dI cI cS H.size oC o4 o5 a41 a42 a43 a51 a52 a53 l4 f41 l5 f51 cd r_1 (by omega)) kc_X2_letterAlone gX2_decode_X2_letterAlone rfl rfl rfl ⟨Nat.le_of_ble_eq_true rfl, Nat.le_of_ble_eq_true rfl⟩ kX_t hK hP hD hS hA (posT mk_1 0) (posF mk_1 0) (kC_of mk_1 rfl rfl) (by decide +kernel) rfl rfl rfl hl rfl (Nat.le_of_ble_eq_true rfl) dX2_decode_25 ⟨Nat.le_of_ble_eq_true rfl, Nat.le_of_ble_eq_true rfl⟩ (fun r_4 H locs hB hJ hSn => ?_)
      refine hB _ (fun hPD9 hf4_0 => ?_)
      clear hB
      obtain ⟨hPn, hDn⟩ := kJi (m := mk_1) hJ rfl hPD9.1 hPD9.2 (wn := [(oC, .inr (2, [.ref o4, .ref o5])), (o4, .inr (10, [.ref a41, .ref a42, .ref a43, .int l4])), (a41, .inl (cI, 256, .inl f41)), (o5, .inr (10, [.ref a51, .ref a52, .ref a53, .int l5])), (a51, .inl (cI, 256, .inl f51)), (nu, .inr (5, [.ref au, .int lu])), (au, .inl (cI, cap, .inl fu))]) rfl
      clear hP hD hS hJ hPD9
      have hP := hPn
      have hD := hDn
      have hS := hSn
      clear hPn hDn hSn
      refine lv_istore (lv' := [(6, .int r_4), (5, .int r_1), (0, .ref oC), (1, .int cd), (2, .ref nu), (3, .int fr), (4, .int en)]) hx hb dX2_decode_28 hl (by decide) rfl (fun ls hl => ?_)
      refine lv_iload hx hb dX2_decode_30 (lv_at hl 0 rfl) ?_
      refine lv_iconst (v := (-1)) hx hb dX2_decode_32 (by decide) ?_
      refine lv_icmp_eq (tgt := 43) hx hb dX2_decode_33 (by decide) (fun c_5 => ?_) (fun c_5 => ?_)
      · have tc_5 : r_4.toInt = (-1) := v_eq c_5
        refine lv_iload_n hx hb dX2_decode_43 rfl (lv_at hl 3 rfl) ?_
        refine lv_iconst (v := 2) hx hb dX2_decode_44 (by decide) ?_
        refine lv_icmp_ne (tgt := 56) hx hb dX2_decode_45 (by decide) (fun c_6 => ?_) (fun c_6 => ?_)
        · have tc_6 : ¬ cd.toInt = 2 := v_ne c_6
          refine lv_iload_n hx hb dX2_decode_56 rfl (lv_at hl 3 rfl) ?_
          refine lv_iconst (v := 3) hx hb dX2_decode_57 (by decide) ?_
          refine lv_icmp_ne (tgt := 71) hx hb dX2_decode_58 (by decide) (fun c_7 => ?_) (fun c_7 => ?_)
          · have tc_7 : ¬ cd.toInt = 3 := v_ne c_7
            refine lv_iconst (v := (-1)) hx hb dX2_decode_71 (by decide) ?_
            exact kl_i (v := (-1)) hQQ hx hb hr hlocks hS dX2_decode_72 (fun PZ9 kZ9 => kZ9 (⟨hP, hD⟩) (Or.inr ⟨rfl, Dec_no (by rw [← hq1]; exact hf4_0.symm.trans c_5) (fun e9 => by omega) (fun e9 => by omega)⟩))
          · have tc_7 : cd.toInt = 3 := v_eq c_7
            refine lv_aload_n hx hb dX2_decode_61 rfl (lv_at hl 4 rfl) ?_
            refine lv_iload_n hx hb dX2_decode_62 rfl (lv_at hl 5 rfl) ?_
            refine lv_iload hx hb dX2_decode_63 (lv_at hl 6 rfl) ?_
            refine kS_i (rest := []) hcf (f_X2_decodeNumber l dC dI cI cS H.size nu au cap lu fu fr en (g_lu) (by omega) (by omega) (by omega) (by omega)) kc_X2_decodeNumber gX2_decode_X2_decodeNumber rfl rfl ⟨Nat.le_of_ble_eq_true rfl, Nat.le_of_ble_eq_true rfl⟩ (kX_1 hN52) hK hP hD hS hA (posT mk_0 0) (posF mk_0 0) (kC_of mk_0 rfl rfl) (by decide +kernel) rfl hl rfl (Nat.le_of_ble_eq_true rfl) dX2_decode_65 ⟨Nat.le_of_ble_eq_true rfl, Nat.le_of_ble_eq_true rfl⟩ (fun r_8 H locs hB hJ hSn => ?_)
            refine hB _ (fun hPD9 hf8_0 => ?_)
            clear hB
            obtain ⟨hPn, hDn⟩ := kJi (m := mk_0) hJ rfl hPD9.1 hPD9.2 (wn := [(oC, .inr (2, [.ref o4, .ref o5])), (o4, .inr (10, [.ref a41, .ref a42, .ref a43, .int l4])), (a41, .inl (cI, 256, .inl f41)), (o5, .inr (10, [.ref a51, .ref a52, .ref a53, .int l5])), (a51, .inl (cI, 256, .inl f51)), (nu, .inr (5, [.ref au, .int lu])), (au, .inl (cI, cap, .inl fu))]) rfl
            clear hP hD hS hJ hPD9
            have hP := hPn
            have hD := hDn
            have hS := hSn
            clear hPn hDn hSn
            refine lv_goto (tgt := 72) hx hb dX2_decode_68 (by decide) ?_
            exact kl_i (v := r_8) hQQ hx hb hr hlocks hS dX2_decode_72 (fun PZ9 kZ9 => kZ9 (⟨hP, hD⟩) (dc_num hf8_0 (by omega) (by omega) (by rw [← hq1]; exact hf4_0.symm.trans c_5)))
        · have tc_6 : cd.toInt = 2 := v_eq c_6
          refine lv_aload_n hx hb dX2_decode_48 rfl (lv_at hl 4 rfl) ?_
          refine lv_iload_n hx hb dX2_decode_49 rfl (lv_at hl 5 rfl) ?_
          refine lv_iload hx hb dX2_decode_50 (lv_at hl 6 rfl) ?_
          refine kS_i (rest := []) hcf (f_X2_decodeMany l dC dI cI cS H.size nu au cap lu fu fr en (g_lu) (by omega) (by omega) (by omega) (by omega)) kc_X2_decodeMany gX2_decode_X2_decodeMany rfl rfl ⟨Nat.le_of_ble_eq_true rfl, Nat.le_of_ble_eq_true rfl⟩ (kX_1 hN52) hK hP hD hS hA (posT mk_0 0) (posF mk_0 0) (kC_of mk_0 rfl rfl) (by decide +kernel) rfl hl rfl (Nat.le_of_ble_eq_true rfl) dX2_decode_52 ⟨Nat.le_of_ble_eq_true rfl, Nat.le_of_ble_eq_true rfl⟩ (fun r_9 H locs hB hJ hSn => ?_)
          refine hB _ (fun hPD9 hf9_0 => ?_)
          clear hB
          obtain ⟨hPn, hDn⟩ := kJi (m := mk_0) hJ rfl hPD9.1 hPD9.2 (wn := [(oC, .inr (2, [.ref o4, .ref o5])), (o4, .inr (10, [.ref a41, .ref a42, .ref a43, .int l4])), (a41, .inl (cI, 256, .inl f41)), (o5, .inr (10, [.ref a51, .ref a52, .ref a53, .int l5])), (a51, .inl (cI, 256, .inl f51)), (nu, .inr (5, [.ref au, .int lu])), (au, .inl (cI, cap, .inl fu))]) rfl
          clear hP hD hS hJ hPD9
          have hP := hPn
          have hD := hDn
          have hS := hSn
          clear hPn hDn hSn
          exact kl_i (v := r_9) hQQ hx hb hr hlocks hS dX2_decode_55 (fun PZ9 kZ9 => kZ9 (⟨hP, hD⟩) (dc_many hf9_0 (by omega) (by omega) (by rw [← hq1]; exact hf4_0.symm.trans c_5)))
      · have tc_5 : ¬ r_4.toInt = (-1) := v_ne c_5
        have hr4 : -1 ≤ r_4.toInt ∧ r_4.toInt ≤ 65535 := by rw [hf4_0]; exact alF_r hL4 hL5 (by omega) (by omega)
        refine lv_iload hx hb dX2_decode_36 (lv_at hl 0 rfl) ?_
        refine lv_iconst (v := 1) hx hb dX2_decode_38 (by decide) ?_
        refine kS_i (rest := []) hcf (f_X2_found l dC dI cI cS H.size r_4 1 (by omega) (by decide)) kc_X2_found gX2_decode_X2_found rfl rfl ⟨Nat.le_of_ble_eq_true rfl, Nat.le_of_ble_eq_true rfl⟩ kX_t hK hP hD hS hA (posT mk_2 0) (posF mk_2 0) (kC_of mk_2 rfl rfl) (by decide +kernel) rfl hl rfl (Nat.le_of_ble_eq_true rfl) dX2_decode_39 ⟨Nat.le_of_ble_eq_true rfl, Nat.le_of_ble_eq_true rfl⟩ (fun r_10 H locs hB hJ hSn => ?_)
        refine hB _ (fun hPD9 hf10_0 => ?_)
        clear hB
        obtain ⟨hPn, hDn⟩ := kJi (m := mk_2) hJ rfl hPD9.1 hPD9.2 (wn := [(oC, .inr (2, [.ref o4, .ref o5])), (o4, .inr (10, [.ref a41, .ref a42, .ref a43, .int l4])), (a41, .inl (cI, 256, .inl f41)), (o5, .inr (10, [.ref a51, .ref a52, .ref a53, .int l5])), (a51, .inl (cI, 256, .inl f51)), (nu, .inr (5, [.ref au, .int lu])), (au, .inl (cI, cap, .inl fu))]) rfl
        clear hP hD hS hJ hPD9
        have hP := hPn
        have hD := hDn
        have hS := hSn
        clear hPn hDn hSn
        exact kl_i (v := r_10) hQQ hx hb hr hlocks hS dX2_decode_42 (fun PZ9 kZ9 => kZ9 (⟨hP, hD⟩) (Or.inl ⟨1, r_4, ⟨by omega, Or.inl ⟨rfl, by rw [← hq1]; exact hf4_0.symm, c_5⟩⟩, by omega, by omega, by omega⟩))
    · have tc_3 : en.toInt ≤ fr.toInt := v_nlt c_3
      have rw3_0 := v_rng fr
      refine lv_iconst (v := (-1)) hx hb dX2_decode_19 (by decide) ?_
      exact kl_i (v := (-1)) hQQ hx hb hr hlocks hS dX2_decode_20 (fun PZ9 kZ9 => kZ9 (⟨hP, hD⟩) (Or.inr ⟨rfl, dc_first hf1_0 hfr hen hby (Or.inr (by omega))⟩))

set_option maxHeartbeats 40000000 in
set_option maxRecDepth 100000 in
theorem f_X7_readExactly (l : Launch) (dC : Nat → ClassId) (dI : Nat → Nat → Nat) (cI cS : ClassId) (sz : Nat) (oP : Nat) (nz : Nat) (nd : Nat) (oC : Nat) (nB : Nat) (az : Nat) (ad : Nat) (o4 : Nat) (o5 : Nat) (a41 : Nat) (a42 : Nat) (a43 : Nat) (a51 : Nat) (a52 : Nat) (a53 : Nat) (cz : Nat) (ft : Int32) (lz : Int32) (fz : Nat → Int32) (ld : Int32) (fd : Nat → Int32) (l4 : Int32) (f41 : Nat → Int32) (l5 : Int32) (f51 : Nat → Int32) (cd : Int32) (g_lz : 0 ≤ lz.toInt ∧ lz.toInt ≤ (cz : Int)) (g_ld : 0 ≤ ld.toInt ∧ ld.toInt ≤ 300) (hcz : cz ≤ 2400) (hby : prg lz.toInt 0 255 fz) (hL4 : prg 256 (-1) 65535 f41) (hL5 : prg 256 (-1) 65535 f51) : kMi l yX7_readExactly wsX7_readExactly ({ frames := 3, cells := 0, slots := 0, locals := 74 } : Room) [.ref oP, .int cd, .ref nz, .ref nd] sz (dC, dI) vwCl [(cI, .int), (cS, .short)] [(oP, .inr (7, [.ref oC, .ref nB, .int ft])), (nz, .inr (5, [.ref az, .int lz])), (az, .inl (cI, cz, .inl fz)), (nd, .inr (5, [.ref ad, .int ld])), (ad, .inl (cI, 300, .inl fd)), (oC, .inr (2, [.ref o4, .ref o5])), (o4, .inr (10, [.ref a41, .ref a42, .ref a43, .int l4])), (a41, .inl (cI, 256, .inl f41)), (o5, .inr (10, [.ref a51, .ref a52, .ref a53, .int l5])), (a51, .inl (cI, 256, .inl f51))] (va_Nw (.methodLinkNest RX2 52 yX11_isLetter "TextMender")) 0 0 (fun (A : Nat → Prop) (r : Int32) (hh9 : Heap) => ∀ PZ9 : Prop, (∀ (ft' : Int32) (ld' : Int32) (fd' : Nat → Int32), kPD (dC, dI) vwCl A [(oP, .inr (7, [.ref oC, .ref nB, .int ft'])), (nz, .inr (5, [.ref az, .int lz])), (az, .inl (cI, cz, .inl fz)), (nd, .inr (5, [.ref ad, .int ld'])), (ad, .inl (cI, 300, .inl fd')), (oC, .inr (2, [.ref o4, .ref o5])), (o4, .inr (10, [.ref a41, .ref a42, .ref a43, .int l4])), (a41, .inl (cI, 256, .inl f41)), (o5, .inr (10, [.ref a51, .ref a52, .ref a53, .int l5])), (a51, .inl (cI, 256, .inl f51))] hh9 → (0 ≤ ld'.toInt ∧ ld'.toInt ≤ 300) → (0 ≤ r.toInt ∧ r.toInt ≤ 1) → (F_rx r ft' ld' fd' (dl cd f41 f51 fz lz.toInt) (dx cd f41 f51 fz lz.toInt) lz.toInt) → PZ9) → PZ9) := by
  refine kMi_of (cc := cX7_readExactly) (maxL := 7) (ret := (some .boolean)) (lv := [(0, .ref oP), (1, .int cd), (2, .ref nz), (3, .ref nd)]) (by decide +kernel) rfl rfl (Nat.le_of_ble_eq_true rfl) ?_
  intro p e s m below meth c A QQ ls hx hb hr hts hml hown hlocks hA hQQ hK hX hP hD hS hl
  have hown : s.vm.findClass RX7 = some m.cls := hown
  have hcf := k_cf hx hb hml hown hts
  have hN52 := hX
  have in_X7 : ∀ w ∈ wsX70, w ∈ wsX7_readExactly := fun _ h => List.mem_cons_of_mem _ (List.mem_append_left _ (List.mem_append_left _ (List.mem_append_left _ (List.mem_append_left _ (List.mem_append_left _ (List.mem_append_left _ (List.mem_append_left _ (List.mem_append_left _ (List.mem_append_left _ (List.mem_append_right _ (h)))))))))))
  refine lv_aload_n hx hb dX7_readExactly_0 rfl (lv_at hl 0 rfl) ?_
  refine lv_iconst (v := (-1)) hx hb dX7_readExactly_1 (by decide) ?_
  refine va_put (D := (dC, dI)) (ci := 7) (v := .int (-1)) (ty := .int) (C := RX7) (T := TX7) (N := 3) hx hb hts in_X7 tyX7 tyX7_ok nmX7 hown hK hP hD hS 0 rfl rfl 2 (Nat.le_of_ble_eq_true rfl) (hts (.fieldLink RX7 24 "TextMender$Passage" "fault" "I") (List.mem_of_getElem? (i := 1) rfl)) (fun _ h9 => h9) rfl (tyX7_ok 2 (Nat.le_of_ble_eq_true rfl)) rfl rfl (Nat.le_of_ble_eq_true rfl) dX7_readExactly_2 (kW (wn := [(oP, .inr (7, [.ref oC, .ref nB, .int (-1)])), (nz, .inr (5, [.ref az, .int lz])), (az, .inl (cI, cz, .inl fz)), (nd, .inr (5, [.ref ad, .int ld])), (ad, .inl (cI, 300, .inl fd)), (oC, .inr (2, [.ref o4, .ref o5])), (o4, .inr (10, [.ref a41, .ref a42, .ref a43, .int l4])), (a41, .inl (cI, 256, .inl f41)), (o5, .inr (10, [.ref a51, .ref a52, .ref a53, .int l5])), (a51, .inl (cI, 256, .inl f51))]) rfl (fun H locs hPn hDn hSn => ?_))
  clear hP hD hS
  have hP := hPn
  have hD := hDn
  have hS := hSn
  clear hPn hDn hSn
  refine lv_aload_n hx hb dX7_readExactly_5 rfl (lv_at hl 3 rfl) ?_
  refine lv_iconst (v := 0) hx hb dX7_readExactly_6 (by decide) ?_
  refine kV_v (rest := []) (q0 := 0) (ci := 5) hcf (m_X5_cut l dC dI cI cS H.size nd ad ld 0 (v_rr g_ld (by decide) (by decide))) kc_X5_cut gX7_readExactly_X5_cut rfl rfl rfl ⟨Nat.le_of_ble_eq_true rfl, Nat.le_of_ble_eq_true rfl⟩ kX_t hK hP hD hS hA (posT mk_12 0) (posF mk_12 0) (kC_of mk_12 rfl rfl) (by decide +kernel) rfl rfl rfl hl rfl (Nat.le_of_ble_eq_true rfl) dX7_readExactly_7 ⟨Nat.le_of_ble_eq_true rfl, Nat.le_of_ble_eq_true rfl⟩ (fun H locs hB hJ hSn => ?_)
  refine hB _ (fun lu_1 hPD9 hf1_0 hf1_1 hf1_2 => ?_)
  clear hB
  obtain ⟨hPn, hDn⟩ := kJi (m := mk_12) hJ rfl hPD9.1 hPD9.2 (wn := [(oP, .inr (7, [.ref oC, .ref nB, .int (-1)])), (nz, .inr (5, [.ref az, .int lz])), (az, .inl (cI, cz, .inl fz)), (nd, .inr (5, [.ref ad, .int lu_1])), (ad, .inl (cI, 300, .inl fd)), (oC, .inr (2, [.ref o4, .ref o5])), (o4, .inr (10, [.ref a41, .ref a42, .ref a43, .int l4])), (a41, .inl (cI, 256, .inl f41)), (o5, .inr (10, [.ref a51, .ref a52, .ref a53, .int l5])), (a51, .inl (cI, 256, .inl f51))]) rfl
  clear hP hD hS hJ hPD9
  have hP := hPn
  have hD := hDn
  have hS := hSn
  clear hPn hDn hSn
  have ha1 : lu_1.toInt = 0 := F_cut_l hf1_2 (by first | decide | omega) (by first | omega | (show (0 : Int) ≤ _; omega))
  refine lv_iconst (v := 1) hx hb dX7_readExactly_10 (by decide) ?_
  refine lv_istore (lv' := [(4, .int 1), (0, .ref oP), (1, .int cd), (2, .ref nz), (3, .ref nd)]) hx hb dX7_readExactly_11 hl (by decide) rfl (fun ls hl => ?_)
  refine lv_iconst (v := 0) hx hb dX7_readExactly_13 (by decide) ?_
  refine lv_istore (lv' := [(5, .int 0), (4, .int 1), (0, .ref oP), (1, .int cd), (2, .ref nz), (3, .ref nd)]) hx hb dX7_readExactly_14 hl (by decide) rfl (fun ls hl => ?_)
  have LOOP_16 : ∀ (k_16 : Nat) (fi : Int32) (p_ : Int32) (l2 : Int32) (f2 : Nat → Int32) (H : Heap) (locs : List Loc) (ls : Array Slot), MSd (lz.toInt - p_.toInt : Int) k_16 → (0 ≤ fi.toInt ∧ fi.toInt ≤ 1) → (0 ≤ p_.toInt ∧ p_.toInt ≤ lz.toInt) → (0 ≤ l2.toInt ∧ l2.toInt ≤ 300) → (RX p_ fi l2 f2 (dl cd f41 f51 fz lz.toInt) (dx cd f41 f51 fz lz.toInt)) → va_P (dC, dI) vwCl [(oP, .inr (7, [.ref oC, .ref nB, .int (-1)])), (nz, .inr (5, [.ref az, .int lz])), (az, .inl (cI, cz, .inl fz)), (nd, .inr (5, [.ref ad, .int l2])), (ad, .inl (cI, 300, .inl f2)), (oC, .inr (2, [.ref o4, .ref o5])), (o4, .inr (10, [.ref a41, .ref a42, .ref a43, .int l4])), (a41, .inl (cI, 256, .inl f41)), (o5, .inr (10, [.ref a51, .ref a52, .ref a53, .int l5])), (a51, .inl (cI, 256, .inl f51))] H → va_D A [(oP, .inr (7, [.ref oC, .ref nB, .int (-1)])), (nz, .inr (5, [.ref az, .int lz])), (az, .inl (cI, cz, .inl fz)), (nd, .inr (5, [.ref ad, .int l2])), (ad, .inl (cI, 300, .inl f2)), (oC, .inr (2, [.ref o4, .ref o5])), (o4, .inr (10, [.ref a41, .ref a42, .ref a43, .int l4])), (a41, .inl (cI, 256, .inl f41)), (o5, .inr (10, [.ref a51, .ref a52, .ref a53, .int l5])), (a51, .inl (cI, 256, .inl f51))] → va_S A s.heap H locs → lv_has ls 7 [(5, .int p_), (4, .int fi), (0, .ref oP), (1, .int cd), (2, .ref nz), (3, .ref nd)] → W p l e (headSpec wsX7_readExactly ({ frames := 3, cells := 0, slots := 0, locals := 74 } : Room)).room s m ([.ref oP, .int cd, .ref nz, .ref nd] : List Value).toArray below meth c H locs 0 0 (MQ below QQ ([.ref oP, .int cd, .ref nz, .ref nd] : List Value).toArray s 0 0 A) (F0 m 16 ls []) := by
    clear hP hD hS hl
    try (clear ha1 hf1_0 hf1_1 hf1_2 g_ld)
    intro k_16
    induction k_16 with
    | zero =>
      intro fi p_ l2 f2 H locs ls hm_16 g_fi g_p_ g_l2 hrx hP hD hS hl
      exact ms_0 hm_16
    | succ k_16 ih_16 =>
      intro fi p_ l2 f2 H locs ls hm_16 g_fi g_p_ g_l2 hrx hP hD hS hl
      refine lv_iload hx hb dX7_readExactly_16 (lv_at hl 0 rfl) ?_
      refine lv_aload_n hx hb dX7_readExactly_18 rfl (lv_at hl 4 rfl) ?_
      refine kV_i (rest := [.int p_]) (q0 := 0) (ci := 5) hcf (m_X5_length l dC dI cI cS H.size nz az lz ) kc_X5_length gX7_readExactly_X5_length rfl rfl rfl ⟨Nat.le_of_ble_eq_true rfl, Nat.le_of_ble_eq_true rfl⟩ kX_t hK hP hD hS hA (posT mk_13 0) (posF mk_13 0) (kC_of mk_13 rfl rfl) (by decide +kernel) rfl rfl rfl hl rfl (Nat.le_of_ble_eq_true rfl) dX7_readExactly_19 ⟨Nat.le_of_ble_eq_true rfl, Nat.le_of_ble_eq_true rfl⟩ (fun r_2 H locs hB hJ hSn => ?_)
      refine hB _ (fun hPD9 hf2_0 => ?_)
      clear hB
      obtain ⟨hPn, hDn⟩ := kJi (m := mk_13) hJ rfl hPD9.1 hPD9.2 (wn := [(oP, .inr (7, [.ref oC, .ref nB, .int (-1)])), (nz, .inr (5, [.ref az, .int lz])), (az, .inl (cI, cz, .inl fz)), (nd, .inr (5, [.ref ad, .int l2])), (ad, .inl (cI, 300, .inl f2)), (oC, .inr (2, [.ref o4, .ref o5])), (o4, .inr (10, [.ref a41, .ref a42, .ref a43, .int l4])), (a41, .inl (cI, 256, .inl f41)), (o5, .inr (10, [.ref a51, .ref a52, .ref a53, .int l5])), (a51, .inl (cI, 256, .inl f51))]) rfl
      clear hP hD hS hJ hPD9
      have hP := hPn
      have hD := hDn
      have hS := hSn
      clear hPn hDn hSn
      rw [hf2_0]
      refine lv_icmp_ge (tgt := 97) hx hb dX7_readExactly_22 (by decide) (fun c_3 => ?_) (fun c_3 => ?_)
      · have tc_3 : lz.toInt ≤ p_.toInt := v_le c_3
        refine lv_iload hx hb dX7_readExactly_97 (lv_at hl 1 rfl) ?_
        exact kl_z (v := fi) hQQ hx hb hr hlocks hS dX7_readExactly_99 (v_bool (by omega)) (fun PZ9 kZ9 => kZ9 (-1) l2 f2 (⟨hP, hD⟩) (g_l2) (g_fi) (RX_end hrx (by omega)))
      · have tc_3 : p_.toInt < lz.toInt := v_nle c_3
        refine lv_aload_n hx hb dX7_readExactly_25 rfl (lv_at hl 2 rfl) ?_
        refine va_get (D := (dC, dI)) (ci := 7) (v := .ref oC) (C := RX7) (T := TX7) (N := 3) hx hb hts in_X7 hown hK hP 0 rfl rfl 0 (Nat.le_of_ble_eq_true rfl) (hts (.fieldLink RX7 20 "TextMender$Passage" "codes" "LTextMender$Codes;") (List.mem_of_getElem? (i := 2) rfl)) (fun _ h9 => h9) rfl dX7_readExactly_26 ?_
        refine lv_iload_n hx hb dX7_readExactly_29 rfl (lv_at hl 3 rfl) ?_
        refine lv_aload_n hx hb dX7_readExactly_30 rfl (lv_at hl 4 rfl) ?_
        refine lv_iload hx hb dX7_readExactly_31 (lv_at hl 0 rfl) ?_
        refine lv_aload_n hx hb dX7_readExactly_33 rfl (lv_at hl 4 rfl) ?_
        refine kV_i (rest := [.int p_, .ref nz, .int cd, .ref oC]) (q0 := 0) (ci := 5) hcf (m_X5_length l dC dI cI cS H.size nz az lz ) kc_X5_length gX7_readExactly_X5_length rfl rfl rfl ⟨Nat.le_of_ble_eq_true rfl, Nat.le_of_ble_eq_true rfl⟩ kX_t hK hP hD hS hA (posT mk_13 0) (posF mk_13 0) (kC_of mk_13 rfl rfl) (by decide +kernel) rfl rfl rfl hl rfl (Nat.le_of_ble_eq_true rfl) dX7_readExactly_34 ⟨Nat.le_of_ble_eq_true rfl, Nat.le_of_ble_eq_true rfl⟩ (fun r_4 H locs hB hJ hSn => ?_)
        refine hB _ (fun hPD9 hf4_0 => ?_)
        clear hB
        obtain ⟨hPn, hDn⟩ := kJi (m := mk_13) hJ rfl hPD9.1 hPD9.2 (wn := [(oP, .inr (7, [.ref oC, .ref nB, .int (-1)])), (nz, .inr (5, [.ref az, .int lz])), (az, .inl (cI, cz, .inl fz)), (nd, .inr (5, [.ref ad, .int l2])), (ad, .inl (cI, 300, .inl f2)), (oC, .inr (2, [.ref o4, .ref o5])), (o4, .inr (10, [.ref a41, .ref a42, .ref a43, .int l4])), (a41, .inl (cI, 256, .inl f41)), (o5, .inr (10, [.ref a51, .ref a52, .ref a53, .int l5])), (a51, .inl (cI, 256, .inl f51))]) rfl
        clear hP hD hS hJ hPD9
        have hP := hPn
        have hD := hDn
        have hS := hSn
        clear hPn hDn hSn
        rw [hf4_0]
        refine kV_i (rest := []) (q0 := 0) (ci := 2) hcf (f_X2_decode l dC dI cI cS H.size oC nz o4 o5 a41 a42 a43 a51 a52 a53 az cz l4 f41 l5 f51 lz fz cd p_ lz (g_lz) (by omega) (by omega) (by omega) (hby) (hL4) (hL5)) kc_X2_decode gX7_readExactly_X2_decode rfl rfl rfl ⟨Nat.le_of_ble_eq_true rfl, Nat.le_of_ble_eq_true rfl⟩ (kX_1 hN52) hK hP hD hS hA ([2, 3, 4, 5, 6, 0, 1].filterMap (fun j => (posT mk_14 0)[j]?)) (posF mk_14 0) (kCp (ws := [(nz, .inr (5, [.ref az, .int lz])), (az, .inl (cI, cz, .inl fz)), (oC, .inr (2, [.ref o4, .ref o5])), (o4, .inr (10, [.ref a41, .ref a42, .ref a43, .int l4])), (a41, .inl (cI, 256, .inl f41)), (o5, .inr (10, [.ref a51, .ref a52, .ref a53, .int l5])), (a51, .inl (cI, 256, .inl f51))]) (kC_of mk_14 rfl rfl) rfl) (by decide +kernel) rfl rfl rfl hl rfl (Nat.le_of_ble_eq_true rfl) dX7_readExactly_37 ⟨Nat.le_of_ble_eq_true rfl, Nat.le_of_ble_eq_true rfl⟩ (fun r_5 H locs hB hJ hSn => ?_)
        refine hB _ (fun hPD9 hf5_0 => ?_)
        clear hB
        obtain ⟨hPn, hDn⟩ := kJm (m := mk_14) hJ rfl hPD9.1 hPD9.2 [5, 6, 0, 1, 2, 3, 4] (by decide +kernel) (ws := [(nz, .inr (5, [.ref az, .int lz])), (az, .inl (cI, cz, .inl fz)), (oC, .inr (2, [.ref o4, .ref o5])), (o4, .inr (10, [.ref a41, .ref a42, .ref a43, .int l4])), (a41, .inl (cI, 256, .inl f41)), (o5, .inr (10, [.ref a51, .ref a52, .ref a53, .int l5])), (a51, .inl (cI, 256, .inl f51))]) rfl (wn := [(oP, .inr (7, [.ref oC, .ref nB, .int (-1)])), (nz, .inr (5, [.ref az, .int lz])), (az, .inl (cI, cz, .inl fz)), (nd, .inr (5, [.ref ad, .int l2])), (ad, .inl (cI, 300, .inl f2)), (oC, .inr (2, [.ref o4, .ref o5])), (o4, .inr (10, [.ref a41, .ref a42, .ref a43, .int l4])), (a41, .inl (cI, 256, .inl f41)), (o5, .inr (10, [.ref a51, .ref a52, .ref a53, .int l5])), (a51, .inl (cI, 256, .inl f51))]) rfl
        clear hP hD hS hJ hPD9
        have hP := hPn
        have hD := hDn
        have hS := hSn
        clear hPn hDn hSn
        refine lv_istore (lv' := [(6, .int r_5), (5, .int p_), (4, .int fi), (0, .ref oP), (1, .int cd), (2, .ref nz), (3, .ref nd)]) hx hb dX7_readExactly_40 hl (by decide) rfl (fun ls hl => ?_)
        refine lv_iload hx hb dX7_readExactly_42 (lv_at hl 0 rfl) ?_
        refine lv_iconst (v := (-1)) hx hb dX7_readExactly_44 (by decide) ?_
        refine lv_icmp_ne (tgt := 56) hx hb dX7_readExactly_45 (by decide) (fun c_6 => ?_) (fun c_6 => ?_)
        · have tc_6 : ¬ r_5.toInt = (-1) := v_ne c_6
          obtain ⟨l9, x9, hD9, hr9, hx9, hy9⟩ := F_dc_1 hf5_0 c_6
          have cp9 := v_clamp (x := p_) (by omega)
          have hp9 := Dec_pos hD9
          have hd9 := dl_of hD9
          refine lv_aload_n hx hb dX7_readExactly_56 rfl (lv_at hl 6 rfl) ?_
          refine lv_iload hx hb dX7_readExactly_57 (lv_at hl 0 rfl) ?_
          refine kS_i (rest := [.ref nd]) hcf (f_X2_letterIn l dC dI cI cS H.size r_5 ) kc_X2_letterIn gX7_readExactly_X2_letterIn rfl rfl ⟨Nat.le_of_ble_eq_true rfl, Nat.le_of_ble_eq_true rfl⟩ kX_t hK hP hD hS hA (posT mk_15 0) (posF mk_15 0) (kC_of mk_15 rfl rfl) (by decide +kernel) rfl hl rfl (Nat.le_of_ble_eq_true rfl) dX7_readExactly_59 ⟨Nat.le_of_ble_eq_true rfl, Nat.le_of_ble_eq_true rfl⟩ (fun r_7 H locs hB hJ hSn => ?_)
          refine hB _ (fun hPD9 hf7_0 => ?_)
          clear hB
          obtain ⟨hPn, hDn⟩ := kJi (m := mk_15) hJ rfl hPD9.1 hPD9.2 (wn := [(oP, .inr (7, [.ref oC, .ref nB, .int (-1)])), (nz, .inr (5, [.ref az, .int lz])), (az, .inl (cI, cz, .inl fz)), (nd, .inr (5, [.ref ad, .int l2])), (ad, .inl (cI, 300, .inl f2)), (oC, .inr (2, [.ref o4, .ref o5])), (o4, .inr (10, [.ref a41, .ref a42, .ref a43, .int l4])), (a41, .inl (cI, 256, .inl f41)), (o5, .inr (10, [.ref a51, .ref a52, .ref a53, .int l5])), (a51, .inl (cI, 256, .inl f51))]) rfl
          clear hP hD hS hJ hPD9
          have hP := hPn
          have hD := hDn
          have hS := hSn
          clear hPn hDn hSn
          refine kV_i (rest := []) (q0 := 0) (ci := 5) hcf (m_X5_add l dC dI cI cS H.size nd ad 300 l2 f2 r_7 (by omega) (by omega)) kc_X5_add gX7_readExactly_X5_add rfl rfl rfl ⟨Nat.le_of_ble_eq_true rfl, Nat.le_of_ble_eq_true rfl⟩ kX_t hK hP hD hS hA (posT mk_16 0) (posF mk_16 0) (kC_of mk_16 rfl rfl) (by decide +kernel) rfl rfl rfl hl rfl (Nat.le_of_ble_eq_true rfl) dX7_readExactly_62 ⟨Nat.le_of_ble_eq_true rfl, Nat.le_of_ble_eq_true rfl⟩ (fun r_8 H locs hB hJ hSn => ?_)
          refine hB _ (fun lu_8 fu_8 hPD9 hf8_0 hf8_1 hf8_2 => ?_)
          clear hB
          obtain ⟨hPn, hDn⟩ := kJi (m := mk_16) hJ rfl hPD9.1 hPD9.2 (wn := [(oP, .inr (7, [.ref oC, .ref nB, .int (-1)])), (nz, .inr (5, [.ref az, .int lz])), (az, .inl (cI, cz, .inl fz)), (nd, .inr (5, [.ref ad, .int lu_8])), (ad, .inl (cI, 300, .inl fu_8)), (oC, .inr (2, [.ref o4, .ref o5])), (o4, .inr (10, [.ref a41, .ref a42, .ref a43, .int l4])), (a41, .inl (cI, 256, .inl f41)), (o5, .inr (10, [.ref a51, .ref a52, .ref a53, .int l5])), (a51, .inl (cI, 256, .inl f51))]) rfl
          clear hP hD hS hJ hPD9
          have hP := hPn
          have hD := hDn
          have hS := hSn
          clear hPn hDn hSn
          refine lv_if_eq (tgt := 77) hx hb dX7_readExactly_65 (by decide) (fun c_9 => ?_) (fun c_9 => ?_)
          · have tc_9 : r_8.toInt = 0 := v_eq c_9
            refine lv_iconst (v := 0) hx hb dX7_readExactly_77 (by decide) ?_
            refine lv_istore (lv' := [(4, .int 0), (6, .int r_5), (5, .int p_), (0, .ref oP), (1, .int cd), (2, .ref nz), (3, .ref nd)]) hx hb dX7_readExactly_78 hl (by decide) rfl (fun ls hl => ?_)
            refine lv_iload hx hb dX7_readExactly_80 (lv_at hl 2 rfl) ?_
            refine lv_iconst (v := 1) hx hb dX7_readExactly_82 (by decide) ?_
            refine lv_iload hx hb dX7_readExactly_83 (lv_at hl 1 rfl) ?_
            refine kS_i (rest := [.int 1, .int p_]) hcf (f_X2_bytesIn l dC dI cI cS H.size r_5 (by omega)) kc_X2_bytesIn gX7_readExactly_X2_bytesIn rfl rfl ⟨Nat.le_of_ble_eq_true rfl, Nat.le_of_ble_eq_true rfl⟩ kX_t hK hP hD hS hA (posT mk_15 0) (posF mk_15 0) (kC_of mk_15 rfl rfl) (by decide +kernel) rfl hl rfl (Nat.le_of_ble_eq_true rfl) dX7_readExactly_85 ⟨Nat.le_of_ble_eq_true rfl, Nat.le_of_ble_eq_true rfl⟩ (fun r_10 H locs hB hJ hSn => ?_)
            refine hB _ (fun hPD9 hf10_0 hf10_1 => ?_)
            clear hB
            obtain ⟨hPn, hDn⟩ := kJi (m := mk_15) hJ rfl hPD9.1 hPD9.2 (wn := [(oP, .inr (7, [.ref oC, .ref nB, .int (-1)])), (nz, .inr (5, [.ref az, .int lz])), (az, .inl (cI, cz, .inl fz)), (nd, .inr (5, [.ref ad, .int lu_8])), (ad, .inl (cI, 300, .inl fu_8)), (oC, .inr (2, [.ref o4, .ref o5])), (o4, .inr (10, [.ref a41, .ref a42, .ref a43, .int l4])), (a41, .inl (cI, 256, .inl f41)), (o5, .inr (10, [.ref a51, .ref a52, .ref a53, .int l5])), (a51, .inl (cI, 256, .inl f51))]) rfl
            clear hP hD hS hJ hPD9
            have hP := hPn
            have hD := hDn
            have hS := hSn
            clear hPn hDn hSn
            refine va_mmax hx hb (by rw [hml]; exact hl.1.symm) hown (hts (.methodLink RX7 59 Lib.Math.max.name) (List.mem_of_getElem? (i := 3) rfl)) (hts (.static Lib.Math.max.name) (List.mem_of_getElem? (i := 4) rfl)) (hts (.initialized "java/lang/Math") (List.mem_of_getElem? (i := 5) rfl)) (hts (.code Lib.Math.max.name Lib.Math.max.code 2 (some .int)) (List.mem_of_getElem? (i := 6) rfl)) (Nat.le_of_ble_eq_true rfl) (Nat.le_of_ble_eq_true rfl) (Nat.zero_le _) (Nat.zero_le _) dX7_readExactly_88 ?_
            refine lv_topi (fun x_11 ex_11 => ?_)
            have tx_11 : 1 ≤ x_11.toInt ∧ r_10.toInt ≤ x_11.toInt ∧ (x_11.toInt = 1 ∨ x_11.toInt = r_10.toInt) := v_max ex_11
            refine lv_iadd hx hb dX7_readExactly_91 ?_
            refine lv_topi (fun x_12 ex_12 => ?_)
            have tx_12 : x_12.toInt = p_.toInt + x_11.toInt := v_add ex_12 (by show -2147483648 ≤ p_.toInt + x_11.toInt; omega) (by show p_.toInt + x_11.toInt < 2147483648; omega)
            refine lv_istore (lv' := [(5, .int x_12), (4, .int 0), (6, .int r_5), (0, .ref oP), (1, .int cd), (2, .ref nz), (3, .ref nd)]) hx hb dX7_readExactly_92 hl (by decide) rfl (fun ls hl => ?_)
            refine lv_goto (tgt := 16) hx hb dX7_readExactly_94 (by decide) ?_
            exact ih_16 0 x_12 lu_8 fu_8 _ _ _ (ms_lt hm_16 (by show ((lz.toInt - x_12.toInt : Int)) < lz.toInt - p_.toInt; omega) (by show (0 : Int) < lz.toInt - p_.toInt; omega)) (by decide) (by show 0 ≤ x_12.toInt ∧ x_12.toInt ≤ lz.toInt; omega) (by show 0 ≤ lu_8.toInt ∧ lu_8.toInt ≤ 300; omega) (RX_s hrx (by omega) hd9.1 (by rw [hd9.2]; exact v_inj (by omega)) (by omega) hf8_2 (by have e0 : (0 : Int32).toInt = 0 := rfl; have e1 : (1 : Int32).toInt = 1 := rfl; omega) (by omega)) hP hD hS (lv_sub hl [0, 1, 3, 4, 5, 6] rfl)
          · have tc_9 : ¬ r_8.toInt = 0 := v_ne c_9
            refine lv_iload hx hb dX7_readExactly_68 (lv_at hl 2 rfl) ?_
            refine lv_if_eq (tgt := 77) hx hb dX7_readExactly_70 (by decide) (fun c_13 => ?_) (fun c_13 => ?_)
            · have tc_13 : fi.toInt = 0 := v_eq c_13
              refine lv_iconst (v := 0) hx hb dX7_readExactly_77 (by decide) ?_
              refine lv_istore (lv' := [(4, .int 0), (6, .int r_5), (5, .int p_), (0, .ref oP), (1, .int cd), (2, .ref nz), (3, .ref nd)]) hx hb dX7_readExactly_78 hl (by decide) rfl (fun ls hl => ?_)
              refine lv_iload hx hb dX7_readExactly_80 (lv_at hl 2 rfl) ?_
              refine lv_iconst (v := 1) hx hb dX7_readExactly_82 (by decide) ?_
              refine lv_iload hx hb dX7_readExactly_83 (lv_at hl 1 rfl) ?_
              refine kS_i (rest := [.int 1, .int p_]) hcf (f_X2_bytesIn l dC dI cI cS H.size r_5 (by omega)) kc_X2_bytesIn gX7_readExactly_X2_bytesIn rfl rfl ⟨Nat.le_of_ble_eq_true rfl, Nat.le_of_ble_eq_true rfl⟩ kX_t hK hP hD hS hA (posT mk_15 0) (posF mk_15 0) (kC_of mk_15 rfl rfl) (by decide +kernel) rfl hl rfl (Nat.le_of_ble_eq_true rfl) dX7_readExactly_85 ⟨Nat.le_of_ble_eq_true rfl, Nat.le_of_ble_eq_true rfl⟩ (fun r_14 H locs hB hJ hSn => ?_)
              refine hB _ (fun hPD9 hf14_0 hf14_1 => ?_)
              clear hB
              obtain ⟨hPn, hDn⟩ := kJi (m := mk_15) hJ rfl hPD9.1 hPD9.2 (wn := [(oP, .inr (7, [.ref oC, .ref nB, .int (-1)])), (nz, .inr (5, [.ref az, .int lz])), (az, .inl (cI, cz, .inl fz)), (nd, .inr (5, [.ref ad, .int lu_8])), (ad, .inl (cI, 300, .inl fu_8)), (oC, .inr (2, [.ref o4, .ref o5])), (o4, .inr (10, [.ref a41, .ref a42, .ref a43, .int l4])), (a41, .inl (cI, 256, .inl f41)), (o5, .inr (10, [.ref a51, .ref a52, .ref a53, .int l5])), (a51, .inl (cI, 256, .inl f51))]) rfl
              clear hP hD hS hJ hPD9
              have hP := hPn
              have hD := hDn
              have hS := hSn
              clear hPn hDn hSn
              refine va_mmax hx hb (by rw [hml]; exact hl.1.symm) hown (hts (.methodLink RX7 59 Lib.Math.max.name) (List.mem_of_getElem? (i := 3) rfl)) (hts (.static Lib.Math.max.name) (List.mem_of_getElem? (i := 4) rfl)) (hts (.initialized "java/lang/Math") (List.mem_of_getElem? (i := 5) rfl)) (hts (.code Lib.Math.max.name Lib.Math.max.code 2 (some .int)) (List.mem_of_getElem? (i := 6) rfl)) (Nat.le_of_ble_eq_true rfl) (Nat.le_of_ble_eq_true rfl) (Nat.zero_le _) (Nat.zero_le _) dX7_readExactly_88 ?_
              refine lv_topi (fun x_15 ex_15 => ?_)
              have tx_15 : 1 ≤ x_15.toInt ∧ r_14.toInt ≤ x_15.toInt ∧ (x_15.toInt = 1 ∨ x_15.toInt = r_14.toInt) := v_max ex_15
              refine lv_iadd hx hb dX7_readExactly_91 ?_
              refine lv_topi (fun x_16 ex_16 => ?_)
              have tx_16 : x_16.toInt = p_.toInt + x_15.toInt := v_add ex_16 (by show -2147483648 ≤ p_.toInt + x_15.toInt; omega) (by show p_.toInt + x_15.toInt < 2147483648; omega)
              refine lv_istore (lv' := [(5, .int x_16), (4, .int 0), (6, .int r_5), (0, .ref oP), (1, .int cd), (2, .ref nz), (3, .ref nd)]) hx hb dX7_readExactly_92 hl (by decide) rfl (fun ls hl => ?_)
              refine lv_goto (tgt := 16) hx hb dX7_readExactly_94 (by decide) ?_
              exact ih_16 0 x_16 lu_8 fu_8 _ _ _ (ms_lt hm_16 (by show ((lz.toInt - x_16.toInt : Int)) < lz.toInt - p_.toInt; omega) (by show (0 : Int) < lz.toInt - p_.toInt; omega)) (by decide) (by show 0 ≤ x_16.toInt ∧ x_16.toInt ≤ lz.toInt; omega) (by show 0 ≤ lu_8.toInt ∧ lu_8.toInt ≤ 300; omega) (RX_s hrx (by omega) hd9.1 (by rw [hd9.2]; exact v_inj (by omega)) (by omega) hf8_2 (by have e0 : (0 : Int32).toInt = 0 := rfl; have e1 : (1 : Int32).toInt = 1 := rfl; omega) (by omega)) hP hD hS (lv_sub hl [0, 1, 3, 4, 5, 6] rfl)
            · have tc_13 : ¬ fi.toInt = 0 := v_ne c_13
              refine lv_iconst (v := 1) hx hb dX7_readExactly_73 (by decide) ?_
              refine lv_goto (tgt := 78) hx hb dX7_readExactly_74 (by decide) ?_
              refine lv_istore (lv' := [(4, .int 1), (6, .int r_5), (5, .int p_), (0, .ref oP), (1, .int cd), (2, .ref nz), (3, .ref nd)]) hx hb dX7_readExactly_78 hl (by decide) rfl (fun ls hl => ?_)
              refine lv_iload hx hb dX7_readExactly_80 (lv_at hl 2 rfl) ?_
              refine lv_iconst (v := 1) hx hb dX7_readExactly_82 (by decide) ?_
              refine lv_iload hx hb dX7_readExactly_83 (lv_at hl 1 rfl) ?_
              refine kS_i (rest := [.int 1, .int p_]) hcf (f_X2_bytesIn l dC dI cI cS H.size r_5 (by omega)) kc_X2_bytesIn gX7_readExactly_X2_bytesIn rfl rfl ⟨Nat.le_of_ble_eq_true rfl, Nat.le_of_ble_eq_true rfl⟩ kX_t hK hP hD hS hA (posT mk_15 0) (posF mk_15 0) (kC_of mk_15 rfl rfl) (by decide +kernel) rfl hl rfl (Nat.le_of_ble_eq_true rfl) dX7_readExactly_85 ⟨Nat.le_of_ble_eq_true rfl, Nat.le_of_ble_eq_true rfl⟩ (fun r_17 H locs hB hJ hSn => ?_)
              refine hB _ (fun hPD9 hf17_0 hf17_1 => ?_)
              clear hB
              obtain ⟨hPn, hDn⟩ := kJi (m := mk_15) hJ rfl hPD9.1 hPD9.2 (wn := [(oP, .inr (7, [.ref oC, .ref nB, .int (-1)])), (nz, .inr (5, [.ref az, .int lz])), (az, .inl (cI, cz, .inl fz)), (nd, .inr (5, [.ref ad, .int lu_8])), (ad, .inl (cI, 300, .inl fu_8)), (oC, .inr (2, [.ref o4, .ref o5])), (o4, .inr (10, [.ref a41, .ref a42, .ref a43, .int l4])), (a41, .inl (cI, 256, .inl f41)), (o5, .inr (10, [.ref a51, .ref a52, .ref a53, .int l5])), (a51, .inl (cI, 256, .inl f51))]) rfl
              clear hP hD hS hJ hPD9
              have hP := hPn
              have hD := hDn
              have hS := hSn
              clear hPn hDn hSn
              refine va_mmax hx hb (by rw [hml]; exact hl.1.symm) hown (hts (.methodLink RX7 59 Lib.Math.max.name) (List.mem_of_getElem? (i := 3) rfl)) (hts (.static Lib.Math.max.name) (List.mem_of_getElem? (i := 4) rfl)) (hts (.initialized "java/lang/Math") (List.mem_of_getElem? (i := 5) rfl)) (hts (.code Lib.Math.max.name Lib.Math.max.code 2 (some .int)) (List.mem_of_getElem? (i := 6) rfl)) (Nat.le_of_ble_eq_true rfl) (Nat.le_of_ble_eq_true rfl) (Nat.zero_le _) (Nat.zero_le _) dX7_readExactly_88 ?_
              refine lv_topi (fun x_18 ex_18 => ?_)
              have tx_18 : 1 ≤ x_18.toInt ∧ r_17.toInt ≤ x_18.toInt ∧ (x_18.toInt = 1 ∨ x_18.toInt = r_17.toInt) := v_max ex_18
              refine lv_iadd hx hb dX7_readExactly_91 ?_
              refine lv_topi (fun x_19 ex_19 => ?_)
              have tx_19 : x_19.toInt = p_.toInt + x_18.toInt := v_add ex_19 (by show -2147483648 ≤ p_.toInt + x_18.toInt; omega) (by show p_.toInt + x_18.toInt < 2147483648; omega)
              refine lv_istore (lv' := [(5, .int x_19), (4, .int 1), (6, .int r_5), (0, .ref oP), (1, .int cd), (2, .ref nz), (3, .ref nd)]) hx hb dX7_readExactly_92 hl (by decide) rfl (fun ls hl => ?_)
              refine lv_goto (tgt := 16) hx hb dX7_readExactly_94 (by decide) ?_
              exact ih_16 1 x_19 lu_8 fu_8 _ _ _ (ms_lt hm_16 (by show ((lz.toInt - x_19.toInt : Int)) < lz.toInt - p_.toInt; omega) (by show (0 : Int) < lz.toInt - p_.toInt; omega)) (by decide) (by show 0 ≤ x_19.toInt ∧ x_19.toInt ≤ lz.toInt; omega) (by show 0 ≤ lu_8.toInt ∧ lu_8.toInt ≤ 300; omega) (RX_s hrx (by omega) hd9.1 (by rw [hd9.2]; exact v_inj (by omega)) (by omega) hf8_2 (by have e0 : (0 : Int32).toInt = 0 := rfl; have e1 : (1 : Int32).toInt = 1 := rfl; omega) (by omega)) hP hD hS (lv_sub hl [0, 1, 3, 4, 5, 6] rfl)
        · have tc_6 : r_5.toInt = (-1) := v_eq c_6
          refine lv_aload_n hx hb dX7_readExactly_48 rfl (lv_at hl 3 rfl) ?_
          refine lv_iload hx hb dX7_readExactly_49 (lv_at hl 1 rfl) ?_
          refine va_put (D := (dC, dI)) (ci := 7) (v := .int p_) (ty := .int) (C := RX7) (T := TX7) (N := 3) hx hb hts in_X7 tyX7 tyX7_ok nmX7 hown hK hP hD hS 0 rfl rfl 2 (Nat.le_of_ble_eq_true rfl) (hts (.fieldLink RX7 24 "TextMender$Passage" "fault" "I") (List.mem_of_getElem? (i := 1) rfl)) (fun _ h9 => h9) rfl (tyX7_ok 2 (Nat.le_of_ble_eq_true rfl)) rfl rfl (Nat.le_of_ble_eq_true rfl) dX7_readExactly_51 (kW (wn := [(oP, .inr (7, [.ref oC, .ref nB, .int p_])), (nz, .inr (5, [.ref az, .int lz])), (az, .inl (cI, cz, .inl fz)), (nd, .inr (5, [.ref ad, .int l2])), (ad, .inl (cI, 300, .inl f2)), (oC, .inr (2, [.ref o4, .ref o5])), (o4, .inr (10, [.ref a41, .ref a42, .ref a43, .int l4])), (a41, .inl (cI, 256, .inl f41)), (o5, .inr (10, [.ref a51, .ref a52, .ref a53, .int l5])), (a51, .inl (cI, 256, .inl f51))]) rfl (fun H locs hPn hDn hSn => ?_))
          clear hP hD hS
          have hP := hPn
          have hD := hDn
          have hS := hSn
          clear hPn hDn hSn
          refine lv_iconst (v := 0) hx hb dX7_readExactly_54 (by decide) ?_
          exact kl_z (v := 0) hQQ hx hb hr hlocks hS dX7_readExactly_55 (rfl) (fun PZ9 kZ9 => kZ9 p_ l2 f2 (⟨hP, hD⟩) (g_l2) (by decide) (RX_bad hrx (by omega) (F_dc_0 hf5_0 c_6)))
  exact LOOP_16 _ 1 0 lu_1 fd _ _ _ (ms_s _) (by decide) (by show 0 ≤ (0 : Int) ∧ (0 : Int) ≤ lz.toInt; omega) (by show 0 ≤ lu_1.toInt ∧ lu_1.toInt ≤ 300; omega) (RX_0 rfl rfl (by omega)) hP hD hS (lv_sub hl [0, 1, 2, 3, 4, 5] rfl)

end

/-! 59d.a.rows -/
section
set_option maxRecDepth 100000 in
theorem dA157_cX12_byteAt : kDec cX12_byteAt [(0, .iload_n 1, 1), (1, .aload_n 0, 1), (2, .getfield 91, 3), (5, .if_icmp .ge 12, 3), (17, .iconst (-1), 1), (18, .ireturn, 1), (8, .aload_n 0, 1), (9, .getfield 58, 3), (12, .iload_n 1, 1), (13, .iaload, 1), (14, .goto 4, 3)] = true := by decide +kernel
theorem dX12_byteAt_0 : decode cX12_byteAt 0 = .ok (.iload_n 1, 1) := kDec_at dA157_cX12_byteAt 0 rfl
theorem dX12_byteAt_1 : decode cX12_byteAt 1 = .ok (.aload_n 0, 1) := kDec_at dA157_cX12_byteAt 1 rfl
theorem dX12_byteAt_2 : decode cX12_byteAt 2 = .ok (.getfield 91, 3) := kDec_at dA157_cX12_byteAt 2 rfl
theorem dX12_byteAt_5 : decode cX12_byteAt 5 = .ok (.if_icmp .ge 12, 3) := kDec_at dA157_cX12_byteAt 3 rfl
theorem dX12_byteAt_17 : decode cX12_byteAt 17 = .ok (.iconst (-1), 1) := kDec_at dA157_cX12_byteAt 4 rfl
theorem dX12_byteAt_18 : decode cX12_byteAt 18 = .ok (.ireturn, 1) := kDec_at dA157_cX12_byteAt 5 rfl
theorem dX12_byteAt_8 : decode cX12_byteAt 8 = .ok (.aload_n 0, 1) := kDec_at dA157_cX12_byteAt 6 rfl
theorem dX12_byteAt_9 : decode cX12_byteAt 9 = .ok (.getfield 58, 3) := kDec_at dA157_cX12_byteAt 7 rfl
theorem dX12_byteAt_12 : decode cX12_byteAt 12 = .ok (.iload_n 1, 1) := kDec_at dA157_cX12_byteAt 8 rfl
theorem dX12_byteAt_13 : decode cX12_byteAt 13 = .ok (.iaload, 1) := kDec_at dA157_cX12_byteAt 9 rfl
theorem dX12_byteAt_14 : decode cX12_byteAt 14 = .ok (.goto 4, 3) := kDec_at dA157_cX12_byteAt 10 rfl
set_option maxRecDepth 100000 in
theorem dA158_cX12_readAt : kDec cX12_readAt [(0, .aload_n 0, 1), (1, .getfield 58, 3), (4, .iload_n 2, 1), (5, .iaload, 1), (6, .istore_n 3, 1), (7, .aload_n 0, 1), (8, .iload_n 3, 1), (9, .putfield 105, 3), (12, .iload_n 1, 1), (13, .iconst 2, 1), (14, .if_icmp .ge 25, 3), (39, .iload_n 1, 1), (40, .iconst 3, 1), (41, .if_icmp .le 35, 3), (76, .iload_n 3, 1), (77, .bipush 127, 2), (79, .if_icmp .le 10, 3), (89, .iload_n 3, 1), (90, .sipush 128, 3), (93, .if_icmp .ge 16, 3), (96, .iload_n 1, 1), (97, .iconst 2, 1), (98, .if_icmp .eq 9, 3), (107, .iconst 1, 1)] = true := by decide +kernel
theorem dX12_readAt_0 : decode cX12_readAt 0 = .ok (.aload_n 0, 1) := kDec_at dA158_cX12_readAt 0 rfl
theorem dX12_readAt_1 : decode cX12_readAt 1 = .ok (.getfield 58, 3) := kDec_at dA158_cX12_readAt 1 rfl
theorem dX12_readAt_4 : decode cX12_readAt 4 = .ok (.iload_n 2, 1) := kDec_at dA158_cX12_readAt 2 rfl
theorem dX12_readAt_5 : decode cX12_readAt 5 = .ok (.iaload, 1) := kDec_at dA158_cX12_readAt 3 rfl
theorem dX12_readAt_6 : decode cX12_readAt 6 = .ok (.istore_n 3, 1) := kDec_at dA158_cX12_readAt 4 rfl
theorem dX12_readAt_7 : decode cX12_readAt 7 = .ok (.aload_n 0, 1) := kDec_at dA158_cX12_readAt 5 rfl
theorem dX12_readAt_8 : decode cX12_readAt 8 = .ok (.iload_n 3, 1) := kDec_at dA158_cX12_readAt 6 rfl
theorem dX12_readAt_9 : decode cX12_readAt 9 = .ok (.putfield 105, 3) := kDec_at dA158_cX12_readAt 7 rfl
theorem dX12_readAt_12 : decode cX12_readAt 12 = .ok (.iload_n 1, 1) := kDec_at dA158_cX12_readAt 8 rfl
theorem dX12_readAt_13 : decode cX12_readAt 13 = .ok (.iconst 2, 1) := kDec_at dA158_cX12_readAt 9 rfl
theorem dX12_readAt_14 : decode cX12_readAt 14 = .ok (.if_icmp .ge 25, 3) := kDec_at dA158_cX12_readAt 10 rfl
theorem dX12_readAt_39 : decode cX12_readAt 39 = .ok (.iload_n 1, 1) := kDec_at dA158_cX12_readAt 11 rfl
theorem dX12_readAt_40 : decode cX12_readAt 40 = .ok (.iconst 3, 1) := kDec_at dA158_cX12_readAt 12 rfl
theorem dX12_readAt_41 : decode cX12_readAt 41 = .ok (.if_icmp .le 35, 3) := kDec_at dA158_cX12_readAt 13 rfl
theorem dX12_readAt_76 : decode cX12_readAt 76 = .ok (.iload_n 3, 1) := kDec_at dA158_cX12_readAt 14 rfl
theorem dX12_readAt_77 : decode cX12_readAt 77 = .ok (.bipush 127, 2) := kDec_at dA158_cX12_readAt 15 rfl
theorem dX12_readAt_79 : decode cX12_readAt 79 = .ok (.if_icmp .le 10, 3) := kDec_at dA158_cX12_readAt 16 rfl
theorem dX12_readAt_89 : decode cX12_readAt 89 = .ok (.iload_n 3, 1) := kDec_at dA158_cX12_readAt 17 rfl
theorem dX12_readAt_90 : decode cX12_readAt 90 = .ok (.sipush 128, 3) := kDec_at dA158_cX12_readAt 18 rfl
theorem dX12_readAt_93 : decode cX12_readAt 93 = .ok (.if_icmp .ge 16, 3) := kDec_at dA158_cX12_readAt 19 rfl
theorem dX12_readAt_96 : decode cX12_readAt 96 = .ok (.iload_n 1, 1) := kDec_at dA158_cX12_readAt 20 rfl
theorem dX12_readAt_97 : decode cX12_readAt 97 = .ok (.iconst 2, 1) := kDec_at dA158_cX12_readAt 21 rfl
theorem dX12_readAt_98 : decode cX12_readAt 98 = .ok (.if_icmp .eq 9, 3) := kDec_at dA158_cX12_readAt 22 rfl
theorem dX12_readAt_107 : decode cX12_readAt 107 = .ok (.iconst 1, 1) := kDec_at dA158_cX12_readAt 23 rfl
set_option maxRecDepth 100000 in
theorem dA159_cX12_readAt : kDec cX12_readAt [(108, .ireturn, 1), (101, .iload_n 3, 1), (102, .bipush 38, 2), (104, .if_icmp .eq 5, 3), (109, .iload_n 1, 1), (110, .iconst 2, 1), (111, .if_icmp .ne 153, 3), (264, .aload_n 0, 1), (265, .iload_n 2, 1), (266, .iconst 1, 1), (267, .iadd, 1), (268, .invokevirtual 108, 3), (271, .bipush 35, 2), (273, .if_icmp .eq 5, 3), (278, .iload_n 2, 1), (279, .iconst 2, 1), (280, .iadd, 1), (281, .istore 4, 2), (283, .iconst 0, 1), (284, .istore 5, 2), (286, .aload_n 0, 1), (287, .iload 4, 2), (289, .invokevirtual 108, 3), (292, .bipush 48, 2)] = true := by decide +kernel
theorem dX12_readAt_108 : decode cX12_readAt 108 = .ok (.ireturn, 1) := kDec_at dA159_cX12_readAt 0 rfl
theorem dX12_readAt_101 : decode cX12_readAt 101 = .ok (.iload_n 3, 1) := kDec_at dA159_cX12_readAt 1 rfl
theorem dX12_readAt_102 : decode cX12_readAt 102 = .ok (.bipush 38, 2) := kDec_at dA159_cX12_readAt 2 rfl
theorem dX12_readAt_104 : decode cX12_readAt 104 = .ok (.if_icmp .eq 5, 3) := kDec_at dA159_cX12_readAt 3 rfl
theorem dX12_readAt_109 : decode cX12_readAt 109 = .ok (.iload_n 1, 1) := kDec_at dA159_cX12_readAt 4 rfl
theorem dX12_readAt_110 : decode cX12_readAt 110 = .ok (.iconst 2, 1) := kDec_at dA159_cX12_readAt 5 rfl
theorem dX12_readAt_111 : decode cX12_readAt 111 = .ok (.if_icmp .ne 153, 3) := kDec_at dA159_cX12_readAt 6 rfl
theorem dX12_readAt_264 : decode cX12_readAt 264 = .ok (.aload_n 0, 1) := kDec_at dA159_cX12_readAt 7 rfl
theorem dX12_readAt_265 : decode cX12_readAt 265 = .ok (.iload_n 2, 1) := kDec_at dA159_cX12_readAt 8 rfl
theorem dX12_readAt_266 : decode cX12_readAt 266 = .ok (.iconst 1, 1) := kDec_at dA159_cX12_readAt 9 rfl
theorem dX12_readAt_267 : decode cX12_readAt 267 = .ok (.iadd, 1) := kDec_at dA159_cX12_readAt 10 rfl
theorem dX12_readAt_268 : decode cX12_readAt 268 = .ok (.invokevirtual 108, 3) := kDec_at dA159_cX12_readAt 11 rfl
theorem dX12_readAt_271 : decode cX12_readAt 271 = .ok (.bipush 35, 2) := kDec_at dA159_cX12_readAt 12 rfl
theorem dX12_readAt_273 : decode cX12_readAt 273 = .ok (.if_icmp .eq 5, 3) := kDec_at dA159_cX12_readAt 13 rfl
theorem dX12_readAt_278 : decode cX12_readAt 278 = .ok (.iload_n 2, 1) := kDec_at dA159_cX12_readAt 14 rfl
theorem dX12_readAt_279 : decode cX12_readAt 279 = .ok (.iconst 2, 1) := kDec_at dA159_cX12_readAt 15 rfl
theorem dX12_readAt_280 : decode cX12_readAt 280 = .ok (.iadd, 1) := kDec_at dA159_cX12_readAt 16 rfl
theorem dX12_readAt_281 : decode cX12_readAt 281 = .ok (.istore 4, 2) := kDec_at dA159_cX12_readAt 17 rfl
theorem dX12_readAt_283 : decode cX12_readAt 283 = .ok (.iconst 0, 1) := kDec_at dA159_cX12_readAt 18 rfl
theorem dX12_readAt_284 : decode cX12_readAt 284 = .ok (.istore 5, 2) := kDec_at dA159_cX12_readAt 19 rfl
theorem dX12_readAt_286 : decode cX12_readAt 286 = .ok (.aload_n 0, 1) := kDec_at dA159_cX12_readAt 20 rfl
theorem dX12_readAt_287 : decode cX12_readAt 287 = .ok (.iload 4, 2) := kDec_at dA159_cX12_readAt 21 rfl
theorem dX12_readAt_289 : decode cX12_readAt 289 = .ok (.invokevirtual 108, 3) := kDec_at dA159_cX12_readAt 22 rfl
theorem dX12_readAt_292 : decode cX12_readAt 292 = .ok (.bipush 48, 2) := kDec_at dA159_cX12_readAt 23 rfl
set_option maxRecDepth 20000 in
theorem gX12_byteAt_all : wsX12_byteAt.all goodWord = true := by
  unfold wsX12_byteAt
  exact good_c (by decide +kernel) (good_a ((by decide +kernel)) gX12_clsall)
set_option maxRecDepth 20000 in
theorem ggX12_readAt_X12_byteAt : GoodIn wsX12_readAt wsX12_byteAt := goodIn_sub (fun _ h => List.mem_cons_of_mem _ (List.mem_append_left _ (List.mem_append_left _ (List.mem_append_right _ (h))))) gX12_byteAt_all
set_option maxRecDepth 20000 in
theorem gX12_readAt_X12_byteAt : GoodIn wsX12_readAt (wsV RX12 108 RX12 yX12_byteAt wsX12_byteAt) := goodIn_app (goodIn_r _ [4, 5, 6, 7] rfl (by decide +kernel)) ggX12_readAt_X12_byteAt
set_option maxRecDepth 100000 in
theorem dA160_cX12_readAt : kDec cX12_readAt [(294, .if_icmp .lt 62, 3), (356, .aload_n 0, 1), (357, .iload 5, 2), (359, .putfield 105, 3), (362, .iload 4, 2), (364, .iload_n 2, 1), (365, .iconst 2, 1), (366, .iadd, 1), (367, .if_icmp .le 40, 3), (407, .iconst 0, 1), (408, .istore 6, 2), (410, .iload 6, 2), (412, .ifCond .eq 12, 3), (424, .iconst 0, 1), (425, .ireturn, 1), (370, .aload_n 0, 1), (371, .iload 4, 2), (373, .invokevirtual 108, 3), (376, .bipush 59, 2), (378, .if_icmp .ne 29, 3), (381, .iload 5, 2), (383, .invokestatic 116, 3), (386, .ifCond .eq 21, 3), (389, .iload 5, 2)] = true := by decide +kernel
theorem dX12_readAt_294 : decode cX12_readAt 294 = .ok (.if_icmp .lt 62, 3) := kDec_at dA160_cX12_readAt 0 rfl
theorem dX12_readAt_356 : decode cX12_readAt 356 = .ok (.aload_n 0, 1) := kDec_at dA160_cX12_readAt 1 rfl
theorem dX12_readAt_357 : decode cX12_readAt 357 = .ok (.iload 5, 2) := kDec_at dA160_cX12_readAt 2 rfl
theorem dX12_readAt_359 : decode cX12_readAt 359 = .ok (.putfield 105, 3) := kDec_at dA160_cX12_readAt 3 rfl
theorem dX12_readAt_362 : decode cX12_readAt 362 = .ok (.iload 4, 2) := kDec_at dA160_cX12_readAt 4 rfl
theorem dX12_readAt_364 : decode cX12_readAt 364 = .ok (.iload_n 2, 1) := kDec_at dA160_cX12_readAt 5 rfl
theorem dX12_readAt_365 : decode cX12_readAt 365 = .ok (.iconst 2, 1) := kDec_at dA160_cX12_readAt 6 rfl
theorem dX12_readAt_366 : decode cX12_readAt 366 = .ok (.iadd, 1) := kDec_at dA160_cX12_readAt 7 rfl
theorem dX12_readAt_367 : decode cX12_readAt 367 = .ok (.if_icmp .le 40, 3) := kDec_at dA160_cX12_readAt 8 rfl
theorem dX12_readAt_407 : decode cX12_readAt 407 = .ok (.iconst 0, 1) := kDec_at dA160_cX12_readAt 9 rfl
theorem dX12_readAt_408 : decode cX12_readAt 408 = .ok (.istore 6, 2) := kDec_at dA160_cX12_readAt 10 rfl
theorem dX12_readAt_410 : decode cX12_readAt 410 = .ok (.iload 6, 2) := kDec_at dA160_cX12_readAt 11 rfl
theorem dX12_readAt_412 : decode cX12_readAt 412 = .ok (.ifCond .eq 12, 3) := kDec_at dA160_cX12_readAt 12 rfl
theorem dX12_readAt_424 : decode cX12_readAt 424 = .ok (.iconst 0, 1) := kDec_at dA160_cX12_readAt 13 rfl
theorem dX12_readAt_425 : decode cX12_readAt 425 = .ok (.ireturn, 1) := kDec_at dA160_cX12_readAt 14 rfl
theorem dX12_readAt_370 : decode cX12_readAt 370 = .ok (.aload_n 0, 1) := kDec_at dA160_cX12_readAt 15 rfl
theorem dX12_readAt_371 : decode cX12_readAt 371 = .ok (.iload 4, 2) := kDec_at dA160_cX12_readAt 16 rfl
theorem dX12_readAt_373 : decode cX12_readAt 373 = .ok (.invokevirtual 108, 3) := kDec_at dA160_cX12_readAt 17 rfl
theorem dX12_readAt_376 : decode cX12_readAt 376 = .ok (.bipush 59, 2) := kDec_at dA160_cX12_readAt 18 rfl
theorem dX12_readAt_378 : decode cX12_readAt 378 = .ok (.if_icmp .ne 29, 3) := kDec_at dA160_cX12_readAt 19 rfl
theorem dX12_readAt_381 : decode cX12_readAt 381 = .ok (.iload 5, 2) := kDec_at dA160_cX12_readAt 20 rfl
theorem dX12_readAt_383 : decode cX12_readAt 383 = .ok (.invokestatic 116, 3) := kDec_at dA160_cX12_readAt 21 rfl
theorem dX12_readAt_386 : decode cX12_readAt 386 = .ok (.ifCond .eq 21, 3) := kDec_at dA160_cX12_readAt 22 rfl
theorem dX12_readAt_389 : decode cX12_readAt 389 = .ok (.iload 5, 2) := kDec_at dA160_cX12_readAt 23 rfl
set_option maxRecDepth 20000 in
theorem ggX12_readAt_X12_isLetter : GoodIn wsX12_readAt wsX12_isLetter := goodIn_sub (fun _ h => List.mem_cons_of_mem _ (List.mem_append_right _ (h))) gX12_isLetter_all
set_option maxRecDepth 20000 in
theorem gX12_readAt_X12_isLetter : GoodIn wsX12_readAt (va_wsS RX12 116 yX12_isLetter wsX12_isLetter) := goodIn_app (goodIn_r _ [10, 11, 7] rfl (by decide +kernel)) ggX12_readAt_X12_isLetter
set_option maxRecDepth 100000 in
theorem dA161_cX12_readAt : kDec cX12_readAt [(391, .bipush 38, 2), (393, .if_icmp .eq 10, 3), (403, .iconst 1, 1), (404, .goto 4, 3), (415, .iload 4, 2), (417, .iload_n 2, 1), (418, .isub, 1), (419, .iconst 1, 1), (420, .iadd, 1), (421, .goto 4, 3), (396, .iload 5, 2), (398, .bipush 127, 2), (400, .if_icmp .le 7, 3), (297, .aload_n 0, 1), (298, .iload 4, 2), (300, .invokevirtual 108, 3), (303, .bipush 57, 2), (305, .if_icmp .gt 51, 3), (308, .iload 4, 2), (310, .iload_n 2, 1), (311, .isub, 1), (312, .bipush 8, 2), (314, .if_icmp .ge 42, 3), (317, .iload 5, 2)] = true := by decide +kernel
theorem dX12_readAt_391 : decode cX12_readAt 391 = .ok (.bipush 38, 2) := kDec_at dA161_cX12_readAt 0 rfl
theorem dX12_readAt_393 : decode cX12_readAt 393 = .ok (.if_icmp .eq 10, 3) := kDec_at dA161_cX12_readAt 1 rfl
theorem dX12_readAt_403 : decode cX12_readAt 403 = .ok (.iconst 1, 1) := kDec_at dA161_cX12_readAt 2 rfl
theorem dX12_readAt_404 : decode cX12_readAt 404 = .ok (.goto 4, 3) := kDec_at dA161_cX12_readAt 3 rfl
theorem dX12_readAt_415 : decode cX12_readAt 415 = .ok (.iload 4, 2) := kDec_at dA161_cX12_readAt 4 rfl
theorem dX12_readAt_417 : decode cX12_readAt 417 = .ok (.iload_n 2, 1) := kDec_at dA161_cX12_readAt 5 rfl
theorem dX12_readAt_418 : decode cX12_readAt 418 = .ok (.isub, 1) := kDec_at dA161_cX12_readAt 6 rfl
theorem dX12_readAt_419 : decode cX12_readAt 419 = .ok (.iconst 1, 1) := kDec_at dA161_cX12_readAt 7 rfl
theorem dX12_readAt_420 : decode cX12_readAt 420 = .ok (.iadd, 1) := kDec_at dA161_cX12_readAt 8 rfl
theorem dX12_readAt_421 : decode cX12_readAt 421 = .ok (.goto 4, 3) := kDec_at dA161_cX12_readAt 9 rfl
theorem dX12_readAt_396 : decode cX12_readAt 396 = .ok (.iload 5, 2) := kDec_at dA161_cX12_readAt 10 rfl
theorem dX12_readAt_398 : decode cX12_readAt 398 = .ok (.bipush 127, 2) := kDec_at dA161_cX12_readAt 11 rfl
theorem dX12_readAt_400 : decode cX12_readAt 400 = .ok (.if_icmp .le 7, 3) := kDec_at dA161_cX12_readAt 12 rfl
theorem dX12_readAt_297 : decode cX12_readAt 297 = .ok (.aload_n 0, 1) := kDec_at dA161_cX12_readAt 13 rfl
theorem dX12_readAt_298 : decode cX12_readAt 298 = .ok (.iload 4, 2) := kDec_at dA161_cX12_readAt 14 rfl
theorem dX12_readAt_300 : decode cX12_readAt 300 = .ok (.invokevirtual 108, 3) := kDec_at dA161_cX12_readAt 15 rfl
theorem dX12_readAt_303 : decode cX12_readAt 303 = .ok (.bipush 57, 2) := kDec_at dA161_cX12_readAt 16 rfl
theorem dX12_readAt_305 : decode cX12_readAt 305 = .ok (.if_icmp .gt 51, 3) := kDec_at dA161_cX12_readAt 17 rfl
theorem dX12_readAt_308 : decode cX12_readAt 308 = .ok (.iload 4, 2) := kDec_at dA161_cX12_readAt 18 rfl
theorem dX12_readAt_310 : decode cX12_readAt 310 = .ok (.iload_n 2, 1) := kDec_at dA161_cX12_readAt 19 rfl
theorem dX12_readAt_311 : decode cX12_readAt 311 = .ok (.isub, 1) := kDec_at dA161_cX12_readAt 20 rfl
theorem dX12_readAt_312 : decode cX12_readAt 312 = .ok (.bipush 8, 2) := kDec_at dA161_cX12_readAt 21 rfl
theorem dX12_readAt_314 : decode cX12_readAt 314 = .ok (.if_icmp .ge 42, 3) := kDec_at dA161_cX12_readAt 22 rfl
theorem dX12_readAt_317 : decode cX12_readAt 317 = .ok (.iload 5, 2) := kDec_at dA161_cX12_readAt 23 rfl
set_option maxRecDepth 100000 in
theorem dA162_cX12_readAt : kDec cX12_readAt [(319, .ifCond .ne 13, 3), (332, .bipush 10, 2), (334, .iload 5, 2), (336, .imul, 1), (337, .aload_n 0, 1), (338, .getfield 58, 3), (341, .iload 4, 2), (343, .iaload, 1), (344, .iadd, 1), (345, .bipush 48, 2), (347, .isub, 1), (348, .istore 5, 2), (350, .iinc 4 1, 3), (353, .goto (-67), 3), (322, .iload 4, 2), (324, .iload_n 2, 1), (325, .iconst 2, 1), (326, .iadd, 1), (327, .if_icmp .le 5, 3), (330, .iconst 0, 1), (331, .ireturn, 1), (276, .iconst 0, 1), (277, .ireturn, 1), (82, .iload_n 1, 1)] = true := by decide +kernel
theorem dX12_readAt_319 : decode cX12_readAt 319 = .ok (.ifCond .ne 13, 3) := kDec_at dA162_cX12_readAt 0 rfl
theorem dX12_readAt_332 : decode cX12_readAt 332 = .ok (.bipush 10, 2) := kDec_at dA162_cX12_readAt 1 rfl
theorem dX12_readAt_334 : decode cX12_readAt 334 = .ok (.iload 5, 2) := kDec_at dA162_cX12_readAt 2 rfl
theorem dX12_readAt_336 : decode cX12_readAt 336 = .ok (.imul, 1) := kDec_at dA162_cX12_readAt 3 rfl
theorem dX12_readAt_337 : decode cX12_readAt 337 = .ok (.aload_n 0, 1) := kDec_at dA162_cX12_readAt 4 rfl
theorem dX12_readAt_338 : decode cX12_readAt 338 = .ok (.getfield 58, 3) := kDec_at dA162_cX12_readAt 5 rfl
theorem dX12_readAt_341 : decode cX12_readAt 341 = .ok (.iload 4, 2) := kDec_at dA162_cX12_readAt 6 rfl
theorem dX12_readAt_343 : decode cX12_readAt 343 = .ok (.iaload, 1) := kDec_at dA162_cX12_readAt 7 rfl
theorem dX12_readAt_344 : decode cX12_readAt 344 = .ok (.iadd, 1) := kDec_at dA162_cX12_readAt 8 rfl
theorem dX12_readAt_345 : decode cX12_readAt 345 = .ok (.bipush 48, 2) := kDec_at dA162_cX12_readAt 9 rfl
theorem dX12_readAt_347 : decode cX12_readAt 347 = .ok (.isub, 1) := kDec_at dA162_cX12_readAt 10 rfl
theorem dX12_readAt_348 : decode cX12_readAt 348 = .ok (.istore 5, 2) := kDec_at dA162_cX12_readAt 11 rfl
theorem dX12_readAt_350 : decode cX12_readAt 350 = .ok (.iinc 4 1, 3) := kDec_at dA162_cX12_readAt 12 rfl
theorem dX12_readAt_353 : decode cX12_readAt 353 = .ok (.goto (-67), 3) := kDec_at dA162_cX12_readAt 13 rfl
theorem dX12_readAt_322 : decode cX12_readAt 322 = .ok (.iload 4, 2) := kDec_at dA162_cX12_readAt 14 rfl
theorem dX12_readAt_324 : decode cX12_readAt 324 = .ok (.iload_n 2, 1) := kDec_at dA162_cX12_readAt 15 rfl
theorem dX12_readAt_325 : decode cX12_readAt 325 = .ok (.iconst 2, 1) := kDec_at dA162_cX12_readAt 16 rfl
theorem dX12_readAt_326 : decode cX12_readAt 326 = .ok (.iadd, 1) := kDec_at dA162_cX12_readAt 17 rfl
theorem dX12_readAt_327 : decode cX12_readAt 327 = .ok (.if_icmp .le 5, 3) := kDec_at dA162_cX12_readAt 18 rfl
theorem dX12_readAt_330 : decode cX12_readAt 330 = .ok (.iconst 0, 1) := kDec_at dA162_cX12_readAt 19 rfl
theorem dX12_readAt_331 : decode cX12_readAt 331 = .ok (.ireturn, 1) := kDec_at dA162_cX12_readAt 20 rfl
theorem dX12_readAt_276 : decode cX12_readAt 276 = .ok (.iconst 0, 1) := kDec_at dA162_cX12_readAt 21 rfl
theorem dX12_readAt_277 : decode cX12_readAt 277 = .ok (.ireturn, 1) := kDec_at dA162_cX12_readAt 22 rfl
theorem dX12_readAt_82 : decode cX12_readAt 82 = .ok (.iload_n 1, 1) := kDec_at dA162_cX12_readAt 23 rfl
set_option maxRecDepth 100000 in
theorem dA163_cX12_readAt : kDec cX12_readAt [(83, .iconst 3, 1), (84, .if_icmp .ne 5, 3), (114, .aload_n 0, 1), (115, .iload_n 2, 1), (116, .iconst 1, 1), (117, .iadd, 1), (118, .invokevirtual 108, 3), (121, .istore 4, 2), (123, .iload_n 3, 1), (124, .sipush 192, 3), (127, .if_icmp .lt 18, 3), (145, .iconst 0, 1), (146, .ireturn, 1), (130, .iload_n 3, 1), (131, .sipush 239, 3), (134, .if_icmp .gt 11, 3), (137, .iload 4, 2), (139, .invokestatic 112, 3), (142, .ifCond .ne 5, 3), (147, .iload_n 3, 1), (148, .sipush 224, 3), (151, .if_icmp .ge 38, 3), (189, .aload_n 0, 1), (190, .iload_n 2, 1)] = true := by decide +kernel
theorem dX12_readAt_83 : decode cX12_readAt 83 = .ok (.iconst 3, 1) := kDec_at dA163_cX12_readAt 0 rfl
theorem dX12_readAt_84 : decode cX12_readAt 84 = .ok (.if_icmp .ne 5, 3) := kDec_at dA163_cX12_readAt 1 rfl
theorem dX12_readAt_114 : decode cX12_readAt 114 = .ok (.aload_n 0, 1) := kDec_at dA163_cX12_readAt 2 rfl
theorem dX12_readAt_115 : decode cX12_readAt 115 = .ok (.iload_n 2, 1) := kDec_at dA163_cX12_readAt 3 rfl
theorem dX12_readAt_116 : decode cX12_readAt 116 = .ok (.iconst 1, 1) := kDec_at dA163_cX12_readAt 4 rfl
theorem dX12_readAt_117 : decode cX12_readAt 117 = .ok (.iadd, 1) := kDec_at dA163_cX12_readAt 5 rfl
theorem dX12_readAt_118 : decode cX12_readAt 118 = .ok (.invokevirtual 108, 3) := kDec_at dA163_cX12_readAt 6 rfl
theorem dX12_readAt_121 : decode cX12_readAt 121 = .ok (.istore 4, 2) := kDec_at dA163_cX12_readAt 7 rfl
theorem dX12_readAt_123 : decode cX12_readAt 123 = .ok (.iload_n 3, 1) := kDec_at dA163_cX12_readAt 8 rfl
theorem dX12_readAt_124 : decode cX12_readAt 124 = .ok (.sipush 192, 3) := kDec_at dA163_cX12_readAt 9 rfl
theorem dX12_readAt_127 : decode cX12_readAt 127 = .ok (.if_icmp .lt 18, 3) := kDec_at dA163_cX12_readAt 10 rfl
theorem dX12_readAt_145 : decode cX12_readAt 145 = .ok (.iconst 0, 1) := kDec_at dA163_cX12_readAt 11 rfl
theorem dX12_readAt_146 : decode cX12_readAt 146 = .ok (.ireturn, 1) := kDec_at dA163_cX12_readAt 12 rfl
theorem dX12_readAt_130 : decode cX12_readAt 130 = .ok (.iload_n 3, 1) := kDec_at dA163_cX12_readAt 13 rfl
theorem dX12_readAt_131 : decode cX12_readAt 131 = .ok (.sipush 239, 3) := kDec_at dA163_cX12_readAt 14 rfl
theorem dX12_readAt_134 : decode cX12_readAt 134 = .ok (.if_icmp .gt 11, 3) := kDec_at dA163_cX12_readAt 15 rfl
theorem dX12_readAt_137 : decode cX12_readAt 137 = .ok (.iload 4, 2) := kDec_at dA163_cX12_readAt 16 rfl
theorem dX12_readAt_139 : decode cX12_readAt 139 = .ok (.invokestatic 112, 3) := kDec_at dA163_cX12_readAt 17 rfl
theorem dX12_readAt_142 : decode cX12_readAt 142 = .ok (.ifCond .ne 5, 3) := kDec_at dA163_cX12_readAt 18 rfl
theorem dX12_readAt_147 : decode cX12_readAt 147 = .ok (.iload_n 3, 1) := kDec_at dA163_cX12_readAt 19 rfl
theorem dX12_readAt_148 : decode cX12_readAt 148 = .ok (.sipush 224, 3) := kDec_at dA163_cX12_readAt 20 rfl
theorem dX12_readAt_151 : decode cX12_readAt 151 = .ok (.if_icmp .ge 38, 3) := kDec_at dA163_cX12_readAt 21 rfl
theorem dX12_readAt_189 : decode cX12_readAt 189 = .ok (.aload_n 0, 1) := kDec_at dA163_cX12_readAt 22 rfl
theorem dX12_readAt_190 : decode cX12_readAt 190 = .ok (.iload_n 2, 1) := kDec_at dA163_cX12_readAt 23 rfl
set_option maxRecDepth 20000 in
theorem gX12_goesOn_all : wsX12_goesOn.all goodWord = true := by
  unfold wsX12_goesOn
  exact good_c (by decide +kernel) (rfl)
set_option maxRecDepth 20000 in
theorem ggX12_readAt_X12_goesOn : GoodIn wsX12_readAt wsX12_goesOn := goodIn_sub (fun _ h => List.mem_cons_of_mem _ (List.mem_append_left _ (List.mem_append_right _ (h)))) gX12_goesOn_all
set_option maxRecDepth 20000 in
theorem gX12_readAt_X12_goesOn : GoodIn wsX12_readAt (va_wsS RX12 112 yX12_goesOn wsX12_goesOn) := goodIn_app (goodIn_r _ [8, 9, 7] rfl (by decide +kernel)) ggX12_readAt_X12_goesOn
set_option maxRecDepth 100000 in
theorem dA164_cX12_readAt : kDec cX12_readAt [(191, .iconst 2, 1), (192, .iadd, 1), (193, .invokevirtual 108, 3), (196, .istore 5, 2), (198, .iload 5, 2), (200, .invokestatic 112, 3), (203, .ifCond .ne 5, 3), (208, .aload_n 0, 1), (209, .iload_n 3, 1), (210, .sipush 224, 3), (213, .isub, 1), (214, .sipush 4096, 3), (217, .imul, 1), (218, .iload 4, 2), (220, .sipush 128, 3), (223, .isub, 1), (224, .bipush 64, 2), (226, .imul, 1), (227, .iadd, 1), (228, .iload 5, 2), (230, .iadd, 1), (231, .sipush 128, 3), (234, .isub, 1), (235, .putfield 105, 3)] = true := by decide +kernel
theorem dX12_readAt_191 : decode cX12_readAt 191 = .ok (.iconst 2, 1) := kDec_at dA164_cX12_readAt 0 rfl
theorem dX12_readAt_192 : decode cX12_readAt 192 = .ok (.iadd, 1) := kDec_at dA164_cX12_readAt 1 rfl
theorem dX12_readAt_193 : decode cX12_readAt 193 = .ok (.invokevirtual 108, 3) := kDec_at dA164_cX12_readAt 2 rfl
theorem dX12_readAt_196 : decode cX12_readAt 196 = .ok (.istore 5, 2) := kDec_at dA164_cX12_readAt 3 rfl
theorem dX12_readAt_198 : decode cX12_readAt 198 = .ok (.iload 5, 2) := kDec_at dA164_cX12_readAt 4 rfl
theorem dX12_readAt_200 : decode cX12_readAt 200 = .ok (.invokestatic 112, 3) := kDec_at dA164_cX12_readAt 5 rfl
theorem dX12_readAt_203 : decode cX12_readAt 203 = .ok (.ifCond .ne 5, 3) := kDec_at dA164_cX12_readAt 6 rfl
theorem dX12_readAt_208 : decode cX12_readAt 208 = .ok (.aload_n 0, 1) := kDec_at dA164_cX12_readAt 7 rfl
theorem dX12_readAt_209 : decode cX12_readAt 209 = .ok (.iload_n 3, 1) := kDec_at dA164_cX12_readAt 8 rfl
theorem dX12_readAt_210 : decode cX12_readAt 210 = .ok (.sipush 224, 3) := kDec_at dA164_cX12_readAt 9 rfl
theorem dX12_readAt_213 : decode cX12_readAt 213 = .ok (.isub, 1) := kDec_at dA164_cX12_readAt 10 rfl
theorem dX12_readAt_214 : decode cX12_readAt 214 = .ok (.sipush 4096, 3) := kDec_at dA164_cX12_readAt 11 rfl
theorem dX12_readAt_217 : decode cX12_readAt 217 = .ok (.imul, 1) := kDec_at dA164_cX12_readAt 12 rfl
theorem dX12_readAt_218 : decode cX12_readAt 218 = .ok (.iload 4, 2) := kDec_at dA164_cX12_readAt 13 rfl
theorem dX12_readAt_220 : decode cX12_readAt 220 = .ok (.sipush 128, 3) := kDec_at dA164_cX12_readAt 14 rfl
theorem dX12_readAt_223 : decode cX12_readAt 223 = .ok (.isub, 1) := kDec_at dA164_cX12_readAt 15 rfl
theorem dX12_readAt_224 : decode cX12_readAt 224 = .ok (.bipush 64, 2) := kDec_at dA164_cX12_readAt 16 rfl
theorem dX12_readAt_226 : decode cX12_readAt 226 = .ok (.imul, 1) := kDec_at dA164_cX12_readAt 17 rfl
theorem dX12_readAt_227 : decode cX12_readAt 227 = .ok (.iadd, 1) := kDec_at dA164_cX12_readAt 18 rfl
theorem dX12_readAt_228 : decode cX12_readAt 228 = .ok (.iload 5, 2) := kDec_at dA164_cX12_readAt 19 rfl
theorem dX12_readAt_230 : decode cX12_readAt 230 = .ok (.iadd, 1) := kDec_at dA164_cX12_readAt 20 rfl
theorem dX12_readAt_231 : decode cX12_readAt 231 = .ok (.sipush 128, 3) := kDec_at dA164_cX12_readAt 21 rfl
theorem dX12_readAt_234 : decode cX12_readAt 234 = .ok (.isub, 1) := kDec_at dA164_cX12_readAt 22 rfl
theorem dX12_readAt_235 : decode cX12_readAt 235 = .ok (.putfield 105, 3) := kDec_at dA164_cX12_readAt 23 rfl
set_option maxRecDepth 100000 in
theorem dA165_cX12_readAt : kDec cX12_readAt [(238, .aload_n 0, 1), (239, .getfield 105, 3), (242, .sipush 2048, 3), (245, .if_icmp .lt 13, 3), (258, .iconst 0, 1), (259, .goto 4, 3), (263, .ireturn, 1), (248, .aload_n 0, 1), (249, .getfield 105, 3), (252, .invokestatic 116, 3), (255, .ifCond .ne 7, 3), (262, .iconst 3, 1), (206, .iconst 0, 1), (207, .ireturn, 1), (154, .aload_n 0, 1), (155, .iload_n 3, 1), (156, .sipush 192, 3), (159, .isub, 1), (160, .bipush 64, 2), (162, .imul, 1), (163, .iload 4, 2), (165, .iadd, 1), (166, .sipush 128, 3), (169, .isub, 1)] = true := by decide +kernel
theorem dX12_readAt_238 : decode cX12_readAt 238 = .ok (.aload_n 0, 1) := kDec_at dA165_cX12_readAt 0 rfl
theorem dX12_readAt_239 : decode cX12_readAt 239 = .ok (.getfield 105, 3) := kDec_at dA165_cX12_readAt 1 rfl
theorem dX12_readAt_242 : decode cX12_readAt 242 = .ok (.sipush 2048, 3) := kDec_at dA165_cX12_readAt 2 rfl
theorem dX12_readAt_245 : decode cX12_readAt 245 = .ok (.if_icmp .lt 13, 3) := kDec_at dA165_cX12_readAt 3 rfl
theorem dX12_readAt_258 : decode cX12_readAt 258 = .ok (.iconst 0, 1) := kDec_at dA165_cX12_readAt 4 rfl
theorem dX12_readAt_259 : decode cX12_readAt 259 = .ok (.goto 4, 3) := kDec_at dA165_cX12_readAt 5 rfl
theorem dX12_readAt_263 : decode cX12_readAt 263 = .ok (.ireturn, 1) := kDec_at dA165_cX12_readAt 6 rfl
theorem dX12_readAt_248 : decode cX12_readAt 248 = .ok (.aload_n 0, 1) := kDec_at dA165_cX12_readAt 7 rfl
theorem dX12_readAt_249 : decode cX12_readAt 249 = .ok (.getfield 105, 3) := kDec_at dA165_cX12_readAt 8 rfl
theorem dX12_readAt_252 : decode cX12_readAt 252 = .ok (.invokestatic 116, 3) := kDec_at dA165_cX12_readAt 9 rfl
theorem dX12_readAt_255 : decode cX12_readAt 255 = .ok (.ifCond .ne 7, 3) := kDec_at dA165_cX12_readAt 10 rfl
theorem dX12_readAt_262 : decode cX12_readAt 262 = .ok (.iconst 3, 1) := kDec_at dA165_cX12_readAt 11 rfl
theorem dX12_readAt_206 : decode cX12_readAt 206 = .ok (.iconst 0, 1) := kDec_at dA165_cX12_readAt 12 rfl
theorem dX12_readAt_207 : decode cX12_readAt 207 = .ok (.ireturn, 1) := kDec_at dA165_cX12_readAt 13 rfl
theorem dX12_readAt_154 : decode cX12_readAt 154 = .ok (.aload_n 0, 1) := kDec_at dA165_cX12_readAt 14 rfl
theorem dX12_readAt_155 : decode cX12_readAt 155 = .ok (.iload_n 3, 1) := kDec_at dA165_cX12_readAt 15 rfl
theorem dX12_readAt_156 : decode cX12_readAt 156 = .ok (.sipush 192, 3) := kDec_at dA165_cX12_readAt 16 rfl
theorem dX12_readAt_159 : decode cX12_readAt 159 = .ok (.isub, 1) := kDec_at dA165_cX12_readAt 17 rfl
theorem dX12_readAt_160 : decode cX12_readAt 160 = .ok (.bipush 64, 2) := kDec_at dA165_cX12_readAt 18 rfl
theorem dX12_readAt_162 : decode cX12_readAt 162 = .ok (.imul, 1) := kDec_at dA165_cX12_readAt 19 rfl
theorem dX12_readAt_163 : decode cX12_readAt 163 = .ok (.iload 4, 2) := kDec_at dA165_cX12_readAt 20 rfl
theorem dX12_readAt_165 : decode cX12_readAt 165 = .ok (.iadd, 1) := kDec_at dA165_cX12_readAt 21 rfl
theorem dX12_readAt_166 : decode cX12_readAt 166 = .ok (.sipush 128, 3) := kDec_at dA165_cX12_readAt 22 rfl
theorem dX12_readAt_169 : decode cX12_readAt 169 = .ok (.isub, 1) := kDec_at dA165_cX12_readAt 23 rfl
set_option maxRecDepth 100000 in
theorem dA166_cX12_readAt : kDec cX12_readAt [(170, .putfield 105, 3), (173, .aload_n 0, 1), (174, .getfield 105, 3), (177, .sipush 128, 3), (180, .if_icmp .ge 7, 3), (187, .iconst 2, 1), (188, .ireturn, 1), (183, .iconst 0, 1), (184, .goto 4, 3), (87, .iconst 0, 1), (88, .ireturn, 1), (44, .aload_n 0, 1), (45, .aload_n 0, 1), (46, .getfield 19, 3), (49, .sipush 256, 3), (52, .iload_n 1, 1), (53, .iconst 4, 1), (54, .isub, 1), (55, .imul, 1), (56, .iload_n 3, 1), (57, .iadd, 1), (58, .iaload, 1), (59, .putfield 105, 3), (62, .aload_n 0, 1)] = true := by decide +kernel
theorem dX12_readAt_170 : decode cX12_readAt 170 = .ok (.putfield 105, 3) := kDec_at dA166_cX12_readAt 0 rfl
theorem dX12_readAt_173 : decode cX12_readAt 173 = .ok (.aload_n 0, 1) := kDec_at dA166_cX12_readAt 1 rfl
theorem dX12_readAt_174 : decode cX12_readAt 174 = .ok (.getfield 105, 3) := kDec_at dA166_cX12_readAt 2 rfl
theorem dX12_readAt_177 : decode cX12_readAt 177 = .ok (.sipush 128, 3) := kDec_at dA166_cX12_readAt 3 rfl
theorem dX12_readAt_180 : decode cX12_readAt 180 = .ok (.if_icmp .ge 7, 3) := kDec_at dA166_cX12_readAt 4 rfl
theorem dX12_readAt_187 : decode cX12_readAt 187 = .ok (.iconst 2, 1) := kDec_at dA166_cX12_readAt 5 rfl
theorem dX12_readAt_188 : decode cX12_readAt 188 = .ok (.ireturn, 1) := kDec_at dA166_cX12_readAt 6 rfl
theorem dX12_readAt_183 : decode cX12_readAt 183 = .ok (.iconst 0, 1) := kDec_at dA166_cX12_readAt 7 rfl
theorem dX12_readAt_184 : decode cX12_readAt 184 = .ok (.goto 4, 3) := kDec_at dA166_cX12_readAt 8 rfl
theorem dX12_readAt_87 : decode cX12_readAt 87 = .ok (.iconst 0, 1) := kDec_at dA166_cX12_readAt 9 rfl
theorem dX12_readAt_88 : decode cX12_readAt 88 = .ok (.ireturn, 1) := kDec_at dA166_cX12_readAt 10 rfl
theorem dX12_readAt_44 : decode cX12_readAt 44 = .ok (.aload_n 0, 1) := kDec_at dA166_cX12_readAt 11 rfl
theorem dX12_readAt_45 : decode cX12_readAt 45 = .ok (.aload_n 0, 1) := kDec_at dA166_cX12_readAt 12 rfl
theorem dX12_readAt_46 : decode cX12_readAt 46 = .ok (.getfield 19, 3) := kDec_at dA166_cX12_readAt 13 rfl
theorem dX12_readAt_49 : decode cX12_readAt 49 = .ok (.sipush 256, 3) := kDec_at dA166_cX12_readAt 14 rfl
theorem dX12_readAt_52 : decode cX12_readAt 52 = .ok (.iload_n 1, 1) := kDec_at dA166_cX12_readAt 15 rfl
theorem dX12_readAt_53 : decode cX12_readAt 53 = .ok (.iconst 4, 1) := kDec_at dA166_cX12_readAt 16 rfl
theorem dX12_readAt_54 : decode cX12_readAt 54 = .ok (.isub, 1) := kDec_at dA166_cX12_readAt 17 rfl
theorem dX12_readAt_55 : decode cX12_readAt 55 = .ok (.imul, 1) := kDec_at dA166_cX12_readAt 18 rfl
theorem dX12_readAt_56 : decode cX12_readAt 56 = .ok (.iload_n 3, 1) := kDec_at dA166_cX12_readAt 19 rfl
theorem dX12_readAt_57 : decode cX12_readAt 57 = .ok (.iadd, 1) := kDec_at dA166_cX12_readAt 20 rfl
theorem dX12_readAt_58 : decode cX12_readAt 58 = .ok (.iaload, 1) := kDec_at dA166_cX12_readAt 21 rfl
theorem dX12_readAt_59 : decode cX12_readAt 59 = .ok (.putfield 105, 3) := kDec_at dA166_cX12_readAt 22 rfl
theorem dX12_readAt_62 : decode cX12_readAt 62 = .ok (.aload_n 0, 1) := kDec_at dA166_cX12_readAt 23 rfl
set_option maxRecDepth 100000 in
theorem dA167_cX12_readAt : kDec cX12_readAt [(63, .getfield 105, 3), (66, .iconst (-1), 1), (67, .if_icmp .ne 7, 3), (74, .iconst 1, 1), (75, .ireturn, 1), (70, .iconst 0, 1), (71, .goto 4, 3), (17, .iload_n 3, 1), (18, .iload_n 1, 1), (19, .ifCond .ne 8, 3), (27, .sipush 255, 3), (30, .if_icmp .le 7, 3), (37, .iconst 1, 1), (38, .ireturn, 1), (22, .bipush 127, 2), (24, .goto 6, 3), (33, .iconst 0, 1), (34, .goto 4, 3)] = true := by decide +kernel
theorem dX12_readAt_63 : decode cX12_readAt 63 = .ok (.getfield 105, 3) := kDec_at dA167_cX12_readAt 0 rfl
theorem dX12_readAt_66 : decode cX12_readAt 66 = .ok (.iconst (-1), 1) := kDec_at dA167_cX12_readAt 1 rfl
theorem dX12_readAt_67 : decode cX12_readAt 67 = .ok (.if_icmp .ne 7, 3) := kDec_at dA167_cX12_readAt 2 rfl
theorem dX12_readAt_74 : decode cX12_readAt 74 = .ok (.iconst 1, 1) := kDec_at dA167_cX12_readAt 3 rfl
theorem dX12_readAt_75 : decode cX12_readAt 75 = .ok (.ireturn, 1) := kDec_at dA167_cX12_readAt 4 rfl
theorem dX12_readAt_70 : decode cX12_readAt 70 = .ok (.iconst 0, 1) := kDec_at dA167_cX12_readAt 5 rfl
theorem dX12_readAt_71 : decode cX12_readAt 71 = .ok (.goto 4, 3) := kDec_at dA167_cX12_readAt 6 rfl
theorem dX12_readAt_17 : decode cX12_readAt 17 = .ok (.iload_n 3, 1) := kDec_at dA167_cX12_readAt 7 rfl
theorem dX12_readAt_18 : decode cX12_readAt 18 = .ok (.iload_n 1, 1) := kDec_at dA167_cX12_readAt 8 rfl
theorem dX12_readAt_19 : decode cX12_readAt 19 = .ok (.ifCond .ne 8, 3) := kDec_at dA167_cX12_readAt 9 rfl
theorem dX12_readAt_27 : decode cX12_readAt 27 = .ok (.sipush 255, 3) := kDec_at dA167_cX12_readAt 10 rfl
theorem dX12_readAt_30 : decode cX12_readAt 30 = .ok (.if_icmp .le 7, 3) := kDec_at dA167_cX12_readAt 11 rfl
theorem dX12_readAt_37 : decode cX12_readAt 37 = .ok (.iconst 1, 1) := kDec_at dA167_cX12_readAt 12 rfl
theorem dX12_readAt_38 : decode cX12_readAt 38 = .ok (.ireturn, 1) := kDec_at dA167_cX12_readAt 13 rfl
theorem dX12_readAt_22 : decode cX12_readAt 22 = .ok (.bipush 127, 2) := kDec_at dA167_cX12_readAt 14 rfl
theorem dX12_readAt_24 : decode cX12_readAt 24 = .ok (.goto 6, 3) := kDec_at dA167_cX12_readAt 15 rfl
theorem dX12_readAt_33 : decode cX12_readAt 33 = .ok (.iconst 0, 1) := kDec_at dA167_cX12_readAt 16 rfl
theorem dX12_readAt_34 : decode cX12_readAt 34 = .ok (.goto 4, 3) := kDec_at dA167_cX12_readAt 17 rfl

end
