/-! 52.ref -/
section
theorem mkN_eq {n n' m : Int} {f : Nat → Int32} (h : mkN n m f) (e : n = n') : mkN n' m f := by rw [← e]; exact h
theorem mkN_eq2 {n m m' : Int} {f : Nat → Int32} (h : mkN n m f) (e : m = m') : mkN n m' f := by rw [← e]; exact h
theorem pHx_eq {c k k' mk : Int} {f : Nat → Int32} (h : pHx c k mk f) (e : k' = k) : pHx c k' mk f := by rw [e]; exact h

set_option maxHeartbeats 40000000 in
set_option maxRecDepth 100000 in
theorem y_end (l : Launch) (dC : Nat → ClassId) (dI : Nat → Nat → Nat) (cI cS : ClassId) (sz : Nat) (oM : Nat) (mT : Nat) (mS : Nat) (mX : Nat) (mL : Nat) (mB : Nat) (mD : Nat) (m1 : Nat) (m2 : Nat) (mR : Nat) (x1 : Nat) (x2 : Nat) (x3 : Nat) (mH : Nat) (mY : Nat) (mE : Nat) (mW : Nat) (mO : Nat) (y1 : Nat) (y2 : Nat) (y3 : Nat) (y4 : Nat) (mZ : Nat) (zt : Int32) (zp : Int32) (zf : Int32) (zh : Int32) (zr : Int32) (zc : Int32) (zy : Int32) (za : Int32) (zb : Int32) (zs : Int32) (zq : Int32) (zw : Int32) (ze : Int32) (zn : Int32) (zm : Int32) (zl : Int32) (zk : Int32) (zd : Int32) (n : Int32) (g_zt : 0 ≤ zt.toInt ∧ zt.toInt ≤ 900) (g_zp : 0 ≤ zp.toInt ∧ zp.toInt ≤ 20) (g_zf : 0 ≤ zf.toInt ∧ zf.toInt ≤ 19) (g_zh : 0 ≤ zh.toInt ∧ zh.toInt ≤ 6) (g_zr : 0 ≤ zr.toInt ∧ zr.toInt ≤ 258) (g_zc : 0 ≤ zc.toInt ∧ zc.toInt ≤ 300) (g_zy : 0 ≤ zy.toInt ∧ zy.toInt ≤ 65536) (g_za : 0 ≤ za.toInt ∧ za.toInt ≤ 5) (g_zb : 0 ≤ zb.toInt ∧ zb.toInt ≤ 5) (g_zs : 0 ≤ zs.toInt ∧ zs.toInt ≤ 2000000) (g_zq : -1 ≤ zq.toInt ∧ zq.toInt ≤ 2000000) (g_zn : 0 ≤ zn.toInt ∧ zn.toInt ≤ 2600) (g_zm : 0 ≤ zm.toInt ∧ zm.toInt ≤ 2600) (g_zk : 0 ≤ zk.toInt ∧ zk.toInt ≤ 300) (hzs : zs.toInt ≤ 1000000) : kMi l yX12_end wsX12_end ({ frames := 0, cells := 0, slots := 0, locals := 0 } : Room) [.ref oM, .int n] sz (dC, dI) vwCl [(cI, .int), (cS, .short)] [(oM, .inr (12, [.ref mT, .int zt, .ref mS, .ref mX, .int zp, .int zf, .ref mL, .ref mB, .ref mD, .ref m1, .ref m2, .int zh, .ref mR, .int zr, .ref x1, .ref x2, .ref x3, .int zc, .ref mH, .int zy, .int za, .int zb, .int zs, .int zq, .int zw, .int ze, .ref mY, .int zn, .ref mE, .int zm, .int zl, .ref mW, .int zk, .ref mO, .int zd, .ref y1, .ref y2, .ref y3, .ref y4, .ref mZ]))] (fun _ => True) 0 0 (fun (A : Nat → Prop) (r : Int32) (hh9 : Heap) => ∀ PZ9 : Prop, (∀ (ze' : Int32) (zt' : Int32), kPD (dC, dI) vwCl A [(oM, .inr (12, [.ref mT, .int zt', .ref mS, .ref mX, .int zp, .int zf, .ref mL, .ref mB, .ref mD, .ref m1, .ref m2, .int zh, .ref mR, .int zr, .ref x1, .ref x2, .ref x3, .int zc, .ref mH, .int zy, .int za, .int zb, .int zs, .int zq, .int zw, .int ze', .ref mY, .int zn, .ref mE, .int zm, .int zl, .ref mW, .int zk, .ref mO, .int zd, .ref y1, .ref y2, .ref y3, .ref y4, .ref mZ]))] hh9 → (0 ≤ zt'.toInt ∧ zt'.toInt ≤ 900) → ((r.toInt = 1 ∧ 0 ≤ n.toInt ∧ n.toInt ≤ zt.toInt ∧ zt'.toInt = n.toInt) ∨ (r.toInt = 0 ∧ (n.toInt < 0 ∨ zt.toInt < n.toInt) ∧ zt'.toInt = zt.toInt)) → PZ9) → PZ9) := by
  refine kMi_of (cc := cX12_end) (maxL := 2) (ret := (some .boolean)) (lv := [(0, .ref oM), (1, .int n)]) (by decide +kernel) rfl rfl (Nat.le_of_ble_eq_true rfl) ?_
  intro p e s m below meth c A QQ ls hx hb hr hts hml hown hlocks hA hQQ hK hX hP hD hS hl
  have hown : s.vm.findClass RX12 = some m.cls := hown
  have hcf := k_cf hx hb hml hown hts
  have in_X12 : ∀ w ∈ wsX120, w ∈ wsX12_end := fun _ h => List.mem_cons_of_mem _ (List.mem_append_right _ (h))
  replace g_zp := hid g_zp
  replace g_zf := hid g_zf
  replace g_zh := hid g_zh
  replace g_zr := hid g_zr
  replace g_zc := hid g_zc
  replace g_zy := hid g_zy
  replace g_za := hid g_za
  replace g_zb := hid g_zb
  replace g_zs := hid g_zs
  replace g_zq := hid g_zq
  replace g_zn := hid g_zn
  replace g_zm := hid g_zm
  replace g_zk := hid g_zk
  refine lv_aload_n hx hb dX12_end_0 rfl (lv_at hl 0 rfl) ?_
  refine lv_iconst (v := 0) hx hb dX12_end_1 (by decide) ?_
  refine va_put (D := (dC, dI)) (ci := 12) (v := .int 0) (ty := .int) (C := RX12) (T := TX12) (N := 40) hx hb hts in_X12 tyX12 tyX12_ok nmX12 hown hK hP hD hS 0 rfl rfl 25 (Nat.le_of_ble_eq_true rfl) (hts (.fieldLink RX12 85 "TextMenderModel" "thrown" "I") (List.mem_of_getElem? (i := 1) rfl)) (fun _ h9 => h9) rfl (tyX12_ok 25 (Nat.le_of_ble_eq_true rfl)) rfl rfl (Nat.le_of_ble_eq_true rfl) dX12_end_2 (kW (wn := [(oM, .inr (12, [.ref mT, .int zt, .ref mS, .ref mX, .int zp, .int zf, .ref mL, .ref mB, .ref mD, .ref m1, .ref m2, .int zh, .ref mR, .int zr, .ref x1, .ref x2, .ref x3, .int zc, .ref mH, .int zy, .int za, .int zb, .int zs, .int zq, .int zw, .int 0, .ref mY, .int zn, .ref mE, .int zm, .int zl, .ref mW, .int zk, .ref mO, .int zd, .ref y1, .ref y2, .ref y3, .ref y4, .ref mZ]))]) rfl (fun H locs hPn hDn hSn => ?_))
  clear hP hD hS
  have hP := hPn
  have hD := hDn
  have hS := hSn
  clear hPn hDn hSn
  refine lv_iload_n hx hb dX12_end_5 rfl (lv_at hl 1 rfl) ?_
  refine lv_if_lt (tgt := 17) hx hb dX12_end_6 (by decide) (fun c_1 => ?_) (fun c_1 => ?_)
  · have tc_1 : n.toInt < 0 := v_lt c_1
    refine lv_iconst (v := 0) hx hb dX12_end_17 (by decide) ?_
    exact kl_z (v := 0) hQQ hx hb hr hlocks hS dX12_end_18 (rfl) (fun PZ9 kZ9 => kZ9 0 zt (⟨hP, hD⟩) (g_zt) (by show (0 = 1 ∧ 0 ≤ n.toInt ∧ n.toInt ≤ zt.toInt ∧ zt.toInt = n.toInt) ∨ (0 = 0 ∧ (n.toInt < 0 ∨ zt.toInt < n.toInt) ∧ zt.toInt = zt.toInt); omega))
  · have tc_1 : 0 ≤ n.toInt := v_nlt c_1
    refine lv_iload_n hx hb dX12_end_9 rfl (lv_at hl 1 rfl) ?_
    refine lv_aload_n hx hb dX12_end_10 rfl (lv_at hl 0 rfl) ?_
    refine va_get (D := (dC, dI)) (ci := 12) (v := .int zt) (C := RX12) (T := TX12) (N := 40) hx hb hts in_X12 hown hK hP 0 rfl rfl 1 (Nat.le_of_ble_eq_true rfl) (hts (.fieldLink RX12 151 "TextMenderModel" "taped" "I") (List.mem_of_getElem? (i := 2) rfl)) (fun _ h9 => h9) rfl dX12_end_11 ?_
    refine lv_icmp_le (tgt := 19) hx hb dX12_end_14 (by decide) (fun c_2 => ?_) (fun c_2 => ?_)
    · have tc_2 : n.toInt ≤ zt.toInt := v_le c_2
      have rw2_0 := v_rng n
      refine lv_aload_n hx hb dX12_end_19 rfl (lv_at hl 0 rfl) ?_
      refine lv_iload_n hx hb dX12_end_20 rfl (lv_at hl 1 rfl) ?_
      refine va_put (D := (dC, dI)) (ci := 12) (v := .int n) (ty := .int) (C := RX12) (T := TX12) (N := 40) hx hb hts in_X12 tyX12 tyX12_ok nmX12 hown hK hP hD hS 0 rfl rfl 1 (Nat.le_of_ble_eq_true rfl) (hts (.fieldLink RX12 151 "TextMenderModel" "taped" "I") (List.mem_of_getElem? (i := 2) rfl)) (fun _ h9 => h9) rfl (tyX12_ok 1 (Nat.le_of_ble_eq_true rfl)) rfl rfl (Nat.le_of_ble_eq_true rfl) dX12_end_21 (kW (wn := [(oM, .inr (12, [.ref mT, .int n, .ref mS, .ref mX, .int zp, .int zf, .ref mL, .ref mB, .ref mD, .ref m1, .ref m2, .int zh, .ref mR, .int zr, .ref x1, .ref x2, .ref x3, .int zc, .ref mH, .int zy, .int za, .int zb, .int zs, .int zq, .int zw, .int 0, .ref mY, .int zn, .ref mE, .int zm, .int zl, .ref mW, .int zk, .ref mO, .int zd, .ref y1, .ref y2, .ref y3, .ref y4, .ref mZ]))]) rfl (fun H locs hPn hDn hSn => ?_))
      clear hP hD hS
      have hP := hPn
      have hD := hDn
      have hS := hSn
      clear hPn hDn hSn
      refine lv_iconst (v := 1) hx hb dX12_end_24 (by decide) ?_
      exact kl_z (v := 1) hQQ hx hb hr hlocks hS dX12_end_25 (rfl) (fun PZ9 kZ9 => kZ9 0 n (⟨hP, hD⟩) (by omega) (by show (1 = 1 ∧ 0 ≤ n.toInt ∧ n.toInt ≤ zt.toInt ∧ n.toInt = n.toInt) ∨ (1 = 0 ∧ (n.toInt < 0 ∨ zt.toInt < n.toInt) ∧ n.toInt = zt.toInt); omega))
    · have tc_2 : zt.toInt < n.toInt := v_nle c_2
      have rw2_0 := v_rng n
      refine lv_iconst (v := 0) hx hb dX12_end_17 (by decide) ?_
      exact kl_z (v := 0) hQQ hx hb hr hlocks hS dX12_end_18 (rfl) (fun PZ9 kZ9 => kZ9 0 zt (⟨hP, hD⟩) (g_zt) (by show (0 = 1 ∧ 0 ≤ n.toInt ∧ n.toInt ≤ zt.toInt ∧ zt.toInt = n.toInt) ∨ (0 = 0 ∧ (n.toInt < 0 ∨ zt.toInt < n.toInt) ∧ zt.toInt = zt.toInt); omega))

set_option maxHeartbeats 40000000 in
set_option maxRecDepth 100000 in
theorem m_X12_marksOf (l : Launch) (dC : Nat → ClassId) (dI : Nat → Nat → Nat) (cI cS : ClassId) (sz : Nat) (oM : Nat) (mT : Nat) (mS : Nat) (mX : Nat) (mL : Nat) (mB : Nat) (mD : Nat) (m1 : Nat) (m2 : Nat) (mR : Nat) (x1 : Nat) (x2 : Nat) (x3 : Nat) (mH : Nat) (mY : Nat) (mE : Nat) (mW : Nat) (mO : Nat) (y1 : Nat) (y2 : Nat) (y3 : Nat) (y4 : Nat) (mZ : Nat) (zt : Int32) (zp : Int32) (zf : Int32) (zh : Int32) (zr : Int32) (zc : Int32) (zy : Int32) (za : Int32) (zb : Int32) (zs : Int32) (zq : Int32) (zw : Int32) (ze : Int32) (zn : Int32) (zm : Int32) (zl : Int32) (zk : Int32) (zd : Int32) (eS : Nat → Int32) (eX : Nat → Int32) (g_zt : 0 ≤ zt.toInt ∧ zt.toInt ≤ 900) (g_zp : 0 ≤ zp.toInt ∧ zp.toInt ≤ 20) (g_zf : 0 ≤ zf.toInt ∧ zf.toInt ≤ 19) (g_zh : 0 ≤ zh.toInt ∧ zh.toInt ≤ 6) (g_zr : 0 ≤ zr.toInt ∧ zr.toInt ≤ 258) (g_zc : 0 ≤ zc.toInt ∧ zc.toInt ≤ 300) (g_zy : 0 ≤ zy.toInt ∧ zy.toInt ≤ 65536) (g_za : 0 ≤ za.toInt ∧ za.toInt ≤ 5) (g_zb : 0 ≤ zb.toInt ∧ zb.toInt ≤ 5) (g_zs : 0 ≤ zs.toInt ∧ zs.toInt ≤ 2000000) (g_zq : -1 ≤ zq.toInt ∧ zq.toInt ≤ 2000000) (g_zn : 0 ≤ zn.toInt ∧ zn.toInt ≤ 2600) (g_zm : 0 ≤ zm.toInt ∧ zm.toInt ≤ 2600) (g_zk : 0 ≤ zk.toInt ∧ zk.toInt ≤ 300) (g_eS : rg 0 300 eS) (g_eX : rg 0 65535 eX) : kMi l yX12_marksOf wsX12_marksOf ({ frames := 0, cells := 0, slots := 0, locals := 0 } : Room) [.ref oM] sz (dC, dI) vwCl [(cI, .int), (cS, .short)] [(oM, .inr (12, [.ref mT, .int zt, .ref mS, .ref mX, .int zp, .int zf, .ref mL, .ref mB, .ref mD, .ref m1, .ref m2, .int zh, .ref mR, .int zr, .ref x1, .ref x2, .ref x3, .int zc, .ref mH, .int zy, .int za, .int zb, .int zs, .int zq, .int zw, .int ze, .ref mY, .int zn, .ref mE, .int zm, .int zl, .ref mW, .int zk, .ref mO, .int zd, .ref y1, .ref y2, .ref y3, .ref y4, .ref mZ])), (mS, .inl (cI, 21, .inl eS)), (mX, .inl (cI, 6300, .inl eX))] (fun _ => True) 0 0 (fun (A : Nat → Prop) (r : Int32) (hh9 : Heap) => ∀ PZ9 : Prop, (kPD (dC, dI) vwCl A [(oM, .inr (12, [.ref mT, .int zt, .ref mS, .ref mX, .int zp, .int zf, .ref mL, .ref mB, .ref mD, .ref m1, .ref m2, .int zh, .ref mR, .int zr, .ref x1, .ref x2, .ref x3, .int zc, .ref mH, .int zy, .int za, .int zb, .int zs, .int zq, .int zw, .int ze, .ref mY, .int zn, .ref mE, .int zm, .int zl, .ref mW, .int zk, .ref mO, .int zd, .ref y1, .ref y2, .ref y3, .ref y4, .ref mZ])), (mS, .inl (cI, 21, .inl eS)), (mX, .inl (cI, 6300, .inl eX))] hh9 → (0 ≤ r.toInt ∧ r.toInt ≤ 300) → (mkN (eS 0).toInt r.toInt eX) → PZ9) → PZ9) := by
  refine kMi_of (cc := cX12_marksOf) (maxL := 3) (ret := (some .int)) (lv := [(0, .ref oM)]) (by decide +kernel) rfl rfl (Nat.le_of_ble_eq_true rfl) ?_
  intro p e s m below meth c A QQ ls hx hb hr hts hml hown hlocks hA hQQ hK hX hP hD hS hl
  have hown : s.vm.findClass RX12 = some m.cls := hown
  have hcf := k_cf hx hb hml hown hts
  have in_X12 : ∀ w ∈ wsX120, w ∈ wsX12_marksOf := fun _ h => List.mem_cons_of_mem _ (List.mem_append_right _ (h))
  replace g_zt := hid g_zt
  replace g_zp := hid g_zp
  replace g_zf := hid g_zf
  replace g_zh := hid g_zh
  replace g_zr := hid g_zr
  replace g_zc := hid g_zc
  replace g_zy := hid g_zy
  replace g_za := hid g_za
  replace g_zb := hid g_zb
  replace g_zs := hid g_zs
  replace g_zq := hid g_zq
  replace g_zn := hid g_zn
  replace g_zm := hid g_zm
  replace g_zk := hid g_zk
  refine lv_iconst (v := 0) hx hb dX12_marksOf_0 (by decide) ?_
  refine lv_istore_n (lv' := [(1, .int 0), (0, .ref oM)]) hx hb dX12_marksOf_1 rfl hl (by decide) rfl (fun ls hl => ?_)
  refine lv_iconst (v := 0) hx hb dX12_marksOf_2 (by decide) ?_
  refine lv_istore_n (lv' := [(2, .int 0), (1, .int 0), (0, .ref oM)]) hx hb dX12_marksOf_3 rfl hl (by decide) rfl (fun ls hl => ?_)
  have LOOP_4 : ∀ (k_4 : Nat) (k : Int32) (mk : Int32) (H : Heap) (locs : List Loc) (ls : Array Slot), MSd (300 - k.toInt : Int) k_4 → (0 ≤ k.toInt ∧ k.toInt ≤ 300) → (0 ≤ mk.toInt ∧ mk.toInt ≤ k.toInt) → (mkN k.toInt mk.toInt eX) → (k.toInt ≤ (eS 0).toInt) → va_P (dC, dI) vwCl [(oM, .inr (12, [.ref mT, .int zt, .ref mS, .ref mX, .int zp, .int zf, .ref mL, .ref mB, .ref mD, .ref m1, .ref m2, .int zh, .ref mR, .int zr, .ref x1, .ref x2, .ref x3, .int zc, .ref mH, .int zy, .int za, .int zb, .int zs, .int zq, .int zw, .int ze, .ref mY, .int zn, .ref mE, .int zm, .int zl, .ref mW, .int zk, .ref mO, .int zd, .ref y1, .ref y2, .ref y3, .ref y4, .ref mZ])), (mS, .inl (cI, 21, .inl eS)), (mX, .inl (cI, 6300, .inl eX))] H → va_D A [(oM, .inr (12, [.ref mT, .int zt, .ref mS, .ref mX, .int zp, .int zf, .ref mL, .ref mB, .ref mD, .ref m1, .ref m2, .int zh, .ref mR, .int zr, .ref x1, .ref x2, .ref x3, .int zc, .ref mH, .int zy, .int za, .int zb, .int zs, .int zq, .int zw, .int ze, .ref mY, .int zn, .ref mE, .int zm, .int zl, .ref mW, .int zk, .ref mO, .int zd, .ref y1, .ref y2, .ref y3, .ref y4, .ref mZ])), (mS, .inl (cI, 21, .inl eS)), (mX, .inl (cI, 6300, .inl eX))] → va_S A s.heap H locs → lv_has ls 3 [(2, .int k), (1, .int mk), (0, .ref oM)] → W p l e (headSpec wsX12_marksOf ({ frames := 0, cells := 0, slots := 0, locals := 0 } : Room)).room s m ([.ref oM] : List Value).toArray below meth c H locs 0 0 (MQ below QQ ([.ref oM] : List Value).toArray s 0 0 A) (F0 m 4 ls []) := by
    clear hP hD hS hl
    intro k_4
    induction k_4 with
    | zero =>
      intro k mk H locs ls hm_4 g_k g_mk hmk hks hP hD hS hl
      exact ms_0 hm_4
    | succ k_4 ih_4 =>
      intro k mk H locs ls hm_4 g_k g_mk hmk hks hP hD hS hl
      refine lv_iload_n hx hb dX12_marksOf_4 rfl (lv_at hl 0 rfl) ?_
      refine lv_aload_n hx hb dX12_marksOf_5 rfl (lv_at hl 2 rfl) ?_
      refine va_get (D := (dC, dI)) (ci := 12) (v := .ref mS) (C := RX12) (T := TX12) (N := 40) hx hb hts in_X12 hown hK hP 0 rfl rfl 2 (Nat.le_of_ble_eq_true rfl) (hts (.fieldLink RX12 13 "TextMenderModel" "sizes" "[I") (List.mem_of_getElem? (i := 1) rfl)) (fun _ h9 => h9) rfl dX12_marksOf_6 ?_
      refine lv_iconst (v := 0) hx hb dX12_marksOf_9 (by decide) ?_
      refine va_iald hx hb hK hP 1 0 rfl rfl (by unfold vp_in; decide) dX12_marksOf_10 ?_
      refine lv_topi (fun x_1 ex_1 => ?_)
      have tx_1 : 0 ≤ x_1.toInt ∧ x_1.toInt ≤ 300 := rg_at g_eS ex_1
      refine lv_icmp_ge (tgt := 34) hx hb dX12_marksOf_11 (by decide) (fun c_2 => ?_) (fun c_2 => ?_)
      · have tc_2 : x_1.toInt ≤ k.toInt := v_le c_2
        refine lv_iload_n hx hb dX12_marksOf_34 rfl (lv_at hl 1 rfl) ?_
        exact kl_i (v := mk) hQQ hx hb hr hlocks hS dX12_marksOf_35 (fun PZ9 kZ9 => kZ9 (⟨hP, hD⟩) (by omega) (mkN_eq hmk (by have q9 : x_1 = eS 0 := ex_1; have h9 := hks; rw [← q9] at h9 ⊢; omega)))
      · have tc_2 : k.toInt < x_1.toInt := v_nle c_2
        refine lv_aload_n hx hb dX12_marksOf_14 rfl (lv_at hl 2 rfl) ?_
        refine va_get (D := (dC, dI)) (ci := 12) (v := .ref mX) (C := RX12) (T := TX12) (N := 40) hx hb hts in_X12 hown hK hP 0 rfl rfl 3 (Nat.le_of_ble_eq_true rfl) (hts (.fieldLink RX12 16 "TextMenderModel" "texts" "[I") (List.mem_of_getElem? (i := 2) rfl)) (fun _ h9 => h9) rfl dX12_marksOf_15 ?_
        refine lv_iload_n hx hb dX12_marksOf_18 rfl (lv_at hl 0 rfl) ?_
        refine va_iald hx hb hK hP 2 0 rfl rfl (v_inR g_k (by decide) (by decide)) dX12_marksOf_19 ?_
        refine lv_topi (fun x_3 ex_3 => ?_)
        have tx_3 : 0 ≤ x_3.toInt ∧ x_3.toInt ≤ 65535 := rg_at g_eX ex_3
        refine lv_ldc hx hb hown (hts (.constant RX12 126 (65533)) (List.mem_of_getElem? (i := 3) rfl)) dX12_marksOf_20 ?_
        refine lv_icmp_ne (tgt := 28) hx hb dX12_marksOf_22 (by decide) (fun c_4 => ?_) (fun c_4 => ?_)
        · have tc_4 : ¬ x_3.toInt = 65533 := v_ne c_4
          obtain ⟨x_5, ex_5⟩ : ∃ y : Int32, y = k + 1 := ⟨_, rfl⟩
          have tx_5 : x_5.toInt = k.toInt + 1 := v_addR (l2 := 1) (h2 := 1) ex_5 g_k (by decide) (by decide) (by decide)
          refine lv_iinc (v := x_5) (lv' := [(2, .int x_5), (1, .int mk), (0, .ref oM)]) hx hb dX12_marksOf_28 hl (k := 0) rfl (by rw [ex_5]; rfl) (by decide) rfl (fun ls hl => ?_)
          refine lv_goto (tgt := 4) hx hb dX12_marksOf_31 (by decide) ?_
          exact ih_4 x_5 mk _ _ _ (ms_lt hm_4 (by show ((300 - x_5.toInt : Int)) < 300 - k.toInt; omega) (by show (0 : Int) < 300 - k.toInt; omega)) (by show 0 ≤ x_5.toInt ∧ x_5.toInt ≤ 300; omega) (by show 0 ≤ mk.toInt ∧ mk.toInt ≤ x_5.toInt; omega) (mkN_no hmk ex_3 (by omega) (by omega) (by omega)) (by have q9 : x_1 = eS 0 := ex_1; rw [← q9]; omega) hP hD hS (lv_sub hl [0, 1, 2] rfl)
        · have tc_4 : x_3.toInt = 65533 := v_eq c_4
          obtain ⟨x_6, ex_6⟩ : ∃ y : Int32, y = mk + 1 := ⟨_, rfl⟩
          have tx_6 : x_6.toInt = mk.toInt + 1 := v_add ex_6 (by show -2147483648 ≤ mk.toInt + 1; omega) (by show mk.toInt + 1 < 2147483648; omega)
          refine lv_iinc (v := x_6) (lv' := [(1, .int x_6), (2, .int k), (0, .ref oM)]) hx hb dX12_marksOf_25 hl (k := 1) rfl (by rw [ex_6]; rfl) (by decide) rfl (fun ls hl => ?_)
          obtain ⟨x_7, ex_7⟩ : ∃ y : Int32, y = k + 1 := ⟨_, rfl⟩
          have tx_7 : x_7.toInt = k.toInt + 1 := v_addR (l2 := 1) (h2 := 1) ex_7 g_k (by decide) (by decide) (by decide)
          refine lv_iinc (v := x_7) (lv' := [(2, .int x_7), (1, .int x_6), (0, .ref oM)]) hx hb dX12_marksOf_28 hl (k := 1) rfl (by rw [ex_7]; rfl) (by decide) rfl (fun ls hl => ?_)
          refine lv_goto (tgt := 4) hx hb dX12_marksOf_31 (by decide) ?_
          exact ih_4 x_7 x_6 _ _ _ (ms_lt hm_4 (by show ((300 - x_7.toInt : Int)) < 300 - k.toInt; omega) (by show (0 : Int) < 300 - k.toInt; omega)) (by show 0 ≤ x_7.toInt ∧ x_7.toInt ≤ 300; omega) (by show 0 ≤ x_6.toInt ∧ x_6.toInt ≤ x_7.toInt; omega) (mkN_eq2 (mkN_yes hmk ex_3 (by omega) (by omega) (by omega)) (by omega)) (by have q9 : x_1 = eS 0 := ex_1; rw [← q9]; omega) hP hD hS (lv_sub hl [0, 1, 2] rfl)
  exact LOOP_4 _ 0 0 _ _ _ (ms_s _) (by decide) (by show 0 ≤ (0 : Int) ∧ (0 : Int) ≤ 0; omega) (mkN_0 (by decide)) (by show (0 : Int) ≤ (eS 0).toInt; exact (g_eS 0).1) hP hD hS (lv_sub hl [0, 1, 2] rfl)

set_option maxHeartbeats 40000000 in
set_option maxRecDepth 100000 in
theorem y_count (l : Launch) (dC : Nat → ClassId) (dI : Nat → Nat → Nat) (cI cS : ClassId) (sz : Nat) (oM : Nat) (mT : Nat) (mS : Nat) (mX : Nat) (mL : Nat) (mB : Nat) (mD : Nat) (m1 : Nat) (m2 : Nat) (mR : Nat) (x1 : Nat) (x2 : Nat) (x3 : Nat) (mH : Nat) (mY : Nat) (mE : Nat) (mW : Nat) (mO : Nat) (y1 : Nat) (y2 : Nat) (y3 : Nat) (y4 : Nat) (mZ : Nat) (zt : Int32) (zp : Int32) (zf : Int32) (zh : Int32) (zr : Int32) (zc : Int32) (zy : Int32) (za : Int32) (zb : Int32) (zs : Int32) (zq : Int32) (zw : Int32) (ze : Int32) (zn : Int32) (zm : Int32) (zl : Int32) (zk : Int32) (zd : Int32) (eS : Nat → Int32) (eX : Nat → Int32) (eD : Nat → Int32) (wh : Int32) (g_zt : 0 ≤ zt.toInt ∧ zt.toInt ≤ 900) (g_zp : 0 ≤ zp.toInt ∧ zp.toInt ≤ 20) (g_zf : 0 ≤ zf.toInt ∧ zf.toInt ≤ 19) (g_zh : 0 ≤ zh.toInt ∧ zh.toInt ≤ 6) (g_zr : 0 ≤ zr.toInt ∧ zr.toInt ≤ 258) (g_zc : 0 ≤ zc.toInt ∧ zc.toInt ≤ 300) (g_zy : 0 ≤ zy.toInt ∧ zy.toInt ≤ 65536) (g_za : 0 ≤ za.toInt ∧ za.toInt ≤ 5) (g_zb : 0 ≤ zb.toInt ∧ zb.toInt ≤ 5) (g_zs : 0 ≤ zs.toInt ∧ zs.toInt ≤ 2000000) (g_zq : -1 ≤ zq.toInt ∧ zq.toInt ≤ 2000000) (g_zn : 0 ≤ zn.toInt ∧ zn.toInt ≤ 2600) (g_zm : 0 ≤ zm.toInt ∧ zm.toInt ≤ 2600) (g_zk : 0 ≤ zk.toInt ∧ zk.toInt ≤ 300) (g_eS : rg 0 300 eS) (g_eX : rg 0 65535 eX) (hzs : zs.toInt ≤ 1000000) : kMi l yX12_count wsX12_count ({ frames := 1, cells := 0, slots := 0, locals := 22 } : Room) [.ref oM, .int wh] sz (dC, dI) vwCl [(cI, .int), (cS, .short)] [(oM, .inr (12, [.ref mT, .int zt, .ref mS, .ref mX, .int zp, .int zf, .ref mL, .ref mB, .ref mD, .ref m1, .ref m2, .int zh, .ref mR, .int zr, .ref x1, .ref x2, .ref x3, .int zc, .ref mH, .int zy, .int za, .int zb, .int zs, .int zq, .int zw, .int ze, .ref mY, .int zn, .ref mE, .int zm, .int zl, .ref mW, .int zk, .ref mO, .int zd, .ref y1, .ref y2, .ref y3, .ref y4, .ref mZ])), (mS, .inl (cI, 21, .inl eS)), (mX, .inl (cI, 6300, .inl eX)), (mD, .inl (cI, 2, .inl eD))] (fun _ => True) 0 0 (fun (A : Nat → Prop) (r : Int32) (hh9 : Heap) => ∀ PZ9 : Prop, (∀ (ze' : Int32), kPD (dC, dI) vwCl A [(oM, .inr (12, [.ref mT, .int zt, .ref mS, .ref mX, .int zp, .int zf, .ref mL, .ref mB, .ref mD, .ref m1, .ref m2, .int zh, .ref mR, .int zr, .ref x1, .ref x2, .ref x3, .int zc, .ref mH, .int zy, .int za, .int zb, .int zs, .int zq, .int zw, .int ze', .ref mY, .int zn, .ref mE, .int zm, .int zl, .ref mW, .int zk, .ref mO, .int zd, .ref y1, .ref y2, .ref y3, .ref y4, .ref mZ])), (mS, .inl (cI, 21, .inl eS)), (mX, .inl (cI, 6300, .inl eX)), (mD, .inl (cI, 2, .inl eD))] hh9 → PZ9) → PZ9) := by
  refine kMi_of (cc := cX12_count) (maxL := 2) (ret := (some .int)) (lv := [(0, .ref oM), (1, .int wh)]) (by decide +kernel) rfl rfl (Nat.le_of_ble_eq_true rfl) ?_
  intro p e s m below meth c A QQ ls hx hb hr hts hml hown hlocks hA hQQ hK hX hP hD hS hl
  have hown : s.vm.findClass RX12 = some m.cls := hown
  have hcf := k_cf hx hb hml hown hts
  have in_X12 : ∀ w ∈ wsX120, w ∈ wsX12_count := fun _ h => List.mem_cons_of_mem _ (List.mem_append_left _ (List.mem_append_right _ (h)))
  replace g_zt := hid g_zt
  replace g_zp := hid g_zp
  replace g_zf := hid g_zf
  replace g_zh := hid g_zh
  replace g_zr := hid g_zr
  replace g_zc := hid g_zc
  replace g_zy := hid g_zy
  replace g_za := hid g_za
  replace g_zb := hid g_zb
  replace g_zs := hid g_zs
  replace g_zq := hid g_zq
  replace g_zn := hid g_zn
  replace g_zm := hid g_zm
  replace g_zk := hid g_zk
  refine lv_aload_n hx hb dX12_count_0 rfl (lv_at hl 0 rfl) ?_
  refine lv_iconst (v := 0) hx hb dX12_count_1 (by decide) ?_
  refine va_put (D := (dC, dI)) (ci := 12) (v := .int 0) (ty := .int) (C := RX12) (T := TX12) (N := 40) hx hb hts in_X12 tyX12 tyX12_ok nmX12 hown hK hP hD hS 0 rfl rfl 25 (Nat.le_of_ble_eq_true rfl) (hts (.fieldLink RX12 85 "TextMenderModel" "thrown" "I") (List.mem_of_getElem? (i := 1) rfl)) (fun _ h9 => h9) rfl (tyX12_ok 25 (Nat.le_of_ble_eq_true rfl)) rfl rfl (Nat.le_of_ble_eq_true rfl) dX12_count_2 (kW (wn := [(oM, .inr (12, [.ref mT, .int zt, .ref mS, .ref mX, .int zp, .int zf, .ref mL, .ref mB, .ref mD, .ref m1, .ref m2, .int zh, .ref mR, .int zr, .ref x1, .ref x2, .ref x3, .int zc, .ref mH, .int zy, .int za, .int zb, .int zs, .int zq, .int zw, .int 0, .ref mY, .int zn, .ref mE, .int zm, .int zl, .ref mW, .int zk, .ref mO, .int zd, .ref y1, .ref y2, .ref y3, .ref y4, .ref mZ])), (mS, .inl (cI, 21, .inl eS)), (mX, .inl (cI, 6300, .inl eX)), (mD, .inl (cI, 2, .inl eD))]) rfl (fun H locs hPn hDn hSn => ?_))
  clear hP hD hS
  have hP := hPn
  have hD := hDn
  have hS := hSn
  clear hPn hDn hSn
  refine lv_iload_n hx hb dX12_count_5 rfl (lv_at hl 1 rfl) ?_
  by_cases c_1 : wh = 0
  · refine lv_tableIn (tgt := 52) hx hb dX12_count_6 (by rw [c_1]; decide) (by rw [c_1]; decide) (by rw [c_1]; rfl) (by decide) ?_
    have tc_1 : wh.toInt = 0 := v_eq c_1
    refine lv_aload_n hx hb dX12_count_52 rfl (lv_at hl 0 rfl) ?_
    refine va_get (D := (dC, dI)) (ci := 12) (v := .ref mS) (C := RX12) (T := TX12) (N := 40) hx hb hts in_X12 hown hK hP 0 rfl rfl 2 (Nat.le_of_ble_eq_true rfl) (hts (.fieldLink RX12 13 "TextMenderModel" "sizes" "[I") (List.mem_of_getElem? (i := 2) rfl)) (fun _ h9 => h9) rfl dX12_count_53 ?_
    refine lv_iconst (v := 0) hx hb dX12_count_56 (by decide) ?_
    refine va_iald hx hb hK hP 1 0 rfl rfl (by unfold vp_in; decide) dX12_count_57 ?_
    refine lv_topi (fun x_2 ex_2 => ?_)
    have tx_2 : 0 ≤ x_2.toInt ∧ x_2.toInt ≤ 300 := rg_at g_eS ex_2
    exact kl_i (v := x_2) hQQ hx hb hr hlocks hS dX12_count_58 (fun PZ9 kZ9 => kZ9 0 (⟨hP, hD⟩))
  · skip
    have tc_1 : ¬ wh.toInt = 0 := v_ne c_1
    by_cases c_3 : wh = 1
    · refine lv_tableIn (tgt := 59) hx hb dX12_count_6 (by rw [c_3]; decide) (by rw [c_3]; decide) (by rw [c_3]; rfl) (by decide) ?_
      have tc_3 : wh.toInt = 1 := v_eq c_3
      refine lv_aload_n hx hb dX12_count_59 rfl (lv_at hl 0 rfl) ?_
      refine va_get (D := (dC, dI)) (ci := 12) (v := .int zt) (C := RX12) (T := TX12) (N := 40) hx hb hts in_X12 hown hK hP 0 rfl rfl 1 (Nat.le_of_ble_eq_true rfl) (hts (.fieldLink RX12 151 "TextMenderModel" "taped" "I") (List.mem_of_getElem? (i := 3) rfl)) (fun _ h9 => h9) rfl dX12_count_60 ?_
      exact kl_i (v := zt) hQQ hx hb hr hlocks hS dX12_count_63 (fun PZ9 kZ9 => kZ9 0 (⟨hP, hD⟩))
    · skip
      have tc_3 : ¬ wh.toInt = 1 := v_ne c_3
      by_cases c_4 : wh = 2
      · refine lv_tableIn (tgt := 64) hx hb dX12_count_6 (by rw [c_4]; decide) (by rw [c_4]; decide) (by rw [c_4]; rfl) (by decide) ?_
        have tc_4 : wh.toInt = 2 := v_eq c_4
        refine lv_aload_n hx hb dX12_count_64 rfl (lv_at hl 0 rfl) ?_
        refine va_get (D := (dC, dI)) (ci := 12) (v := .int zh) (C := RX12) (T := TX12) (N := 40) hx hb hts in_X12 hown hK hP 0 rfl rfl 11 (Nat.le_of_ble_eq_true rfl) (hts (.fieldLink RX12 161 "TextMenderModel" "harms" "I") (List.mem_of_getElem? (i := 4) rfl)) (fun _ h9 => h9) rfl dX12_count_65 ?_
        exact kl_i (v := zh) hQQ hx hb hr hlocks hS dX12_count_68 (fun PZ9 kZ9 => kZ9 0 (⟨hP, hD⟩))
      · skip
        have tc_4 : ¬ wh.toInt = 2 := v_ne c_4
        by_cases c_5 : wh = 3
        · refine lv_tableIn (tgt := 69) hx hb dX12_count_6 (by rw [c_5]; decide) (by rw [c_5]; decide) (by rw [c_5]; rfl) (by decide) ?_
          have tc_5 : wh.toInt = 3 := v_eq c_5
          refine lv_aload_n hx hb dX12_count_69 rfl (lv_at hl 0 rfl) ?_
          refine va_get (D := (dC, dI)) (ci := 12) (v := .int zp) (C := RX12) (T := TX12) (N := 40) hx hb hts in_X12 hown hK hP 0 rfl rfl 4 (Nat.le_of_ble_eq_true rfl) (hts (.fieldLink RX12 142 "TextMenderModel" "past" "I") (List.mem_of_getElem? (i := 5) rfl)) (fun _ h9 => h9) rfl dX12_count_70 ?_
          exact kl_i (v := zp) hQQ hx hb hr hlocks hS dX12_count_73 (fun PZ9 kZ9 => kZ9 0 (⟨hP, hD⟩))
        · skip
          have tc_5 : ¬ wh.toInt = 3 := v_ne c_5
          by_cases c_6 : wh = 4
          · refine lv_tableIn (tgt := 74) hx hb dX12_count_6 (by rw [c_6]; decide) (by rw [c_6]; decide) (by rw [c_6]; rfl) (by decide) ?_
            have tc_6 : wh.toInt = 4 := v_eq c_6
            refine lv_aload_n hx hb dX12_count_74 rfl (lv_at hl 0 rfl) ?_
            refine kV_i (rest := []) (q0 := 0) (ci := 12) hcf (m_X12_marksOf l dC dI cI cS H.size oM mT mS mX mL mB mD m1 m2 mR x1 x2 x3 mH mY mE mW mO y1 y2 y3 y4 mZ zt zp zf zh zr zc zy za zb zs zq zw 0 zn zm zl zk zd eS eX (g_zt) (g_zp) (g_zf) (g_zh) (g_zr) (g_zc) (g_zy) (g_za) (g_zb) (g_zs) (g_zq) (g_zn) (g_zm) (g_zk) (g_eS) (g_eX)) kc_X12_marksOf gX12_count_X12_marksOf rfl rfl rfl ⟨Nat.le_of_ble_eq_true rfl, Nat.le_of_ble_eq_true rfl⟩ kX_t hK hP hD hS hA [0, 1, 2] [3] rfl (by decide +kernel) rfl rfl rfl hl rfl (Nat.le_of_ble_eq_true rfl) dX12_count_75 ⟨Nat.le_of_ble_eq_true rfl, Nat.le_of_ble_eq_true rfl⟩ (fun r_7 H locs hB hJ hSn => ?_)
            refine hB _ (fun hPD9 hf7_0 hf7_1 => ?_)
            clear hB
            obtain ⟨hPn, hDn⟩ := hJ _ hPD9.1 hPD9.2 [(mD, .inl (cI, 2, .inl eD)), (oM, .inr (12, [.ref mT, .int zt, .ref mS, .ref mX, .int zp, .int zf, .ref mL, .ref mB, .ref mD, .ref m1, .ref m2, .int zh, .ref mR, .int zr, .ref x1, .ref x2, .ref x3, .int zc, .ref mH, .int zy, .int za, .int zb, .int zs, .int zq, .int zw, .int 0, .ref mY, .int zn, .ref mE, .int zm, .int zl, .ref mW, .int zk, .ref mO, .int zd, .ref y1, .ref y2, .ref y3, .ref y4, .ref mZ])), (mS, .inl (cI, 21, .inl eS)), (mX, .inl (cI, 6300, .inl eX))] rfl
            clear hP hD hS hJ hPD9
            have hP := hPn
            have hD := hDn
            have hS := hSn
            clear hPn hDn hSn
            exact kl_i (v := r_7) hQQ hx hb hr hlocks hS dX12_count_78 (fun PZ9 kZ9 => kZ9 0 (kPD_sub hP hD [1, 2, 3, 0] (by decide +kernel) rfl))
          · skip
            have tc_6 : ¬ wh.toInt = 4 := v_ne c_6
            by_cases c_8 : wh = 5
            · refine lv_tableIn (tgt := 79) hx hb dX12_count_6 (by rw [c_8]; decide) (by rw [c_8]; decide) (by rw [c_8]; rfl) (by decide) ?_
              have tc_8 : wh.toInt = 5 := v_eq c_8
              refine lv_aload_n hx hb dX12_count_79 rfl (lv_at hl 0 rfl) ?_
              refine va_get (D := (dC, dI)) (ci := 12) (v := .int zc) (C := RX12) (T := TX12) (N := 40) hx hb hts in_X12 hown hK hP 0 rfl rfl 17 (Nat.le_of_ble_eq_true rfl) (hts (.fieldLink RX12 168 "TextMenderModel" "costs" "I") (List.mem_of_getElem? (i := 6) rfl)) (fun _ h9 => h9) rfl dX12_count_80 ?_
              exact kl_i (v := zc) hQQ hx hb hr hlocks hS dX12_count_83 (fun PZ9 kZ9 => kZ9 0 (⟨hP, hD⟩))
            · skip
              have tc_8 : ¬ wh.toInt = 5 := v_ne c_8
              by_cases c_9 : wh = 6
              · refine lv_tableIn (tgt := 84) hx hb dX12_count_6 (by rw [c_9]; decide) (by rw [c_9]; decide) (by rw [c_9]; rfl) (by decide) ?_
                have tc_9 : wh.toInt = 6 := v_eq c_9
                refine lv_aload_n hx hb dX12_count_84 rfl (lv_at hl 0 rfl) ?_
                refine va_get (D := (dC, dI)) (ci := 12) (v := .ref mD) (C := RX12) (T := TX12) (N := 40) hx hb hts in_X12 hown hK hP 0 rfl rfl 8 (Nat.le_of_ble_eq_true rfl) (hts (.fieldLink RX12 27 "TextMenderModel" "told" "[I") (List.mem_of_getElem? (i := 7) rfl)) (fun _ h9 => h9) rfl dX12_count_85 ?_
                refine lv_iconst (v := 0) hx hb dX12_count_88 (by decide) ?_
                refine va_iald hx hb hK hP 3 0 rfl rfl (by unfold vp_in; decide) dX12_count_89 ?_
                refine lv_topi (fun x_10 ex_10 => ?_)
                exact kl_i (v := x_10) hQQ hx hb hr hlocks hS dX12_count_90 (fun PZ9 kZ9 => kZ9 0 (⟨hP, hD⟩))
              · skip
                have tc_9 : ¬ wh.toInt = 6 := v_ne c_9
                by_cases c_11 : wh = 7
                · refine lv_tableIn (tgt := 91) hx hb dX12_count_6 (by rw [c_11]; decide) (by rw [c_11]; decide) (by rw [c_11]; rfl) (by decide) ?_
                  have tc_11 : wh.toInt = 7 := v_eq c_11
                  refine lv_aload_n hx hb dX12_count_91 rfl (lv_at hl 0 rfl) ?_
                  refine va_get (D := (dC, dI)) (ci := 12) (v := .ref mD) (C := RX12) (T := TX12) (N := 40) hx hb hts in_X12 hown hK hP 0 rfl rfl 8 (Nat.le_of_ble_eq_true rfl) (hts (.fieldLink RX12 27 "TextMenderModel" "told" "[I") (List.mem_of_getElem? (i := 7) rfl)) (fun _ h9 => h9) rfl dX12_count_92 ?_
                  refine lv_iconst (v := 1) hx hb dX12_count_95 (by decide) ?_
                  refine va_iald hx hb hK hP 3 0 rfl rfl (by unfold vp_in; decide) dX12_count_96 ?_
                  refine lv_topi (fun x_12 ex_12 => ?_)
                  exact kl_i (v := x_12) hQQ hx hb hr hlocks hS dX12_count_97 (fun PZ9 kZ9 => kZ9 0 (⟨hP, hD⟩))
                · skip
                  have tc_11 : ¬ wh.toInt = 7 := v_ne c_11
                  refine lv_tableOut (tgt := 98) hx hb dX12_count_6 (by omega) (by decide) ?_
                  refine lv_iconst (v := (-1)) hx hb dX12_count_98 (by decide) ?_
                  exact kl_i (v := (-1)) hQQ hx hb hr hlocks hS dX12_count_99 (fun PZ9 kZ9 => kZ9 0 (⟨hP, hD⟩))

set_option maxHeartbeats 40000000 in
set_option maxRecDepth 100000 in
theorem y_at (l : Launch) (dC : Nat → ClassId) (dI : Nat → Nat → Nat) (cI cS : ClassId) (sz : Nat) (oM : Nat) (mT : Nat) (mS : Nat) (mX : Nat) (mL : Nat) (mB : Nat) (mD : Nat) (m1 : Nat) (m2 : Nat) (mR : Nat) (x1 : Nat) (x2 : Nat) (x3 : Nat) (mH : Nat) (mY : Nat) (mE : Nat) (mW : Nat) (mO : Nat) (y1 : Nat) (y2 : Nat) (y3 : Nat) (y4 : Nat) (mZ : Nat) (zt : Int32) (zp : Int32) (zf : Int32) (zh : Int32) (zr : Int32) (zc : Int32) (zy : Int32) (za : Int32) (zb : Int32) (zs : Int32) (zq : Int32) (zw : Int32) (ze : Int32) (zn : Int32) (zm : Int32) (zl : Int32) (zk : Int32) (zd : Int32) (eS : Nat → Int32) (eX : Nat → Int32) (i : Int32) (g_zt : 0 ≤ zt.toInt ∧ zt.toInt ≤ 900) (g_zp : 0 ≤ zp.toInt ∧ zp.toInt ≤ 20) (g_zf : 0 ≤ zf.toInt ∧ zf.toInt ≤ 19) (g_zh : 0 ≤ zh.toInt ∧ zh.toInt ≤ 6) (g_zr : 0 ≤ zr.toInt ∧ zr.toInt ≤ 258) (g_zc : 0 ≤ zc.toInt ∧ zc.toInt ≤ 300) (g_zy : 0 ≤ zy.toInt ∧ zy.toInt ≤ 65536) (g_za : 0 ≤ za.toInt ∧ za.toInt ≤ 5) (g_zb : 0 ≤ zb.toInt ∧ zb.toInt ≤ 5) (g_zs : 0 ≤ zs.toInt ∧ zs.toInt ≤ 2000000) (g_zq : -1 ≤ zq.toInt ∧ zq.toInt ≤ 2000000) (g_zn : 0 ≤ zn.toInt ∧ zn.toInt ≤ 2600) (g_zm : 0 ≤ zm.toInt ∧ zm.toInt ≤ 2600) (g_zk : 0 ≤ zk.toInt ∧ zk.toInt ≤ 300) (g_eS : rg 0 300 eS) (g_eX : rg 0 65535 eX) (hzs : zs.toInt ≤ 1000000) : kMi l yX12_at wsX12_at ({ frames := 0, cells := 0, slots := 0, locals := 0 } : Room) [.ref oM, .int i] sz (dC, dI) vwCl [(cI, .int), (cS, .short)] [(oM, .inr (12, [.ref mT, .int zt, .ref mS, .ref mX, .int zp, .int zf, .ref mL, .ref mB, .ref mD, .ref m1, .ref m2, .int zh, .ref mR, .int zr, .ref x1, .ref x2, .ref x3, .int zc, .ref mH, .int zy, .int za, .int zb, .int zs, .int zq, .int zw, .int ze, .ref mY, .int zn, .ref mE, .int zm, .int zl, .ref mW, .int zk, .ref mO, .int zd, .ref y1, .ref y2, .ref y3, .ref y4, .ref mZ])), (mS, .inl (cI, 21, .inl eS)), (mX, .inl (cI, 6300, .inl eX))] (fun _ => True) 0 0 (fun (A : Nat → Prop) (r : Int32) (hh9 : Heap) => ∀ PZ9 : Prop, (∀ (ze' : Int32), kPD (dC, dI) vwCl A [(oM, .inr (12, [.ref mT, .int zt, .ref mS, .ref mX, .int zp, .int zf, .ref mL, .ref mB, .ref mD, .ref m1, .ref m2, .int zh, .ref mR, .int zr, .ref x1, .ref x2, .ref x3, .int zc, .ref mH, .int zy, .int za, .int zb, .int zs, .int zq, .int zw, .int ze', .ref mY, .int zn, .ref mE, .int zm, .int zl, .ref mW, .int zk, .ref mO, .int zd, .ref y1, .ref y2, .ref y3, .ref y4, .ref mZ])), (mS, .inl (cI, 21, .inl eS)), (mX, .inl (cI, 6300, .inl eX))] hh9 → PZ9) → PZ9) := by
  refine kMi_of (cc := cX12_at) (maxL := 2) (ret := (some .int)) (lv := [(0, .ref oM), (1, .int i)]) (by decide +kernel) rfl rfl (Nat.le_of_ble_eq_true rfl) ?_
  intro p e s m below meth c A QQ ls hx hb hr hts hml hown hlocks hA hQQ hK hX hP hD hS hl
  have hown : s.vm.findClass RX12 = some m.cls := hown
  have hcf := k_cf hx hb hml hown hts
  have in_X12 : ∀ w ∈ wsX120, w ∈ wsX12_at := fun _ h => List.mem_cons_of_mem _ (List.mem_append_right _ (h))
  replace g_zt := hid g_zt
  replace g_zp := hid g_zp
  replace g_zf := hid g_zf
  replace g_zh := hid g_zh
  replace g_zr := hid g_zr
  replace g_zc := hid g_zc
  replace g_zy := hid g_zy
  replace g_za := hid g_za
  replace g_zb := hid g_zb
  replace g_zs := hid g_zs
  replace g_zq := hid g_zq
  replace g_zn := hid g_zn
  replace g_zm := hid g_zm
  replace g_zk := hid g_zk
  refine lv_aload_n hx hb dX12_at_0 rfl (lv_at hl 0 rfl) ?_
  refine lv_iconst (v := 0) hx hb dX12_at_1 (by decide) ?_
  refine va_put (D := (dC, dI)) (ci := 12) (v := .int 0) (ty := .int) (C := RX12) (T := TX12) (N := 40) hx hb hts in_X12 tyX12 tyX12_ok nmX12 hown hK hP hD hS 0 rfl rfl 25 (Nat.le_of_ble_eq_true rfl) (hts (.fieldLink RX12 85 "TextMenderModel" "thrown" "I") (List.mem_of_getElem? (i := 1) rfl)) (fun _ h9 => h9) rfl (tyX12_ok 25 (Nat.le_of_ble_eq_true rfl)) rfl rfl (Nat.le_of_ble_eq_true rfl) dX12_at_2 (kW (wn := [(oM, .inr (12, [.ref mT, .int zt, .ref mS, .ref mX, .int zp, .int zf, .ref mL, .ref mB, .ref mD, .ref m1, .ref m2, .int zh, .ref mR, .int zr, .ref x1, .ref x2, .ref x3, .int zc, .ref mH, .int zy, .int za, .int zb, .int zs, .int zq, .int zw, .int 0, .ref mY, .int zn, .ref mE, .int zm, .int zl, .ref mW, .int zk, .ref mO, .int zd, .ref y1, .ref y2, .ref y3, .ref y4, .ref mZ])), (mS, .inl (cI, 21, .inl eS)), (mX, .inl (cI, 6300, .inl eX))]) rfl (fun H locs hPn hDn hSn => ?_))
  clear hP hD hS
  have hP := hPn
  have hD := hDn
  have hS := hSn
  clear hPn hDn hSn
  refine lv_iload_n hx hb dX12_at_5 rfl (lv_at hl 1 rfl) ?_
  refine lv_if_lt (tgt := 19) hx hb dX12_at_6 (by decide) (fun c_1 => ?_) (fun c_1 => ?_)
  · have tc_1 : i.toInt < 0 := v_lt c_1
    refine lv_aload_n hx hb dX12_at_19 rfl (lv_at hl 0 rfl) ?_
    refine lv_iconst (v := 1) hx hb dX12_at_20 (by decide) ?_
    refine va_put (D := (dC, dI)) (ci := 12) (v := .int 1) (ty := .int) (C := RX12) (T := TX12) (N := 40) hx hb hts in_X12 tyX12 tyX12_ok nmX12 hown hK hP hD hS 0 rfl rfl 25 (Nat.le_of_ble_eq_true rfl) (hts (.fieldLink RX12 85 "TextMenderModel" "thrown" "I") (List.mem_of_getElem? (i := 1) rfl)) (fun _ h9 => h9) rfl (tyX12_ok 25 (Nat.le_of_ble_eq_true rfl)) rfl rfl (Nat.le_of_ble_eq_true rfl) dX12_at_21 (kW (wn := [(oM, .inr (12, [.ref mT, .int zt, .ref mS, .ref mX, .int zp, .int zf, .ref mL, .ref mB, .ref mD, .ref m1, .ref m2, .int zh, .ref mR, .int zr, .ref x1, .ref x2, .ref x3, .int zc, .ref mH, .int zy, .int za, .int zb, .int zs, .int zq, .int zw, .int 1, .ref mY, .int zn, .ref mE, .int zm, .int zl, .ref mW, .int zk, .ref mO, .int zd, .ref y1, .ref y2, .ref y3, .ref y4, .ref mZ])), (mS, .inl (cI, 21, .inl eS)), (mX, .inl (cI, 6300, .inl eX))]) rfl (fun H locs hPn hDn hSn => ?_))
    clear hP hD hS
    have hP := hPn
    have hD := hDn
    have hS := hSn
    clear hPn hDn hSn
    refine lv_iconst (v := 0) hx hb dX12_at_24 (by decide) ?_
    exact kl_i (v := 0) hQQ hx hb hr hlocks hS dX12_at_25 (fun PZ9 kZ9 => kZ9 1 (⟨hP, hD⟩))
  · have tc_1 : 0 ≤ i.toInt := v_nlt c_1
    refine lv_iload_n hx hb dX12_at_9 rfl (lv_at hl 1 rfl) ?_
    refine lv_aload_n hx hb dX12_at_10 rfl (lv_at hl 0 rfl) ?_
    refine va_get (D := (dC, dI)) (ci := 12) (v := .ref mS) (C := RX12) (T := TX12) (N := 40) hx hb hts in_X12 hown hK hP 0 rfl rfl 2 (Nat.le_of_ble_eq_true rfl) (hts (.fieldLink RX12 13 "TextMenderModel" "sizes" "[I") (List.mem_of_getElem? (i := 2) rfl)) (fun _ h9 => h9) rfl dX12_at_11 ?_
    refine lv_iconst (v := 0) hx hb dX12_at_14 (by decide) ?_
    refine va_iald hx hb hK hP 1 0 rfl rfl (by unfold vp_in; decide) dX12_at_15 ?_
    refine lv_topi (fun x_2 ex_2 => ?_)
    have tx_2 : 0 ≤ x_2.toInt ∧ x_2.toInt ≤ 300 := rg_at g_eS ex_2
    refine lv_icmp_lt (tgt := 26) hx hb dX12_at_16 (by decide) (fun c_3 => ?_) (fun c_3 => ?_)
    · have tc_3 : i.toInt < x_2.toInt := v_lt c_3
      have rw3_0 := v_rng i
      refine lv_aload_n hx hb dX12_at_26 rfl (lv_at hl 0 rfl) ?_
      refine va_get (D := (dC, dI)) (ci := 12) (v := .ref mX) (C := RX12) (T := TX12) (N := 40) hx hb hts in_X12 hown hK hP 0 rfl rfl 3 (Nat.le_of_ble_eq_true rfl) (hts (.fieldLink RX12 16 "TextMenderModel" "texts" "[I") (List.mem_of_getElem? (i := 3) rfl)) (fun _ h9 => h9) rfl dX12_at_27 ?_
      refine lv_iload_n hx hb dX12_at_30 rfl (lv_at hl 1 rfl) ?_
      refine va_iald hx hb hK hP 2 0 rfl rfl (v_in (by omega)) dX12_at_31 ?_
      refine lv_topi (fun x_4 ex_4 => ?_)
      have tx_4 : 0 ≤ x_4.toInt ∧ x_4.toInt ≤ 65535 := rg_at g_eX ex_4
      exact kl_i (v := x_4) hQQ hx hb hr hlocks hS dX12_at_32 (fun PZ9 kZ9 => kZ9 0 (⟨hP, hD⟩))
    · have tc_3 : x_2.toInt ≤ i.toInt := v_nlt c_3
      have rw3_0 := v_rng i
      refine lv_aload_n hx hb dX12_at_19 rfl (lv_at hl 0 rfl) ?_
      refine lv_iconst (v := 1) hx hb dX12_at_20 (by decide) ?_
      refine va_put (D := (dC, dI)) (ci := 12) (v := .int 1) (ty := .int) (C := RX12) (T := TX12) (N := 40) hx hb hts in_X12 tyX12 tyX12_ok nmX12 hown hK hP hD hS 0 rfl rfl 25 (Nat.le_of_ble_eq_true rfl) (hts (.fieldLink RX12 85 "TextMenderModel" "thrown" "I") (List.mem_of_getElem? (i := 1) rfl)) (fun _ h9 => h9) rfl (tyX12_ok 25 (Nat.le_of_ble_eq_true rfl)) rfl rfl (Nat.le_of_ble_eq_true rfl) dX12_at_21 (kW (wn := [(oM, .inr (12, [.ref mT, .int zt, .ref mS, .ref mX, .int zp, .int zf, .ref mL, .ref mB, .ref mD, .ref m1, .ref m2, .int zh, .ref mR, .int zr, .ref x1, .ref x2, .ref x3, .int zc, .ref mH, .int zy, .int za, .int zb, .int zs, .int zq, .int zw, .int 1, .ref mY, .int zn, .ref mE, .int zm, .int zl, .ref mW, .int zk, .ref mO, .int zd, .ref y1, .ref y2, .ref y3, .ref y4, .ref mZ])), (mS, .inl (cI, 21, .inl eS)), (mX, .inl (cI, 6300, .inl eX))]) rfl (fun H locs hPn hDn hSn => ?_))
      clear hP hD hS
      have hP := hPn
      have hD := hDn
      have hS := hSn
      clear hPn hDn hSn
      refine lv_iconst (v := 0) hx hb dX12_at_24 (by decide) ?_
      exact kl_i (v := 0) hQQ hx hb hr hlocks hS dX12_at_25 (fun PZ9 kZ9 => kZ9 1 (⟨hP, hD⟩))

set_option maxHeartbeats 40000000 in
set_option maxRecDepth 100000 in
theorem y_where (l : Launch) (dC : Nat → ClassId) (dI : Nat → Nat → Nat) (cI cS : ClassId) (sz : Nat) (oM : Nat) (mT : Nat) (mS : Nat) (mX : Nat) (mL : Nat) (mB : Nat) (mD : Nat) (m1 : Nat) (m2 : Nat) (mR : Nat) (x1 : Nat) (x2 : Nat) (x3 : Nat) (mH : Nat) (mY : Nat) (mE : Nat) (mW : Nat) (mO : Nat) (y1 : Nat) (y2 : Nat) (y3 : Nat) (y4 : Nat) (mZ : Nat) (zt : Int32) (zp : Int32) (zf : Int32) (zh : Int32) (zr : Int32) (zc : Int32) (zy : Int32) (za : Int32) (zb : Int32) (zs : Int32) (zq : Int32) (zw : Int32) (ze : Int32) (zn : Int32) (zm : Int32) (zl : Int32) (zk : Int32) (zd : Int32) (g_zt : 0 ≤ zt.toInt ∧ zt.toInt ≤ 900) (g_zp : 0 ≤ zp.toInt ∧ zp.toInt ≤ 20) (g_zf : 0 ≤ zf.toInt ∧ zf.toInt ≤ 19) (g_zh : 0 ≤ zh.toInt ∧ zh.toInt ≤ 6) (g_zr : 0 ≤ zr.toInt ∧ zr.toInt ≤ 258) (g_zc : 0 ≤ zc.toInt ∧ zc.toInt ≤ 300) (g_zy : 0 ≤ zy.toInt ∧ zy.toInt ≤ 65536) (g_za : 0 ≤ za.toInt ∧ za.toInt ≤ 5) (g_zb : 0 ≤ zb.toInt ∧ zb.toInt ≤ 5) (g_zs : 0 ≤ zs.toInt ∧ zs.toInt ≤ 2000000) (g_zq : -1 ≤ zq.toInt ∧ zq.toInt ≤ 2000000) (g_zn : 0 ≤ zn.toInt ∧ zn.toInt ≤ 2600) (g_zm : 0 ≤ zm.toInt ∧ zm.toInt ≤ 2600) (g_zk : 0 ≤ zk.toInt ∧ zk.toInt ≤ 300) (hzs : zs.toInt ≤ 1000000) : kMi l yX12_where wsX12_where ({ frames := 0, cells := 0, slots := 0, locals := 0 } : Room) [.ref oM] sz (dC, dI) vwCl [(cI, .int), (cS, .short)] [(oM, .inr (12, [.ref mT, .int zt, .ref mS, .ref mX, .int zp, .int zf, .ref mL, .ref mB, .ref mD, .ref m1, .ref m2, .int zh, .ref mR, .int zr, .ref x1, .ref x2, .ref x3, .int zc, .ref mH, .int zy, .int za, .int zb, .int zs, .int zq, .int zw, .int ze, .ref mY, .int zn, .ref mE, .int zm, .int zl, .ref mW, .int zk, .ref mO, .int zd, .ref y1, .ref y2, .ref y3, .ref y4, .ref mZ]))] (fun _ => True) 0 0 (fun (A : Nat → Prop) (r : Int32) (hh9 : Heap) => ∀ PZ9 : Prop, (∀ (ze' : Int32), kPD (dC, dI) vwCl A [(oM, .inr (12, [.ref mT, .int zt, .ref mS, .ref mX, .int zp, .int zf, .ref mL, .ref mB, .ref mD, .ref m1, .ref m2, .int zh, .ref mR, .int zr, .ref x1, .ref x2, .ref x3, .int zc, .ref mH, .int zy, .int za, .int zb, .int zs, .int zq, .int zw, .int ze', .ref mY, .int zn, .ref mE, .int zm, .int zl, .ref mW, .int zk, .ref mO, .int zd, .ref y1, .ref y2, .ref y3, .ref y4, .ref mZ]))] hh9 → (r = zw) → PZ9) → PZ9) := by
  refine kMi_of (cc := cX12_where) (maxL := 1) (ret := (some .int)) (lv := [(0, .ref oM)]) (by decide +kernel) rfl rfl (Nat.le_of_ble_eq_true rfl) ?_
  intro p e s m below meth c A QQ ls hx hb hr hts hml hown hlocks hA hQQ hK hX hP hD hS hl
  have hown : s.vm.findClass RX12 = some m.cls := hown
  have hcf := k_cf hx hb hml hown hts
  have in_X12 : ∀ w ∈ wsX120, w ∈ wsX12_where := fun _ h => List.mem_cons_of_mem _ (List.mem_append_right _ (h))
  replace g_zt := hid g_zt
  replace g_zp := hid g_zp
  replace g_zf := hid g_zf
  replace g_zh := hid g_zh
  replace g_zr := hid g_zr
  replace g_zc := hid g_zc
  replace g_zy := hid g_zy
  replace g_za := hid g_za
  replace g_zb := hid g_zb
  replace g_zs := hid g_zs
  replace g_zq := hid g_zq
  replace g_zn := hid g_zn
  replace g_zm := hid g_zm
  replace g_zk := hid g_zk
  refine lv_aload_n hx hb dX12_where_0 rfl (lv_at hl 0 rfl) ?_
  refine lv_iconst (v := 0) hx hb dX12_where_1 (by decide) ?_
  refine va_put (D := (dC, dI)) (ci := 12) (v := .int 0) (ty := .int) (C := RX12) (T := TX12) (N := 40) hx hb hts in_X12 tyX12 tyX12_ok nmX12 hown hK hP hD hS 0 rfl rfl 25 (Nat.le_of_ble_eq_true rfl) (hts (.fieldLink RX12 85 "TextMenderModel" "thrown" "I") (List.mem_of_getElem? (i := 1) rfl)) (fun _ h9 => h9) rfl (tyX12_ok 25 (Nat.le_of_ble_eq_true rfl)) rfl rfl (Nat.le_of_ble_eq_true rfl) dX12_where_2 (kW (wn := [(oM, .inr (12, [.ref mT, .int zt, .ref mS, .ref mX, .int zp, .int zf, .ref mL, .ref mB, .ref mD, .ref m1, .ref m2, .int zh, .ref mR, .int zr, .ref x1, .ref x2, .ref x3, .int zc, .ref mH, .int zy, .int za, .int zb, .int zs, .int zq, .int zw, .int 0, .ref mY, .int zn, .ref mE, .int zm, .int zl, .ref mW, .int zk, .ref mO, .int zd, .ref y1, .ref y2, .ref y3, .ref y4, .ref mZ]))]) rfl (fun H locs hPn hDn hSn => ?_))
  clear hP hD hS
  have hP := hPn
  have hD := hDn
  have hS := hSn
  clear hPn hDn hSn
  refine lv_aload_n hx hb dX12_where_5 rfl (lv_at hl 0 rfl) ?_
  refine va_get (D := (dC, dI)) (ci := 12) (v := .int zw) (C := RX12) (T := TX12) (N := 40) hx hb hts in_X12 hown hK hP 0 rfl rfl 24 (Nat.le_of_ble_eq_true rfl) (hts (.fieldLink RX12 55 "TextMenderModel" "where" "I") (List.mem_of_getElem? (i := 2) rfl)) (fun _ h9 => h9) rfl dX12_where_6 ?_
  exact kl_i (v := zw) hQQ hx hb hr hlocks hS dX12_where_9 (fun PZ9 kZ9 => kZ9 0 (⟨hP, hD⟩) (rfl))

end

/-! 56.a.rows -/
section
set_option maxRecDepth 100000 in
theorem dA76_cX12_row : kDec cX12_row [(0, .aload_n 0, 1), (1, .iconst 0, 1), (2, .putfield 85, 3), (5, .iload_n 1, 1), (6, .ifCond .lt 35, 3), (41, .iconst (-1), 1), (42, .ireturn, 1), (9, .iload_n 1, 1), (10, .aload_n 0, 1), (11, .getfield 180, 3), (14, .if_icmp .ge 27, 3), (17, .iload_n 2, 1), (18, .ifCond .lt 23, 3), (21, .iload_n 2, 1), (22, .bipush 6, 2), (24, .if_icmp .ge 17, 3), (27, .aload_n 0, 1), (28, .getfield 36, 3), (31, .bipush 6, 2), (33, .iload_n 1, 1), (34, .imul, 1), (35, .iload_n 2, 1), (36, .iadd, 1), (37, .iaload, 1)] = true := by decide +kernel
theorem dX12_row_0 : decode cX12_row 0 = .ok (.aload_n 0, 1) := kDec_at dA76_cX12_row 0 rfl
theorem dX12_row_1 : decode cX12_row 1 = .ok (.iconst 0, 1) := kDec_at dA76_cX12_row 1 rfl
theorem dX12_row_2 : decode cX12_row 2 = .ok (.putfield 85, 3) := kDec_at dA76_cX12_row 2 rfl
theorem dX12_row_5 : decode cX12_row 5 = .ok (.iload_n 1, 1) := kDec_at dA76_cX12_row 3 rfl
theorem dX12_row_6 : decode cX12_row 6 = .ok (.ifCond .lt 35, 3) := kDec_at dA76_cX12_row 4 rfl
theorem dX12_row_41 : decode cX12_row 41 = .ok (.iconst (-1), 1) := kDec_at dA76_cX12_row 5 rfl
theorem dX12_row_42 : decode cX12_row 42 = .ok (.ireturn, 1) := kDec_at dA76_cX12_row 6 rfl
theorem dX12_row_9 : decode cX12_row 9 = .ok (.iload_n 1, 1) := kDec_at dA76_cX12_row 7 rfl
theorem dX12_row_10 : decode cX12_row 10 = .ok (.aload_n 0, 1) := kDec_at dA76_cX12_row 8 rfl
theorem dX12_row_11 : decode cX12_row 11 = .ok (.getfield 180, 3) := kDec_at dA76_cX12_row 9 rfl
theorem dX12_row_14 : decode cX12_row 14 = .ok (.if_icmp .ge 27, 3) := kDec_at dA76_cX12_row 10 rfl
theorem dX12_row_17 : decode cX12_row 17 = .ok (.iload_n 2, 1) := kDec_at dA76_cX12_row 11 rfl
theorem dX12_row_18 : decode cX12_row 18 = .ok (.ifCond .lt 23, 3) := kDec_at dA76_cX12_row 12 rfl
theorem dX12_row_21 : decode cX12_row 21 = .ok (.iload_n 2, 1) := kDec_at dA76_cX12_row 13 rfl
theorem dX12_row_22 : decode cX12_row 22 = .ok (.bipush 6, 2) := kDec_at dA76_cX12_row 14 rfl
theorem dX12_row_24 : decode cX12_row 24 = .ok (.if_icmp .ge 17, 3) := kDec_at dA76_cX12_row 15 rfl
theorem dX12_row_27 : decode cX12_row 27 = .ok (.aload_n 0, 1) := kDec_at dA76_cX12_row 16 rfl
theorem dX12_row_28 : decode cX12_row 28 = .ok (.getfield 36, 3) := kDec_at dA76_cX12_row 17 rfl
theorem dX12_row_31 : decode cX12_row 31 = .ok (.bipush 6, 2) := kDec_at dA76_cX12_row 18 rfl
theorem dX12_row_33 : decode cX12_row 33 = .ok (.iload_n 1, 1) := kDec_at dA76_cX12_row 19 rfl
theorem dX12_row_34 : decode cX12_row 34 = .ok (.imul, 1) := kDec_at dA76_cX12_row 20 rfl
theorem dX12_row_35 : decode cX12_row 35 = .ok (.iload_n 2, 1) := kDec_at dA76_cX12_row 21 rfl
theorem dX12_row_36 : decode cX12_row 36 = .ok (.iadd, 1) := kDec_at dA76_cX12_row 22 rfl
theorem dX12_row_37 : decode cX12_row 37 = .ok (.iaload, 1) := kDec_at dA76_cX12_row 23 rfl
set_option maxRecDepth 100000 in
theorem dA77_cX12_row : kDec cX12_row [(38, .goto 4, 3)] = true := by decide +kernel
theorem dX12_row_38 : decode cX12_row 38 = .ok (.goto 4, 3) := kDec_at dA77_cX12_row 0 rfl
set_option maxRecDepth 100000 in
theorem dA78_cX12_isToldChoice : kDec cX12_isToldChoice [(0, .iload_n 1, 1), (1, .ifCond .lt 22, 3), (23, .iconst 0, 1), (24, .ireturn, 1), (4, .iload_n 1, 1), (5, .aload_n 0, 1), (6, .getfield 213, 3), (9, .if_icmp .ge 14, 3), (12, .iload_n 1, 1), (13, .sipush 200, 3), (16, .if_icmp .ge 7, 3), (19, .iconst 1, 1), (20, .goto 4, 3)] = true := by decide +kernel
theorem dX12_isToldChoice_0 : decode cX12_isToldChoice 0 = .ok (.iload_n 1, 1) := kDec_at dA78_cX12_isToldChoice 0 rfl
theorem dX12_isToldChoice_1 : decode cX12_isToldChoice 1 = .ok (.ifCond .lt 22, 3) := kDec_at dA78_cX12_isToldChoice 1 rfl
theorem dX12_isToldChoice_23 : decode cX12_isToldChoice 23 = .ok (.iconst 0, 1) := kDec_at dA78_cX12_isToldChoice 2 rfl
theorem dX12_isToldChoice_24 : decode cX12_isToldChoice 24 = .ok (.ireturn, 1) := kDec_at dA78_cX12_isToldChoice 3 rfl
theorem dX12_isToldChoice_4 : decode cX12_isToldChoice 4 = .ok (.iload_n 1, 1) := kDec_at dA78_cX12_isToldChoice 4 rfl
theorem dX12_isToldChoice_5 : decode cX12_isToldChoice 5 = .ok (.aload_n 0, 1) := kDec_at dA78_cX12_isToldChoice 5 rfl
theorem dX12_isToldChoice_6 : decode cX12_isToldChoice 6 = .ok (.getfield 213, 3) := kDec_at dA78_cX12_isToldChoice 6 rfl
theorem dX12_isToldChoice_9 : decode cX12_isToldChoice 9 = .ok (.if_icmp .ge 14, 3) := kDec_at dA78_cX12_isToldChoice 7 rfl
theorem dX12_isToldChoice_12 : decode cX12_isToldChoice 12 = .ok (.iload_n 1, 1) := kDec_at dA78_cX12_isToldChoice 8 rfl
theorem dX12_isToldChoice_13 : decode cX12_isToldChoice 13 = .ok (.sipush 200, 3) := kDec_at dA78_cX12_isToldChoice 9 rfl
theorem dX12_isToldChoice_16 : decode cX12_isToldChoice 16 = .ok (.if_icmp .ge 7, 3) := kDec_at dA78_cX12_isToldChoice 10 rfl
theorem dX12_isToldChoice_19 : decode cX12_isToldChoice 19 = .ok (.iconst 1, 1) := kDec_at dA78_cX12_isToldChoice 11 rfl
theorem dX12_isToldChoice_20 : decode cX12_isToldChoice 20 = .ok (.goto 4, 3) := kDec_at dA78_cX12_isToldChoice 12 rfl
set_option maxRecDepth 100000 in
theorem dA79_cX12_choice : kDec cX12_choice [(0, .aload_n 0, 1), (1, .iconst 0, 1), (2, .putfield 85, 3), (5, .aload_n 0, 1), (6, .iload_n 1, 1), (7, .invokevirtual 222, 3), (10, .ifCond .eq 25, 3), (35, .iconst (-1), 1), (36, .ireturn, 1), (13, .iload_n 2, 1), (14, .ifCond .lt 21, 3), (17, .iload_n 2, 1), (18, .iconst 4, 1), (19, .if_icmp .ge 16, 3), (22, .aload_n 0, 1), (23, .getfield 48, 3), (26, .iconst 4, 1), (27, .iload_n 1, 1), (28, .imul, 1), (29, .iload_n 2, 1), (30, .iadd, 1), (31, .iaload, 1), (32, .goto 4, 3)] = true := by decide +kernel
theorem dX12_choice_0 : decode cX12_choice 0 = .ok (.aload_n 0, 1) := kDec_at dA79_cX12_choice 0 rfl
theorem dX12_choice_1 : decode cX12_choice 1 = .ok (.iconst 0, 1) := kDec_at dA79_cX12_choice 1 rfl
theorem dX12_choice_2 : decode cX12_choice 2 = .ok (.putfield 85, 3) := kDec_at dA79_cX12_choice 2 rfl
theorem dX12_choice_5 : decode cX12_choice 5 = .ok (.aload_n 0, 1) := kDec_at dA79_cX12_choice 3 rfl
theorem dX12_choice_6 : decode cX12_choice 6 = .ok (.iload_n 1, 1) := kDec_at dA79_cX12_choice 4 rfl
theorem dX12_choice_7 : decode cX12_choice 7 = .ok (.invokevirtual 222, 3) := kDec_at dA79_cX12_choice 5 rfl
theorem dX12_choice_10 : decode cX12_choice 10 = .ok (.ifCond .eq 25, 3) := kDec_at dA79_cX12_choice 6 rfl
theorem dX12_choice_35 : decode cX12_choice 35 = .ok (.iconst (-1), 1) := kDec_at dA79_cX12_choice 7 rfl
theorem dX12_choice_36 : decode cX12_choice 36 = .ok (.ireturn, 1) := kDec_at dA79_cX12_choice 8 rfl
theorem dX12_choice_13 : decode cX12_choice 13 = .ok (.iload_n 2, 1) := kDec_at dA79_cX12_choice 9 rfl
theorem dX12_choice_14 : decode cX12_choice 14 = .ok (.ifCond .lt 21, 3) := kDec_at dA79_cX12_choice 10 rfl
theorem dX12_choice_17 : decode cX12_choice 17 = .ok (.iload_n 2, 1) := kDec_at dA79_cX12_choice 11 rfl
theorem dX12_choice_18 : decode cX12_choice 18 = .ok (.iconst 4, 1) := kDec_at dA79_cX12_choice 12 rfl
theorem dX12_choice_19 : decode cX12_choice 19 = .ok (.if_icmp .ge 16, 3) := kDec_at dA79_cX12_choice 13 rfl
theorem dX12_choice_22 : decode cX12_choice 22 = .ok (.aload_n 0, 1) := kDec_at dA79_cX12_choice 14 rfl
theorem dX12_choice_23 : decode cX12_choice 23 = .ok (.getfield 48, 3) := kDec_at dA79_cX12_choice 15 rfl
theorem dX12_choice_26 : decode cX12_choice 26 = .ok (.iconst 4, 1) := kDec_at dA79_cX12_choice 16 rfl
theorem dX12_choice_27 : decode cX12_choice 27 = .ok (.iload_n 1, 1) := kDec_at dA79_cX12_choice 17 rfl
theorem dX12_choice_28 : decode cX12_choice 28 = .ok (.imul, 1) := kDec_at dA79_cX12_choice 18 rfl
theorem dX12_choice_29 : decode cX12_choice 29 = .ok (.iload_n 2, 1) := kDec_at dA79_cX12_choice 19 rfl
theorem dX12_choice_30 : decode cX12_choice 30 = .ok (.iadd, 1) := kDec_at dA79_cX12_choice 20 rfl
theorem dX12_choice_31 : decode cX12_choice 31 = .ok (.iaload, 1) := kDec_at dA79_cX12_choice 21 rfl
theorem dX12_choice_32 : decode cX12_choice 32 = .ok (.goto 4, 3) := kDec_at dA79_cX12_choice 22 rfl
set_option maxRecDepth 20000 in
theorem gX12_isToldChoice_all : wsX12_isToldChoice.all goodWord = true := by
  unfold wsX12_isToldChoice
  exact good_c (by decide +kernel) (good_a ((by decide +kernel)) gX12_clsall)
set_option maxRecDepth 20000 in
theorem ggX12_choice_X12_isToldChoice : GoodIn wsX12_choice wsX12_isToldChoice := goodIn_sub (fun _ h => List.mem_cons_of_mem _ (List.mem_append_right _ (h))) gX12_isToldChoice_all
set_option maxRecDepth 20000 in
theorem gX12_choice_X12_isToldChoice : GoodIn wsX12_choice (wsV RX12 222 RX12 yX12_isToldChoice wsX12_isToldChoice) := goodIn_app (goodIn_r _ [3, 4, 5, 6] rfl (by decide +kernel)) ggX12_choice_X12_isToldChoice

end

/-! 56.ref -/
section
set_option maxHeartbeats 40000000 in
set_option maxRecDepth 100000 in
theorem y_row (l : Launch) (dC : Nat → ClassId) (dI : Nat → Nat → Nat) (cI cS : ClassId) (sz : Nat) (oM : Nat) (mT : Nat) (mS : Nat) (mX : Nat) (mL : Nat) (mB : Nat) (mD : Nat) (m1 : Nat) (m2 : Nat) (mR : Nat) (x1 : Nat) (x2 : Nat) (x3 : Nat) (mH : Nat) (mY : Nat) (mE : Nat) (mW : Nat) (mO : Nat) (y1 : Nat) (y2 : Nat) (y3 : Nat) (y4 : Nat) (mZ : Nat) (zt : Int32) (zp : Int32) (zf : Int32) (zh : Int32) (zr : Int32) (zc : Int32) (zy : Int32) (za : Int32) (zb : Int32) (zs : Int32) (zq : Int32) (zw : Int32) (ze : Int32) (zn : Int32) (zm : Int32) (zl : Int32) (zk : Int32) (zd : Int32) (eR : Nat → Int32) (i : Int32) (wh : Int32) (g_zt : 0 ≤ zt.toInt ∧ zt.toInt ≤ 900) (g_zp : 0 ≤ zp.toInt ∧ zp.toInt ≤ 20) (g_zf : 0 ≤ zf.toInt ∧ zf.toInt ≤ 19) (g_zh : 0 ≤ zh.toInt ∧ zh.toInt ≤ 6) (g_zr : 0 ≤ zr.toInt ∧ zr.toInt ≤ 258) (g_zc : 0 ≤ zc.toInt ∧ zc.toInt ≤ 300) (g_zy : 0 ≤ zy.toInt ∧ zy.toInt ≤ 65536) (g_za : 0 ≤ za.toInt ∧ za.toInt ≤ 5) (g_zb : 0 ≤ zb.toInt ∧ zb.toInt ≤ 5) (g_zs : 0 ≤ zs.toInt ∧ zs.toInt ≤ 2000000) (g_zq : -1 ≤ zq.toInt ∧ zq.toInt ≤ 2000000) (g_zn : 0 ≤ zn.toInt ∧ zn.toInt ≤ 2600) (g_zm : 0 ≤ zm.toInt ∧ zm.toInt ≤ 2600) (g_zk : 0 ≤ zk.toInt ∧ zk.toInt ≤ 300) (hzs : zs.toInt ≤ 1000000) : kMi l yX12_row wsX12_row ({ frames := 0, cells := 0, slots := 0, locals := 0 } : Room) [.ref oM, .int i, .int wh] sz (dC, dI) vwCl [(cI, .int), (cS, .short)] [(oM, .inr (12, [.ref mT, .int zt, .ref mS, .ref mX, .int zp, .int zf, .ref mL, .ref mB, .ref mD, .ref m1, .ref m2, .int zh, .ref mR, .int zr, .ref x1, .ref x2, .ref x3, .int zc, .ref mH, .int zy, .int za, .int zb, .int zs, .int zq, .int zw, .int ze, .ref mY, .int zn, .ref mE, .int zm, .int zl, .ref mW, .int zk, .ref mO, .int zd, .ref y1, .ref y2, .ref y3, .ref y4, .ref mZ])), (mR, .inl (cI, 1548, .inl eR))] (fun _ => True) 0 0 (fun (A : Nat → Prop) (r : Int32) (hh9 : Heap) => ∀ PZ9 : Prop, (∀ (ze' : Int32), kPD (dC, dI) vwCl A [(oM, .inr (12, [.ref mT, .int zt, .ref mS, .ref mX, .int zp, .int zf, .ref mL, .ref mB, .ref mD, .ref m1, .ref m2, .int zh, .ref mR, .int zr, .ref x1, .ref x2, .ref x3, .int zc, .ref mH, .int zy, .int za, .int zb, .int zs, .int zq, .int zw, .int ze', .ref mY, .int zn, .ref mE, .int zm, .int zl, .ref mW, .int zk, .ref mO, .int zd, .ref y1, .ref y2, .ref y3, .ref y4, .ref mZ])), (mR, .inl (cI, 1548, .inl eR))] hh9 → PZ9) → PZ9) := by
  refine kMi_of (cc := cX12_row) (maxL := 3) (ret := (some .int)) (lv := [(0, .ref oM), (1, .int i), (2, .int wh)]) (by decide +kernel) rfl rfl (Nat.le_of_ble_eq_true rfl) ?_
  intro p e s m below meth c A QQ ls hx hb hr hts hml hown hlocks hA hQQ hK hX hP hD hS hl
  have hown : s.vm.findClass RX12 = some m.cls := hown
  have hcf := k_cf hx hb hml hown hts
  have in_X12 : ∀ w ∈ wsX120, w ∈ wsX12_row := fun _ h => List.mem_cons_of_mem _ (List.mem_append_right _ (h))
  replace g_zt := hid g_zt
  replace g_zp := hid g_zp
  replace g_zf := hid g_zf
  replace g_zh := hid g_zh
  replace g_zc := hid g_zc
  replace g_zy := hid g_zy
  replace g_za := hid g_za
  replace g_zb := hid g_zb
  replace g_zs := hid g_zs
  replace g_zq := hid g_zq
  replace g_zn := hid g_zn
  replace g_zm := hid g_zm
  replace g_zk := hid g_zk
  refine lv_aload_n hx hb dX12_row_0 rfl (lv_at hl 0 rfl) ?_
  refine lv_iconst (v := 0) hx hb dX12_row_1 (by decide) ?_
  refine va_put (D := (dC, dI)) (ci := 12) (v := .int 0) (ty := .int) (C := RX12) (T := TX12) (N := 40) hx hb hts in_X12 tyX12 tyX12_ok nmX12 hown hK hP hD hS 0 rfl rfl 25 (Nat.le_of_ble_eq_true rfl) (hts (.fieldLink RX12 85 "TextMenderModel" "thrown" "I") (List.mem_of_getElem? (i := 1) rfl)) (fun _ h9 => h9) rfl (tyX12_ok 25 (Nat.le_of_ble_eq_true rfl)) rfl rfl (Nat.le_of_ble_eq_true rfl) dX12_row_2 (kW (wn := [(oM, .inr (12, [.ref mT, .int zt, .ref mS, .ref mX, .int zp, .int zf, .ref mL, .ref mB, .ref mD, .ref m1, .ref m2, .int zh, .ref mR, .int zr, .ref x1, .ref x2, .ref x3, .int zc, .ref mH, .int zy, .int za, .int zb, .int zs, .int zq, .int zw, .int 0, .ref mY, .int zn, .ref mE, .int zm, .int zl, .ref mW, .int zk, .ref mO, .int zd, .ref y1, .ref y2, .ref y3, .ref y4, .ref mZ])), (mR, .inl (cI, 1548, .inl eR))]) rfl (fun H locs hPn hDn hSn => ?_))
  clear hP hD hS
  have hP := hPn
  have hD := hDn
  have hS := hSn
  clear hPn hDn hSn
  refine lv_iload_n hx hb dX12_row_5 rfl (lv_at hl 1 rfl) ?_
  refine lv_if_lt (tgt := 41) hx hb dX12_row_6 (by decide) (fun c_1 => ?_) (fun c_1 => ?_)
  · have tc_1 : i.toInt < 0 := v_lt c_1
    refine lv_iconst (v := (-1)) hx hb dX12_row_41 (by decide) ?_
    exact kl_i (v := (-1)) hQQ hx hb hr hlocks hS dX12_row_42 (fun PZ9 kZ9 => kZ9 0 (⟨hP, hD⟩))
  · have tc_1 : 0 ≤ i.toInt := v_nlt c_1
    refine lv_iload_n hx hb dX12_row_9 rfl (lv_at hl 1 rfl) ?_
    refine lv_aload_n hx hb dX12_row_10 rfl (lv_at hl 0 rfl) ?_
    refine va_get (D := (dC, dI)) (ci := 12) (v := .int zr) (C := RX12) (T := TX12) (N := 40) hx hb hts in_X12 hown hK hP 0 rfl rfl 13 (Nat.le_of_ble_eq_true rfl) (hts (.fieldLink RX12 180 "TextMenderModel" "rowMany" "I") (List.mem_of_getElem? (i := 2) rfl)) (fun _ h9 => h9) rfl dX12_row_11 ?_
    refine lv_icmp_ge (tgt := 41) hx hb dX12_row_14 (by decide) (fun c_2 => ?_) (fun c_2 => ?_)
    · have tc_2 : zr.toInt ≤ i.toInt := v_le c_2
      have rw2_0 := v_rng i
      refine lv_iconst (v := (-1)) hx hb dX12_row_41 (by decide) ?_
      exact kl_i (v := (-1)) hQQ hx hb hr hlocks hS dX12_row_42 (fun PZ9 kZ9 => kZ9 0 (⟨hP, hD⟩))
    · have tc_2 : i.toInt < zr.toInt := v_nle c_2
      have rw2_0 := v_rng i
      refine lv_iload_n hx hb dX12_row_17 rfl (lv_at hl 2 rfl) ?_
      refine lv_if_lt (tgt := 41) hx hb dX12_row_18 (by decide) (fun c_3 => ?_) (fun c_3 => ?_)
      · have tc_3 : wh.toInt < 0 := v_lt c_3
        refine lv_iconst (v := (-1)) hx hb dX12_row_41 (by decide) ?_
        exact kl_i (v := (-1)) hQQ hx hb hr hlocks hS dX12_row_42 (fun PZ9 kZ9 => kZ9 0 (⟨hP, hD⟩))
      · have tc_3 : 0 ≤ wh.toInt := v_nlt c_3
        refine lv_iload_n hx hb dX12_row_21 rfl (lv_at hl 2 rfl) ?_
        refine lv_bipush (v := 6) hx hb dX12_row_22 (by decide) ?_
        refine lv_icmp_ge (tgt := 41) hx hb dX12_row_24 (by decide) (fun c_4 => ?_) (fun c_4 => ?_)
        · have tc_4 : 6 ≤ wh.toInt := v_le c_4
          refine lv_iconst (v := (-1)) hx hb dX12_row_41 (by decide) ?_
          exact kl_i (v := (-1)) hQQ hx hb hr hlocks hS dX12_row_42 (fun PZ9 kZ9 => kZ9 0 (⟨hP, hD⟩))
        · have tc_4 : wh.toInt < 6 := v_nle c_4
          refine lv_aload_n hx hb dX12_row_27 rfl (lv_at hl 0 rfl) ?_
          refine va_get (D := (dC, dI)) (ci := 12) (v := .ref mR) (C := RX12) (T := TX12) (N := 40) hx hb hts in_X12 hown hK hP 0 rfl rfl 12 (Nat.le_of_ble_eq_true rfl) (hts (.fieldLink RX12 36 "TextMenderModel" "rows" "[I") (List.mem_of_getElem? (i := 3) rfl)) (fun _ h9 => h9) rfl dX12_row_28 ?_
          refine lv_bipush (v := 6) hx hb dX12_row_31 (by decide) ?_
          refine lv_iload_n hx hb dX12_row_33 rfl (lv_at hl 1 rfl) ?_
          refine lv_imul hx hb dX12_row_34 ?_
          refine lv_topi (fun x_5 ex_5 => ?_)
          have tx_5 : x_5.toInt = 6 * i.toInt := v_mul ex_5 (by show -2147483648 ≤ 6 * i.toInt; omega) (by show 6 * i.toInt < 2147483648; omega)
          refine lv_iload_n hx hb dX12_row_35 rfl (lv_at hl 2 rfl) ?_
          refine lv_iadd hx hb dX12_row_36 ?_
          refine lv_topi (fun x_6 ex_6 => ?_)
          have tx_6 : x_6.toInt = x_5.toInt + wh.toInt := v_add ex_6 (by show -2147483648 ≤ x_5.toInt + wh.toInt; omega) (by show x_5.toInt + wh.toInt < 2147483648; omega)
          refine va_iald hx hb hK hP 1 0 rfl rfl (v_in (by omega)) dX12_row_37 ?_
          refine lv_topi (fun x_7 ex_7 => ?_)
          refine lv_goto (tgt := 42) hx hb dX12_row_38 (by decide) ?_
          exact kl_i (v := x_7) hQQ hx hb hr hlocks hS dX12_row_42 (fun PZ9 kZ9 => kZ9 0 (⟨hP, hD⟩))

set_option maxHeartbeats 40000000 in
set_option maxRecDepth 100000 in
theorem m_X12_isToldChoice (l : Launch) (dC : Nat → ClassId) (dI : Nat → Nat → Nat) (cI cS : ClassId) (sz : Nat) (oM : Nat) (mT : Nat) (mS : Nat) (mX : Nat) (mL : Nat) (mB : Nat) (mD : Nat) (m1 : Nat) (m2 : Nat) (mR : Nat) (x1 : Nat) (x2 : Nat) (x3 : Nat) (mH : Nat) (mY : Nat) (mE : Nat) (mW : Nat) (mO : Nat) (y1 : Nat) (y2 : Nat) (y3 : Nat) (y4 : Nat) (mZ : Nat) (zt : Int32) (zp : Int32) (zf : Int32) (zh : Int32) (zr : Int32) (zc : Int32) (zy : Int32) (za : Int32) (zb : Int32) (zs : Int32) (zq : Int32) (zw : Int32) (ze : Int32) (zn : Int32) (zm : Int32) (zl : Int32) (zk : Int32) (zd : Int32) (i : Int32) (g_zt : 0 ≤ zt.toInt ∧ zt.toInt ≤ 900) (g_zp : 0 ≤ zp.toInt ∧ zp.toInt ≤ 20) (g_zf : 0 ≤ zf.toInt ∧ zf.toInt ≤ 19) (g_zh : 0 ≤ zh.toInt ∧ zh.toInt ≤ 6) (g_zr : 0 ≤ zr.toInt ∧ zr.toInt ≤ 258) (g_zc : 0 ≤ zc.toInt ∧ zc.toInt ≤ 300) (g_zy : 0 ≤ zy.toInt ∧ zy.toInt ≤ 65536) (g_za : 0 ≤ za.toInt ∧ za.toInt ≤ 5) (g_zb : 0 ≤ zb.toInt ∧ zb.toInt ≤ 5) (g_zs : 0 ≤ zs.toInt ∧ zs.toInt ≤ 2000000) (g_zq : -1 ≤ zq.toInt ∧ zq.toInt ≤ 2000000) (g_zn : 0 ≤ zn.toInt ∧ zn.toInt ≤ 2600) (g_zm : 0 ≤ zm.toInt ∧ zm.toInt ≤ 2600) (g_zk : 0 ≤ zk.toInt ∧ zk.toInt ≤ 300) : kMi l yX12_isToldChoice wsX12_isToldChoice ({ frames := 0, cells := 0, slots := 0, locals := 0 } : Room) [.ref oM, .int i] sz (dC, dI) vwCl [(cI, .int), (cS, .short)] [(oM, .inr (12, [.ref mT, .int zt, .ref mS, .ref mX, .int zp, .int zf, .ref mL, .ref mB, .ref mD, .ref m1, .ref m2, .int zh, .ref mR, .int zr, .ref x1, .ref x2, .ref x3, .int zc, .ref mH, .int zy, .int za, .int zb, .int zs, .int zq, .int zw, .int ze, .ref mY, .int zn, .ref mE, .int zm, .int zl, .ref mW, .int zk, .ref mO, .int zd, .ref y1, .ref y2, .ref y3, .ref y4, .ref mZ]))] (fun _ => True) 0 0 (fun (A : Nat → Prop) (r : Int32) (hh9 : Heap) => ∀ PZ9 : Prop, (kPD (dC, dI) vwCl A [(oM, .inr (12, [.ref mT, .int zt, .ref mS, .ref mX, .int zp, .int zf, .ref mL, .ref mB, .ref mD, .ref m1, .ref m2, .int zh, .ref mR, .int zr, .ref x1, .ref x2, .ref x3, .int zc, .ref mH, .int zy, .int za, .int zb, .int zs, .int zq, .int zw, .int ze, .ref mY, .int zn, .ref mE, .int zm, .int zl, .ref mW, .int zk, .ref mO, .int zd, .ref y1, .ref y2, .ref y3, .ref y4, .ref mZ]))] hh9 → (0 ≤ r.toInt ∧ r.toInt ≤ 1) → ((r.toInt = 1 ∧ 0 ≤ i.toInt ∧ i.toInt < zy.toInt ∧ i.toInt < 200) ∨ r.toInt = 0) → PZ9) → PZ9) := by
  refine kMi_of (cc := cX12_isToldChoice) (maxL := 2) (ret := (some .boolean)) (lv := [(0, .ref oM), (1, .int i)]) (by decide +kernel) rfl rfl (Nat.le_of_ble_eq_true rfl) ?_
  intro p e s m below meth c A QQ ls hx hb hr hts hml hown hlocks hA hQQ hK hX hP hD hS hl
  have hown : s.vm.findClass RX12 = some m.cls := hown
  have hcf := k_cf hx hb hml hown hts
  have in_X12 : ∀ w ∈ wsX120, w ∈ wsX12_isToldChoice := fun _ h => List.mem_cons_of_mem _ (List.mem_append_right _ (h))
  replace g_zt := hid g_zt
  replace g_zp := hid g_zp
  replace g_zf := hid g_zf
  replace g_zh := hid g_zh
  replace g_zr := hid g_zr
  replace g_zc := hid g_zc
  replace g_za := hid g_za
  replace g_zb := hid g_zb
  replace g_zs := hid g_zs
  replace g_zq := hid g_zq
  replace g_zn := hid g_zn
  replace g_zm := hid g_zm
  replace g_zk := hid g_zk
  refine lv_iload_n hx hb dX12_isToldChoice_0 rfl (lv_at hl 1 rfl) ?_
  refine lv_if_lt (tgt := 23) hx hb dX12_isToldChoice_1 (by decide) (fun c_1 => ?_) (fun c_1 => ?_)
  · have tc_1 : i.toInt < 0 := v_lt c_1
    refine lv_iconst (v := 0) hx hb dX12_isToldChoice_23 (by decide) ?_
    exact kl_z (v := 0) hQQ hx hb hr hlocks hS dX12_isToldChoice_24 (rfl) (fun PZ9 kZ9 => kZ9 (⟨hP, hD⟩) (by decide) (by show (0 = 1 ∧ 0 ≤ i.toInt ∧ i.toInt < zy.toInt ∧ i.toInt < 200) ∨ 0 = 0; omega))
  · have tc_1 : 0 ≤ i.toInt := v_nlt c_1
    refine lv_iload_n hx hb dX12_isToldChoice_4 rfl (lv_at hl 1 rfl) ?_
    refine lv_aload_n hx hb dX12_isToldChoice_5 rfl (lv_at hl 0 rfl) ?_
    refine va_get (D := (dC, dI)) (ci := 12) (v := .int zy) (C := RX12) (T := TX12) (N := 40) hx hb hts in_X12 hown hK hP 0 rfl rfl 19 (Nat.le_of_ble_eq_true rfl) (hts (.fieldLink RX12 213 "TextMenderModel" "choiceMany" "I") (List.mem_of_getElem? (i := 1) rfl)) (fun _ h9 => h9) rfl dX12_isToldChoice_6 ?_
    refine lv_icmp_ge (tgt := 23) hx hb dX12_isToldChoice_9 (by decide) (fun c_2 => ?_) (fun c_2 => ?_)
    · have tc_2 : zy.toInt ≤ i.toInt := v_le c_2
      have rw2_0 := v_rng i
      refine lv_iconst (v := 0) hx hb dX12_isToldChoice_23 (by decide) ?_
      exact kl_z (v := 0) hQQ hx hb hr hlocks hS dX12_isToldChoice_24 (rfl) (fun PZ9 kZ9 => kZ9 (⟨hP, hD⟩) (by decide) (by show (0 = 1 ∧ 0 ≤ i.toInt ∧ i.toInt < zy.toInt ∧ i.toInt < 200) ∨ 0 = 0; omega))
    · have tc_2 : i.toInt < zy.toInt := v_nle c_2
      have rw2_0 := v_rng i
      refine lv_iload_n hx hb dX12_isToldChoice_12 rfl (lv_at hl 1 rfl) ?_
      refine lv_sipush (v := 200) hx hb dX12_isToldChoice_13 (by decide) ?_
      refine lv_icmp_ge (tgt := 23) hx hb dX12_isToldChoice_16 (by decide) (fun c_3 => ?_) (fun c_3 => ?_)
      · have tc_3 : 200 ≤ i.toInt := v_le c_3
        refine lv_iconst (v := 0) hx hb dX12_isToldChoice_23 (by decide) ?_
        exact kl_z (v := 0) hQQ hx hb hr hlocks hS dX12_isToldChoice_24 (rfl) (fun PZ9 kZ9 => kZ9 (⟨hP, hD⟩) (by decide) (by show (0 = 1 ∧ 0 ≤ i.toInt ∧ i.toInt < zy.toInt ∧ i.toInt < 200) ∨ 0 = 0; omega))
      · have tc_3 : i.toInt < 200 := v_nle c_3
        refine lv_iconst (v := 1) hx hb dX12_isToldChoice_19 (by decide) ?_
        refine lv_goto (tgt := 24) hx hb dX12_isToldChoice_20 (by decide) ?_
        exact kl_z (v := 1) hQQ hx hb hr hlocks hS dX12_isToldChoice_24 (rfl) (fun PZ9 kZ9 => kZ9 (⟨hP, hD⟩) (by decide) (by show (1 = 1 ∧ 0 ≤ i.toInt ∧ i.toInt < zy.toInt ∧ i.toInt < 200) ∨ 1 = 0; omega))

set_option maxHeartbeats 40000000 in
set_option maxRecDepth 100000 in
theorem y_choice (l : Launch) (dC : Nat → ClassId) (dI : Nat → Nat → Nat) (cI cS : ClassId) (sz : Nat) (oM : Nat) (mT : Nat) (mS : Nat) (mX : Nat) (mL : Nat) (mB : Nat) (mD : Nat) (m1 : Nat) (m2 : Nat) (mR : Nat) (x1 : Nat) (x2 : Nat) (x3 : Nat) (mH : Nat) (mY : Nat) (mE : Nat) (mW : Nat) (mO : Nat) (y1 : Nat) (y2 : Nat) (y3 : Nat) (y4 : Nat) (mZ : Nat) (zt : Int32) (zp : Int32) (zf : Int32) (zh : Int32) (zr : Int32) (zc : Int32) (zy : Int32) (za : Int32) (zb : Int32) (zs : Int32) (zq : Int32) (zw : Int32) (ze : Int32) (zn : Int32) (zm : Int32) (zl : Int32) (zk : Int32) (zd : Int32) (eH : Nat → Int32) (i : Int32) (wh : Int32) (g_zt : 0 ≤ zt.toInt ∧ zt.toInt ≤ 900) (g_zp : 0 ≤ zp.toInt ∧ zp.toInt ≤ 20) (g_zf : 0 ≤ zf.toInt ∧ zf.toInt ≤ 19) (g_zh : 0 ≤ zh.toInt ∧ zh.toInt ≤ 6) (g_zr : 0 ≤ zr.toInt ∧ zr.toInt ≤ 258) (g_zc : 0 ≤ zc.toInt ∧ zc.toInt ≤ 300) (g_zy : 0 ≤ zy.toInt ∧ zy.toInt ≤ 65536) (g_za : 0 ≤ za.toInt ∧ za.toInt ≤ 5) (g_zb : 0 ≤ zb.toInt ∧ zb.toInt ≤ 5) (g_zs : 0 ≤ zs.toInt ∧ zs.toInt ≤ 2000000) (g_zq : -1 ≤ zq.toInt ∧ zq.toInt ≤ 2000000) (g_zn : 0 ≤ zn.toInt ∧ zn.toInt ≤ 2600) (g_zm : 0 ≤ zm.toInt ∧ zm.toInt ≤ 2600) (g_zk : 0 ≤ zk.toInt ∧ zk.toInt ≤ 300) (hzs : zs.toInt ≤ 1000000) : kMi l yX12_choice wsX12_choice ({ frames := 1, cells := 0, slots := 0, locals := 21 } : Room) [.ref oM, .int i, .int wh] sz (dC, dI) vwCl [(cI, .int), (cS, .short)] [(oM, .inr (12, [.ref mT, .int zt, .ref mS, .ref mX, .int zp, .int zf, .ref mL, .ref mB, .ref mD, .ref m1, .ref m2, .int zh, .ref mR, .int zr, .ref x1, .ref x2, .ref x3, .int zc, .ref mH, .int zy, .int za, .int zb, .int zs, .int zq, .int zw, .int ze, .ref mY, .int zn, .ref mE, .int zm, .int zl, .ref mW, .int zk, .ref mO, .int zd, .ref y1, .ref y2, .ref y3, .ref y4, .ref mZ])), (mH, .inl (cI, 800, .inl eH))] (fun _ => True) 0 0 (fun (A : Nat → Prop) (r : Int32) (hh9 : Heap) => ∀ PZ9 : Prop, (∀ (ze' : Int32), kPD (dC, dI) vwCl A [(oM, .inr (12, [.ref mT, .int zt, .ref mS, .ref mX, .int zp, .int zf, .ref mL, .ref mB, .ref mD, .ref m1, .ref m2, .int zh, .ref mR, .int zr, .ref x1, .ref x2, .ref x3, .int zc, .ref mH, .int zy, .int za, .int zb, .int zs, .int zq, .int zw, .int ze', .ref mY, .int zn, .ref mE, .int zm, .int zl, .ref mW, .int zk, .ref mO, .int zd, .ref y1, .ref y2, .ref y3, .ref y4, .ref mZ])), (mH, .inl (cI, 800, .inl eH))] hh9 → PZ9) → PZ9) := by
  refine kMi_of (cc := cX12_choice) (maxL := 3) (ret := (some .int)) (lv := [(0, .ref oM), (1, .int i), (2, .int wh)]) (by decide +kernel) rfl rfl (Nat.le_of_ble_eq_true rfl) ?_
  intro p e s m below meth c A QQ ls hx hb hr hts hml hown hlocks hA hQQ hK hX hP hD hS hl
  have hown : s.vm.findClass RX12 = some m.cls := hown
  have hcf := k_cf hx hb hml hown hts
  have in_X12 : ∀ w ∈ wsX120, w ∈ wsX12_choice := fun _ h => List.mem_cons_of_mem _ (List.mem_append_left _ (List.mem_append_right _ (h)))
  replace g_zt := hid g_zt
  replace g_zp := hid g_zp
  replace g_zf := hid g_zf
  replace g_zh := hid g_zh
  replace g_zr := hid g_zr
  replace g_zc := hid g_zc
  replace g_za := hid g_za
  replace g_zb := hid g_zb
  replace g_zs := hid g_zs
  replace g_zq := hid g_zq
  replace g_zn := hid g_zn
  replace g_zm := hid g_zm
  replace g_zk := hid g_zk
  refine lv_aload_n hx hb dX12_choice_0 rfl (lv_at hl 0 rfl) ?_
  refine lv_iconst (v := 0) hx hb dX12_choice_1 (by decide) ?_
  refine va_put (D := (dC, dI)) (ci := 12) (v := .int 0) (ty := .int) (C := RX12) (T := TX12) (N := 40) hx hb hts in_X12 tyX12 tyX12_ok nmX12 hown hK hP hD hS 0 rfl rfl 25 (Nat.le_of_ble_eq_true rfl) (hts (.fieldLink RX12 85 "TextMenderModel" "thrown" "I") (List.mem_of_getElem? (i := 1) rfl)) (fun _ h9 => h9) rfl (tyX12_ok 25 (Nat.le_of_ble_eq_true rfl)) rfl rfl (Nat.le_of_ble_eq_true rfl) dX12_choice_2 (kW (wn := [(oM, .inr (12, [.ref mT, .int zt, .ref mS, .ref mX, .int zp, .int zf, .ref mL, .ref mB, .ref mD, .ref m1, .ref m2, .int zh, .ref mR, .int zr, .ref x1, .ref x2, .ref x3, .int zc, .ref mH, .int zy, .int za, .int zb, .int zs, .int zq, .int zw, .int 0, .ref mY, .int zn, .ref mE, .int zm, .int zl, .ref mW, .int zk, .ref mO, .int zd, .ref y1, .ref y2, .ref y3, .ref y4, .ref mZ])), (mH, .inl (cI, 800, .inl eH))]) rfl (fun H locs hPn hDn hSn => ?_))
  clear hP hD hS
  have hP := hPn
  have hD := hDn
  have hS := hSn
  clear hPn hDn hSn
  refine lv_aload_n hx hb dX12_choice_5 rfl (lv_at hl 0 rfl) ?_
  refine lv_iload_n hx hb dX12_choice_6 rfl (lv_at hl 1 rfl) ?_
  refine kV_i (rest := []) (q0 := 0) (ci := 12) hcf (m_X12_isToldChoice l dC dI cI cS H.size oM mT mS mX mL mB mD m1 m2 mR x1 x2 x3 mH mY mE mW mO y1 y2 y3 y4 mZ zt zp zf zh zr zc zy za zb zs zq zw 0 zn zm zl zk zd i (g_zt) (g_zp) (g_zf) (g_zh) (g_zr) (g_zc) (g_zy) (g_za) (g_zb) (g_zs) (g_zq) (g_zn) (g_zm) (g_zk)) kc_X12_isToldChoice gX12_choice_X12_isToldChoice rfl rfl rfl ⟨Nat.le_of_ble_eq_true rfl, Nat.le_of_ble_eq_true rfl⟩ kX_t hK hP hD hS hA [0] [1] rfl (by decide +kernel) rfl rfl rfl hl rfl (Nat.le_of_ble_eq_true rfl) dX12_choice_7 ⟨Nat.le_of_ble_eq_true rfl, Nat.le_of_ble_eq_true rfl⟩ (fun r_1 H locs hB hJ hSn => ?_)
  refine hB _ (fun hPD9 hf1_0 hf1_1 => ?_)
  clear hB
  obtain ⟨hPn, hDn⟩ := hJ _ hPD9.1 hPD9.2 [(mH, .inl (cI, 800, .inl eH)), (oM, .inr (12, [.ref mT, .int zt, .ref mS, .ref mX, .int zp, .int zf, .ref mL, .ref mB, .ref mD, .ref m1, .ref m2, .int zh, .ref mR, .int zr, .ref x1, .ref x2, .ref x3, .int zc, .ref mH, .int zy, .int za, .int zb, .int zs, .int zq, .int zw, .int 0, .ref mY, .int zn, .ref mE, .int zm, .int zl, .ref mW, .int zk, .ref mO, .int zd, .ref y1, .ref y2, .ref y3, .ref y4, .ref mZ]))] rfl
  clear hP hD hS hJ hPD9
  have hP := hPn
  have hD := hDn
  have hS := hSn
  clear hPn hDn hSn
  refine lv_if_eq (tgt := 35) hx hb dX12_choice_10 (by decide) (fun c_2 => ?_) (fun c_2 => ?_)
  · have tc_2 : r_1.toInt = 0 := v_eq c_2
    refine lv_iconst (v := (-1)) hx hb dX12_choice_35 (by decide) ?_
    exact kl_i (v := (-1)) hQQ hx hb hr hlocks hS dX12_choice_36 (fun PZ9 kZ9 => kZ9 0 (kPD_sub hP hD [1, 0] (by decide +kernel) rfl))
  · have tc_2 : ¬ r_1.toInt = 0 := v_ne c_2
    refine lv_iload_n hx hb dX12_choice_13 rfl (lv_at hl 2 rfl) ?_
    refine lv_if_lt (tgt := 35) hx hb dX12_choice_14 (by decide) (fun c_3 => ?_) (fun c_3 => ?_)
    · have tc_3 : wh.toInt < 0 := v_lt c_3
      refine lv_iconst (v := (-1)) hx hb dX12_choice_35 (by decide) ?_
      exact kl_i (v := (-1)) hQQ hx hb hr hlocks hS dX12_choice_36 (fun PZ9 kZ9 => kZ9 0 (kPD_sub hP hD [1, 0] (by decide +kernel) rfl))
    · have tc_3 : 0 ≤ wh.toInt := v_nlt c_3
      refine lv_iload_n hx hb dX12_choice_17 rfl (lv_at hl 2 rfl) ?_
      refine lv_iconst (v := 4) hx hb dX12_choice_18 (by decide) ?_
      refine lv_icmp_ge (tgt := 35) hx hb dX12_choice_19 (by decide) (fun c_4 => ?_) (fun c_4 => ?_)
      · have tc_4 : 4 ≤ wh.toInt := v_le c_4
        refine lv_iconst (v := (-1)) hx hb dX12_choice_35 (by decide) ?_
        exact kl_i (v := (-1)) hQQ hx hb hr hlocks hS dX12_choice_36 (fun PZ9 kZ9 => kZ9 0 (kPD_sub hP hD [1, 0] (by decide +kernel) rfl))
      · have tc_4 : wh.toInt < 4 := v_nle c_4
        refine lv_aload_n hx hb dX12_choice_22 rfl (lv_at hl 0 rfl) ?_
        refine va_get (D := (dC, dI)) (ci := 12) (v := .ref mH) (C := RX12) (T := TX12) (N := 40) hx hb hts in_X12 hown hK hP 1 rfl rfl 18 (Nat.le_of_ble_eq_true rfl) (hts (.fieldLink RX12 48 "TextMenderModel" "choices" "[I") (List.mem_of_getElem? (i := 2) rfl)) (fun _ h9 => h9) rfl dX12_choice_23 ?_
        refine lv_iconst (v := 4) hx hb dX12_choice_26 (by decide) ?_
        refine lv_iload_n hx hb dX12_choice_27 rfl (lv_at hl 1 rfl) ?_
        refine lv_imul hx hb dX12_choice_28 ?_
        refine lv_topi (fun x_5 ex_5 => ?_)
        have tx_5 : x_5.toInt = 4 * i.toInt := v_mul ex_5 (by show -2147483648 ≤ 4 * i.toInt; omega) (by show 4 * i.toInt < 2147483648; omega)
        refine lv_iload_n hx hb dX12_choice_29 rfl (lv_at hl 2 rfl) ?_
        refine lv_iadd hx hb dX12_choice_30 ?_
        refine lv_topi (fun x_6 ex_6 => ?_)
        have tx_6 : x_6.toInt = x_5.toInt + wh.toInt := v_add ex_6 (by show -2147483648 ≤ x_5.toInt + wh.toInt; omega) (by show x_5.toInt + wh.toInt < 2147483648; omega)
        refine va_iald hx hb hK hP 0 0 rfl rfl (v_in (by omega)) dX12_choice_31 ?_
        refine lv_topi (fun x_7 ex_7 => ?_)
        refine lv_goto (tgt := 36) hx hb dX12_choice_32 (by decide) ?_
        exact kl_i (v := x_7) hQQ hx hb hr hlocks hS dX12_choice_36 (fun PZ9 kZ9 => kZ9 0 (kPD_sub hP hD [1, 0] (by decide +kernel) rfl))

end

/-! 57.a.rows -/
section
set_option maxRecDepth 100000 in
theorem dA80_cX1_forgetFreshness : kDec cX1_forgetFreshness [(0, .aload_n 0, 1), (1, .iconst 0, 1), (2, .putfield 72, 3), (5, .return_, 1)] = true := by decide +kernel
theorem dX1_forgetFreshness_0 : decode cX1_forgetFreshness 0 = .ok (.aload_n 0, 1) := kDec_at dA80_cX1_forgetFreshness 0 rfl
theorem dX1_forgetFreshness_1 : decode cX1_forgetFreshness 1 = .ok (.iconst 0, 1) := kDec_at dA80_cX1_forgetFreshness 1 rfl
theorem dX1_forgetFreshness_2 : decode cX1_forgetFreshness 2 = .ok (.putfield 72, 3) := kDec_at dA80_cX1_forgetFreshness 2 rfl
theorem dX1_forgetFreshness_5 : decode cX1_forgetFreshness 5 = .ok (.return_, 1) := kDec_at dA80_cX1_forgetFreshness 3 rfl
set_option maxRecDepth 100000 in
theorem dA81_cX11_feed : kDec cX11_feed [(0, .aload_n 0, 1), (1, .getfield 30, 3), (4, .invokevirtual 94, 3), (7, .iconst 5, 1), (8, .iadd, 1), (9, .sipush 900, 3), (12, .if_icmp .le 5, 3), (17, .aload_n 0, 1), (18, .getfield 30, 3), (21, .iload_n 1, 1), (22, .invokevirtual 98, 3), (25, .pop, 1), (26, .aload_n 0, 1), (27, .getfield 30, 3), (30, .iload_n 2, 1), (31, .invokevirtual 98, 3), (34, .pop, 1), (35, .aload_n 0, 1), (36, .getfield 30, 3), (39, .iload_n 3, 1), (40, .invokevirtual 98, 3), (43, .pop, 1), (44, .aload_n 0, 1), (45, .getfield 30, 3)] = true := by decide +kernel
theorem dX11_feed_0 : decode cX11_feed 0 = .ok (.aload_n 0, 1) := kDec_at dA81_cX11_feed 0 rfl
theorem dX11_feed_1 : decode cX11_feed 1 = .ok (.getfield 30, 3) := kDec_at dA81_cX11_feed 1 rfl
theorem dX11_feed_4 : decode cX11_feed 4 = .ok (.invokevirtual 94, 3) := kDec_at dA81_cX11_feed 2 rfl
theorem dX11_feed_7 : decode cX11_feed 7 = .ok (.iconst 5, 1) := kDec_at dA81_cX11_feed 3 rfl
theorem dX11_feed_8 : decode cX11_feed 8 = .ok (.iadd, 1) := kDec_at dA81_cX11_feed 4 rfl
theorem dX11_feed_9 : decode cX11_feed 9 = .ok (.sipush 900, 3) := kDec_at dA81_cX11_feed 5 rfl
theorem dX11_feed_12 : decode cX11_feed 12 = .ok (.if_icmp .le 5, 3) := kDec_at dA81_cX11_feed 6 rfl
theorem dX11_feed_17 : decode cX11_feed 17 = .ok (.aload_n 0, 1) := kDec_at dA81_cX11_feed 7 rfl
theorem dX11_feed_18 : decode cX11_feed 18 = .ok (.getfield 30, 3) := kDec_at dA81_cX11_feed 8 rfl
theorem dX11_feed_21 : decode cX11_feed 21 = .ok (.iload_n 1, 1) := kDec_at dA81_cX11_feed 9 rfl
theorem dX11_feed_22 : decode cX11_feed 22 = .ok (.invokevirtual 98, 3) := kDec_at dA81_cX11_feed 10 rfl
theorem dX11_feed_25 : decode cX11_feed 25 = .ok (.pop, 1) := kDec_at dA81_cX11_feed 11 rfl
theorem dX11_feed_26 : decode cX11_feed 26 = .ok (.aload_n 0, 1) := kDec_at dA81_cX11_feed 12 rfl
theorem dX11_feed_27 : decode cX11_feed 27 = .ok (.getfield 30, 3) := kDec_at dA81_cX11_feed 13 rfl
theorem dX11_feed_30 : decode cX11_feed 30 = .ok (.iload_n 2, 1) := kDec_at dA81_cX11_feed 14 rfl
theorem dX11_feed_31 : decode cX11_feed 31 = .ok (.invokevirtual 98, 3) := kDec_at dA81_cX11_feed 15 rfl
theorem dX11_feed_34 : decode cX11_feed 34 = .ok (.pop, 1) := kDec_at dA81_cX11_feed 16 rfl
theorem dX11_feed_35 : decode cX11_feed 35 = .ok (.aload_n 0, 1) := kDec_at dA81_cX11_feed 17 rfl
theorem dX11_feed_36 : decode cX11_feed 36 = .ok (.getfield 30, 3) := kDec_at dA81_cX11_feed 18 rfl
theorem dX11_feed_39 : decode cX11_feed 39 = .ok (.iload_n 3, 1) := kDec_at dA81_cX11_feed 19 rfl
theorem dX11_feed_40 : decode cX11_feed 40 = .ok (.invokevirtual 98, 3) := kDec_at dA81_cX11_feed 20 rfl
theorem dX11_feed_43 : decode cX11_feed 43 = .ok (.pop, 1) := kDec_at dA81_cX11_feed 21 rfl
theorem dX11_feed_44 : decode cX11_feed 44 = .ok (.aload_n 0, 1) := kDec_at dA81_cX11_feed 22 rfl
theorem dX11_feed_45 : decode cX11_feed 45 = .ok (.getfield 30, 3) := kDec_at dA81_cX11_feed 23 rfl
set_option maxRecDepth 20000 in
theorem ggX11_feed_X5_length : GoodIn wsX11_feed wsX5_length := goodIn_sub (fun _ h => List.mem_cons_of_mem _ (List.mem_append_left _ (List.mem_append_right _ (h)))) gX5_length_all
set_option maxRecDepth 20000 in
theorem gX11_feed_X5_length : GoodIn wsX11_feed (wsV RX11 94 RX5 yX5_length wsX5_length) := goodIn_app (goodIn_r _ [2, 3, 4, 5] rfl (by decide +kernel)) ggX11_feed_X5_length
set_option maxRecDepth 20000 in
theorem gX5_add_all : wsX5_add.all goodWord = true := by
  unfold wsX5_add
  exact good_c (by decide +kernel) (good_a ((by decide +kernel)) gX5_clsall)
set_option maxRecDepth 20000 in
theorem ggX11_feed_X5_add : GoodIn wsX11_feed wsX5_add := goodIn_sub (fun _ h => List.mem_cons_of_mem _ (List.mem_append_right _ (h))) gX5_add_all
set_option maxRecDepth 20000 in
theorem gX11_feed_X5_add : GoodIn wsX11_feed (wsV RX11 98 RX5 yX5_add wsX5_add) := goodIn_app (goodIn_r _ [6, 7, 8, 5] rfl (by decide +kernel)) ggX11_feed_X5_add
set_option maxRecDepth 100000 in
theorem dA82_cX11_feed : kDec cX11_feed [(48, .iload 4, 2), (50, .invokevirtual 98, 3), (53, .pop, 1), (54, .aload_n 0, 1), (55, .getfield 30, 3), (58, .iload 5, 2), (60, .invokevirtual 98, 3), (63, .pop, 1), (64, .aload_n 0, 1), (65, .getfield 30, 3), (68, .invokevirtual 94, 3), (71, .ireturn, 1), (15, .iconst (-1), 1), (16, .ireturn, 1)] = true := by decide +kernel
theorem dX11_feed_48 : decode cX11_feed 48 = .ok (.iload 4, 2) := kDec_at dA82_cX11_feed 0 rfl
theorem dX11_feed_50 : decode cX11_feed 50 = .ok (.invokevirtual 98, 3) := kDec_at dA82_cX11_feed 1 rfl
theorem dX11_feed_53 : decode cX11_feed 53 = .ok (.pop, 1) := kDec_at dA82_cX11_feed 2 rfl
theorem dX11_feed_54 : decode cX11_feed 54 = .ok (.aload_n 0, 1) := kDec_at dA82_cX11_feed 3 rfl
theorem dX11_feed_55 : decode cX11_feed 55 = .ok (.getfield 30, 3) := kDec_at dA82_cX11_feed 4 rfl
theorem dX11_feed_58 : decode cX11_feed 58 = .ok (.iload 5, 2) := kDec_at dA82_cX11_feed 5 rfl
theorem dX11_feed_60 : decode cX11_feed 60 = .ok (.invokevirtual 98, 3) := kDec_at dA82_cX11_feed 6 rfl
theorem dX11_feed_63 : decode cX11_feed 63 = .ok (.pop, 1) := kDec_at dA82_cX11_feed 7 rfl
theorem dX11_feed_64 : decode cX11_feed 64 = .ok (.aload_n 0, 1) := kDec_at dA82_cX11_feed 8 rfl
theorem dX11_feed_65 : decode cX11_feed 65 = .ok (.getfield 30, 3) := kDec_at dA82_cX11_feed 9 rfl
theorem dX11_feed_68 : decode cX11_feed 68 = .ok (.invokevirtual 94, 3) := kDec_at dA82_cX11_feed 10 rfl
theorem dX11_feed_71 : decode cX11_feed 71 = .ok (.ireturn, 1) := kDec_at dA82_cX11_feed 11 rfl
theorem dX11_feed_15 : decode cX11_feed 15 = .ok (.iconst (-1), 1) := kDec_at dA82_cX11_feed 12 rfl
theorem dX11_feed_16 : decode cX11_feed 16 = .ok (.ireturn, 1) := kDec_at dA82_cX11_feed 13 rfl
set_option maxRecDepth 100000 in
theorem dA83_cX12_feed : kDec cX12_feed [(0, .aload_n 0, 1), (1, .iconst 0, 1), (2, .putfield 85, 3), (5, .aload_n 0, 1), (6, .getfield 151, 3), (9, .iconst 5, 1), (10, .iadd, 1), (11, .sipush 900, 3), (14, .if_icmp .le 5, 3), (19, .aload_n 0, 1), (20, .getfield 9, 3), (23, .aload_n 0, 1), (24, .getfield 151, 3), (27, .iload_n 1, 1), (28, .iastore, 1), (29, .aload_n 0, 1), (30, .getfield 9, 3), (33, .aload_n 0, 1), (34, .getfield 151, 3), (37, .iconst 1, 1), (38, .iadd, 1), (39, .iload_n 2, 1), (40, .iastore, 1), (41, .aload_n 0, 1)] = true := by decide +kernel
theorem dX12_feed_0 : decode cX12_feed 0 = .ok (.aload_n 0, 1) := kDec_at dA83_cX12_feed 0 rfl
theorem dX12_feed_1 : decode cX12_feed 1 = .ok (.iconst 0, 1) := kDec_at dA83_cX12_feed 1 rfl
theorem dX12_feed_2 : decode cX12_feed 2 = .ok (.putfield 85, 3) := kDec_at dA83_cX12_feed 2 rfl
theorem dX12_feed_5 : decode cX12_feed 5 = .ok (.aload_n 0, 1) := kDec_at dA83_cX12_feed 3 rfl
theorem dX12_feed_6 : decode cX12_feed 6 = .ok (.getfield 151, 3) := kDec_at dA83_cX12_feed 4 rfl
theorem dX12_feed_9 : decode cX12_feed 9 = .ok (.iconst 5, 1) := kDec_at dA83_cX12_feed 5 rfl
theorem dX12_feed_10 : decode cX12_feed 10 = .ok (.iadd, 1) := kDec_at dA83_cX12_feed 6 rfl
theorem dX12_feed_11 : decode cX12_feed 11 = .ok (.sipush 900, 3) := kDec_at dA83_cX12_feed 7 rfl
theorem dX12_feed_14 : decode cX12_feed 14 = .ok (.if_icmp .le 5, 3) := kDec_at dA83_cX12_feed 8 rfl
theorem dX12_feed_19 : decode cX12_feed 19 = .ok (.aload_n 0, 1) := kDec_at dA83_cX12_feed 9 rfl
theorem dX12_feed_20 : decode cX12_feed 20 = .ok (.getfield 9, 3) := kDec_at dA83_cX12_feed 10 rfl
theorem dX12_feed_23 : decode cX12_feed 23 = .ok (.aload_n 0, 1) := kDec_at dA83_cX12_feed 11 rfl
theorem dX12_feed_24 : decode cX12_feed 24 = .ok (.getfield 151, 3) := kDec_at dA83_cX12_feed 12 rfl
theorem dX12_feed_27 : decode cX12_feed 27 = .ok (.iload_n 1, 1) := kDec_at dA83_cX12_feed 13 rfl
theorem dX12_feed_28 : decode cX12_feed 28 = .ok (.iastore, 1) := kDec_at dA83_cX12_feed 14 rfl
theorem dX12_feed_29 : decode cX12_feed 29 = .ok (.aload_n 0, 1) := kDec_at dA83_cX12_feed 15 rfl
theorem dX12_feed_30 : decode cX12_feed 30 = .ok (.getfield 9, 3) := kDec_at dA83_cX12_feed 16 rfl
theorem dX12_feed_33 : decode cX12_feed 33 = .ok (.aload_n 0, 1) := kDec_at dA83_cX12_feed 17 rfl
theorem dX12_feed_34 : decode cX12_feed 34 = .ok (.getfield 151, 3) := kDec_at dA83_cX12_feed 18 rfl
theorem dX12_feed_37 : decode cX12_feed 37 = .ok (.iconst 1, 1) := kDec_at dA83_cX12_feed 19 rfl
theorem dX12_feed_38 : decode cX12_feed 38 = .ok (.iadd, 1) := kDec_at dA83_cX12_feed 20 rfl
theorem dX12_feed_39 : decode cX12_feed 39 = .ok (.iload_n 2, 1) := kDec_at dA83_cX12_feed 21 rfl
theorem dX12_feed_40 : decode cX12_feed 40 = .ok (.iastore, 1) := kDec_at dA83_cX12_feed 22 rfl
theorem dX12_feed_41 : decode cX12_feed 41 = .ok (.aload_n 0, 1) := kDec_at dA83_cX12_feed 23 rfl
set_option maxRecDepth 100000 in
theorem dA84_cX12_feed : kDec cX12_feed [(42, .getfield 9, 3), (45, .aload_n 0, 1), (46, .getfield 151, 3), (49, .iconst 2, 1), (50, .iadd, 1), (51, .iload_n 3, 1), (52, .iastore, 1), (53, .aload_n 0, 1), (54, .getfield 9, 3), (57, .aload_n 0, 1), (58, .getfield 151, 3), (61, .iconst 3, 1), (62, .iadd, 1), (63, .iload 4, 2), (65, .iastore, 1), (66, .aload_n 0, 1), (67, .getfield 9, 3), (70, .aload_n 0, 1), (71, .getfield 151, 3), (74, .iconst 4, 1), (75, .iadd, 1), (76, .iload 5, 2), (78, .iastore, 1), (79, .aload_n 0, 1)] = true := by decide +kernel
theorem dX12_feed_42 : decode cX12_feed 42 = .ok (.getfield 9, 3) := kDec_at dA84_cX12_feed 0 rfl
theorem dX12_feed_45 : decode cX12_feed 45 = .ok (.aload_n 0, 1) := kDec_at dA84_cX12_feed 1 rfl
theorem dX12_feed_46 : decode cX12_feed 46 = .ok (.getfield 151, 3) := kDec_at dA84_cX12_feed 2 rfl
theorem dX12_feed_49 : decode cX12_feed 49 = .ok (.iconst 2, 1) := kDec_at dA84_cX12_feed 3 rfl
theorem dX12_feed_50 : decode cX12_feed 50 = .ok (.iadd, 1) := kDec_at dA84_cX12_feed 4 rfl
theorem dX12_feed_51 : decode cX12_feed 51 = .ok (.iload_n 3, 1) := kDec_at dA84_cX12_feed 5 rfl
theorem dX12_feed_52 : decode cX12_feed 52 = .ok (.iastore, 1) := kDec_at dA84_cX12_feed 6 rfl
theorem dX12_feed_53 : decode cX12_feed 53 = .ok (.aload_n 0, 1) := kDec_at dA84_cX12_feed 7 rfl
theorem dX12_feed_54 : decode cX12_feed 54 = .ok (.getfield 9, 3) := kDec_at dA84_cX12_feed 8 rfl
theorem dX12_feed_57 : decode cX12_feed 57 = .ok (.aload_n 0, 1) := kDec_at dA84_cX12_feed 9 rfl
theorem dX12_feed_58 : decode cX12_feed 58 = .ok (.getfield 151, 3) := kDec_at dA84_cX12_feed 10 rfl
theorem dX12_feed_61 : decode cX12_feed 61 = .ok (.iconst 3, 1) := kDec_at dA84_cX12_feed 11 rfl
theorem dX12_feed_62 : decode cX12_feed 62 = .ok (.iadd, 1) := kDec_at dA84_cX12_feed 12 rfl
theorem dX12_feed_63 : decode cX12_feed 63 = .ok (.iload 4, 2) := kDec_at dA84_cX12_feed 13 rfl
theorem dX12_feed_65 : decode cX12_feed 65 = .ok (.iastore, 1) := kDec_at dA84_cX12_feed 14 rfl
theorem dX12_feed_66 : decode cX12_feed 66 = .ok (.aload_n 0, 1) := kDec_at dA84_cX12_feed 15 rfl
theorem dX12_feed_67 : decode cX12_feed 67 = .ok (.getfield 9, 3) := kDec_at dA84_cX12_feed 16 rfl
theorem dX12_feed_70 : decode cX12_feed 70 = .ok (.aload_n 0, 1) := kDec_at dA84_cX12_feed 17 rfl
theorem dX12_feed_71 : decode cX12_feed 71 = .ok (.getfield 151, 3) := kDec_at dA84_cX12_feed 18 rfl
theorem dX12_feed_74 : decode cX12_feed 74 = .ok (.iconst 4, 1) := kDec_at dA84_cX12_feed 19 rfl
theorem dX12_feed_75 : decode cX12_feed 75 = .ok (.iadd, 1) := kDec_at dA84_cX12_feed 20 rfl
theorem dX12_feed_76 : decode cX12_feed 76 = .ok (.iload 5, 2) := kDec_at dA84_cX12_feed 21 rfl
theorem dX12_feed_78 : decode cX12_feed 78 = .ok (.iastore, 1) := kDec_at dA84_cX12_feed 22 rfl
theorem dX12_feed_79 : decode cX12_feed 79 = .ok (.aload_n 0, 1) := kDec_at dA84_cX12_feed 23 rfl
set_option maxRecDepth 100000 in
theorem dA85_cX12_feed : kDec cX12_feed [(80, .dup, 1), (81, .getfield 151, 3), (84, .iconst 5, 1), (85, .iadd, 1), (86, .putfield 151, 3), (89, .aload_n 0, 1), (90, .getfield 151, 3), (93, .ireturn, 1), (17, .iconst (-1), 1), (18, .ireturn, 1)] = true := by decide +kernel
theorem dX12_feed_80 : decode cX12_feed 80 = .ok (.dup, 1) := kDec_at dA85_cX12_feed 0 rfl
theorem dX12_feed_81 : decode cX12_feed 81 = .ok (.getfield 151, 3) := kDec_at dA85_cX12_feed 1 rfl
theorem dX12_feed_84 : decode cX12_feed 84 = .ok (.iconst 5, 1) := kDec_at dA85_cX12_feed 2 rfl
theorem dX12_feed_85 : decode cX12_feed 85 = .ok (.iadd, 1) := kDec_at dA85_cX12_feed 3 rfl
theorem dX12_feed_86 : decode cX12_feed 86 = .ok (.putfield 151, 3) := kDec_at dA85_cX12_feed 4 rfl
theorem dX12_feed_89 : decode cX12_feed 89 = .ok (.aload_n 0, 1) := kDec_at dA85_cX12_feed 5 rfl
theorem dX12_feed_90 : decode cX12_feed 90 = .ok (.getfield 151, 3) := kDec_at dA85_cX12_feed 6 rfl
theorem dX12_feed_93 : decode cX12_feed 93 = .ok (.ireturn, 1) := kDec_at dA85_cX12_feed 7 rfl
theorem dX12_feed_17 : decode cX12_feed 17 = .ok (.iconst (-1), 1) := kDec_at dA85_cX12_feed 8 rfl
theorem dX12_feed_18 : decode cX12_feed 18 = .ok (.ireturn, 1) := kDec_at dA85_cX12_feed 9 rfl
set_option maxRecDepth 100000 in
theorem dA86_cX11_tapeHoldsLetters : kDec cX11_tapeHoldsLetters [(0, .iconst 0, 1), (1, .istore_n 1, 1), (2, .iload_n 1, 1), (3, .aload_n 0, 1), (4, .getfield 30, 3), (7, .invokevirtual 94, 3), (10, .if_icmp .ge 30, 3), (40, .iconst 1, 1), (41, .ireturn, 1), (13, .aload_n 0, 1), (14, .getfield 30, 3), (17, .iload_n 1, 1), (18, .invokevirtual 167, 3), (21, .invokestatic 205, 3), (24, .ifCond .ne 10, 3), (34, .iinc 1 1, 3), (37, .goto (-35), 3), (27, .aload_n 0, 1), (28, .iload_n 1, 1), (29, .putfield 90, 3), (32, .iconst 0, 1), (33, .ireturn, 1)] = true := by decide +kernel
theorem dX11_tapeHoldsLetters_0 : decode cX11_tapeHoldsLetters 0 = .ok (.iconst 0, 1) := kDec_at dA86_cX11_tapeHoldsLetters 0 rfl
theorem dX11_tapeHoldsLetters_1 : decode cX11_tapeHoldsLetters 1 = .ok (.istore_n 1, 1) := kDec_at dA86_cX11_tapeHoldsLetters 1 rfl
theorem dX11_tapeHoldsLetters_2 : decode cX11_tapeHoldsLetters 2 = .ok (.iload_n 1, 1) := kDec_at dA86_cX11_tapeHoldsLetters 2 rfl
theorem dX11_tapeHoldsLetters_3 : decode cX11_tapeHoldsLetters 3 = .ok (.aload_n 0, 1) := kDec_at dA86_cX11_tapeHoldsLetters 3 rfl
theorem dX11_tapeHoldsLetters_4 : decode cX11_tapeHoldsLetters 4 = .ok (.getfield 30, 3) := kDec_at dA86_cX11_tapeHoldsLetters 4 rfl
theorem dX11_tapeHoldsLetters_7 : decode cX11_tapeHoldsLetters 7 = .ok (.invokevirtual 94, 3) := kDec_at dA86_cX11_tapeHoldsLetters 5 rfl
theorem dX11_tapeHoldsLetters_10 : decode cX11_tapeHoldsLetters 10 = .ok (.if_icmp .ge 30, 3) := kDec_at dA86_cX11_tapeHoldsLetters 6 rfl
theorem dX11_tapeHoldsLetters_40 : decode cX11_tapeHoldsLetters 40 = .ok (.iconst 1, 1) := kDec_at dA86_cX11_tapeHoldsLetters 7 rfl
theorem dX11_tapeHoldsLetters_41 : decode cX11_tapeHoldsLetters 41 = .ok (.ireturn, 1) := kDec_at dA86_cX11_tapeHoldsLetters 8 rfl
theorem dX11_tapeHoldsLetters_13 : decode cX11_tapeHoldsLetters 13 = .ok (.aload_n 0, 1) := kDec_at dA86_cX11_tapeHoldsLetters 9 rfl
theorem dX11_tapeHoldsLetters_14 : decode cX11_tapeHoldsLetters 14 = .ok (.getfield 30, 3) := kDec_at dA86_cX11_tapeHoldsLetters 10 rfl
theorem dX11_tapeHoldsLetters_17 : decode cX11_tapeHoldsLetters 17 = .ok (.iload_n 1, 1) := kDec_at dA86_cX11_tapeHoldsLetters 11 rfl
theorem dX11_tapeHoldsLetters_18 : decode cX11_tapeHoldsLetters 18 = .ok (.invokevirtual 167, 3) := kDec_at dA86_cX11_tapeHoldsLetters 12 rfl
theorem dX11_tapeHoldsLetters_21 : decode cX11_tapeHoldsLetters 21 = .ok (.invokestatic 205, 3) := kDec_at dA86_cX11_tapeHoldsLetters 13 rfl
theorem dX11_tapeHoldsLetters_24 : decode cX11_tapeHoldsLetters 24 = .ok (.ifCond .ne 10, 3) := kDec_at dA86_cX11_tapeHoldsLetters 14 rfl
theorem dX11_tapeHoldsLetters_34 : decode cX11_tapeHoldsLetters 34 = .ok (.iinc 1 1, 3) := kDec_at dA86_cX11_tapeHoldsLetters 15 rfl
theorem dX11_tapeHoldsLetters_37 : decode cX11_tapeHoldsLetters 37 = .ok (.goto (-35), 3) := kDec_at dA86_cX11_tapeHoldsLetters 16 rfl
theorem dX11_tapeHoldsLetters_27 : decode cX11_tapeHoldsLetters 27 = .ok (.aload_n 0, 1) := kDec_at dA86_cX11_tapeHoldsLetters 17 rfl
theorem dX11_tapeHoldsLetters_28 : decode cX11_tapeHoldsLetters 28 = .ok (.iload_n 1, 1) := kDec_at dA86_cX11_tapeHoldsLetters 18 rfl
theorem dX11_tapeHoldsLetters_29 : decode cX11_tapeHoldsLetters 29 = .ok (.putfield 90, 3) := kDec_at dA86_cX11_tapeHoldsLetters 19 rfl
theorem dX11_tapeHoldsLetters_32 : decode cX11_tapeHoldsLetters 32 = .ok (.iconst 0, 1) := kDec_at dA86_cX11_tapeHoldsLetters 20 rfl
theorem dX11_tapeHoldsLetters_33 : decode cX11_tapeHoldsLetters 33 = .ok (.ireturn, 1) := kDec_at dA86_cX11_tapeHoldsLetters 21 rfl
set_option maxRecDepth 20000 in
theorem ggX11_tapeHoldsLetters_X5_length : GoodIn wsX11_tapeHoldsLetters wsX5_length := goodIn_sub (fun _ h => List.mem_cons_of_mem _ (List.mem_append_left _ (List.mem_append_left _ (List.mem_append_right _ (h))))) gX5_length_all
set_option maxRecDepth 20000 in
theorem gX11_tapeHoldsLetters_X5_length : GoodIn wsX11_tapeHoldsLetters (wsV RX11 94 RX5 yX5_length wsX5_length) := goodIn_app (goodIn_r _ [3, 4, 5, 6] rfl (by decide +kernel)) ggX11_tapeHoldsLetters_X5_length
set_option maxRecDepth 20000 in
theorem ggX11_tapeHoldsLetters_X5_get : GoodIn wsX11_tapeHoldsLetters wsX5_get := goodIn_sub (fun _ h => List.mem_cons_of_mem _ (List.mem_append_left _ (List.mem_append_right _ (h)))) gX5_get_all
set_option maxRecDepth 20000 in
theorem gX11_tapeHoldsLetters_X5_get : GoodIn wsX11_tapeHoldsLetters (wsV RX11 167 RX5 yX5_get wsX5_get) := goodIn_app (goodIn_r _ [7, 8, 9, 6] rfl (by decide +kernel)) ggX11_tapeHoldsLetters_X5_get
set_option maxRecDepth 20000 in
theorem gX11_isLetter_all : wsX11_isLetter.all goodWord = true := by
  unfold wsX11_isLetter
  exact good_c (by decide +kernel) ((by decide +kernel))
set_option maxRecDepth 20000 in
theorem ggX11_tapeHoldsLetters_X11_isLetter : GoodIn wsX11_tapeHoldsLetters wsX11_isLetter := goodIn_sub (fun _ h => List.mem_cons_of_mem _ (List.mem_append_right _ (h))) gX11_isLetter_all
set_option maxRecDepth 20000 in
theorem gX11_tapeHoldsLetters_X11_isLetter : GoodIn wsX11_tapeHoldsLetters (va_wsS RX11 205 yX11_isLetter wsX11_isLetter) := goodIn_app (goodIn_r _ [10, 11, 12] rfl (by decide +kernel)) ggX11_tapeHoldsLetters_X11_isLetter

end

/-! 57.fresh -/
section
/-! a choice is fresh until something changes -/
def F_fs (no : Int) (r fsh fsh' : Int32) : Prop := (r.toInt = no ∧ fsh' = fsh) ∨ (¬ r.toInt = no ∧ fsh' = 0)
def F_fsP (P : Prop) (fsh fsh' : Int32) : Prop := (P ∧ fsh' = 0) ∨ (¬ P ∧ fsh' = fsh)
def F_zsP (P : Prop) (zs zs' : Int32) : Prop := (P ∧ zs'.toInt = zs.toInt + 1) ∨ (¬ P ∧ zs' = zs)
def F_zs (no : Int) (r zs zs' : Int32) : Prop := (r.toInt = no ∧ zs' = zs) ∨ (¬ r.toInt = no ∧ zs'.toInt = zs.toInt + 1)

set_option maxHeartbeats 40000000 in
set_option maxRecDepth 100000 in
theorem f_X1_forgetFreshness (l : Launch) (dC : Nat → ClassId) (dI : Nat → Nat → Nat) (cI cS : ClassId) (sz : Nat) (oW : Nat) (oC : Nat) (oK : Nat) (nw : Nat) (w1 : Nat) (w2 : Nat) (w3 : Nat) (o7 : Nat) (o8 : Nat) (o9 : Nat) (w4 : Nat) (w5 : Nat) (w6 : Nat) (w7 : Nat) (ke : Int32) (tl : Int32) (fsh : Int32) (wi : Int32) (ri : Int32) (fm : Int32) (lm : Int32) (g_ke : 0 ≤ ke.toInt ∧ ke.toInt ≤ 200) (g_fsh : 0 ≤ fsh.toInt ∧ fsh.toInt ≤ 1) (g_fm : -1 ≤ fm.toInt ∧ fm.toInt ≤ 800) (g_lm : -1 ≤ lm.toInt ∧ lm.toInt ≤ 800) : kMv l yX1_forgetFreshness wsX1_forgetFreshness ({ frames := 0, cells := 0, slots := 0, locals := 0 } : Room) [.ref oW] sz (dC, dI) vwCl [(cI, .int), (cS, .short)] [(oW, .inr (1, [.ref oC, .ref oK, .ref nw, .ref w1, .ref w2, .ref w3, .ref o7, .ref o8, .ref o9, .ref w4, .ref w5, .ref w6, .ref w7, .int ke, .int tl, .int fsh, .int wi, .int ri, .int fm, .int lm]))] (fun _ => True) 0 0 (fun (A : Nat → Prop) (hh9 : Heap) => ∀ PZ9 : Prop, (∀ (fsh' : Int32), kPD (dC, dI) vwCl A [(oW, .inr (1, [.ref oC, .ref oK, .ref nw, .ref w1, .ref w2, .ref w3, .ref o7, .ref o8, .ref o9, .ref w4, .ref w5, .ref w6, .ref w7, .int ke, .int tl, .int fsh', .int wi, .int ri, .int fm, .int lm]))] hh9 → (0 ≤ fsh'.toInt ∧ fsh'.toInt ≤ 1) → (fsh' = 0) → PZ9) → PZ9) := by
  refine kMv_of (cc := cX1_forgetFreshness) (maxL := 1) (ret := none) (lv := [(0, .ref oW)]) (by decide +kernel) rfl rfl (Nat.le_of_ble_eq_true rfl) ?_
  intro p e s m below meth c A QQ ls hx hb hr hts hml hown hlocks hA hQQ hK hX hP hD hS hl
  have hown : s.vm.findClass RX1 = some m.cls := hown
  have hcf := k_cf hx hb hml hown hts
  have in_X1 : ∀ w ∈ wsX10, w ∈ wsX1_forgetFreshness := fun _ h => List.mem_cons_of_mem _ (List.mem_append_right _ (h))
  replace g_ke := hid g_ke
  replace g_fsh := hid g_fsh
  replace g_fm := hid g_fm
  replace g_lm := hid g_lm
  refine lv_aload_n hx hb dX1_forgetFreshness_0 rfl (lv_at hl 0 rfl) ?_
  refine lv_iconst (v := 0) hx hb dX1_forgetFreshness_1 (by decide) ?_
  refine va_put (D := (dC, dI)) (ci := 1) (v := .int 0) (ty := .boolean) (C := RX1) (T := TX1) (N := 20) hx hb hts in_X1 tyX1 tyX1_ok nmX1 hown hK hP hD hS 0 rfl rfl 15 (Nat.le_of_ble_eq_true rfl) (hts (.fieldLink RX1 72 "TextMender$Choices" "fresh" "Z") (List.mem_of_getElem? (i := 1) rfl)) (fun _ h9 => h9) rfl (tyX1_ok 15 (Nat.le_of_ble_eq_true rfl)) rfl rfl (Nat.le_of_ble_eq_true rfl) dX1_forgetFreshness_2 (kW (wn := [(oW, .inr (1, [.ref oC, .ref oK, .ref nw, .ref w1, .ref w2, .ref w3, .ref o7, .ref o8, .ref o9, .ref w4, .ref w5, .ref w6, .ref w7, .int ke, .int tl, .int 0, .int wi, .int ri, .int fm, .int lm]))]) rfl (fun H locs hPn hDn hSn => ?_))
  clear hP hD hS
  have hP := hPn
  have hD := hDn
  have hS := hSn
  clear hPn hDn hSn
  exact kl_v hQQ hx hb hr hlocks hS dX1_forgetFreshness_5 (fun PZ9 kZ9 => kZ9 0 (⟨hP, hD⟩) (by decide) (rfl))

end

/-! 57.hash -/
section
/-! scattered tables: places by a start and a step of one; a place is free where its value is -1 -/
def slI (M st q : Int32) : Nat := ((st + q) &&& M).toNatClampNeg
/-- the place that comes first on the way of the key w: free, or the key's own -/
def F_pl (N : Int) (M st w r : Int32) (K V : Nat → Int32) : Prop := ∃ q : Int32, 0 ≤ q.toInt ∧ q.toInt < N ∧ r.toNatClampNeg = slI M st q ∧ (V (slI M st q) = -1 ∨ K (slI M st q) = w) ∧ ∀ j : Int32, 0 ≤ j.toInt → j.toInt < q.toInt → ¬ V (slI M st j) = -1 ∧ ¬ K (slI M st j) = w
/-- each key stands at the first place of its way -/
def HT (N : Int) (M : Int32) (hs : Int32 → Int32) (K V : Nat → Int32) : Prop := ∀ s : Nat, (s : Int) < N → ¬ V s = -1 → ∃ q : Int32, 0 ≤ q.toInt ∧ q.toInt < N ∧ s = slI M (hs (K s)) q ∧ ∀ j : Int32, 0 ≤ j.toInt → j.toInt < q.toInt → ¬ V (slI M (hs (K s)) j) = -1 ∧ ¬ K (slI M (hs (K s)) j) = K s
def toldK (N : Int) (K V : Nat → Int32) (w v : Int32) : Prop := ∃ s : Nat, (s : Int) < N ∧ K s = w ∧ V s = v ∧ ¬ v = -1
theorem HT_0 {N : Int} {M : Int32} {hs : Int32 → Int32} {K V : Nat → Int32} (h : ∀ s : Nat, (s : Int) < N → V s = -1) : HT N M hs K V := fun s h1 h2 => absurd (h s h1) h2
/-- a free place: the key is not told -/
theorem pl_free {N : Int} {M r w v : Int32} {hs : Int32 → Int32} {K V : Nat → Int32} (hT : HT N M hs K V) (h : F_pl N M (hs w) w r K V) (hf : V r.toNatClampNeg = -1) : ¬ toldK N K V w v := by
  rintro ⟨s, h1, h2, h3, h4⟩
  obtain ⟨q, q0, q1, q2, q3, q4⟩ := h
  obtain ⟨k, k0, k1, k2, k3⟩ := hT s h1 (by rw [h3]; exact h4)
  rw [h2] at k2 k3
  rcases Int.lt_trichotomy k.toInt q.toInt with z | z | z
  · exact (q4 k k0 z).2 (by rw [← k2]; exact h2)
  · have e : k = q := v_inj z
    rw [e] at k2
    rw [q2, ← k2, h3] at hf
    exact h4 hf
  · exact (k3 q q0 z).1 (by rw [← q2]; exact hf)
/-- a place that isn't free is the key's own -/
theorem pl_own {N : Int} {M r w : Int32} {hs : Int32 → Int32} {K V : Nat → Int32} (h : F_pl N M (hs w) w r K V) (hf : ¬ V r.toNatClampNeg = -1) : K r.toNatClampNeg = w := by
  obtain ⟨q, q0, q1, q2, q3, q4⟩ := h
  rw [← q2] at q3
  exact q3.resolve_left hf
/-- only one place is the key's own -/
theorem pl_one {N : Int} {M w : Int32} {hs : Int32 → Int32} {K V : Nat → Int32} (hT : HT N M hs K V) {s s' : Nat} (h1 : (s : Int) < N) (h1' : (s' : Int) < N) (h2 : ¬ V s = -1) (h2' : ¬ V s' = -1) (h3 : K s = w) (h3' : K s' = w) : s = s' := by
  obtain ⟨q, q0, q1, q2, q3⟩ := hT s h1 h2
  obtain ⟨k, k0, k1, k2, k3⟩ := hT s' h1' h2'
  rw [h3] at q2 q3
  rw [h3'] at k2 k3
  rcases Int.lt_trichotomy k.toInt q.toInt with z | z | z
  · exact absurd (by rw [← k2]; exact h3') (q3 k k0 z).2
  · rw [q2, k2, v_inj z]
  · exact absurd (by rw [← q2]; exact h3) (k3 q q0 z).2
/-- a new key at its free place -/
theorem HT_new {N : Int} {M r w v : Int32} {hs : Int32 → Int32} {K V K' V' : Nat → Int32} (hT : HT N M hs K V) (h : F_pl N M (hs w) w r K V) (hf : V r.toNatClampNeg = -1) (hv : ¬ v = -1) (eK : K' = upd K r.toNatClampNeg w) (eV : V' = upd V r.toNatClampNeg v) : HT N M hs K' V' := by
  intro s h1 h2
  by_cases z : s = r.toNatClampNeg
  · have ks : K' s = w := by rw [eK, z, pk_us]
    obtain ⟨q, q0, q1, q2, q3, q4⟩ := h
    refine ⟨q, q0, q1, by rw [ks, z]; exact q2, fun j j0 j1 => ?_⟩
    rw [ks]
    have hj := q4 j j0 j1
    have ne : slI M (hs w) j ≠ r.toNatClampNeg := fun e => hj.1 (by rw [e]; exact hf)
    rw [eK, eV, pk_un ne, pk_un ne]
    exact hj
  · have ks : K' s = K s := by rw [eK, pk_un z]
    have vs : V' s = V s := by rw [eV, pk_un z]
    rw [vs] at h2
    obtain ⟨q, q0, q1, q2, q3⟩ := hT s h1 h2
    refine ⟨q, q0, q1, by rw [ks]; exact q2, fun j j0 j1 => ?_⟩
    rw [ks]
    have hj := q3 j j0 j1
    have ne : slI M (hs (K s)) j ≠ r.toNatClampNeg := fun e => hj.1 (by rw [e]; exact hf)
    rw [eK, eV, pk_un ne, pk_un ne]
    exact hj
/-- another value for a key that is told -/
theorem HT_set {N : Int} {M v : Int32} {hs : Int32 → Int32} {K V V' : Nat → Int32} {r : Nat} (hT : HT N M hs K V) (hf : ¬ V r = -1) (hv : ¬ v = -1) (eV : V' = upd V r v) : HT N M hs K V' := by
  have sm : ∀ s, ¬ V s = -1 ↔ ¬ V' s = -1 := by
    intro s
    by_cases z : s = r
    · rw [eV, z, pk_us]; exact ⟨fun _ => hv, fun _ => hf⟩
    · rw [eV, pk_un z]
  intro s h1 h2
  obtain ⟨q, q0, q1, q2, q3⟩ := hT s h1 ((sm s).mpr h2)
  exact ⟨q, q0, q1, q2, fun j j0 j1 => ⟨(sm _).mp (q3 j j0 j1).1, (q3 j j0 j1).2⟩⟩
/-- how many of the first n places aren't free -/
def occ (V : Nat → Int32) : Nat → Nat
  | 0 => 0
  | n + 1 => occ V n + (if V n = -1 then 0 else 1)
theorem occ_out (V : Nat → Int32) (k : Nat) (v : Int32) : ∀ n, n ≤ k → occ (upd V k v) n = occ V n
  | 0, _ => rfl
  | n + 1, h => by rw [occ, occ, occ_out V k v n (by omega), pk_un (by omega)]
theorem occ_upd (V : Nat → Int32) (k : Nat) (v : Int32) : ∀ n, occ (upd V k v) n ≤ occ V n + 1
  | 0 => Nat.le_succ _
  | n + 1 => by
    by_cases e : n = k
    · have h1 := occ_out V k v n (by omega)
      rw [occ, occ, h1]
      split <;> split <;> omega
    · have h1 := occ_upd V k v n
      rw [occ, occ, pk_un e]
      omega
theorem occ_same {V : Nat → Int32} {k : Nat} {v : Int32} (hk : ¬ V k = -1) (hv : ¬ v = -1) : ∀ n, occ (upd V k v) n = occ V n
  | 0 => rfl
  | n + 1 => by
    by_cases e : n = k
    · rw [occ, occ, occ_same hk hv n, e, pk_us, if_neg hk, if_neg hv]
    · rw [occ, occ, occ_same hk hv n, pk_un e]
theorem occ_free (V : Nat → Int32) : ∀ n, occ V n < n → ∃ q, q < n ∧ V q = -1
  | 0, h => absurd h (Nat.not_lt_zero _)
  | n + 1, h => by
    by_cases e : V n = -1
    · exact ⟨n, Nat.lt_succ_self n, e⟩
    · rw [occ, if_neg e] at h
      obtain ⟨q, h1, h2⟩ := occ_free V n (by omega)
      exact ⟨q, by omega, h2⟩
theorem occ_0 {V : Nat → Int32} : ∀ {n : Nat}, (∀ j, j < n → V j = -1) → occ V n = 0
  | 0, _ => rfl
  | n + 1, h => by rw [occ, occ_0 (fun j hj => h j (by omega)), if_pos (h n (by omega))]
/-- the way of a key passes every place -/
theorem way_all {M st : Int32} {s : Nat} (k : Nat) (hk : k ≤ 30) (hM : M.toBitVec.toNat = 2 ^ k - 1) (hst : 0 ≤ st.toInt ∧ st.toInt < ((2 ^ k : Nat) : Int)) (hs : s < 2 ^ k) : ∃ q : Int32, 0 ≤ q.toInt ∧ q.toInt < ((2 ^ k : Nat) : Int) ∧ slI M st q = s := by
  have h2 : 2 ^ k ≤ 2 ^ 30 := Nat.pow_le_pow_right (by decide) hk
  obtain ⟨S, hS⟩ : ∃ S : Nat, st = nI S ∧ S < 2 ^ k := by
    obtain ⟨j, hj, e⟩ := nI_of (v_nneg hst.1)
    refine ⟨j, e, ?_⟩
    rw [e, nI_toInt hj] at hst
    have := hst.2
    omega
  have hp : 0 < 2 ^ k := Nat.pow_pos (by decide)
  refine ⟨nI ((s + 2 ^ k - S) % 2 ^ k), ?_, ?_, ?_⟩
  · rw [nI_toInt (by have := Nat.mod_lt (s + 2 ^ k - S) hp; omega)]; omega
  · have := Nat.mod_lt (s + 2 ^ k - S) hp
    rw [nI_toInt (by omega)]; omega
  · have hm := Nat.mod_lt (s + 2 ^ k - S) hp
    unfold slI
    rw [hS.1, nI_add, pk_andN (by omega) k hM]
    have e : (S + (s + 2 ^ k - S) % 2 ^ k) % 2 ^ k = s := by
      rw [Nat.add_mod_mod]
      have : S + (s + 2 ^ k - S) = s + 2 ^ k := by omega
      rw [this, Nat.add_mod_right, Nat.mod_eq_of_lt hs]
    rw [e, nI_clamp (by omega)]

def pk2 (x y : Int32) : Int32 := (x <<< (16 &&& 31)) ||| y
def hsK (w : Int32) : Int32 := (((w * (-1640531535)) : Int32).toUInt32 >>> ((22 : Int32).toUInt32 &&& Int32.toUInt32 31)).toInt32

theorem way_step {M st w k k' pl v kk a : Int32} {K V : Nat → Int32} (h : ∀ q : Int32, 0 ≤ q.toInt → q.toInt < k.toInt → ¬ V (slI M st q) = -1 ∧ ¬ K (slI M st q) = w) (ea : a = st + k) (ep : pl = a &&& M) (ev : v = V pl.toNatClampNeg) (ek : kk = K pl.toNatClampNeg) (c1 : ¬ v = -1) (c2 : ¬ kk = w) (hk' : k'.toInt = k.toInt + 1) : ∀ q : Int32, 0 ≤ q.toInt → q.toInt < k'.toInt → ¬ V (slI M st q) = -1 ∧ ¬ K (slI M st q) = w := by
  intro q h1 h2
  by_cases z : q.toInt = k.toInt
  · have e : slI M st q = pl.toNatClampNeg := by rw [v_inj z, ep, ea]; rfl
    rw [e, ← ev, ← ek]; exact ⟨c1, c2⟩
  · exact h q h1 (by omega)
theorem way_here {N : Int} {M st w k pl a : Int32} {K V : Nat → Int32} (h : ∀ q : Int32, 0 ≤ q.toInt → q.toInt < k.toInt → ¬ V (slI M st q) = -1 ∧ ¬ K (slI M st q) = w) (ea : a = st + k) (ep : pl = a &&& M) (hor : V pl.toNatClampNeg = -1 ∨ K pl.toNatClampNeg = w) (h0 : 0 ≤ k.toInt) (hN : k.toInt < N) : F_pl N M st w pl K V := by
  have e : slI M st k = pl.toNatClampNeg := by rw [ep, ea]; rfl
  exact ⟨k, h0, hN, e.symm, by rw [e]; exact hor, h⟩
/-- what placeFor answers -/
def F_pf (N : Int) (M st w r : Int32) (K V : Nat → Int32) : Prop := (r = -1 ∧ ∀ q : Int32, 0 ≤ q.toInt → q.toInt < N → ¬ V (slI M st q) = -1 ∧ ¬ K (slI M st q) = w) ∨ (0 ≤ r.toInt ∧ F_pl N M st w r K V)
theorem F_pf_eq {N : Int} {M st st' w r : Int32} {K V : Nat → Int32} (h : F_pf N M st w r K V) (e : st = st') : F_pf N M st' w r K V := by rw [← e]; exact h

/-! told codes on both sides -/
def hsT (w : Int32) : Int32 := (((w * (-1640531535)) : Int32).toUInt32 >>> ((23 : Int32).toUInt32 &&& Int32.toUInt32 31)).toInt32
theorem hsT_r (w : Int32) : 0 ≤ (hsT w).toInt ∧ (hsT w).toInt < 512 := v_ushr 23 rfl (by decide) (by decide) (by decide)
theorem ix_eq {x : Int32} {N : Nat} (h : x.toInt = N) : x.toNatClampNeg = N := by
  have := v_clamp (x := x) (by omega)
  omega
theorem v_nn {v : Int32} (h : 0 ≤ v.toInt) : ¬ v = -1 := fun e => by
  rw [e] at h
  exact absurd h (by decide)
theorem v_nar_s {v : Int32} (h : -32768 ≤ v.toInt ∧ v.toInt ≤ 32767) : (vp_nar .short v).toInt = v.toInt := v_i2s (x := vp_nar .short v) rfl h
theorem F_get_f {l i r : Int32} {f : Nat → Int32} (h : F_get l i r f) (h0 : 0 ≤ i.toInt) (h1 : i.toInt < l.toInt) : r = f i.toNatClampNeg := by
  rcases h with h | h
  · exact h.2.2
  · have := h.1
    omega
theorem get_free {v r : Int32} {f : Nat → Int32} {w : Nat} (h : F_get 256 v r f) (h0 : 0 ≤ v.toInt) (h1 : v.toInt < 256) (hw : v.toInt = w) : f w = r := by
  rw [← ix_eq hw]
  exact (F_get_f h h0 (by show v.toInt < 256; exact h1)).symm
theorem occ_le (V : Nat → Int32) : ∀ n, occ V n ≤ n
  | 0 => Nat.le_refl _
  | n + 1 => by
    have := occ_le V n
    rw [occ]
    split <;> omega
theorem occ_new {V : Nat → Int32} {k : Nat} {v : Int32} (hk : V k = -1) (hv : ¬ v = -1) : ∀ n, k < n → occ (upd V k v) n = occ V n + 1
  | 0, h => absurd h (Nat.not_lt_zero _)
  | n + 1, h => by
    by_cases e : n = k
    · have h1 := occ_out V k v n (by omega)
      rw [occ, occ, h1, e, pk_us, if_neg hv, if_pos hk]
    · have h1 := occ_new hk hv n (by omega)
      rw [occ, occ, h1, pk_un e]
      omega
theorem occ_511 {V U : Nat → Int32} (h : occ V 512 ≤ occ U 256) : (occ V 512 : Int) ≤ 511 := by
  have := occ_le U 256
  omega
theorem pfT_found {w r : Int32} {K V : Nat → Int32} (h : F_pf 512 511 (hsT w) w r K V) (ho : (occ V 512 : Int) ≤ 511) : 0 ≤ r.toInt ∧ F_pl 512 511 (hsT w) w r K V := by
  rcases h with ⟨_, h⟩ | h
  · exfalso
    obtain ⟨s, h1, h2⟩ := occ_free V 512 (by omega)
    obtain ⟨q, q0, q1, q2⟩ := way_all (M := 511) (st := hsT w) (s := s) 9 (by decide) (by decide) (hsT_r w) h1
    exact (h q q0 q1).1 (by rw [q2]; exact h2)
  · exact h
/-- the letter is not told -/
def nT (K V : Nat → Int32) (x : Int32) : Prop := ∀ v : Int32, ¬ toldK 512 K V x v
def F_bf (r x : Int32) (K V : Nat → Int32) : Prop := (¬ r = -1 ∧ toldK 512 K V x r) ∨ (r = -1 ∧ nT K V x)
theorem bf_of {le r pl : Int32} {K V : Nat → Int32} (hT : HT 512 511 hsT K V) (h : F_pl 512 511 (hsT le) le pl K V) (h0 : 0 ≤ pl.toInt) (h1 : pl.toInt < 512) (er : r = V pl.toNatClampNeg) : F_bf r le K V := by
  by_cases z : r = -1
  · exact Or.inr ⟨z, fun v => pl_free hT h (by rw [← er]; exact z)⟩
  · refine Or.inl ⟨z, pl.toNatClampNeg, ?_, pl_own h (by rw [← er]; exact z), er.symm, z⟩
    have := v_clamp h0
    omega
theorem bf_none {r x : Int32} {K V : Nat → Int32} (h : F_bf r x K V) (e : r = -1) : nT K V x := h.elim (fun z => absurd e z.1) (fun z => z.2)
theorem bf_some {r x : Int32} {K V : Nat → Int32} (h : F_bf r x K V) (e : ¬ r = -1) : ¬ nT K V x := h.elim (fun z w => w r z.2) (fun z => absurd z.1 e)
def isLz (x : Int32) : Prop := 0 ≤ x.toInt ∧ x.toInt ≤ 65535 ∧ (x.toInt < 55296 ∨ 57343 < x.toInt)
/-- the first k letters of a span are good -/
def CTk (k : Int) (fr le sp : Int32) (P : Nat → Prop) (N : Int32 → Prop) : Prop := ∀ j : Int32, 0 ≤ j.toInt → j.toInt < k → isLz (le + j * sp) ∧ P (fr.toInt + j.toInt).toNat ∧ N (le + j * sp)
def CT (fr n le sp : Int32) (P : Nat → Prop) (N : Int32 → Prop) : Prop := (0 ≤ fr.toInt ∧ fr.toInt ≤ 255 ∧ 1 ≤ n.toInt ∧ n.toInt ≤ 256 - fr.toInt ∧ -255 ≤ sp.toInt ∧ sp.toInt ≤ 255 ∧ isLz le ∧ (n.toInt ≤ 1 ∨ ¬ sp.toInt = 0)) ∧ CTk n.toInt fr le sp P N
theorem CTk_0 {k : Int} {fr le sp : Int32} {P : Nat → Prop} {N : Int32 → Prop} (h : k ≤ 0) : CTk k fr le sp P N := fun j h1 h2 => by omega
theorem CTk_s {i i' fr le sp y x : Int32} {P : Nat → Prop} {N : Int32 → Prop} (h : CTk i.toInt fr le sp P N) (ey : y = i * sp) (ex : x = le + y) (hi' : i'.toInt = i.toInt + 1) (hx : isLz x) (hP : P (fr.toInt + i.toInt).toNat) (hN : N x) : CTk i'.toInt fr le sp P N := by
  intro j h1 h2
  by_cases z : j.toInt = i.toInt
  · have e : j = i := v_inj z
    have e2 : le + i * sp = x := by rw [ex, ey]
    rw [e, e2]; exact ⟨hx, hP, hN⟩
  · exact h j h1 (by omega)
theorem CT_no {i fr n le sp y x : Int32} {P : Nat → Prop} {N : Int32 → Prop} (ey : y = i * sp) (ex : x = le + y) (h0 : 0 ≤ i.toInt) (hn : i.toInt < n.toInt) (h : ¬ (isLz x ∧ P (fr.toInt + i.toInt).toNat ∧ N x)) : ¬ CT fr n le sp P N := fun c => by
  have q := c.2 i h0 hn
  have e2 : le + i * sp = x := by rw [ex, ey]
  rw [e2] at q
  exact h q
theorem CTk_le {k k' : Int} {fr le sp : Int32} {P : Nat → Prop} {N : Int32 → Prop} (h : CTk k fr le sp P N) (e : k' ≤ k) : CTk k' fr le sp P N := fun j h1 h2 => h j h1 (by omega)
theorem CT_mono {fr n le sp : Int32} {P P' : Nat → Prop} {N N' : Int32 → Prop} (h : CT fr n le sp P N) (hP : ∀ k, k < 256 → P k → P' k) (hN : ∀ x : Int32, 0 ≤ x.toInt → x.toInt ≤ 65535 → N x → N' x) : CT fr n le sp P' N' := by
  obtain ⟨a, b⟩ := h
  refine ⟨a, fun j h1 h2 => ?_⟩
  obtain ⟨q1, q2, q3⟩ := b j h1 h2
  exact ⟨q1, hP _ (by omega) q2, hN _ q1.1 q1.2.1 q3⟩
def F_ct (r fr n le sp : Int32) (P : Nat → Prop) (N : Int32 → Prop) : Prop := (r = 1 ∧ CT fr n le sp P N) ∨ (r = 0 ∧ ¬ CT fr n le sp P N)
theorem F_ct_1 {r fr n le sp : Int32} {P : Nat → Prop} {N : Int32 → Prop} (h : F_ct r fr n le sp P N) (e : ¬ r.toInt = 0) : CT fr n le sp P N := h.elim (fun z => z.2) (fun z => absurd (by rw [z.1]; rfl) e)
theorem F_ct_0 {r fr n le sp : Int32} {P : Nat → Prop} {N : Int32 → Prop} (h : F_ct r fr n le sp P N) (e : r.toInt = 0) : ¬ CT fr n le sp P N := by
  rcases h with z | z
  · rw [z.1] at e; exact absurd e (by decide)
  · exact z.2
/-- one more letter is told -/
def F_tl (l l' v le : Int32) (f1 g1 f2 g2 f3 g3 : Nat → Int32) : Prop := ∃ q : Int32, 0 ≤ q.toInt ∧ q.toInt < 512 ∧ F_pl 512 511 (hsT le) le q f2 f3 ∧ l' = l + 1 ∧ g1 = upd f1 v.toNatClampNeg le ∧ g2 = upd f2 q.toNatClampNeg le ∧ g3 = upd f3 q.toNatClampNeg v
theorem told_new {K V K' V' : Nat → Int32} {x v x' w : Int32} {q : Nat} (hq : (q : Int) < 512) (hf : V q = -1) (hv : ¬ v = -1) (eK : K' = upd K q x) (eV : V' = upd V q v) : toldK 512 K' V' x' w ↔ (toldK 512 K V x' w ∨ (x' = x ∧ w = v)) := by
  constructor
  · rintro ⟨s, s1, s2, s3, s4⟩
    by_cases z : s = q
    · rw [eK, z, pk_us] at s2
      rw [eV, z, pk_us] at s3
      exact Or.inr ⟨s2.symm, s3.symm⟩
    · rw [eK, pk_un z] at s2
      rw [eV, pk_un z] at s3
      exact Or.inl ⟨s, s1, s2, s3, s4⟩
  · rintro (⟨s, s1, s2, s3, s4⟩ | ⟨z1, z2⟩)
    · have z : s ≠ q := fun e => s4 (by rw [← s3, e]; exact hf)
      exact ⟨s, s1, by rw [eK, pk_un z]; exact s2, by rw [eV, pk_un z]; exact s3, s4⟩
    · exact ⟨q, hq, by rw [eK, pk_us, z1], by rw [eV, pk_us, z2], by rw [z2]; exact hv⟩
theorem sp_mul {i sp : Int32} (hi : 0 ≤ i.toInt ∧ i.toInt ≤ 256) (hs : -255 ≤ sp.toInt ∧ sp.toInt ≤ 255) : (i * sp).toInt = i.toInt * sp.toInt ∧ -65280 ≤ (i * sp).toInt ∧ (i * sp).toInt ≤ 65280 := by
  have e1 : i.toInt * sp.toInt ≤ i.toInt * 255 := Int.mul_le_mul_of_nonneg_left hs.2 hi.1
  have e2 : i.toInt * (-255) ≤ i.toInt * sp.toInt := Int.mul_le_mul_of_nonneg_left hs.1 hi.1
  have e3 : (i * sp).toInt = i.toInt * sp.toInt := v_mul rfl (by omega) (by omega)
  omega
theorem sp_inj {le sp i j : Int32} (hl : 0 ≤ le.toInt ∧ le.toInt ≤ 65535) (hi : 0 ≤ i.toInt ∧ i.toInt ≤ 256) (hj : 0 ≤ j.toInt ∧ j.toInt ≤ 256) (hs : -255 ≤ sp.toInt ∧ sp.toInt ≤ 255) (hn : ¬ sp.toInt = 0) (h : le + i * sp = le + j * sp) : i.toInt = j.toInt := by
  have a := sp_mul hi hs
  have b := sp_mul hj hs
  have e1 := v_add (x := le + i * sp) rfl (by omega) (by omega)
  have e2 := v_add (x := le + j * sp) rfl (by omega) (by omega)
  rw [h] at e1
  have e3 : i.toInt * sp.toInt = j.toInt * sp.toInt := by omega
  exact Int.eq_of_mul_eq_mul_right hn e3
/-- what i told letters of a span change -/
def SPC (i l la fr le sp : Int32) (f1 f2 f3 g1 g2 g3 : Nat → Int32) : Prop := la = l + i ∧ HT 512 511 hsT g2 g3 ∧ occ g3 512 ≤ occ g1 256 ∧ (∀ j : Int32, 0 ≤ j.toInt → j.toInt < i.toInt → g1 (fr.toInt + j.toInt).toNat = le + j * sp) ∧ (∀ k : Nat, (k : Int) < fr.toInt ∨ fr.toInt + i.toInt ≤ k → g1 k = f1 k) ∧ ∀ x v : Int32, toldK 512 g2 g3 x v ↔ (toldK 512 f2 f3 x v ∨ ∃ j : Int32, 0 ≤ j.toInt ∧ j.toInt < i.toInt ∧ x = le + j * sp ∧ v = fr + j)
theorem SPC_0 {l fr le sp : Int32} {f1 f2 f3 : Nat → Int32} (hT : HT 512 511 hsT f2 f3) (ho : occ f3 512 ≤ occ f1 256) : SPC 0 l l fr le sp f1 f2 f3 f1 f2 f3 := by
  have e : (0 : Int32).toInt = 0 := rfl
  refine ⟨(Int32.add_zero l).symm, hT, ho, fun j h1 h2 => by omega, fun _ _ => rfl, fun x v => ⟨Or.inl, ?_⟩⟩
  rintro (z | ⟨j, j0, j1, _⟩)
  · exact z
  · omega
theorem SPC_s {i i' l la lb fr n le sp x y v : Int32} {f1 f2 f3 g1 g2 g3 k1 k2 k3 : Nat → Int32} (c : CT fr n le sp (fun k => f1 k = -1) (nT f2 f3)) (h : SPC i l la fr le sp f1 f2 f3 g1 g2 g3) (hi : 0 ≤ i.toInt) (hn : i.toInt < n.toInt) (ey : y = i * sp) (ex : x = le + y) (ev : v.toInt = fr.toInt + i.toInt) (ht : F_tl la lb v x g1 k1 g2 k2 g3 k3) (hi' : i'.toInt = i.toInt + 1) : SPC i' l lb fr le sp f1 f2 f3 k1 k2 k3 := by
  obtain ⟨a1, a2, a3, a4, a5, a6⟩ := h
  obtain ⟨⟨b1, b2, b3, b4, b5, b6, b7, b8⟩, c2⟩ := c
  obtain ⟨q, q0, q1, q2, q3, q4, q5, q6⟩ := ht
  have exx : le + i * sp = x := by rw [ex, ey]
  have cx := c2 i hi hn
  rw [exx] at cx
  obtain ⟨cl, cp, cn⟩ := cx
  have o1 : (1 : Int32).toInt = 1 := rfl
  have ei : i' = i + 1 := v_inj (by rw [v_add (x := i + 1) rfl (by omega) (by omega)]; omega)
  have ve : v = fr + i := v_inj (by rw [v_add (x := fr + i) rfl (by omega) (by omega)]; omega)
  have hv : ¬ v = -1 := v_nn (by omega)
  have xn : ¬ x = -1 := v_nn cl.1
  have kv : v.toNatClampNeg = (fr.toInt + i.toInt).toNat := ix_eq (by omega)
  have qc := v_clamp q0
  have nx : ∀ w, ¬ toldK 512 g2 g3 x w := by
    intro w hw
    rcases (a6 x w).mp hw with z | ⟨j, j0, j1, j2, j3⟩
    · exact cn w z
    · have b9 : ¬ sp.toInt = 0 := by omega
      have := sp_inj (i := i) (j := j) ⟨b7.1, b7.2.1⟩ (by omega) (by omega) ⟨b5, b6⟩ b9 (by rw [exx]; exact j2)
      omega
  have free3 : g3 q.toNatClampNeg = -1 := Classical.byContradiction fun z => nx _ ⟨q.toNatClampNeg, by omega, pl_own q2 z, rfl, z⟩
  have free1 : g1 v.toNatClampNeg = -1 := by
    rw [a5 _ (Or.inr (by omega)), kv]; exact cp
  refine ⟨?_, HT_new a2 q2 free3 hv q5 q6, ?_, ?_, ?_, ?_⟩
  · rw [q3, a1, ei]; exact Int32.add_assoc l i 1
  · have p1 := occ_upd g3 q.toNatClampNeg v 512
    have p2 := occ_new free1 xn 256 (by omega)
    rw [q6, q4]; omega
  · intro j j0 j1
    by_cases z : j.toInt = i.toInt
    · have e : j = i := v_inj z
      rw [q4, e, ← kv, pk_us]; exact exx.symm
    · rw [q4, pk_un (by omega)]; exact a4 j j0 (by omega)
  · intro k hk
    rw [q4, pk_un (by omega)]; exact a5 k (by omega)
  · intro x' w
    rw [told_new (by omega) free3 hv q5 q6, a6]
    constructor
    · rintro ((z | ⟨j, j0, j1, j2, j3⟩) | ⟨z1, z2⟩)
      · exact Or.inl z
      · exact Or.inr ⟨j, j0, by omega, j2, j3⟩
      · exact Or.inr ⟨i, hi, by omega, by rw [z1, exx], by rw [z2, ve]⟩
    · rintro (z | ⟨j, j0, j1, j2, j3⟩)
      · exact Or.inl (Or.inl z)
      · by_cases z : j.toInt = i.toInt
        · have e : j = i := v_inj z
          exact Or.inr ⟨by rw [j2, e, exx], by rw [j3, e, ve]⟩
        · exact Or.inl (Or.inr ⟨j, j0, by omega, j2, j3⟩)
theorem SPC_n {i n l la fr le sp : Int32} {f1 f2 f3 g1 g2 g3 : Nat → Int32} (h : SPC i l la fr le sp f1 f2 f3 g1 g2 g3) (e : i.toInt = n.toInt) : SPC n l la fr le sp f1 f2 f3 g1 g2 g3 := by
  rw [← (v_inj e : i = n)]; exact h
def F_spanC (r fr n le sp l l' : Int32) (f1 g1 f2 g2 f3 g3 : Nat → Int32) : Prop := (CT fr n le sp (fun k => f1 k = -1) (nT f2 f3) ∧ SPC n l l' fr le sp f1 f2 f3 g1 g2 g3 ∧ r = l') ∨ (r = -1 ∧ l' = l ∧ g1 = f1 ∧ g2 = f2 ∧ g3 = f3 ∧ ¬ CT fr n le sp (fun k => f1 k = -1) (nT f2 f3))
/-- the same of the reference -/
def SPR (t : Nat) (i fr le sp : Int32) (eL eB gL gB : Nat → Int32) : Prop := (∀ j : Int32, 0 ≤ j.toInt → j.toInt < i.toInt → gL (256 * t + (fr.toInt + j.toInt).toNat) = le + j * sp) ∧ (∀ k : Nat, (k : Int) < 256 * t + fr.toInt ∨ 256 * t + fr.toInt + i.toInt ≤ k → gL k = eL k) ∧ (∀ j : Int32, 0 ≤ j.toInt → j.toInt < i.toInt → gB (65536 * t + (le + j * sp).toNatClampNeg) = fr + j) ∧ (∀ k : Nat, (∀ j : Int32, 0 ≤ j.toInt → j.toInt < i.toInt → ¬ k = 65536 * t + (le + j * sp).toNatClampNeg) → gB k = eB k)
theorem SPR_0 {t : Nat} {fr le sp : Int32} {eL eB : Nat → Int32} : SPR t 0 fr le sp eL eB eL eB := by
  have e : (0 : Int32).toInt = 0 := rfl
  exact ⟨fun j h1 h2 => by omega, fun _ _ => rfl, fun j h1 h2 => by omega, fun _ _ => rfl⟩
theorem SPR_s {t : Nat} {i i' fr n le sp x y y2 z a a2 b w : Int32} {P : Nat → Prop} {N : Int32 → Prop} {eL eB gL gB kL kB : Nat → Int32} (c : CT fr n le sp P N) (h : SPR t i fr le sp eL eB gL gB) (hi : 0 ≤ i.toInt) (hn : i.toInt < n.toInt) (ht : t ≤ 1) (ey : y = i * sp) (ex : x = le + y) (ey2 : y2 = i * sp) (ea : a2 = z + le) (eb : b = a2 + y2) (hz : z.toInt = 65536 * t) (ha : a.toInt = 256 * t + fr.toInt + i.toInt) (hw : w.toInt = fr.toInt + i.toInt) (eA : kL = upd gL a.toNatClampNeg x) (eK : kB = upd gB b.toNatClampNeg w) (hi' : i'.toInt = i.toInt + 1) : SPR t i' fr le sp eL eB kL kB := by
  obtain ⟨a1, a3, a4, a5⟩ := h
  obtain ⟨⟨b1, b2, b3, b4, b5, b6, b7, b8⟩, c2⟩ := c
  have exx : le + i * sp = x := by rw [ex, ey]
  have cl := (c2 i hi hn).1
  rw [exx] at cl
  have ebx : b = z + x := by rw [eb, ea, ey2, Int32.add_assoc, exx]
  have hb := v_add ebx (by have := cl.1; omega) (by have := cl.2.1; omega)
  have kb : b.toNatClampNeg = 65536 * t + x.toNatClampNeg := by
    have := v_clamp cl.1
    exact ix_eq (by omega)
  have ka : a.toNatClampNeg = 256 * t + (fr.toInt + i.toInt).toNat := ix_eq (by omega)
  have wv : w = fr + i := v_inj (by rw [v_add (x := fr + i) rfl (by omega) (by omega)]; omega)
  refine ⟨?_, ?_, ?_, ?_⟩
  · intro j j0 j1
    by_cases q : j.toInt = i.toInt
    · have e : j = i := v_inj q
      rw [eA, e, ← ka, pk_us]; exact exx.symm
    · rw [eA, pk_un (by omega)]; exact a1 j j0 (by omega)
  · intro k hk
    rw [eA, pk_un (by omega)]; exact a3 k (by omega)
  · intro j j0 j1
    by_cases q : j.toInt = i.toInt
    · have e : j = i := v_inj q
      rw [eK, e, exx, ← kb, pk_us]; exact wv
    · have b9 : ¬ sp.toInt = 0 := by omega
      have ne : ¬ 65536 * t + (le + j * sp).toNatClampNeg = b.toNatClampNeg := by
        intro e9
        have cj := (c2 j j0 (by omega)).1
        have d1 := v_clamp cj.1
        have d2 := v_clamp cl.1
        have e8 : (le + j * sp).toInt = x.toInt := by omega
        have := sp_inj (i := i) (j := j) ⟨b7.1, b7.2.1⟩ (by omega) (by omega) ⟨b5, b6⟩ b9 (by rw [exx]; exact (v_inj e8).symm)
        omega
      rw [eK, pk_un ne]; exact a4 j j0 (by omega)
  · intro k hk
    have ne : ¬ k = b.toNatClampNeg := by
      rw [kb, ← exx]; exact hk i hi (by omega)
    rw [eK, pk_un ne]; exact a5 k (fun j j0 j1 => hk j j0 (by omega))
theorem SPR_n {t : Nat} {i n fr le sp : Int32} {eL eB gL gB : Nat → Int32} (h : SPR t i fr le sp eL eB gL gB) (e : i.toInt = n.toInt) : SPR t n fr le sp eL eB gL gB := by
  rw [← (v_inj e : i = n)]; exact h
def pL (t : Nat) (eL : Nat → Int32) (k : Nat) : Prop := eL (256 * t + k) = -1
def pB (t : Nat) (eB : Nat → Int32) (x : Int32) : Prop := eB (65536 * t + x.toNatClampNeg) = -1
def F_spanR (r cd fr n le sp : Int32) (eL gL eB gB eD gD : Nat → Int32) : Prop := (∃ t : Nat, cd.toInt = 4 + t ∧ t ≤ 1 ∧ CT fr n le sp (pL t eL) (pB t eB) ∧ SPR t n fr le sp eL eB gL gB ∧ r = eD t + n ∧ gD = upd eD t r) ∨ (r = -1 ∧ gL = eL ∧ gB = eB ∧ gD = eD ∧ ∀ t : Nat, cd.toInt = 4 + t → t ≤ 1 → ¬ CT fr n le sp (pL t eL) (pB t eB))
theorem spanR_no {cd fr n le sp i x y : Int32} {eL eB : Nat → Int32} (h4 : 4 ≤ cd.toInt) (ey : y = i * sp) (ex : x = le + y) (h0 : 0 ≤ i.toInt) (hn : i.toInt < n.toInt) (h : ¬ (isLz x ∧ pL (cd.toInt - 4).toNat eL (fr.toInt + i.toInt).toNat ∧ pB (cd.toInt - 4).toNat eB x)) : ∀ t : Nat, cd.toInt = 4 + t → t ≤ 1 → ¬ CT fr n le sp (pL t eL) (pB t eB) := by
  intro t h1 h2 c
  have e : (cd.toInt - 4).toNat = t := by omega
  rw [e] at h
  exact CT_no ey ex h0 hn h c
theorem spanR_d {cd t6 d s r n : Int32} {eD gD : Nat → Int32} (h4 : 4 ≤ cd.toInt) (ht : t6.toInt = cd.toInt - 4) (ed : d = eD t6.toNatClampNeg) (es : s = d + n) (eg : gD = upd eD t6.toNatClampNeg s) (er : r = gD t6.toNatClampNeg) : r = eD (cd.toInt - 4).toNat + n ∧ gD = upd eD (cd.toInt - 4).toNat r := by
  have e : t6.toNatClampNeg = (cd.toInt - 4).toNat := ix_eq (by omega)
  have er2 : r = s := by rw [er, eg, pk_us]
  rw [e] at ed eg
  refine ⟨by rw [er2, es, ed], by rw [er2]; exact eg⟩
/-- a told code is the same on both sides -/
def TR (t : Nat) (l : Int32) (f1 f2 f3 eL eB eD : Nat → Int32) : Prop := HT 512 511 hsT f2 f3 ∧ occ f3 512 ≤ occ f1 256 ∧ l = eD t ∧ (∀ k : Nat, k < 256 → f1 k = eL (256 * t + k)) ∧ ∀ x v : Int32, 0 ≤ x.toInt → x.toInt ≤ 65535 → ¬ v = -1 → (toldK 512 f2 f3 x v ↔ eB (65536 * t + x.toNatClampNeg) = v)
theorem TR_ho {t : Nat} {l : Int32} {f1 f2 f3 eL eB eD : Nat → Int32} (h : TR t l f1 f2 f3 eL eB eD) : (occ f3 512 : Int) ≤ 511 := occ_511 h.2.1
theorem TR_nT {t : Nat} {l x : Int32} {f1 f2 f3 eL eB eD : Nat → Int32} (h : TR t l f1 f2 f3 eL eB eD) (h0 : 0 ≤ x.toInt) (h1 : x.toInt ≤ 65535) : nT f2 f3 x ↔ pB t eB x := by
  constructor
  · intro z
    exact Classical.byContradiction fun w => z _ ((h.2.2.2.2 x _ h0 h1 w).mpr rfl)
  · intro z v hv
    have hn := hv
    obtain ⟨s, s1, s2, s3, s4⟩ := hn
    have e := (h.2.2.2.2 x v h0 h1 s4).mp hv
    exact s4 (by rw [← e]; exact z)
theorem TR_CT {t : Nat} {l fr n le sp : Int32} {f1 f2 f3 eL eB eD : Nat → Int32} (h : TR t l f1 f2 f3 eL eB eD) : CT fr n le sp (fun k => f1 k = -1) (nT f2 f3) ↔ CT fr n le sp (pL t eL) (pB t eB) := by
  have e := h.2.2.2.1
  constructor
  · exact fun z => CT_mono z (fun k hk w => by unfold pL; rw [← e k hk]; exact w) (fun x h0 h1 w => (TR_nT h h0 h1).mp w)
  · exact fun z => CT_mono z (fun k hk w => by unfold pL at w; show f1 k = -1; rw [e k hk]; exact w) (fun x h0 h1 w => (TR_nT h h0 h1).mpr w)
theorem span_eq {t : Nat} {l l' r q cd fr n le sp : Int32} {f1 g1 f2 g2 f3 g3 eL gL eB gB eD gD : Nat → Int32} (ht : t ≤ 1) (hcd : cd.toInt = 4 + t) (R : TR t l f1 f2 f3 eL eB eD) (hC : F_spanC r fr n le sp l l' f1 g1 f2 g2 f3 g3) (hR : F_spanR q cd fr n le sp eL gL eB gB eD gD) : r = q ∧ TR t l' g1 g2 g3 gL gB gD := by
  have hct := TR_CT (fr := fr) (n := n) (le := le) (sp := sp) R
  rcases hC with ⟨c1, c2, c3⟩ | ⟨c1, c2, c3, c4, c5, c6⟩ <;> rcases hR with ⟨t', d1, d2, d3, d4, d5, d6⟩ | ⟨d1, d2, d3, d4, d5⟩
  · have et : t' = t := by omega
    subst et
    obtain ⟨r1, r2, r3, r4, r5⟩ := R
    obtain ⟨s1, s2, s3, s4, s5, s6⟩ := c2
    obtain ⟨p1, p2, p3, p4⟩ := d4
    have bs := c1.1
    have rq : r = q := by rw [c3, s1, r3, d5]
    refine ⟨rq, s2, s3, by rw [← c3, d6, pk_us]; exact rq, fun k hk => ?_, fun x v h0 h1 hv => ?_⟩
    · by_cases z : fr.toInt ≤ k ∧ (k : Int) < fr.toInt + n.toInt
      · have ej : (Int32.ofNat (k - fr.toInt.toNat)).toInt = ((k - fr.toInt.toNat : Nat) : Int) := v_nat (by omega)
        have ek : (fr.toInt + (Int32.ofNat (k - fr.toInt.toNat)).toInt).toNat = k := by omega
        have u1 := s4 (Int32.ofNat (k - fr.toInt.toNat)) (by omega) (by omega)
        have u2 := p1 (Int32.ofNat (k - fr.toInt.toNat)) (by omega) (by omega)
        rw [ek] at u1 u2
        rw [u1, u2]
      · rw [s5 k (by omega), p2 (256 * t' + k) (by omega)]; exact r4 k hk
    · have hx := v_clamp h0
      have out : (∀ j : Int32, 0 ≤ j.toInt → j.toInt < n.toInt → ¬ x = le + j * sp) → gB (65536 * t' + x.toNatClampNeg) = eB (65536 * t' + x.toNatClampNeg) := by
        intro z
        refine p4 _ (fun j j0 j1 e => z j j0 j1 ?_)
        have cj := (c1.2 j j0 j1).1
        have := v_clamp cj.1
        exact v_inj (by omega)
      rw [s6]
      constructor
      · rintro (z | ⟨j, j0, j1, j2, j3⟩)
        · rw [out (fun j j0 j1 e => (c1.2 j j0 j1).2.2 v (by rw [← e]; exact z))]
          exact (r5 x v h0 h1 hv).mp z
        · rw [j2, j3]; exact p3 j j0 j1
      · intro z
        by_cases w : ∃ j : Int32, 0 ≤ j.toInt ∧ j.toInt < n.toInt ∧ x = le + j * sp
        · obtain ⟨j, j0, j1, j2⟩ := w
          refine Or.inr ⟨j, j0, j1, j2, ?_⟩
          rw [← z, j2]; exact p3 j j0 j1
        · rw [out (fun j j0 j1 e => w ⟨j, j0, j1, e⟩)] at z
          exact Or.inl ((r5 x v h0 h1 hv).mpr z)
  · exact absurd (hct.mp c1) (d5 t hcd ht)
  · have et : t' = t := by omega
    subst et
    exact absurd (hct.mpr d3) c6
  · refine ⟨by rw [c1, d1], ?_⟩
    rw [c2, c3, c4, c5, d2, d3, d4]; exact R
theorem span_other {t' : Nat} {l q cd fr n le sp : Int32} {f1 f2 f3 eL gL eB gB eD gD : Nat → Int32} (ht : t' ≤ 1) (hcd : ¬ cd.toInt = 4 + t') (R : TR t' l f1 f2 f3 eL eB eD) (hR : F_spanR q cd fr n le sp eL gL eB gB eD gD) : TR t' l f1 f2 f3 gL gB gD := by
  rcases hR with ⟨t, d1, d2, d3, d4, d5, d6⟩ | ⟨d1, d2, d3, d4, d5⟩
  · obtain ⟨r1, r2, r3, r4, r5⟩ := R
    obtain ⟨p1, p2, p3, p4⟩ := d4
    have bs := d3.1
    refine ⟨r1, r2, by rw [d6, pk_un (by omega)]; exact r3, fun k hk => ?_, fun x v h0 h1 hv => ?_⟩
    · rw [p2 (256 * t' + k) (by omega)]; exact r4 k hk
    · have hx := v_clamp h0
      rw [p4 (65536 * t' + x.toNatClampNeg) (fun j j0 j1 e => ?_)]
      · exact r5 x v h0 h1 hv
      · have cj := (d3.2 j j0 j1).1
        have z1 := v_clamp cj.1
        have z2 := cj.2.1
        omega
  · rw [d2, d3, d4]; exact R
theorem span_n {q cd fr n le sp : Int32} {eL gL eB gB eD gD : Nat → Int32} (h4 : ¬ cd.toInt = 4) (h5 : ¬ cd.toInt = 5) (hR : F_spanR q cd fr n le sp eL gL eB gB eD gD) : q = -1 := by
  rcases hR with ⟨t, d1, d2, _⟩ | ⟨d1, _⟩
  · omega
  · exact d1
/-- -1 at each place from b on, i of them -/
def FB (b i : Int) (e g : Nat → Int32) : Prop := (∀ k : Nat, b ≤ k → (k : Int) < b + i → g k = -1) ∧ ∀ k : Nat, (k : Int) < b ∨ b + i ≤ k → g k = e k
theorem FB_0 {b i : Int} {e : Nat → Int32} (h : i ≤ 0) : FB b i e e := ⟨fun k h1 h2 => by omega, fun _ _ => rfl⟩
theorem FB_s {b : Int} {i i' a v : Int32} {e g k : Nat → Int32} (h : FB b i.toInt e g) (hb : 0 ≤ b) (hi : 0 ≤ i.toInt) (ha : a.toInt = b + i.toInt) (ek : k = upd g a.toNatClampNeg v) (hv : v = -1) (hi' : i'.toInt = i.toInt + 1) : FB b i'.toInt e k := by
  have c := v_clamp (x := a) (by omega)
  refine ⟨fun j h1 h2 => ?_, fun j hj => ?_⟩
  · by_cases z : j = a.toNatClampNeg
    · rw [ek, z, pk_us, hv]
    · rw [ek, pk_un z]; exact h.1 j h1 (by omega)
  · rw [ek, pk_un (by omega)]; exact h.2 j (by omega)
theorem FB_n {b i n : Int} {e g : Nat → Int32} (h : FB b i e g) (e1 : i = n) : FB b n e g := by rw [← e1]; exact h
def F_blankR (cd : Int32) (eL gL eB gB eD gD : Nat → Int32) : Prop := (∃ t : Nat, cd.toInt = 4 + t ∧ t ≤ 1 ∧ FB (256 * t) 256 eL gL ∧ FB (65536 * t) 65536 eB gB ∧ gD = upd eD t 0) ∨ (¬ cd.toInt = 4 ∧ ¬ cd.toInt = 5 ∧ gL = eL ∧ gB = eB ∧ gD = eD)
theorem blankR_of {cd t2 : Int32} {eL gL eB gB eD gD : Nat → Int32} (h4 : 4 ≤ cd.toInt) (h5 : cd.toInt ≤ 5) (ht : t2.toInt = cd.toInt - 4) (h1 : FB (256 * t2.toInt) 256 eL gL) (h2 : FB (65536 * t2.toInt) 65536 eB gB) (eg : gD = upd eD t2.toNatClampNeg 0) : F_blankR cd eL gL eB gB eD gD := by
  have e : t2.toNatClampNeg = (cd.toInt - 4).toNat := ix_eq (by omega)
  have e2 : t2.toInt = (((cd.toInt - 4).toNat : Nat) : Int) := by omega
  rw [e2] at h1 h2
  rw [e] at eg
  exact Or.inl ⟨(cd.toInt - 4).toNat, by omega, by omega, h1, h2, eg⟩
theorem blank_eq {t : Nat} {l' cd : Int32} {g1 f2 g3 eL gL eB gB eD gD : Nat → Int32} (ht : t ≤ 1) (hcd : cd.toInt = 4 + t) (h1 : l' = 0) (h2 : F_fill 256 g1 (-1)) (h3 : F_fill 512 g3 (-1)) (hR : F_blankR cd eL gL eB gB eD gD) : TR t l' g1 f2 g3 gL gB gD := by
  rcases hR with ⟨t', d1, d2, d3, d4, d5⟩ | ⟨d1, d2, _⟩
  · have et : t' = t := by omega
    subst et
    refine ⟨HT_0 (fun s hs => h3 s (by omega)), Nat.le_trans (Nat.le_of_eq (occ_0 (fun j hj => h3 j hj))) (Nat.zero_le _), by rw [h1, d5, pk_us], fun k hk => ?_, fun x v h0 hx hv => ?_⟩
    · rw [h2 k hk, d3.1 (256 * t' + k) (by omega) (by omega)]
    · have hc := v_clamp h0
      rw [d4.1 (65536 * t' + x.toNatClampNeg) (by omega) (by omega)]
      constructor
      · rintro ⟨s, s1, s2, s3, s4⟩
        rw [h3 s (by omega)] at s3
        exact s3
      · exact fun z => absurd z.symm hv
  · omega
theorem blank_other {t' : Nat} {l cd : Int32} {f1 f2 f3 eL gL eB gB eD gD : Nat → Int32} (ht : t' ≤ 1) (hcd : ¬ cd.toInt = 4 + t') (R : TR t' l f1 f2 f3 eL eB eD) (hR : F_blankR cd eL gL eB gB eD gD) : TR t' l f1 f2 f3 gL gB gD := by
  rcases hR with ⟨t, d1, d2, d3, d4, d5⟩ | ⟨d1, d2, d3, d4, d5⟩
  · obtain ⟨r1, r2, r3, r4, r5⟩ := R
    refine ⟨r1, r2, by rw [d5, pk_un (by omega)]; exact r3, fun k hk => ?_, fun x v h0 h1 hv => ?_⟩
    · rw [d3.2 (256 * t' + k) (by omega)]; exact r4 k hk
    · have hx := v_clamp h0
      rw [d4.2 (65536 * t' + x.toNatClampNeg) (by omega)]
      exact r5 x v h0 h1 hv
  · rw [d3, d4, d5]; exact R
/-- the letter that a byte is by itself -/
def alF (cd v : Int32) (L4 L5 : Nat → Int32) : Int32 := if cd.toInt = 0 ∨ cd.toInt = 2 then (if v.toInt < 128 then v else -1) else if cd.toInt = 1 then v else if cd.toInt = 3 then (if v.toInt < 128 ∧ ¬ v.toInt = 38 then v else -1) else if cd.toInt = 4 then L4 v.toNatClampNeg else if cd.toInt = 5 then L5 v.toNatClampNeg else -1
theorem alF_hi {b v x : Int32} {eL : Nat → Int32} (h4 : 4 ≤ b.toInt) (h5 : b.toInt ≤ 5) (hv : 0 ≤ v.toInt) (hi : x.toInt = 256 * (b.toInt - 4) + v.toInt) : alF b v (fun k => eL k) (fun k => eL (256 + k)) = eL x.toNatClampNeg := by
  have c := v_clamp hv
  unfold alF
  rw [if_neg (by omega), if_neg (by omega), if_neg (by omega)]
  by_cases z : b.toInt = 4
  · rw [if_pos z, ix_eq (x := x) (N := v.toNatClampNeg) (by omega)]
  · rw [if_neg z, if_pos (by omega), ix_eq (x := x) (N := 256 + v.toNatClampNeg) (by omega)]
theorem alF_congr {cd v : Int32} {L4 L5 M4 M5 : Nat → Int32} (h4 : ∀ k, k < 256 → L4 k = M4 k) (h5 : ∀ k, k < 256 → L5 k = M5 k) (hv : 0 ≤ v.toInt) (hv2 : v.toInt ≤ 255) : alF cd v L4 L5 = alF cd v M4 M5 := by
  have c := v_clamp hv
  unfold alF
  rw [h4 v.toNatClampNeg (by omega), h5 v.toNatClampNeg (by omega)]
/-- whether a byte comes in what the code writes -/
def wrP (cd v : Int32) (L4 L5 : Nat → Int32) : Prop := (cd.toInt = 2 ∧ (v.toInt < 192 ∨ (193 < v.toInt ∧ v.toInt < 240))) ∨ (cd.toInt = 3 ∧ v.toInt < 128) ∨ (¬ cd.toInt = 2 ∧ ¬ cd.toInt = 3 ∧ ¬ alF cd v L4 L5 = -1)
def F_w (r cd v : Int32) (L4 L5 : Nat → Int32) : Prop := (r = 1 ∧ wrP cd v L4 L5) ∨ (r = 0 ∧ ¬ wrP cd v L4 L5)
theorem F_w_1 {r cd v : Int32} {L4 L5 : Nat → Int32} (h : F_w r cd v L4 L5) (e : ¬ r.toInt = 0) : wrP cd v L4 L5 := h.elim (fun z => z.2) (fun z => absurd (by rw [z.1]; rfl) e)
theorem F_w_0 {r cd v : Int32} {L4 L5 : Nat → Int32} (h : F_w r cd v L4 L5) (e : r.toInt = 0) : ¬ wrP cd v L4 L5 := by
  rcases h with z | z
  · rw [z.1] at e; exact absurd e (by decide)
  · exact z.2
def nlP (a b : Int32) (L4 L5 : Nat → Int32) : Prop := a = b ∨ ∀ u : Int32, 0 ≤ u.toInt → u.toInt ≤ 255 → wrP a u L4 L5 → ¬ alF b u L4 L5 = -1
def F_nl (r a b : Int32) (L4 L5 : Nat → Int32) : Prop := (r = 1 ∧ nlP a b L4 L5) ∨ (r = 0 ∧ ¬ nlP a b L4 L5)
theorem nl_s {Q : Int32 → Prop} {v v' : Int32} (h : ∀ u : Int32, 0 ≤ u.toInt → u.toInt < v.toInt → Q u) (hv' : v'.toInt = v.toInt + 1) (hq : Q v) : ∀ u : Int32, 0 ≤ u.toInt → u.toInt < v'.toInt → Q u := by
  intro u h1 h2
  by_cases z : u.toInt = v.toInt
  · rw [v_inj z]; exact hq
  · exact h u h1 (by omega)
def okd (c : Int32) : Prop := 0 ≤ c.toInt ∧ c.toInt ≤ 5
def F_safe (r a b : Int32) (L4 L5 : Nat → Int32) : Prop := (r = -1 ∧ ¬ (okd a ∧ okd b)) ∨ (okd a ∧ okd b ∧ F_nl r a b L4 L5)
theorem F_nl_eq {r q a b : Int32} {L4 L5 M4 M5 : Nat → Int32} (h4 : ∀ k, k < 256 → L4 k = M4 k) (h5 : ∀ k, k < 256 → L5 k = M5 k) (h1 : F_nl r a b L4 L5) (h2 : F_nl q a b M4 M5) : r = q := by
  have e : nlP a b L4 L5 ↔ nlP a b M4 M5 := by
    unfold nlP wrP
    constructor
    · rintro (z | z)
      · exact Or.inl z
      · refine Or.inr (fun u u0 u1 w => ?_)
        have := z u u0 u1
        rw [alF_congr (cd := a) h4 h5 u0 u1, alF_congr (cd := b) h4 h5 u0 u1] at this
        exact this w
    · rintro (z | z)
      · exact Or.inl z
      · refine Or.inr (fun u u0 u1 w => ?_)
        have := z u u0 u1
        rw [← alF_congr (cd := a) h4 h5 u0 u1, ← alF_congr (cd := b) h4 h5 u0 u1] at this
        exact this w
  rcases h1 with ⟨a1, a2⟩ | ⟨a1, a2⟩ <;> rcases h2 with ⟨b1, b2⟩ | ⟨b1, b2⟩
  · rw [a1, b1]
  · exact absurd (e.mp a2) b2
  · exact absurd (e.mpr b2) a2
  · rw [a1, b1]
theorem TR_L4 {l : Int32} {f1 f2 f3 eL eB eD : Nat → Int32} (h : TR 0 l f1 f2 f3 eL eB eD) : ∀ k, k < 256 → f1 k = (fun k => eL k) k := fun k hk => by
  have := h.2.2.2.1 k hk
  rw [this]
  show eL (256 * 0 + k) = eL k
  rw [Nat.mul_zero, Nat.zero_add]
theorem TR_L5 {l : Int32} {f1 f2 f3 eL eB eD : Nat → Int32} (h : TR 1 l f1 f2 f3 eL eB eD) : ∀ k, k < 256 → f1 k = (fun k => eL (256 + k)) k := fun k hk => h.2.2.2.1 k hk
theorem safe_eq {r q a b l4 l5 : Int32} {f41 f42 f43 f51 f52 f53 eL eB eD : Nat → Int32} (R4 : TR 0 l4 f41 f42 f43 eL eB eD) (R5 : TR 1 l5 f51 f52 f53 eL eB eD) (h1 : F_safe r a b f41 f51) (h2 : F_safe q a b (fun k => eL k) (fun k => eL (256 + k))) : r = q := by
  rcases h1 with ⟨a1, a2⟩ | ⟨a1, a2, a3⟩ <;> rcases h2 with ⟨b1, b2⟩ | ⟨b1, b2, b3⟩
  · rw [a1, b1]
  · exact absurd ⟨b1, b2⟩ a2
  · exact absurd ⟨a1, a2⟩ b2
  · exact F_nl_eq (TR_L4 R4) (TR_L5 R5) a3 b3

/-! one letter out of bytes, on both sides -/
theorem v_and15 {a x : Int32} (h : x = a &&& 15) (h0 : 0 ≤ a.toInt) : x.toInt = a.toInt % 16 := by
  obtain ⟨j, hj, e⟩ := nI_of (v_nneg h0)
  have e1 : x = nI (j % 2 ^ 4) := by rw [h, e, pk_andN (by omega) 4 (by decide)]
  rw [e1, e, nI_toInt (by omega), nI_toInt hj]
  show ((j % 16 : Nat) : Int) = (j : Int) % 16
  omega
theorem v_shl4 {a x : Int32} (h : x = a <<< (4 &&& 31)) (h0 : 0 ≤ a.toInt ∧ a.toInt ≤ 65535) : x.toInt = 16 * a.toInt := by
  obtain ⟨j, hj, e⟩ := nI_of (v_nneg h0.1)
  rw [e, nI_toInt hj] at h0
  have e1 : x.toBitVec.toNat = j * 2 ^ 4 := by
    rw [h, e, pk_shl _ _ 4 (by decide), pk_tn (by omega), Nat.mod_eq_of_lt (by omega)]
  have e2 : x = nI (j * 2 ^ 4) := by
    apply Int32.toBitVec_inj.mp
    apply BitVec.eq_of_toNat_eq
    rw [e1, pk_tn (by omega)]
  rw [e2, e, nI_toInt (by omega), nI_toInt hj]
  omega
def bt (g : Nat → Int32) (n : Int) (k : Nat) : Int := if (k : Int) < n then (g k).toInt else -1
theorem bt_in {g : Nat → Int32} {n : Int} {k : Nat} (h : (k : Int) < n) : bt g n k = (g k).toInt := if_pos h
theorem bt_out {g : Nat → Int32} {n : Int} {k : Nat} (h : n ≤ (k : Int)) : bt g n k = -1 := if_neg (by omega)
theorem bt_c (g : Nat → Int32) (n : Int) (k : Nat) : (k : Int) < n ∨ bt g n k = -1 := by
  by_cases z : (k : Int) < n
  · exact Or.inl z
  · exact Or.inr (bt_out (by omega))
theorem bt_r {g : Nat → Int32} {n : Int} (h : prg n 0 255 g) (k : Nat) : -1 ≤ bt g n k ∧ bt g n k ≤ 255 := by
  by_cases z : (k : Int) < n
  · rw [bt_in z]
    have := h k z
    omega
  · rw [bt_out (by omega)]; omega
theorem get_bt {l i r : Int32} {g : Nat → Int32} {n : Int} {k : Nat} (h : F_get l i r g) (hk : i.toInt = k) (h1 : i.toInt < n) (h2 : n ≤ l.toInt) : r.toInt = bt g n k := by
  rw [bt_in (by omega), ← ix_eq hk, ← F_get_f h (by omega) (by omega)]
theorem rd_bt {x i : Int32} {g : Nat → Int32} {n : Int} {k : Nat} (e : x = g i.toNatClampNeg) (hk : i.toInt = k) (h1 : (k : Int) < n) : x.toInt = bt g n k := by
  rw [bt_in h1, e, ix_eq hk]
theorem bt_ix {r : Int} {i : Int32} {g : Nat → Int32} {n : Int} {k : Nat} (h : r = bt g n i.toNatClampNeg) (hk : i.toInt = k) : r = bt g n k := by
  rw [h, ix_eq hk]
def DM (b0 b1 b2 l x : Int) : Prop := (l = 2 ∧ 192 ≤ b0 ∧ b0 ≤ 223 ∧ 128 ≤ b1 ∧ b1 ≤ 191 ∧ x = (b0 - 192) * 64 + b1 - 128 ∧ 128 ≤ x) ∨ (l = 3 ∧ 224 ≤ b0 ∧ b0 ≤ 239 ∧ 128 ≤ b1 ∧ b1 ≤ 191 ∧ 128 ≤ b2 ∧ b2 ≤ 191 ∧ x = (b0 - 224) * 4096 + (b1 - 128) * 64 + b2 - 128 ∧ 2048 ≤ x ∧ (x < 55296 ∨ 57343 < x))
def DN (b0 b1 b2 b3 b4 b5 b6 b7 l x : Int) : Prop := b0 = 38 ∧ b1 = 35 ∧ 49 ≤ b2 ∧ b2 ≤ 57 ∧ 48 ≤ b3 ∧ b3 ≤ 57 ∧ (x = 38 ∨ 127 < x) ∧ x ≤ 65535 ∧ (x < 55296 ∨ 57343 < x) ∧ ((l = 5 ∧ b4 = 59 ∧ x = (b2 - 48) * 10 + (b3 - 48)) ∨ (48 ≤ b4 ∧ b4 ≤ 57 ∧ ((l = 6 ∧ b5 = 59 ∧ x = (b2 - 48) * 100 + (b3 - 48) * 10 + (b4 - 48)) ∨ (48 ≤ b5 ∧ b5 ≤ 57 ∧ ((l = 7 ∧ b6 = 59 ∧ x = (b2 - 48) * 1000 + (b3 - 48) * 100 + (b4 - 48) * 10 + (b5 - 48)) ∨ (48 ≤ b6 ∧ b6 ≤ 57 ∧ l = 8 ∧ b7 = 59 ∧ x = (b2 - 48) * 10000 + (b3 - 48) * 1000 + (b4 - 48) * 100 + (b5 - 48) * 10 + (b6 - 48)))))))
def DMa (g : Nat → Int32) (n : Int) (p : Nat) (l x : Int) : Prop := DM (bt g n p) (bt g n (p + 1)) (bt g n (p + 2)) l x
def DNa (g : Nat → Int32) (n : Int) (p : Nat) (l x : Int) : Prop := DN (bt g n p) (bt g n (p + 1)) (bt g n (p + 2)) (bt g n (p + 3)) (bt g n (p + 4)) (bt g n (p + 5)) (bt g n (p + 6)) (bt g n (p + 7)) l x
/-! the digits of a number, one after another -/
def bo (g : Nat → Int32) (n : Int) (p k : Nat) : Int := bt g n (p + k)
def NI (B : Nat → Int) (i : Nat) (nb : Int) : Prop := (i = 0 ∧ nb = 0) ∨ (i = 1 ∧ 49 ≤ B 2 ∧ B 2 ≤ 57 ∧ nb = (B 2 - 48)) ∨ (i = 2 ∧ 49 ≤ B 2 ∧ B 2 ≤ 57 ∧ 48 ≤ B 3 ∧ B 3 ≤ 57 ∧ nb = (B 2 - 48) * 10 + (B 3 - 48)) ∨ (i = 3 ∧ 49 ≤ B 2 ∧ B 2 ≤ 57 ∧ 48 ≤ B 3 ∧ B 3 ≤ 57 ∧ 48 ≤ B 4 ∧ B 4 ≤ 57 ∧ nb = (B 2 - 48) * 100 + (B 3 - 48) * 10 + (B 4 - 48)) ∨ (i = 4 ∧ 49 ≤ B 2 ∧ B 2 ≤ 57 ∧ 48 ≤ B 3 ∧ B 3 ≤ 57 ∧ 48 ≤ B 4 ∧ B 4 ≤ 57 ∧ 48 ≤ B 5 ∧ B 5 ≤ 57 ∧ nb = (B 2 - 48) * 1000 + (B 3 - 48) * 100 + (B 4 - 48) * 10 + (B 5 - 48)) ∨ (i = 5 ∧ 49 ≤ B 2 ∧ B 2 ≤ 57 ∧ 48 ≤ B 3 ∧ B 3 ≤ 57 ∧ 48 ≤ B 4 ∧ B 4 ≤ 57 ∧ 48 ≤ B 5 ∧ B 5 ≤ 57 ∧ 48 ≤ B 6 ∧ B 6 ≤ 57 ∧ nb = (B 2 - 48) * 10000 + (B 3 - 48) * 1000 + (B 4 - 48) * 100 + (B 5 - 48) * 10 + (B 6 - 48)) ∨ (i = 6 ∧ 49 ≤ B 2 ∧ B 2 ≤ 57 ∧ 48 ≤ B 3 ∧ B 3 ≤ 57 ∧ 48 ≤ B 4 ∧ B 4 ≤ 57 ∧ 48 ≤ B 5 ∧ B 5 ≤ 57 ∧ 48 ≤ B 6 ∧ B 6 ≤ 57 ∧ 48 ≤ B 7 ∧ B 7 ≤ 57 ∧ nb = (B 2 - 48) * 100000 + (B 3 - 48) * 10000 + (B 4 - 48) * 1000 + (B 5 - 48) * 100 + (B 6 - 48) * 10 + (B 7 - 48))
def NJ (B : Nat → Int) (i : Nat) (nb : Int) : Prop := NI B i nb ∨ (i = 1 ∧ B 2 = 48 ∧ nb = 0)
theorem NI_0 {B : Nat → Int} {i : Nat} {nb : Int} (h : i = 0) (h2 : nb = 0) : NI B i nb := Or.inl ⟨h, h2⟩
theorem NI_r {B : Nat → Int} {i : Nat} {nb : Int} (h : NI B i nb) : 0 ≤ nb ∧ i ≤ 6 ∧ (i ≤ 5 → nb ≤ 99999) ∧ (nb = 0 → i = 0) ∧ (i = 0 → nb = 0) := by
  unfold NI at h
  rcases h with h | h | h | h | h | h | h <;> omega
theorem NI_s {B : Nat → Int} {i i' : Nat} {nb nb' next : Int} (h : NI B i nb) (hb : next = B (2 + i)) (hd : 48 ≤ next ∧ next ≤ 57) (hz : ¬ (nb = 0 ∧ next = 48)) (hn : nb' = nb * 10 + next - 48) (hi : i < 6) (hi' : i' = i + 1) : NI B i' nb' := by
  have r := NI_r h
  unfold NI at h
  rcases h with h | h | h | h | h | h | h
  · have e : i = 0 := h.1
    subst e
    have h9 : next = B 2 := hb
    unfold NI
    right; left
    omega
  · have e : i = 1 := h.1
    subst e
    have h9 : next = B 3 := hb
    unfold NI
    right; right; left
    omega
  · have e : i = 2 := h.1
    subst e
    have h9 : next = B 4 := hb
    unfold NI
    right; right; right; left
    omega
  · have e : i = 3 := h.1
    subst e
    have h9 : next = B 5 := hb
    unfold NI
    right; right; right; right; left
    omega
  · have e : i = 4 := h.1
    subst e
    have h9 : next = B 6 := hb
    unfold NI
    right; right; right; right; right; left
    omega
  · have e : i = 5 := h.1
    subst e
    have h9 : next = B 7 := hb
    unfold NI
    right; right; right; right; right; right; skip
    omega
  · omega
theorem DN_of {B : Nat → Int} {i : Nat} {nb l : Int} (h : NI B i nb) (hb : B (2 + i) = 59) (h0 : B 0 = 38) (h1 : B 1 = 35) (hk : nb = 38 ∨ 127 < nb) (hl : nb ≤ 65535) (hs : nb < 55296 ∨ 57343 < nb) (el : l = i + 3) : DN (B 0) (B 1) (B 2) (B 3) (B 4) (B 5) (B 6) (B 7) l nb := by
  unfold NI at h
  rcases h with ⟨e, h⟩ | ⟨e, h⟩ | ⟨e, p1, p2, p3, p4, p5⟩ | ⟨e, p1, p2, p3, p4, p5, p6, p7⟩ | ⟨e, p1, p2, p3, p4, p5, p6, p7, p8, p9⟩ | ⟨e, p1, p2, p3, p4, p5, p6, p7, p8, p9, p10, p11⟩ | h
  · exact absurd hk (by omega)
  · exact absurd hk (by omega)
  · subst e
    exact ⟨h0, h1, p1, p2, p3, p4, hk, hl, hs, Or.inl ⟨by omega, hb, p5⟩⟩
  · subst e
    exact ⟨h0, h1, p1, p2, p3, p4, hk, hl, hs, Or.inr ⟨p5, p6, Or.inl ⟨by omega, hb, p7⟩⟩⟩
  · subst e
    exact ⟨h0, h1, p1, p2, p3, p4, hk, hl, hs, Or.inr ⟨p5, p6, Or.inr ⟨p7, p8, Or.inl ⟨by omega, hb, p9⟩⟩⟩⟩
  · subst e
    exact ⟨h0, h1, p1, p2, p3, p4, hk, hl, hs, Or.inr ⟨p5, p6, Or.inr ⟨p7, p8, Or.inr ⟨p9, p10, by omega, hb, p11⟩⟩⟩⟩
  · exact absurd hl (by omega)
theorem DN_no {B : Nat → Int} {i : Nat} {nb next : Int} (h : NI B i nb) (hb : next = B (2 + i)) (hc : (¬ (48 ≤ next ∧ next ≤ 57) ∧ ¬ next = 59) ∨ (nb = 0 ∧ next = 48) ∨ i = 6 ∨ (next = 59 ∧ ¬ ((nb = 38 ∨ 127 < nb) ∧ nb ≤ 65535 ∧ (nb < 55296 ∨ 57343 < nb)))) : ∀ l x : Int, ¬ DN (B 0) (B 1) (B 2) (B 3) (B 4) (B 5) (B 6) (B 7) l x := by
  intro l x hd
  unfold NI at h
  unfold DN at hd
  rcases h with h | h | h | h | h | h | h
  · have e : i = 0 := h.1
    subst e
    have h9 : next = B 2 := hb
    omega
  · have e : i = 1 := h.1
    subst e
    have h9 : next = B 3 := hb
    omega
  · have e : i = 2 := h.1
    subst e
    have h9 : next = B 4 := hb
    omega
  · have e : i = 3 := h.1
    subst e
    have h9 : next = B 5 := hb
    omega
  · have e : i = 4 := h.1
    subst e
    have h9 : next = B 6 := hb
    omega
  · have e : i = 5 := h.1
    subst e
    have h9 : next = B 7 := hb
    omega
  · have e : i = 6 := h.1
    subst e
    have h9 : next = B 8 := hb
    omega
theorem NJ_s {B : Nat → Int} {i i' : Nat} {nb nb' next : Int} (h : NJ B i nb) (hb : next = B (2 + i)) (hd : 48 ≤ next ∧ next ≤ 57) (hz : ¬ nb = 0 ∨ i = 0) (hn : nb' = nb * 10 + next - 48) (hi : i < 6) (hi' : i' = i + 1) : NJ B i' nb' := by
  rcases h with h | ⟨a1, a2, a3⟩
  · by_cases z : nb = 0 ∧ next = 48
    · have r := NI_r h
      have e : i = 0 := r.2.2.2.1 z.1
      subst e
      have h9 : next = B 2 := hb
      right
      omega
    · exact Or.inl (NI_s h hb hd z hn hi hi')
  · omega
theorem NJ_r {B : Nat → Int} {i : Nat} {nb : Int} (h : NJ B i nb) : 0 ≤ nb ∧ i ≤ 6 ∧ (i ≤ 5 → nb ≤ 99999) ∧ (i = 0 → nb = 0) := by
  rcases h with h | h
  · have := NI_r h
    omega
  · omega
theorem NJ_no0 {B : Nat → Int} {i : Nat} {nb : Int} (h : NJ B i nb) (h1 : 1 ≤ i) (h0 : nb = 0) : ∀ l x : Int, ¬ DN (B 0) (B 1) (B 2) (B 3) (B 4) (B 5) (B 6) (B 7) l x := by
  intro l x hd
  unfold DN at hd
  rcases h with h | h
  · have := (NI_r h).2.2.2.1 h0
    omega
  · omega
theorem NJ_no {B : Nat → Int} {i : Nat} {nb next : Int} (h : NJ B i nb) (hb : next = B (2 + i)) (hc : (¬ (48 ≤ next ∧ next ≤ 57) ∧ ¬ next = 59) ∨ i = 6 ∨ (next = 59 ∧ ¬ ((nb = 38 ∨ 127 < nb) ∧ nb ≤ 65535 ∧ (nb < 55296 ∨ 57343 < nb)))) : ∀ l x : Int, ¬ DN (B 0) (B 1) (B 2) (B 3) (B 4) (B 5) (B 6) (B 7) l x := by
  rcases h with h | h
  · exact DN_no h hb (hc.elim Or.inl (fun z => Or.inr (Or.inr z)))
  · intro l x hd
    unfold DN at hd
    omega
theorem NJ_of {B : Nat → Int} {i : Nat} {nb l : Int} (h : NJ B i nb) (hb : B (2 + i) = 59) (h0 : B 0 = 38) (h1 : B 1 = 35) (hk : nb = 38 ∨ 127 < nb) (hl : nb ≤ 65535) (hs : nb < 55296 ∨ 57343 < nb) (el : l = i + 3) : DN (B 0) (B 1) (B 2) (B 3) (B 4) (B 5) (B 6) (B 7) l nb := by
  rcases h with h | h
  · exact DN_of h hb h0 h1 hk hl hs el
  · omega
/-- the bytes from p on tell the letter x, l of them -/
def Dec (cd : Int32) (L4 L5 g : Nat → Int32) (n : Int) (p l : Nat) (x : Int32) : Prop := (p : Int) < n ∧ ((l = 1 ∧ alF cd (g p) L4 L5 = x ∧ ¬ x = -1) ∨ (cd.toInt = 2 ∧ DMa g n p l x.toInt) ∨ (cd.toInt = 3 ∧ DNa g n p l x.toInt))
theorem al2 {cd v : Int32} {L4 L5 : Nat → Int32} (h : cd.toInt = 2) (hv : 128 ≤ v.toInt) : alF cd v L4 L5 = -1 := by
  unfold alF
  rw [if_pos (by omega), if_neg (by omega)]
theorem al3 {cd v : Int32} {L4 L5 : Nat → Int32} (h : cd.toInt = 3) (hv : v.toInt = 38) : alF cd v L4 L5 = -1 := by
  unfold alF
  rw [if_neg (by omega), if_neg (by omega), if_pos (by omega), if_neg (by omega)]
theorem alF_r {cd v : Int32} {L4 L5 : Nat → Int32} (h4 : prg 256 (-1) 65535 L4) (h5 : prg 256 (-1) 65535 L5) (h0 : 0 ≤ v.toInt) (h1 : v.toInt ≤ 255) : -1 ≤ (alF cd v L4 L5).toInt ∧ (alF cd v L4 L5).toInt ≤ 65535 := by
  have c := v_clamp h0
  have m1 : (-1 : Int32).toInt = -1 := rfl
  have q4 := h4 v.toNatClampNeg (by omega)
  have q5 := h5 v.toNatClampNeg (by omega)
  unfold alF
  split
  · split <;> omega
  · split
    · omega
    · split
      · split <;> omega
      · split
        · exact q4
        · split
          · exact q5
          · omega
theorem Dec_u {cd : Int32} {L4 L5 g : Nat → Int32} {n : Int} {p l l' : Nat} {x x' : Int32} (h : Dec cd L4 L5 g n p l x) (h' : Dec cd L4 L5 g n p l' x') : l = l' ∧ x = x' := by
  obtain ⟨h0, h⟩ := h
  obtain ⟨-, h'⟩ := h'
  have e0 := bt_in (g := g) h0
  rcases h with ⟨a1, a2, a3⟩ | ⟨a1, a2⟩ | ⟨a1, a2⟩ <;> rcases h' with ⟨b1, b2, b3⟩ | ⟨b1, b2⟩ | ⟨b1, b2⟩
  · exact ⟨by omega, by rw [← a2, b2]⟩
  · exact absurd (a2.symm.trans (al2 b1 (by unfold DMa DM at b2; omega))) a3
  · exact absurd (a2.symm.trans (al3 b1 (by unfold DNa DN at b2; omega))) a3
  · exact absurd (b2.symm.trans (al2 a1 (by unfold DMa DM at a2; omega))) b3
  · unfold DMa DM at a2 b2
    exact ⟨by omega, v_inj (by omega)⟩
  · omega
  · exact absurd (b2.symm.trans (al3 a1 (by unfold DNa DN at a2; omega))) b3
  · omega
  · unfold DNa DN at a2 b2
    exact ⟨by omega, v_inj (by omega)⟩
theorem Dec_pos {cd : Int32} {L4 L5 g : Nat → Int32} {n : Int} {p l : Nat} {x : Int32} (h : Dec cd L4 L5 g n p l x) : 1 ≤ l ∧ l ≤ 8 ∧ (p : Int) + l ≤ n := by
  obtain ⟨h0, ⟨a1, a2, a3⟩ | ⟨a1, a2⟩ | ⟨a1, a2⟩⟩ := h
  · omega
  · have c1 := bt_c g n (p + 1)
    have c2 := bt_c g n (p + 2)
    unfold DMa DM at a2
    omega
  · unfold DNa DN at a2
    obtain ⟨-, -, -, -, -, -, -, -, -, ⟨d1, d2, -⟩ | ⟨-, -, ⟨d1, d2, -⟩ | ⟨-, -, ⟨d1, d2, -⟩ | ⟨-, -, d1, d2, -⟩⟩⟩⟩ := a2
    · have c := bt_c g n (p + 4)
      omega
    · have c := bt_c g n (p + 5)
      omega
    · have c := bt_c g n (p + 6)
      omega
    · have c := bt_c g n (p + 7)
      omega
theorem Dec_no {cd : Int32} {L4 L5 g : Nat → Int32} {n : Int} {p : Nat} (h1 : alF cd (g p) L4 L5 = -1) (h2 : cd.toInt = 2 → ∀ l x : Int, ¬ DMa g n p l x) (h3 : cd.toInt = 3 → ∀ l x : Int, ¬ DNa g n p l x) : ∀ (l : Nat) (x : Int32), ¬ Dec cd L4 L5 g n p l x := by
  rintro l x ⟨h0, ⟨a1, a2, a3⟩ | ⟨a1, a2⟩ | ⟨a1, a2⟩⟩
  · exact a3 (by rw [← a2]; exact h1)
  · exact h2 a1 _ _ a2
  · exact h3 a1 _ _ a2
theorem Dec_end {cd : Int32} {L4 L5 g : Nat → Int32} {n : Int} {p : Nat} (h : n ≤ (p : Int)) : ∀ (l : Nat) (x : Int32), ¬ Dec cd L4 L5 g n p l x := by
  rintro l x ⟨h0, -⟩
  omega
theorem Dec_iff {cd : Int32} {L4 L5 M4 M5 g g' : Nat → Int32} {n : Int} {p l : Nat} {x : Int32} (hg : ∀ k : Nat, (k : Int) < n → g k = g' k) (h4 : ∀ k, k < 256 → L4 k = M4 k) (h5 : ∀ k, k < 256 → L5 k = M5 k) (hb : prg n 0 255 g) : Dec cd L4 L5 g n p l x ↔ Dec cd M4 M5 g' n p l x := by
  have eb : ∀ k, bt g n k = bt g' n k := by
    intro k
    by_cases z : (k : Int) < n
    · rw [bt_in z, bt_in z, hg k z]
    · rw [bt_out (by omega), bt_out (by omega)]
  unfold Dec DMa DNa
  simp only [eb]
  constructor
  · rintro ⟨h0, h⟩
    have r := hb p h0
    have e : alF cd (g p) L4 L5 = alF cd (g' p) M4 M5 := by
      rw [alF_congr h4 h5 r.1 r.2, hg p h0]
    rw [e] at h
    exact ⟨h0, h⟩
  · rintro ⟨h0, h⟩
    have r := hb p h0
    have e : alF cd (g p) L4 L5 = alF cd (g' p) M4 M5 := by
      rw [alF_congr h4 h5 r.1 r.2, hg p h0]
    rw [← e] at h
    exact ⟨h0, h⟩
noncomputable def dl (cd : Int32) (L4 L5 g : Nat → Int32) (n : Int) (p : Nat) : Nat := @dite Nat (∃ (l : Nat) (x : Int32), Dec cd L4 L5 g n p l x) (Classical.propDecidable _) (fun h => Classical.choose h) (fun _ => 0)
noncomputable def dx (cd : Int32) (L4 L5 g : Nat → Int32) (n : Int) (p : Nat) : Int32 := @dite Int32 (∃ (x : Int32) (l : Nat), Dec cd L4 L5 g n p l x) (Classical.propDecidable _) (fun h => Classical.choose h) (fun _ => -1)
theorem dl_of {cd : Int32} {L4 L5 g : Nat → Int32} {n : Int} {p l : Nat} {x : Int32} (h : Dec cd L4 L5 g n p l x) : dl cd L4 L5 g n p = l ∧ dx cd L4 L5 g n p = x := by
  have h1 : ∃ (l : Nat) (x : Int32), Dec cd L4 L5 g n p l x := ⟨l, x, h⟩
  have h2 : ∃ (x : Int32) (l : Nat), Dec cd L4 L5 g n p l x := ⟨x, l, h⟩
  refine ⟨?_, ?_⟩
  · unfold dl
    rw [dif_pos h1]
    obtain ⟨x', e⟩ := Classical.choose_spec h1
    exact (Dec_u e h).1
  · unfold dx
    rw [dif_pos h2]
    obtain ⟨l', e⟩ := Classical.choose_spec h2
    exact (Dec_u e h).2
theorem dl_no {cd : Int32} {L4 L5 g : Nat → Int32} {n : Int} {p : Nat} (h : ∀ (l : Nat) (x : Int32), ¬ Dec cd L4 L5 g n p l x) : dl cd L4 L5 g n p = 0 := by
  unfold dl
  exact dif_neg (fun e => e.elim (fun l e2 => e2.elim (fun x e3 => h l x e3)))
theorem dl_congr {cd : Int32} {L4 L5 M4 M5 g g' : Nat → Int32} {n : Int} (hg : ∀ k : Nat, (k : Int) < n → g k = g' k) (h4 : ∀ k, k < 256 → L4 k = M4 k) (h5 : ∀ k, k < 256 → L5 k = M5 k) (hb : prg n 0 255 g) : dl cd L4 L5 g n = dl cd M4 M5 g' n := by
  funext p
  by_cases z : ∃ (l : Nat) (x : Int32), Dec cd L4 L5 g n p l x
  · obtain ⟨l, x, h⟩ := z
    rw [(dl_of h).1, (dl_of ((Dec_iff hg h4 h5 hb).mp h)).1]
  · rw [dl_no (fun l x h => z ⟨l, x, h⟩), dl_no (fun l x h => z ⟨l, x, (Dec_iff hg h4 h5 hb).mpr h⟩)]
/-- what decode answers -/
def F_dc (r cd : Int32) (L4 L5 g : Nat → Int32) (n : Int) (p : Nat) : Prop := (∃ (l : Nat) (x : Int32), Dec cd L4 L5 g n p l x ∧ r.toInt = 16 * x.toInt + l ∧ 0 ≤ x.toInt ∧ x.toInt ≤ 65535) ∨ (r = -1 ∧ ∀ (l : Nat) (x : Int32), ¬ Dec cd L4 L5 g n p l x)
def F_dm (r : Int32) (g : Nat → Int32) (n : Int) (p : Nat) : Prop := (∃ (l : Nat) (x : Int32), DMa g n p l x.toInt ∧ r.toInt = 16 * x.toInt + l ∧ 0 ≤ x.toInt ∧ x.toInt ≤ 65535) ∨ (r = -1 ∧ ∀ l x : Int, ¬ DMa g n p l x)
def F_dn (r : Int32) (g : Nat → Int32) (n : Int) (p : Nat) : Prop := (∃ (l : Nat) (x : Int32), DNa g n p l x.toInt ∧ r.toInt = 16 * x.toInt + l ∧ 0 ≤ x.toInt ∧ x.toInt ≤ 65535) ∨ (r = -1 ∧ ∀ l x : Int, ¬ DNa g n p l x)
theorem dc_first {l fr r cd : Int32} {L4 L5 g : Nat → Int32} {n : Int} (h : F_get l fr r g) (h0 : 0 ≤ fr.toInt) (hen : n ≤ l.toInt) (hb : prg n 0 255 g) (e : r = -1 ∨ n ≤ fr.toInt) : ∀ (l : Nat) (x : Int32), ¬ Dec cd L4 L5 g n fr.toNatClampNeg l x := by
  have c := v_clamp h0
  by_cases z : n ≤ fr.toInt
  · exact Dec_end (by omega)
  · exfalso
    rcases e with e | e
    · have q := F_get_f h h0 (by omega)
      have r1 := hb fr.toNatClampNeg (by omega)
      rw [← q] at r1
      exact v_nn r1.1 e
    · exact z e
theorem dc_many {r cd : Int32} {L4 L5 g : Nat → Int32} {n : Int} {p : Nat} (h : F_dm r g n p) (hp : (p : Int) < n) (hc : cd.toInt = 2) (ha : alF cd (g p) L4 L5 = -1) : F_dc r cd L4 L5 g n p := by
  rcases h with ⟨l, x, h1, h2⟩ | ⟨h1, h2⟩
  · exact Or.inl ⟨l, x, ⟨hp, Or.inr (Or.inl ⟨hc, h1⟩)⟩, h2⟩
  · exact Or.inr ⟨h1, Dec_no ha (fun _ => h2) (fun e => by omega)⟩
theorem dc_num {r cd : Int32} {L4 L5 g : Nat → Int32} {n : Int} {p : Nat} (h : F_dn r g n p) (hp : (p : Int) < n) (hc : cd.toInt = 3) (ha : alF cd (g p) L4 L5 = -1) : F_dc r cd L4 L5 g n p := by
  rcases h with ⟨l, x, h1, h2⟩ | ⟨h1, h2⟩
  · exact Or.inl ⟨l, x, ⟨hp, Or.inr (Or.inr ⟨hc, h1⟩)⟩, h2⟩
  · exact Or.inr ⟨h1, Dec_no ha (fun e => by omega) (fun _ => h2)⟩
theorem F_dc_1 {r cd : Int32} {L4 L5 g : Nat → Int32} {n : Int} {p : Nat} (h : F_dc r cd L4 L5 g n p) (e : ¬ r = -1) : ∃ (l : Nat) (x : Int32), Dec cd L4 L5 g n p l x ∧ r.toInt = 16 * x.toInt + l ∧ 0 ≤ x.toInt ∧ x.toInt ≤ 65535 := h.elim id (fun z => absurd z.1 e)
theorem F_dc_0 {r cd : Int32} {L4 L5 g : Nat → Int32} {n : Int} {p : Nat} (h : F_dc r cd L4 L5 g n p) (e : r = -1) : dl cd L4 L5 g n p = 0 := by
  rcases h with ⟨l, x, h1, h2, h3, h4⟩ | ⟨h1, h2⟩
  · exfalso
    have m1 : (-1 : Int32).toInt = -1 := rfl
    rw [e] at h2
    omega
  · exact dl_no h2
/-- what the reference's readAt answers -/
def F_ra (r cd x : Int32) (L4 L5 g : Nat → Int32) (n : Int) (p : Nat) : Prop := (∃ l : Nat, r.toInt = l ∧ Dec cd L4 L5 g n p l x) ∨ (r.toInt = 0 ∧ ∀ (l : Nat) (x : Int32), ¬ Dec cd L4 L5 g n p l x)
theorem F_ra_1 {r cd x : Int32} {L4 L5 g : Nat → Int32} {n : Int} {p : Nat} (h : F_ra r cd x L4 L5 g n p) (e : ¬ r.toInt = 0) : (dl cd L4 L5 g n p : Int) = r.toInt ∧ dx cd L4 L5 g n p = x ∧ 1 ≤ dl cd L4 L5 g n p ∧ (p : Int) + r.toInt ≤ n := by
  rcases h with ⟨l, h1, h2⟩ | ⟨h1, _⟩
  · have q := dl_of h2
    have q2 := Dec_pos h2
    refine ⟨by rw [q.1]; omega, q.2, by rw [q.1]; omega, by omega⟩
  · exact absurd h1 e
theorem F_ra_0 {r cd x : Int32} {L4 L5 g : Nat → Int32} {n : Int} {p : Nat} (h : F_ra r cd x L4 L5 g n p) (e : r.toInt = 0) : dl cd L4 L5 g n p = 0 := by
  rcases h with ⟨l, h1, h2⟩ | ⟨_, h2⟩
  · have q2 := Dec_pos h2
    omega
  · exact dl_no h2
/-! reading from letter to letter -/
def psn (D : Nat → Nat) : Nat → Nat
  | 0 => 0
  | c + 1 => psn D c + D (psn D c)
def gdD (D : Nat → Nat) (c : Nat) : Prop := ∀ i, i < c → ¬ D (psn D i) = 0
def rdOk (D : Nat → Nat) (n : Int) (c : Nat) : Prop := (psn D c : Int) = n ∧ gdD D c
theorem psn_lt {D : Nat → Nat} {c : Nat} (h : gdD D c) {i : Nat} : ∀ j : Nat, i < j → j ≤ c → psn D i < psn D j
  | 0, h1, _ => absurd h1 (Nat.not_lt_zero _)
  | j + 1, h1, h2 => by
    have q := h j (by omega)
    rw [psn]
    by_cases z : i = j
    · rw [z]; omega
    · have := psn_lt (i := i) h j (by omega) (by omega)
      omega
theorem rd_stop {D : Nat → Nat} {c : Nat} {n : Int} (h : gdD D c) (h0 : D (psn D c) = 0) (hn : (psn D c : Int) < n) : ∀ c', ¬ rdOk D n c' := by
  rintro c' ⟨h1, h2⟩
  by_cases z : c < c'
  · exact h2 c z h0
  · by_cases y : c' = c
    · rw [y] at h1; omega
    · have := psn_lt h c (show c' < c by omega) (by omega)
      omega
theorem rd_uniq {D : Nat → Nat} {c c' : Nat} {n : Int} (h : rdOk D n c) (h' : rdOk D n c') : c = c' := by
  rcases Nat.lt_trichotomy c c' with z | z | z
  · have := psn_lt h'.2 c' z (by omega)
    have e1 := h.1
    have e2 := h'.1
    omega
  · exact z
  · have := psn_lt h.2 c z (by omega)
    have e1 := h.1
    have e2 := h'.1
    omega
theorem gdD_s {D : Nat → Nat} {c : Nat} (h : gdD D c) (h1 : ¬ D (psn D c) = 0) : gdD D (c + 1) := by
  intro i hi
  by_cases z : i = c
  · rw [z]; exact h1
  · exact h i (by omega)
/-- how many letters the bytes are, or -1 -/
def F_rd (r : Int32) (D : Nat → Nat) (n : Int) : Prop := (∃ c, rdOk D n c ∧ c ≤ 300 ∧ r.toInt = c) ∨ (r.toInt = -1 ∧ ∀ c, rdOk D n c → 300 < c)
theorem F_rd_eq {r q : Int32} {D : Nat → Nat} {n : Int} (h : F_rd r D n) (h' : F_rd q D n) : r = q := by
  rcases h with ⟨c, a1, a2, a3⟩ | ⟨a1, a2⟩ <;> rcases h' with ⟨c', b1, b2, b3⟩ | ⟨b1, b2⟩
  · have := rd_uniq a1 b1
    exact v_inj (by omega)
  · have := b2 c a1
    omega
  · have := a2 c' b1
    omega
  · exact v_inj (by omega)
/-- reading as the class does it -/
def RX (p fi l : Int32) (f : Nat → Int32) (D : Nat → Nat) (X : Nat → Int32) : Prop := ∃ c : Nat, p.toInt = psn D c ∧ gdD D c ∧ ((c ≤ 300 ∧ fi.toInt = 1 ∧ l.toInt = c) ∨ (300 < c ∧ fi.toInt = 0 ∧ l.toInt = 300)) ∧ ∀ i : Nat, (i : Int) < l.toInt → f i = X (psn D i)
theorem RX_0 {p fi l : Int32} {f : Nat → Int32} {D : Nat → Nat} {X : Nat → Int32} (hp : p.toInt = 0) (hf : fi.toInt = 1) (hl : l.toInt = 0) : RX p fi l f D X := ⟨0, by rw [hp]; rfl, fun i hi => absurd hi (Nat.not_lt_zero i), Or.inl ⟨by omega, hf, by omega⟩, fun i hi => by omega⟩
theorem RX_s {p p' fi fi' l l' ra v : Int32} {f f' : Nat → Int32} {D : Nat → Nat} {X : Nat → Int32} {d : Nat} (h : RX p fi l f D X) (hp0 : 0 ≤ p.toInt) (hd : D p.toNatClampNeg = d) (hx : X p.toNatClampNeg = v) (h1 : 1 ≤ d) (ha : F_add 300 l l' ra f f' v) (hfi : (ra.toInt = 1 ∧ fi.toInt = 1 ∧ fi'.toInt = 1) ∨ ((ra.toInt = 0 ∨ fi.toInt = 0) ∧ fi'.toInt = 0)) (hp : p'.toInt = p.toInt + d) : RX p' fi' l' f' D X := by
  obtain ⟨c, a1, a2, a3, a4⟩ := h
  have e : p.toNatClampNeg = psn D c := ix_eq a1
  have o1 : (1 : Int32).toInt = 1 := rfl
  have o0 : (0 : Int32).toInt = 0 := rfl
  rw [e] at hd hx
  refine ⟨c + 1, by rw [psn, hd]; omega, gdD_s a2 (by omega), ?_, ?_⟩
  · rcases ha with ⟨b1, b2, b3, b4⟩ | ⟨b1, b2, b3, b4⟩
    · rw [b3] at hfi
      left
      omega
    · rw [b3] at hfi
      rw [b2]
      right
      omega
  · intro i hi
    rcases ha with ⟨b1, b2, b3, b4⟩ | ⟨b1, b2, b3, b4⟩
    · have lc : l.toInt = c := by omega
      have lk : l.toNatClampNeg = c := ix_eq lc
      rw [b4, lk]
      by_cases z : i = c
      · rw [z, pk_us, hx]
      · rw [pk_un z]; exact a4 i (by omega)
    · rw [b2] at hi
      rw [b4]; exact a4 i hi
def F_rx (r ft l : Int32) (f : Nat → Int32) (D : Nat → Nat) (X : Nat → Int32) (n : Int) : Prop := (r = 1 ∧ ft = -1 ∧ ∃ c, rdOk D n c ∧ c ≤ 300 ∧ l.toInt = c ∧ ∀ i, i < c → f i = X (psn D i)) ∨ (r = 0 ∧ ft = -1 ∧ ∃ c, rdOk D n c ∧ 300 < c) ∨ (r = 0 ∧ ∃ c, gdD D c ∧ D (psn D c) = 0 ∧ (psn D c : Int) < n ∧ ft.toInt = psn D c)
theorem RX_end {p fi l : Int32} {f : Nat → Int32} {D : Nat → Nat} {X : Nat → Int32} {n : Int} (h : RX p fi l f D X) (hp : p.toInt = n) : F_rx fi (-1) l f D X n := by
  obtain ⟨c, a1, a2, a3, a4⟩ := h
  rcases a3 with ⟨b1, b2, b3⟩ | ⟨b1, b2, b3⟩
  · exact Or.inl ⟨v_inj b2, rfl, c, ⟨by omega, a2⟩, b1, b3, fun i hi => a4 i (by omega)⟩
  · exact Or.inr (Or.inl ⟨v_inj b2, rfl, c, ⟨by omega, a2⟩, b1⟩)
theorem RX_bad {p fi l : Int32} {f f' : Nat → Int32} {l' : Int32} {D : Nat → Nat} {X : Nat → Int32} {n : Int} (h : RX p fi l f D X) (hp : p.toInt < n) (h0 : D p.toNatClampNeg = 0) : F_rx 0 p l' f' D X n := by
  obtain ⟨c, a1, a2, a3, a4⟩ := h
  rw [ix_eq a1] at h0
  exact Or.inr (Or.inr ⟨rfl, c, a2, h0, by omega, a1⟩)
theorem F_rx_rd {r ft l q : Int32} {f : Nat → Int32} {D : Nat → Nat} {X : Nat → Int32} {n : Int} (h : F_rx r ft l f D X n) (h1 : ¬ r.toInt = 0 → q.toInt = l.toInt) (h0 : r.toInt = 0 → q.toInt = -1) : F_rd q D n := by
  have o1 : (1 : Int32).toInt = 1 := rfl
  have o0 : (0 : Int32).toInt = 0 := rfl
  rcases h with ⟨e, _, c, a1, a2, a3, _⟩ | ⟨e, _, c, a1, a2⟩ | ⟨e, c, a1, a2, a3, _⟩
  · have := h1 (by rw [e]; omega)
    exact Or.inl ⟨c, a1, a2, by omega⟩
  · refine Or.inr ⟨h0 (by rw [e]; omega), fun c' h' => ?_⟩
    rw [← rd_uniq a1 h']; exact a2
  · exact Or.inr ⟨h0 (by rw [e]; omega), fun c' h' => absurd h' (rd_stop a1 a2 a3 c')⟩
/-- reading as the reference does it -/
def RR (p m : Int32) (f : Nat → Int32) (D : Nat → Nat) (X : Nat → Int32) : Prop := ∃ c : Nat, p.toInt = psn D c ∧ gdD D c ∧ m.toInt = c ∧ ∀ i : Nat, i < c → f i = X (psn D i)
theorem RR_0 {p m : Int32} {f : Nat → Int32} {D : Nat → Nat} {X : Nat → Int32} (hp : p.toInt = 0) (hm : m.toInt = 0) : RR p m f D X := ⟨0, by rw [hp]; rfl, fun i hi => absurd hi (Nat.not_lt_zero i), by rw [hm]; rfl, fun i hi => absurd hi (Nat.not_lt_zero i)⟩
theorem RR_s {p p' m m' v : Int32} {f f' : Nat → Int32} {D : Nat → Nat} {X : Nat → Int32} {d : Nat} (h : RR p m f D X) (hd : D p.toNatClampNeg = d) (hx : X p.toNatClampNeg = v) (h1 : 1 ≤ d) (e : f' = upd f m.toNatClampNeg v) (hm : m'.toInt = m.toInt + 1) (hp : p'.toInt = p.toInt + d) : RR p' m' f' D X := by
  obtain ⟨c, a1, a2, a3, a4⟩ := h
  have e1 : p.toNatClampNeg = psn D c := ix_eq a1
  have e2 : m.toNatClampNeg = c := ix_eq a3
  rw [e1] at hd hx
  refine ⟨c + 1, by rw [psn, hd]; omega, gdD_s a2 (by omega), by omega, fun i hi => ?_⟩
  rw [e, e2]
  by_cases z : i = c
  · rw [z, pk_us, hx]
  · rw [pk_un z]; exact a4 i (by omega)
def F_rr (r m ft : Int32) (f : Nat → Int32) (D : Nat → Nat) (X : Nat → Int32) (n : Int) : Prop := (r = 1 ∧ ∃ c, rdOk D n c ∧ m.toInt = c ∧ ∀ i, i < c → f i = X (psn D i)) ∨ (r = 0 ∧ ∃ c, gdD D c ∧ D (psn D c) = 0 ∧ (psn D c : Int) < n ∧ ft.toInt = psn D c)
theorem RR_end {p m ft : Int32} {f : Nat → Int32} {D : Nat → Nat} {X : Nat → Int32} {n : Int} (h : RR p m f D X) (hp : p.toInt = n) : F_rr 1 m ft f D X n := by
  obtain ⟨c, a1, a2, a3, a4⟩ := h
  exact Or.inl ⟨rfl, c, ⟨by omega, a2⟩, a3, a4⟩
theorem RR_bad {p m m' : Int32} {f f' : Nat → Int32} {D : Nat → Nat} {X : Nat → Int32} {n : Int} (h : RR p m f D X) (hp : p.toInt < n) (h0 : D p.toNatClampNeg = 0) : F_rr 0 m' p f' D X n := by
  obtain ⟨c, a1, a2, a3, a4⟩ := h
  rw [ix_eq a1] at h0
  exact Or.inr ⟨rfl, c, a2, h0, by omega, a1⟩
theorem F_rr_rd {r m ft q : Int32} {f : Nat → Int32} {D : Nat → Nat} {X : Nat → Int32} {n : Int} (h : F_rr r m ft f D X n) (h1 : ¬ r.toInt = 0 → m.toInt ≤ 300 → q.toInt = m.toInt) (h2 : ¬ r.toInt = 0 → 300 < m.toInt → q.toInt = -1) (h0 : r.toInt = 0 → q.toInt = -1) : F_rd q D n := by
  have o1 : (1 : Int32).toInt = 1 := rfl
  have o0 : (0 : Int32).toInt = 0 := rfl
  rcases h with ⟨e, c, a1, a2, _⟩ | ⟨e, c, a1, a2, a3, _⟩
  · have n0 : ¬ r.toInt = 0 := by rw [e]; omega
    by_cases z : m.toInt ≤ 300
    · have := h1 n0 z
      exact Or.inl ⟨c, a1, by omega, by omega⟩
    · refine Or.inr ⟨h2 n0 (by omega), fun c' h' => ?_⟩
      rw [← rd_uniq a1 h']; omega
  · exact Or.inr ⟨h0 (by rw [e]; omega), fun c' h' => absurd h' (rd_stop a1 a2 a3 c')⟩
/-- what read() answers, by the tape and the told codes -/
def F_rp (r cd : Int32) (L4 L5 g : Nat → Int32) (n : Int) : Prop := (r.toInt = -1 ∧ ¬ (okd cd ∧ prg n 0 255 g)) ∨ (okd cd ∧ prg n 0 255 g ∧ F_rd r (dl cd L4 L5 g n) n)
theorem read_eq {r q cd : Int32} {L4 L5 M4 M5 g g' : Nat → Int32} {n n' : Int} (en : n = n') (hg : ∀ k : Nat, (k : Int) < n → g k = g' k) (h4 : ∀ k, k < 256 → L4 k = M4 k) (h5 : ∀ k, k < 256 → L5 k = M5 k) (h : F_rp r cd L4 L5 g n) (h' : F_rp q cd M4 M5 g' n') : r = q := by
  subst en
  have ep : prg n 0 255 g ↔ prg n 0 255 g' := ⟨fun z j hj => by rw [← hg j hj]; exact z j hj, fun z j hj => by rw [hg j hj]; exact z j hj⟩
  rcases h with ⟨a1, a2⟩ | ⟨a1, a2, a3⟩ <;> rcases h' with ⟨b1, b2⟩ | ⟨b1, b2, b3⟩
  · exact v_inj (by omega)
  · exact absurd ⟨b1, ep.mpr b2⟩ a2
  · exact absurd ⟨a1, ep.mp a2⟩ b2
  · rw [dl_congr hg h4 h5 a2] at a3
    exact F_rd_eq a3 b3
theorem prg_no {n lo hi : Int} {k x : Int32} {f : Nat → Int32} (ex : x = f k.toNatClampNeg) (hk : 0 ≤ k.toInt) (hn : k.toInt < n) (hx : ¬ (lo ≤ x.toInt ∧ x.toInt ≤ hi)) : ¬ prg n lo hi f := fun h => by
  have q := v_clamp hk
  exact hx (by rw [ex]; exact h _ (by omega))
theorem TR_r {t : Nat} {l : Int32} {f1 f2 f3 eL eB eD : Nat → Int32} (h : TR t l f1 f2 f3 eL eB eD) (g : rg (-1) 65535 eL) : prg 256 (-1) 65535 f1 := fun j hj => by
  rw [h.2.2.2.1 j (by omega)]; exact g _
theorem F_rp_congr {r cd : Int32} {L4 L5 g g' : Nat → Int32} {n : Int} (hg : ∀ k : Nat, (k : Int) < n → g k = g' k) (h : F_rp r cd L4 L5 g n) : F_rp r cd L4 L5 g' n := by
  have ep : prg n 0 255 g ↔ prg n 0 255 g' := ⟨fun z j hj => by rw [← hg j hj]; exact z j hj, fun z j hj => by rw [hg j hj]; exact z j hj⟩
  rcases h with ⟨a1, a2⟩ | ⟨a1, a2, a3⟩
  · exact Or.inl ⟨a1, fun z => a2 ⟨z.1, ep.mpr z.2⟩⟩
  · rw [dl_congr hg (fun _ _ => rfl) (fun _ _ => rfl) a2] at a3
    exact Or.inr ⟨a1, ep.mp a2, a3⟩

/-! letters into bytes, on both sides -/
def nth : List Int → Nat → Int
  | [], _ => 0
  | a :: _, 0 => a
  | _ :: l, k + 1 => nth l k
theorem nth_l : ∀ (bs cs : List Int) (k : Nat), k < bs.length → nth (bs ++ cs) k = nth bs k
  | [], _, _, h => absurd h (Nat.not_lt_zero _)
  | _ :: _, _, 0, _ => rfl
  | _ :: l, cs, k + 1, h => by
    show nth (l ++ cs) k = nth l k
    exact nth_l l cs k (Nat.lt_of_succ_lt_succ h)
theorem nth_r : ∀ (bs : List Int) (v : Int), nth (bs ++ [v]) bs.length = v
  | [], _ => rfl
  | _ :: l, v => by
    show nth (l ++ [v]) l.length = v
    exact nth_r l v
theorem nth_mem : ∀ (bs : List Int) (k : Nat), k < bs.length → nth bs k ∈ bs
  | [], _, h => absurd h (Nat.not_lt_zero _)
  | a :: l, 0, _ => List.mem_cons_self ..
  | a :: l, k + 1, h => List.mem_cons_of_mem _ (nth_mem l k (Nat.lt_of_succ_lt_succ h))
theorem L1 {a a' : Int} (h1 : a = a') : [a] = [a'] := by rw [h1]
theorem L2 {a b a' b' : Int} (h1 : a = a') (h2 : b = b') : [a, b] = [a', b'] := by rw [h1, h2]
theorem L3 {a b c a' b' c' : Int} (h1 : a = a') (h2 : b = b') (h3 : c = c') : [a, b, c] = [a', b', c'] := by rw [h1, h2, h3]
theorem L4 {a b c d a' b' c' d' : Int} (h1 : a = a') (h2 : b = b') (h3 : c = c') (h4 : d = d') : [a, b, c, d] = [a', b', c', d'] := by rw [h1, h2, h3, h4]
theorem L5 {a b c d e a' b' c' d' e' : Int} (h1 : a = a') (h2 : b = b') (h3 : c = c') (h4 : d = d') (h5 : e = e') : [a, b, c, d, e] = [a', b', c', d', e'] := by rw [h1, h2, h3, h4, h5]
theorem L6 {a b c d e f a' b' c' d' e' f' : Int} (h1 : a = a') (h2 : b = b') (h3 : c = c') (h4 : d = d') (h5 : e = e') (h6 : f = f') : [a, b, c, d, e, f] = [a', b', c', d', e', f'] := by rw [h1, h2, h3, h4, h5, h6]
theorem L7 {a b c d e f g a' b' c' d' e' f' g' : Int} (h1 : a = a') (h2 : b = b') (h3 : c = c') (h4 : d = d') (h5 : e = e') (h6 : f = f') (h7 : g = g') : [a, b, c, d, e, f, g] = [a', b', c', d', e', f', g'] := by rw [h1, h2, h3, h4, h5, h6, h7]
theorem L8 {a b c d e f g h a' b' c' d' e' f' g' h' : Int} (h1 : a = a') (h2 : b = b') (h3 : c = c') (h4 : d = d') (h5 : e = e') (h6 : f = f') (h7 : g = g') (h8 : h = h') : [a, b, c, d, e, f, g, h] = [a', b', c', d', e', f', g', h'] := by rw [h1, h2, h3, h4, h5, h6, h7, h8]
def encN (x : Int) : List Int := if x < 10 then [38, 35, 48 + x, 59] else if x < 100 then [38, 35, 48 + x / 10, 48 + x % 10, 59] else if x < 1000 then [38, 35, 48 + x / 100, 48 + x / 10 % 10, 48 + x % 10, 59] else if x < 10000 then [38, 35, 48 + x / 1000, 48 + x / 100 % 10, 48 + x / 10 % 10, 48 + x % 10, 59] else [38, 35, 48 + x / 10000, 48 + x / 1000 % 10, 48 + x / 100 % 10, 48 + x / 10 % 10, 48 + x % 10, 59]
/-- the bytes of a letter; B: its byte in the told code, or -1 -/
def enc (cd x B : Int32) : List Int := if cd.toInt = 0 then (if x.toInt < 128 then [x.toInt] else []) else if cd.toInt = 1 then (if x.toInt < 256 then [x.toInt] else []) else if cd.toInt = 2 then (if x.toInt < 128 then [x.toInt] else if x.toInt < 2048 then [192 + x.toInt / 64, 128 + x.toInt % 64] else [224 + x.toInt / 4096, 128 + x.toInt / 64 % 64, 128 + x.toInt % 64]) else if cd.toInt = 3 then (if x.toInt < 128 ∧ ¬ x.toInt = 38 then [x.toInt] else encN x.toInt) else if cd.toInt = 4 ∨ cd.toInt = 5 then (if B = -1 then [] else [B.toInt]) else []
def byt (l : List Int) : Prop := ∀ b, b ∈ l → 0 ≤ b ∧ b ≤ 255
theorem byt_0 : byt [] := fun b h => by cases h
theorem byt_c {a : Int} {l : List Int} (h1 : 0 ≤ a ∧ a ≤ 255) (h : byt l) : byt (a :: l) := fun b hb => by
  rcases List.mem_cons.mp hb with e | e
  · rw [e]; exact h1
  · exact h b e
theorem enc_b {cd x B : Int32} (h0 : 0 ≤ x.toInt) (h1 : x.toInt ≤ 65535) (hB : -1 ≤ B.toInt ∧ B.toInt ≤ 255) : byt (enc cd x B) ∧ (enc cd x B).length ≤ 8 := by
  have one : 0 ≤ x.toInt → x.toInt ≤ 255 → byt [x.toInt] ∧ [x.toInt].length ≤ 8 := fun a b => ⟨byt_c ⟨a, b⟩ byt_0, Nat.le_of_ble_eq_true rfl⟩
  have nil : byt [] ∧ ([] : List Int).length ≤ 8 := ⟨byt_0, Nat.le_of_ble_eq_true rfl⟩
  unfold enc
  split
  · split
    · exact one h0 (by omega)
    · exact nil
  · split
    · split
      · exact one h0 (by omega)
      · exact nil
    · split
      · split
        · exact one h0 (by omega)
        · split
          · exact ⟨byt_c (by omega) (byt_c (by omega) byt_0), Nat.le_of_ble_eq_true rfl⟩
          · exact ⟨byt_c (by omega) (byt_c (by omega) (byt_c (by omega) byt_0)), Nat.le_of_ble_eq_true rfl⟩
      · split
        · split
          · exact one h0 (by omega)
          · unfold encN
            split
            · exact ⟨byt_c (by omega) (byt_c (by omega) (byt_c (by omega) (byt_c (by omega) byt_0))), Nat.le_of_ble_eq_true rfl⟩
            · split
              · exact ⟨byt_c (by omega) (byt_c (by omega) (byt_c (by omega) (byt_c (by omega) (byt_c (by omega) byt_0)))), Nat.le_of_ble_eq_true rfl⟩
              · split
                · exact ⟨byt_c (by omega) (byt_c (by omega) (byt_c (by omega) (byt_c (by omega) (byt_c (by omega) (byt_c (by omega) byt_0))))), Nat.le_of_ble_eq_true rfl⟩
                · split
                  · exact ⟨byt_c (by omega) (byt_c (by omega) (byt_c (by omega) (byt_c (by omega) (byt_c (by omega) (byt_c (by omega) (byt_c (by omega) byt_0)))))), Nat.le_of_ble_eq_true rfl⟩
                  · exact ⟨byt_c (by omega) (byt_c (by omega) (byt_c (by omega) (byt_c (by omega) (byt_c (by omega) (byt_c (by omega) (byt_c (by omega) (byt_c (by omega) byt_0))))))), Nat.le_of_ble_eq_true rfl⟩
        · split
          · split
            · exact nil
            · rename_i e
              have e2 : ¬ B.toInt = -1 := v_ne e
              exact ⟨byt_c (by omega) byt_0, Nat.le_of_ble_eq_true rfl⟩
          · exact nil
/-- the bytes bs stand behind the others -/
def AP (l l' : Int32) (f g : Nat → Int32) (bs : List Int) : Prop := l'.toInt = l.toInt + bs.length ∧ (∀ j : Nat, (j : Int) < l.toInt → g j = f j) ∧ ∀ k : Nat, k < bs.length → (g (l.toInt.toNat + k)).toInt = nth bs k
theorem AP_0 {l : Int32} {f : Nat → Int32} : AP l l f f [] := ⟨by show l.toInt = l.toInt + ((0 : Nat) : Int); omega, fun _ _ => rfl, fun k h => absurd h (Nat.not_lt_zero k)⟩
theorem AP_u {l l1 l2 v : Int32} {f f1 f2 : Nat → Int32} {bs : List Int} (h : AP l l1 f f1 bs) (h0 : 0 ≤ l.toInt) (e1 : l2.toInt = l1.toInt + 1) (e2 : f2 = upd f1 l1.toNatClampNeg v) : AP l l2 f f2 (bs ++ [v.toInt]) := by
  obtain ⟨a1, a2, a3⟩ := h
  have el : (bs ++ [v.toInt]).length = bs.length + 1 := by rw [List.length_append]; rfl
  have c : l1.toNatClampNeg = l.toInt.toNat + bs.length := ix_eq (by omega)
  refine ⟨by rw [el]; omega, fun j hj => ?_, fun k hk => ?_⟩
  · rw [e2, pk_un (by omega)]; exact a2 j hj
  · rw [el] at hk
    by_cases z : k = bs.length
    · rw [e2, z, ← c, pk_us, nth_r]
    · rw [e2, pk_un (by omega), nth_l _ _ _ (by omega)]; exact a3 k (by omega)
theorem F_add_r {cap : Nat} {l l' r : Int32} {f f' : Nat → Int32} {v : Int32} (h : F_add cap l l' r f f' v) (hl : l.toInt < cap) : r.toInt = 1 := by
  rcases h with h | h
  · rw [h.2.2.1]; rfl
  · have := h.1
    omega
theorem AP_s {cap : Nat} {l l1 l2 r v : Int32} {f f1 f2 : Nat → Int32} {bs : List Int} (h : AP l l1 f f1 bs) (h0 : 0 ≤ l.toInt) (ha : F_add cap l1 l2 r f1 f2 v) (hl : l1.toInt < cap) : AP l l2 f f2 (bs ++ [v.toInt]) := AP_u h h0 (F_add_l ha hl) (F_add_f ha hl)
theorem AP_eq {l l' : Int32} {f g : Nat → Int32} {bs cs : List Int} (h : AP l l' f g bs) (e : bs = cs) : AP l l' f g cs := by rw [← e]; exact h
/-- what encode does -/
def F_en (r cd x B l l' : Int32) (f g : Nat → Int32) : Prop := (r = 1 ∧ ¬ enc cd x B = [] ∧ AP l l' f g (enc cd x B)) ∨ (r = 0 ∧ enc cd x B = [] ∧ l' = l ∧ g = f)
theorem F_en_y {r cd x B l l' : Int32} {f g : Nat → Int32} {a : Int} {bs : List Int} (hr : r.toInt = 1) (h : AP l l' f g (a :: bs)) (e : (a :: bs) = enc cd x B) : F_en r cd x B l l' f g := Or.inl ⟨v_inj hr, fun z => List.cons_ne_nil a bs (e.trans z), AP_eq h e⟩
theorem F_en_n {r cd x B l : Int32} {f : Nat → Int32} (hr : r.toInt = 0) (e : enc cd x B = []) : F_en r cd x B l l f f := Or.inr ⟨v_inj hr, e, rfl, rfl⟩
/-- the byte of a letter in a told code -/
noncomputable def bfF (K V : Nat → Int32) (x : Int32) : Int32 := @dite Int32 (∃ v : Int32, toldK 512 K V x v) (Classical.propDecidable _) (fun h => Classical.choose h) (fun _ => -1)
theorem told_one {K V : Nat → Int32} {x v v' : Int32} (hT : HT 512 511 hsT K V) (h : toldK 512 K V x v) (h' : toldK 512 K V x v') : v = v' := by
  obtain ⟨s, s1, s2, s3, s4⟩ := h
  obtain ⟨t, t1, t2, t3, t4⟩ := h'
  have e := pl_one hT s1 t1 (by rw [s3]; exact s4) (by rw [t3]; exact t4) s2 t2
  rw [← s3, ← t3, e]
theorem bfF_of {r x : Int32} {K V : Nat → Int32} (hT : HT 512 511 hsT K V) (h : F_bf r x K V) : r = bfF K V x := by
  unfold bfF
  rcases h with ⟨h1, h2⟩ | ⟨h1, h2⟩
  · have e : ∃ v : Int32, toldK 512 K V x v := ⟨r, h2⟩
    rw [dif_pos e]
    exact told_one hT h2 (Classical.choose_spec e)
  · rw [dif_neg (fun e => e.elim (fun v hv => h2 v hv))]
    exact h1
theorem TR_bf {t : Nat} {l x : Int32} {f1 f2 f3 eL eB eD : Nat → Int32} (h : TR t l f1 f2 f3 eL eB eD) (h0 : 0 ≤ x.toInt) (h1 : x.toInt ≤ 65535) : bfF f2 f3 x = eB (65536 * t + x.toNatClampNeg) := by
  refine (bfF_of h.1 ?_).symm
  by_cases z : eB (65536 * t + x.toNatClampNeg) = -1
  · exact Or.inr ⟨z, (TR_nT h h0 h1).mpr z⟩
  · exact Or.inl ⟨z, (h.2.2.2.2 x _ h0 h1 z).mpr rfl⟩
noncomputable def Bc (cd : Int32) (K4 V4 K5 V5 : Nat → Int32) (x : Int32) : Int32 := if cd.toInt = 4 then bfF K4 V4 x else bfF K5 V5 x
def Br (cd : Int32) (eB : Nat → Int32) (x : Int32) : Int32 := eB (65536 * (cd.toInt - 4).toNat + x.toNatClampNeg)
theorem enc_B {cd x B B' : Int32} (h : (cd.toInt = 4 ∨ cd.toInt = 5) → B = B') : enc cd x B = enc cd x B' := by
  by_cases z : cd.toInt = 4 ∨ cd.toInt = 5
  · rw [h z]
  · unfold enc
    by_cases z0 : cd.toInt = 0
    · rw [if_pos z0, if_pos z0]
    · rw [if_neg z0, if_neg z0]
      by_cases z1 : cd.toInt = 1
      · rw [if_pos z1, if_pos z1]
      · rw [if_neg z1, if_neg z1]
        by_cases z2 : cd.toInt = 2
        · rw [if_pos z2, if_pos z2]
        · rw [if_neg z2, if_neg z2]
          by_cases z3 : cd.toInt = 3
          · rw [if_pos z3, if_pos z3]
          · rw [if_neg z3, if_neg z3, if_neg z, if_neg z]
theorem enc_eq {cd x l4 l5 : Int32} {f41 f42 f43 f51 f52 f53 eL eB eD : Nat → Int32} (R4 : TR 0 l4 f41 f42 f43 eL eB eD) (R5 : TR 1 l5 f51 f52 f53 eL eB eD) (h0 : 0 ≤ x.toInt) (h1 : x.toInt ≤ 65535) : enc cd x (Bc cd f42 f43 f52 f53 x) = enc cd x (Br cd eB x) := by
  refine enc_B (fun z => ?_)
  unfold Bc Br
  by_cases e : cd.toInt = 4
  · have e2 : (cd.toInt - 4).toNat = 0 := by omega
    rw [if_pos e, e2]; exact TR_bf R4 h0 h1
  · have e2 : (cd.toInt - 4).toNat = 1 := by omega
    rw [if_neg e, e2]; exact TR_bf R5 h0 h1
/-! a whole text into bytes -/
def sg (g : Nat → Int32) (p : Nat) (bs : List Int) : Prop := ∀ k, k < bs.length → (g (p + k)).toInt = nth bs k
def psE (E : Nat → List Int) : Nat → Nat
  | 0 => 0
  | i + 1 => psE E i + (E i).length
def WR (E : Nat → List Int) (i : Nat) (l : Int32) (g : Nat → Int32) : Prop := l.toInt = psE E i ∧ ∀ j, j < i → ¬ E j = [] ∧ sg g (psE E j) (E j)
theorem psE_le (E : Nat → List Int) {i : Nat} : ∀ j, i ≤ j → psE E i ≤ psE E j
  | 0, h => by
    have e : i = 0 := by omega
    rw [e]; exact Nat.le_refl _
  | j + 1, h => by
    by_cases z : i = j + 1
    · rw [z]; exact Nat.le_refl _
    · have := psE_le E (i := i) j (by omega)
      rw [psE]; omega
theorem WR_0 {E : Nat → List Int} {l : Int32} {g : Nat → Int32} (h : l.toInt = 0) : WR E 0 l g := ⟨by rw [h]; rfl, fun j hj => absurd hj (Nat.not_lt_zero j)⟩
theorem WR_s {E : Nat → List Int} {i : Nat} {l l' : Int32} {g g' : Nat → Int32} (h : WR E i l g) (hn : ¬ E i = []) (ha : AP l l' g g' (E i)) : WR E (i + 1) l' g' := by
  obtain ⟨a1, a2⟩ := h
  obtain ⟨b1, b2, b3⟩ := ha
  refine ⟨by rw [psE]; omega, fun j hj => ?_⟩
  by_cases z : j = i
  · rw [z]
    refine ⟨hn, fun k hk => ?_⟩
    have e : psE E i = l.toInt.toNat := by omega
    rw [e]; exact b3 k hk
  · obtain ⟨c1, c2⟩ := a2 j (by omega)
    refine ⟨c1, fun k hk => ?_⟩
    have q := psE_le E (i := j + 1) i (by omega)
    rw [psE] at q
    rw [b2 _ (by omega)]; exact c2 k hk
theorem psE_at {E : Nat → List Int} {k : Nat} : ∀ n, k < psE E n → ∃ i, i < n ∧ psE E i ≤ k ∧ k < psE E i + (E i).length
  | 0, h => absurd h (Nat.not_lt_zero _)
  | n + 1, h => by
    by_cases z : psE E n ≤ k
    · exact ⟨n, Nat.lt_succ_self n, z, by rw [psE] at h; exact h⟩
    · obtain ⟨i, i1, i2, i3⟩ := psE_at (E := E) (k := k) n (by omega)
      exact ⟨i, by omega, i2, i3⟩
theorem WR_eq {E : Nat → List Int} {n : Nat} {l l' : Int32} {g g' : Nat → Int32} (h : WR E n l g) (h' : WR E n l' g') : l = l' ∧ ∀ k : Nat, (k : Int) < l.toInt → g k = g' k := by
  refine ⟨v_inj (by rw [h.1, h'.1]), fun k hk => ?_⟩
  have hk2 : k < psE E n := by
    have := h.1
    omega
  obtain ⟨i, i1, i2, i3⟩ := psE_at n hk2
  have q1 := (h.2 i i1).2 (k - psE E i) (by omega)
  have q2 := (h'.2 i i1).2 (k - psE E i) (by omega)
  have e : psE E i + (k - psE E i) = k := by omega
  rw [e] at q1 q2
  exact v_inj (by rw [q1, q2])
theorem WR_byt {E : Nat → List Int} {n : Nat} {l : Int32} {g : Nat → Int32} (h : WR E n l g) (hb : ∀ i, i < n → byt (E i)) : prg l.toInt 0 255 g := by
  intro k hk
  have hk2 : k < psE E n := by
    have := h.1
    omega
  obtain ⟨i, i1, i2, i3⟩ := psE_at n hk2
  have q1 := (h.2 i i1).2 (k - psE E i) (by omega)
  have e : psE E i + (k - psE E i) = k := by omega
  rw [e] at q1
  rw [q1]
  exact hb i i1 _ (nth_mem _ _ (by omega))
theorem psE_8 {E : Nat → List Int} : ∀ n, (∀ i, i < n → (E i).length ≤ 8) → psE E n ≤ 8 * n
  | 0, _ => Nat.le_refl _
  | n + 1, h => by
    have := psE_8 n (fun i hi => h i (by omega))
    have := h n (by omega)
    rw [psE]; omega
/-- what write does with n letters: all of them, or the first that it can't -/
def F_wr (r ft l : Int32) (g : Nat → Int32) (E : Nat → List Int) (n : Int) : Prop := (r = 1 ∧ ∃ c : Nat, (c : Int) = n ∧ WR E c l g) ∨ (r = 0 ∧ ∃ i : Nat, (i : Int) < n ∧ ft.toInt = i ∧ E i = [] ∧ ∀ j, j < i → ¬ E j = [])
theorem v_and63 {a x : Int32} (h : x = a &&& 63) (h0 : 0 ≤ a.toInt) : x.toInt = a.toInt % 64 := by
  obtain ⟨j, hj, e⟩ := nI_of (v_nneg h0)
  have e1 : x = nI (j % 2 ^ 6) := by rw [h, e, pk_andN (by omega) 6 (by decide)]
  rw [e1, e, nI_toInt (by omega), nI_toInt hj]
  show ((j % 64 : Nat) : Int) = (j : Int) % 64
  omega
theorem enc_8 {cd x B : Int32} : (enc cd x B).length ≤ 8 := by
  unfold enc encN
  repeat' split
  all_goals exact Nat.le_of_ble_eq_true rfl
theorem F_en_cd {r cd c2 x B B' l l' : Int32} {f g : Nat → Int32} (h : F_en r c2 x B l l' f g) (e : cd.toInt = c2.toInt) (h4 : ¬ cd.toInt = 4) (h5 : ¬ cd.toInt = 5) : F_en r cd x B' l l' f g := by
  have ec : c2 = cd := (v_inj e).symm
  subst ec
  have eb : enc c2 x B = enc c2 x B' := enc_B (fun z => by omega)
  unfold F_en at h ⊢
  rw [← eb]; exact h
theorem F_en_1 {r cd x B l l' : Int32} {f g : Nat → Int32} (h : F_en r cd x B l l' f g) (e : ¬ r.toInt = 0) : ¬ enc cd x B = [] ∧ AP l l' f g (enc cd x B) := h.elim (fun z => z.2) (fun z => absurd (by rw [z.1]; rfl) e)
theorem F_en_0 {r cd x B l l' : Int32} {f g : Nat → Int32} (h : F_en r cd x B l l' f g) (e : r.toInt = 0) : enc cd x B = [] := by
  rcases h with z | z
  · rw [z.1] at e; exact absurd e (by decide)
  · exact z.2.1
theorem WR_st {E : Nat → List Int} {i i' l l' r cd x B : Int32} {g g' : Nat → Int32} (h : WR E i.toNatClampNeg l g) (hE : E i.toNatClampNeg = enc cd x B) (hf : F_en r cd x B l l' g g') (hr : ¬ r.toInt = 0) (h0 : 0 ≤ i.toInt) (hi' : i'.toInt = i.toInt + 1) : WR E i'.toNatClampNeg l' g' := by
  obtain ⟨a1, a2⟩ := F_en_1 hf hr
  rw [← hE] at a1 a2
  have c := v_clamp h0
  have e : i'.toNatClampNeg = i.toNatClampNeg + 1 := ix_eq (by omega)
  rw [e]; exact WR_s h a1 a2
theorem en_len {r cd x B l l' : Int32} {f g : Nat → Int32} (hf : F_en r cd x B l l' f g) : l'.toInt ≤ l.toInt + 8 := by
  rcases hf with ⟨_, _, z, _⟩ | ⟨_, _, z, _⟩
  · have := enc_8 (cd := cd) (x := x) (B := B)
    omega
  · rw [z]; omega
theorem wr_no {E : Nat → List Int} {i l cd x B l2 : Int32} {g g2 : Nat → Int32} {n : Int} (h : WR E i.toNatClampNeg l g) (hE : E i.toNatClampNeg = enc cd x B) (he : enc cd x B = []) (h0 : 0 ≤ i.toInt) (hn : i.toInt < n) : F_wr 0 i l2 g2 E n := by
  have c := v_clamp h0
  exact Or.inr ⟨rfl, i.toNatClampNeg, by omega, by omega, by rw [hE]; exact he, fun j hj => (h.2 j hj).1⟩
theorem wr_yes {E : Nat → List Int} {i l ft : Int32} {g : Nat → Int32} {n : Int} (h : WR E i.toNatClampNeg l g) (h0 : 0 ≤ i.toInt) (hn : i.toInt = n) : F_wr 1 ft l g E n := by
  have c := v_clamp h0
  exact Or.inl ⟨rfl, i.toNatClampNeg, by omega, h⟩
/-! a text through two codes; and back -/
theorem sg_n {g : Nat → Int32} {p : Nat} : sg g p [] := fun k h => absurd h (Nat.not_lt_zero k)
theorem sg_c {g : Nat → Int32} {p : Nat} {a : Int} {l : List Int} (h0 : (g p).toInt = a) (h : sg g (p + 1) l) : sg g p (a :: l) := by
  intro k hk
  cases k with
  | zero => exact h0
  | succ k =>
    have q := h k (Nat.lt_of_succ_lt_succ hk)
    have e : p + (k + 1) = p + 1 + k := by omega
    rw [e]; exact q
theorem sg_0 {g : Nat → Int32} {p : Nat} {a : Int} {l : List Int} (h : sg g p (a :: l)) : (g p).toInt = a := h 0 (Nat.succ_pos _)
theorem sg_t {g : Nat → Int32} {p : Nat} {a : Int} {l : List Int} (h : sg g p (a :: l)) : sg g (p + 1) l := by
  intro k hk
  have q := h (k + 1) (Nat.succ_lt_succ hk)
  have e : p + 1 + k = p + (k + 1) := by omega
  rw [e]; exact q
/-- bytes of a told code and letters of it tell each other -/
def LBc (L : Nat → Int32) (Bf : Int32 → Int32) : Prop := ∀ (v : Nat) (x : Int32), v < 256 → 0 ≤ x.toInt → x.toInt ≤ 65535 → (L v = x ↔ (Bf x).toInt = v)
def LBk (cd : Int32) (L4 L5 : Nat → Int32) (Bf : Int32 → Int32) : Prop := (cd.toInt = 4 → LBc L4 Bf) ∧ (cd.toInt = 5 → LBc L5 Bf)
theorem Dec_en {cd : Int32} {L4 L5 g : Nat → Int32} {n : Int} {p l : Nat} {x : Int32} {Bf : Int32 → Int32} (h : Dec cd L4 L5 g n p l x) (hb : prg n 0 255 g) (h4 : prg 256 (-1) 65535 L4) (h5 : prg 256 (-1) 65535 L5) (hL : LBk cd L4 L5 Bf) : (enc cd x (Bf x)).length = l ∧ sg g p (enc cd x (Bf x)) := by
  obtain ⟨h0, h⟩ := h
  have gp := hb p h0
  have c0 := v_clamp gp.1
  have e0 := bt_in (g := g) h0
  rcases h with ⟨a1, a2, a3⟩ | ⟨a1, a2⟩ | ⟨a1, a2⟩
  · have one : x = g p → (enc cd x (Bf x)) = [x.toInt] → (enc cd x (Bf x)).length = l ∧ sg g p (enc cd x (Bf x)) := by
      intro e1 e2
      rw [e2, a1]
      exact ⟨rfl, sg_c (by rw [e1]) sg_n⟩
    have told : ∀ L : Nat → Int32, prg 256 (-1) 65535 L → LBc L Bf → alF cd (g p) L4 L5 = L (g p).toNatClampNeg → (cd.toInt = 4 ∨ cd.toInt = 5) → (enc cd x (Bf x)).length = l ∧ sg g p (enc cd x (Bf x)) := by
      intro L hr hl e1 hc
      rw [e1] at a2
      have r := hr (g p).toNatClampNeg (by omega)
      rw [a2] at r
      have m1 : (-1 : Int32).toInt = -1 := rfl
      have x0 : ¬ x.toInt = -1 := fun z => a3 (v_inj (by omega))
      have e2 := (hl (g p).toNatClampNeg x (by omega) (by omega) (by omega)).mp a2
      have e3 : enc cd x (Bf x) = [(Bf x).toInt] := by
        unfold enc
        rw [if_neg (by omega), if_neg (by omega), if_neg (by omega), if_neg (by omega), if_pos hc, if_neg (v_nn (by omega))]
      rw [e3, a1]
      exact ⟨rfl, sg_c (by omega) sg_n⟩
    unfold alF at a2
    by_cases z02 : cd.toInt = 0 ∨ cd.toInt = 2
    · rw [if_pos z02] at a2
      by_cases y : (g p).toInt < 128
      · rw [if_pos y] at a2
        refine one a2.symm ?_
        rw [← a2]
        unfold enc
        by_cases z0 : cd.toInt = 0
        · rw [if_pos z0, if_pos y]
        · rw [if_neg z0, if_neg (by omega), if_pos (by omega), if_pos y]
      · rw [if_neg y] at a2; exact absurd a2.symm a3
    · rw [if_neg z02] at a2
      by_cases z1 : cd.toInt = 1
      · rw [if_pos z1] at a2
        refine one a2.symm ?_
        rw [← a2]
        unfold enc
        rw [if_neg (by omega), if_pos z1, if_pos (by omega)]
      · rw [if_neg z1] at a2
        by_cases z3 : cd.toInt = 3
        · rw [if_pos z3] at a2
          by_cases y : (g p).toInt < 128 ∧ ¬ (g p).toInt = 38
          · rw [if_pos y] at a2
            refine one a2.symm ?_
            rw [← a2]
            unfold enc
            rw [if_neg (by omega), if_neg (by omega), if_neg (by omega), if_pos z3, if_pos y]
          · rw [if_neg y] at a2; exact absurd a2.symm a3
        · rw [if_neg z3] at a2
          by_cases z4 : cd.toInt = 4
          · refine told L4 h4 (hL.1 z4) ?_ (Or.inl z4)
            unfold alF
            rw [if_neg z02, if_neg z1, if_neg z3, if_pos z4]
          · rw [if_neg z4] at a2
            by_cases z5 : cd.toInt = 5
            · refine told L5 h5 (hL.2 z5) ?_ (Or.inr z5)
              unfold alF
              rw [if_neg z02, if_neg z1, if_neg z3, if_neg z4, if_pos z5]
            · rw [if_neg z5] at a2; exact absurd a2.symm a3
  · have c1 := bt_c g n (p + 1)
    have c2 := bt_c g n (p + 2)
    unfold DMa DM at a2
    rcases a2 with ⟨b0, b1⟩ | ⟨b0, b1⟩
    · have e1 := bt_in (g := g) (n := n) (k := p + 1) (by omega)
      have e : enc cd x (Bf x) = [192 + x.toInt / 64, 128 + x.toInt % 64] := by
        unfold enc
        rw [if_neg (by omega), if_neg (by omega), if_pos a1, if_neg (by omega), if_pos (by omega)]
      rw [e]
      exact ⟨by show 2 = l; omega, sg_c (by omega) (sg_c (by omega) sg_n)⟩
    · have e1 := bt_in (g := g) (n := n) (k := p + 1) (by omega)
      have e2 := bt_in (g := g) (n := n) (k := p + 2) (by omega)
      have e : enc cd x (Bf x) = [224 + x.toInt / 4096, 128 + x.toInt / 64 % 64, 128 + x.toInt % 64] := by
        unfold enc
        rw [if_neg (by omega), if_neg (by omega), if_pos a1, if_neg (by omega), if_neg (by omega)]
      rw [e]
      exact ⟨by show 3 = l; omega, sg_c (by omega) (sg_c (by omega) (sg_c (by show (g (p + 2)).toInt = _; omega) sg_n))⟩
  · unfold DNa DN at a2
    obtain ⟨d0, d1, d2, d3, d4, d5, d6, d7, d8, dd⟩ := a2
    have num : enc cd x (Bf x) = encN x.toInt := by
      unfold enc
      rw [if_neg (by omega), if_neg (by omega), if_neg (by omega), if_pos a1, if_neg (by omega)]
    have c1 := bt_c g n (p + 1)
    have c2 := bt_c g n (p + 2)
    have c3 := bt_c g n (p + 3)
    have e1 := bt_in (g := g) (n := n) (k := p + 1) (by omega)
    have e2 := bt_in (g := g) (n := n) (k := p + 2) (by omega)
    have e3 := bt_in (g := g) (n := n) (k := p + 3) (by omega)
    rw [num]
    unfold encN
    have c4 := bt_c g n (p + 4)
    have e4 := bt_in (g := g) (n := n) (k := p + 4) (by omega)
    rcases dd with ⟨f1, f2, f3⟩ | ⟨f1, f2, dd⟩
    · rw [if_neg (by omega), if_pos (by omega)]
      exact ⟨by show 5 = l; omega, sg_c (by omega) (sg_c (by omega) (sg_c (by show (g (p + 2)).toInt = _; omega) (sg_c (by show (g (p + 3)).toInt = _; omega) (sg_c (by show (g (p + 4)).toInt = _; omega) sg_n))))⟩
    · have c5 := bt_c g n (p + 5)
      have e5 := bt_in (g := g) (n := n) (k := p + 5) (by omega)
      rcases dd with ⟨i1, i2, i3⟩ | ⟨i1, i2, dd⟩
      · rw [if_neg (by omega), if_neg (by omega), if_pos (by omega)]
        exact ⟨by show 6 = l; omega, sg_c (by omega) (sg_c (by omega) (sg_c (by show (g (p + 2)).toInt = _; omega) (sg_c (by show (g (p + 3)).toInt = _; omega) (sg_c (by show (g (p + 4)).toInt = _; omega) (sg_c (by show (g (p + 5)).toInt = _; omega) sg_n)))))⟩
      · have c6 := bt_c g n (p + 6)
        have e6 := bt_in (g := g) (n := n) (k := p + 6) (by omega)
        rcases dd with ⟨j1, j2, j3⟩ | ⟨j1, j2, j3, j4, j5⟩
        · rw [if_neg (by omega), if_neg (by omega), if_neg (by omega), if_pos (by omega)]
          exact ⟨by show 7 = l; omega, sg_c (by omega) (sg_c (by omega) (sg_c (by show (g (p + 2)).toInt = _; omega) (sg_c (by show (g (p + 3)).toInt = _; omega) (sg_c (by show (g (p + 4)).toInt = _; omega) (sg_c (by show (g (p + 5)).toInt = _; omega) (sg_c (by show (g (p + 6)).toInt = _; omega) sg_n))))))⟩
        · have c7 := bt_c g n (p + 7)
          have e7 := bt_in (g := g) (n := n) (k := p + 7) (by omega)
          rw [if_neg (by omega), if_neg (by omega), if_neg (by omega), if_neg (by omega)]
          exact ⟨by show 8 = l; omega, sg_c (by omega) (sg_c (by omega) (sg_c (by show (g (p + 2)).toInt = _; omega) (sg_c (by show (g (p + 3)).toInt = _; omega) (sg_c (by show (g (p + 4)).toInt = _; omega) (sg_c (by show (g (p + 5)).toInt = _; omega) (sg_c (by show (g (p + 6)).toInt = _; omega) (sg_c (by show (g (p + 7)).toInt = _; omega) sg_n)))))))⟩
theorem DN_5 {b0 b1 b2 b3 b4 b5 b6 b7 l x : Int} (h0 : b0 = 38) (h1 : b1 = 35) (h2 : b2 = 48 + x / 10) (h3 : b3 = 48 + x % 10) (h4 : b4 = 59) (k : x = 38 ∨ 127 < x) (m : x ≤ 65535) (s : x < 55296 ∨ 57343 < x) (hl : l = 5) (y : x < 100) (y0 : ¬ x < 10) : DN b0 b1 b2 b3 b4 b5 b6 b7 l x := ⟨h0, h1, by omega, by omega, by omega, by omega, k, m, s, Or.inl ⟨hl, h4, by omega⟩⟩
theorem DN_6 {b0 b1 b2 b3 b4 b5 b6 b7 l x : Int} (h0 : b0 = 38) (h1 : b1 = 35) (h2 : b2 = 48 + x / 100) (h3 : b3 = 48 + x / 10 % 10) (h4 : b4 = 48 + x % 10) (h5 : b5 = 59) (k : x = 38 ∨ 127 < x) (m : x ≤ 65535) (s : x < 55296 ∨ 57343 < x) (hl : l = 6) (y : x < 1000) (y0 : ¬ x < 100) : DN b0 b1 b2 b3 b4 b5 b6 b7 l x := ⟨h0, h1, by omega, by omega, by omega, by omega, k, m, s, Or.inr ⟨by omega, by omega, Or.inl ⟨hl, h5, by omega⟩⟩⟩
theorem DN_7 {b0 b1 b2 b3 b4 b5 b6 b7 l x : Int} (h0 : b0 = 38) (h1 : b1 = 35) (h2 : b2 = 48 + x / 1000) (h3 : b3 = 48 + x / 100 % 10) (h4 : b4 = 48 + x / 10 % 10) (h5 : b5 = 48 + x % 10) (h6 : b6 = 59) (k : x = 38 ∨ 127 < x) (m : x ≤ 65535) (s : x < 55296 ∨ 57343 < x) (hl : l = 7) (y : x < 10000) (y0 : ¬ x < 1000) : DN b0 b1 b2 b3 b4 b5 b6 b7 l x := ⟨h0, h1, by omega, by omega, by omega, by omega, k, m, s, Or.inr ⟨by omega, by omega, Or.inr ⟨by omega, by omega, Or.inl ⟨hl, h6, by omega⟩⟩⟩⟩
theorem DN_8 {b0 b1 b2 b3 b4 b5 b6 b7 l x : Int} (h0 : b0 = 38) (h1 : b1 = 35) (h2 : b2 = 48 + x / 10000) (h3 : b3 = 48 + x / 1000 % 10) (h4 : b4 = 48 + x / 100 % 10) (h5 : b5 = 48 + x / 10 % 10) (h6 : b6 = 48 + x % 10) (h7 : b7 = 59) (k : x = 38 ∨ 127 < x) (m : x ≤ 65535) (s : x < 55296 ∨ 57343 < x) (hl : l = 8) (y0 : ¬ x < 10000) : DN b0 b1 b2 b3 b4 b5 b6 b7 l x := ⟨h0, h1, by omega, by omega, by omega, by omega, k, m, s, Or.inr ⟨by omega, by omega, Or.inr ⟨by omega, by omega, Or.inr ⟨by omega, by omega, hl, h7, by omega⟩⟩⟩⟩
theorem en_Dec {cd : Int32} {L4 L5 g : Nat → Int32} {n : Int} {p : Nat} {x : Int32} {Bf : Int32 → Int32} (hs : sg g p (enc cd x (Bf x))) (hne : ¬ enc cd x (Bf x) = []) (hn : (p : Int) + (enc cd x (Bf x)).length ≤ n) (hx : isLz x) (hB : -1 ≤ (Bf x).toInt ∧ (Bf x).toInt ≤ 255) (hL : LBk cd L4 L5 Bf) : Dec cd L4 L5 g n p (enc cd x (Bf x)).length x := by
  obtain ⟨x0, x1, x2⟩ := hx
  have xn : ¬ x = -1 := v_nn x0
  have alone : enc cd x (Bf x) = [x.toInt] → (g p = x → alF cd (g p) L4 L5 = x) → Dec cd L4 L5 g n p (enc cd x (Bf x)).length x := by
    intro e ha
    rw [e] at hs hn ⊢
    have g0 : g p = x := v_inj (sg_0 hs)
    have h1 : ([x.toInt] : List Int).length = 1 := rfl
    rw [h1] at hn ⊢
    exact ⟨by omega, Or.inl ⟨rfl, ha g0, xn⟩⟩
  unfold enc at hne
  by_cases z0 : cd.toInt = 0
  · rw [if_pos z0] at hne
    by_cases y : x.toInt < 128
    · refine alone ?_ (fun e => ?_)
      · unfold enc; rw [if_pos z0, if_pos y]
      · rw [e]; unfold alF; rw [if_pos (Or.inl z0), if_pos y]
    · rw [if_neg y] at hne; exact absurd rfl hne
  · rw [if_neg z0] at hne
    by_cases z1 : cd.toInt = 1
    · rw [if_pos z1] at hne
      by_cases y : x.toInt < 256
      · refine alone ?_ (fun e => ?_)
        · unfold enc; rw [if_neg z0, if_pos z1, if_pos y]
        · rw [e]; unfold alF; rw [if_neg (by omega), if_pos z1]
      · rw [if_neg y] at hne; exact absurd rfl hne
    · rw [if_neg z1] at hne
      by_cases z2 : cd.toInt = 2
      · by_cases y : x.toInt < 128
        · refine alone ?_ (fun e => ?_)
          · unfold enc; rw [if_neg z0, if_neg z1, if_pos z2, if_pos y]
          · rw [e]; unfold alF; rw [if_pos (Or.inr z2), if_pos y]
        · by_cases y2 : x.toInt < 2048
          · have e : enc cd x (Bf x) = [192 + x.toInt / 64, 128 + x.toInt % 64] := by
              unfold enc; rw [if_neg z0, if_neg z1, if_pos z2, if_neg y, if_pos y2]
            rw [e] at hs hn ⊢
            have h1 : ([192 + x.toInt / 64, 128 + x.toInt % 64] : List Int).length = 2 := rfl
            rw [h1] at hn ⊢
            have g0 := sg_0 hs
            have g1 := sg_0 (sg_t hs)
            have b0 := bt_in (g := g) (n := n) (k := p) (by omega)
            have b1 := bt_in (g := g) (n := n) (k := p + 1) (by omega)
            exact ⟨by omega, Or.inr (Or.inl ⟨z2, by unfold DMa DM; omega⟩)⟩
          · have e : enc cd x (Bf x) = [224 + x.toInt / 4096, 128 + x.toInt / 64 % 64, 128 + x.toInt % 64] := by
              unfold enc; rw [if_neg z0, if_neg z1, if_pos z2, if_neg y, if_neg y2]
            rw [e] at hs hn ⊢
            have h1 : ([224 + x.toInt / 4096, 128 + x.toInt / 64 % 64, 128 + x.toInt % 64] : List Int).length = 3 := rfl
            rw [h1] at hn ⊢
            have g0 := sg_0 hs
            have g1 := sg_0 (sg_t hs)
            have g2 : (g (p + 2)).toInt = _ := sg_0 (sg_t (sg_t hs))
            have b0 := bt_in (g := g) (n := n) (k := p) (by omega)
            have b1 := bt_in (g := g) (n := n) (k := p + 1) (by omega)
            have b2 := bt_in (g := g) (n := n) (k := p + 2) (by omega)
            exact ⟨by omega, Or.inr (Or.inl ⟨z2, by unfold DMa DM; omega⟩)⟩
      · by_cases z3 : cd.toInt = 3
        · by_cases y : x.toInt < 128 ∧ ¬ x.toInt = 38
          · refine alone ?_ (fun e => ?_)
            · unfold enc; rw [if_neg z0, if_neg z1, if_neg z2, if_pos z3, if_pos y]
            · rw [e]; unfold alF; rw [if_neg (by omega), if_neg z1, if_pos z3, if_pos y]
          · have e : enc cd x (Bf x) = encN x.toInt := by
              unfold enc; rw [if_neg z0, if_neg z1, if_neg z2, if_pos z3, if_neg y]
            rw [e] at hs hn ⊢
            unfold encN at hs hn ⊢
            rw [if_neg (by omega)] at hs hn ⊢
            have num : ∀ l : Nat, DNa g n p l x.toInt → (p : Int) < n → Dec cd L4 L5 g n p l x := fun l h1 h2 => ⟨h2, Or.inr (Or.inr ⟨z3, h1⟩)⟩
            by_cases y1 : x.toInt < 100
            · rw [if_pos y1] at hs hn ⊢
              have h1 : ([38, 35, 48 + x.toInt / 10, 48 + x.toInt % 10, 59] : List Int).length = 5 := rfl
              rw [h1] at hn ⊢
              have g0 := sg_0 hs
              have g1 := sg_0 (sg_t hs)
              have g2 : (g (p + 2)).toInt = _ := sg_0 (sg_t (sg_t hs))
              have g3 : (g (p + 3)).toInt = _ := sg_0 (sg_t (sg_t (sg_t hs)))
              have g4 : (g (p + 4)).toInt = _ := sg_0 (sg_t (sg_t (sg_t (sg_t hs))))
              have b0 := bt_in (g := g) (n := n) (k := p) (by omega)
              have b1 := bt_in (g := g) (n := n) (k := p + 1) (by omega)
              have b2 := bt_in (g := g) (n := n) (k := p + 2) (by omega)
              have b3 := bt_in (g := g) (n := n) (k := p + 3) (by omega)
              have b4 := bt_in (g := g) (n := n) (k := p + 4) (by omega)
              exact num 5 (DN_5 (b0.trans g0) (b1.trans g1) (b2.trans g2) (b3.trans g3) (b4.trans g4) (by omega) x1 x2 rfl y1 (by omega)) (by omega)
            · rw [if_neg y1] at hs hn ⊢
              by_cases y2 : x.toInt < 1000
              · rw [if_pos y2] at hs hn ⊢
                have h1 : ([38, 35, 48 + x.toInt / 100, 48 + x.toInt / 10 % 10, 48 + x.toInt % 10, 59] : List Int).length = 6 := rfl
                rw [h1] at hn ⊢
                have g0 := sg_0 hs
                have g1 := sg_0 (sg_t hs)
                have g2 : (g (p + 2)).toInt = _ := sg_0 (sg_t (sg_t hs))
                have g3 : (g (p + 3)).toInt = _ := sg_0 (sg_t (sg_t (sg_t hs)))
                have g4 : (g (p + 4)).toInt = _ := sg_0 (sg_t (sg_t (sg_t (sg_t hs))))
                have g5 : (g (p + 5)).toInt = _ := sg_0 (sg_t (sg_t (sg_t (sg_t (sg_t hs)))))
                have b0 := bt_in (g := g) (n := n) (k := p) (by omega)
                have b1 := bt_in (g := g) (n := n) (k := p + 1) (by omega)
                have b2 := bt_in (g := g) (n := n) (k := p + 2) (by omega)
                have b3 := bt_in (g := g) (n := n) (k := p + 3) (by omega)
                have b4 := bt_in (g := g) (n := n) (k := p + 4) (by omega)
                have b5 := bt_in (g := g) (n := n) (k := p + 5) (by omega)
                exact num 6 (DN_6 (b0.trans g0) (b1.trans g1) (b2.trans g2) (b3.trans g3) (b4.trans g4) (b5.trans g5) (by omega) x1 x2 rfl y2 y1) (by omega)
              · rw [if_neg y2] at hs hn ⊢
                by_cases y3 : x.toInt < 10000
                · rw [if_pos y3] at hs hn ⊢
                  have h1 : ([38, 35, 48 + x.toInt / 1000, 48 + x.toInt / 100 % 10, 48 + x.toInt / 10 % 10, 48 + x.toInt % 10, 59] : List Int).length = 7 := rfl
                  rw [h1] at hn ⊢
                  have g0 := sg_0 hs
                  have g1 := sg_0 (sg_t hs)
                  have g2 : (g (p + 2)).toInt = _ := sg_0 (sg_t (sg_t hs))
                  have g3 : (g (p + 3)).toInt = _ := sg_0 (sg_t (sg_t (sg_t hs)))
                  have g4 : (g (p + 4)).toInt = _ := sg_0 (sg_t (sg_t (sg_t (sg_t hs))))
                  have g5 : (g (p + 5)).toInt = _ := sg_0 (sg_t (sg_t (sg_t (sg_t (sg_t hs)))))
                  have g6 : (g (p + 6)).toInt = _ := sg_0 (sg_t (sg_t (sg_t (sg_t (sg_t (sg_t hs))))))
                  have b0 := bt_in (g := g) (n := n) (k := p) (by omega)
                  have b1 := bt_in (g := g) (n := n) (k := p + 1) (by omega)
                  have b2 := bt_in (g := g) (n := n) (k := p + 2) (by omega)
                  have b3 := bt_in (g := g) (n := n) (k := p + 3) (by omega)
                  have b4 := bt_in (g := g) (n := n) (k := p + 4) (by omega)
                  have b5 := bt_in (g := g) (n := n) (k := p + 5) (by omega)
                  have b6 := bt_in (g := g) (n := n) (k := p + 6) (by omega)
                  exact num 7 (DN_7 (b0.trans g0) (b1.trans g1) (b2.trans g2) (b3.trans g3) (b4.trans g4) (b5.trans g5) (b6.trans g6) (by omega) x1 x2 rfl y3 y2) (by omega)
                · rw [if_neg y3] at hs hn ⊢
                  have h1 : ([38, 35, 48 + x.toInt / 10000, 48 + x.toInt / 1000 % 10, 48 + x.toInt / 100 % 10, 48 + x.toInt / 10 % 10, 48 + x.toInt % 10, 59] : List Int).length = 8 := rfl
                  rw [h1] at hn ⊢
                  have g0 := sg_0 hs
                  have g1 := sg_0 (sg_t hs)
                  have g2 : (g (p + 2)).toInt = _ := sg_0 (sg_t (sg_t hs))
                  have g3 : (g (p + 3)).toInt = _ := sg_0 (sg_t (sg_t (sg_t hs)))
                  have g4 : (g (p + 4)).toInt = _ := sg_0 (sg_t (sg_t (sg_t (sg_t hs))))
                  have g5 : (g (p + 5)).toInt = _ := sg_0 (sg_t (sg_t (sg_t (sg_t (sg_t hs)))))
                  have g6 : (g (p + 6)).toInt = _ := sg_0 (sg_t (sg_t (sg_t (sg_t (sg_t (sg_t hs))))))
                  have g7 : (g (p + 7)).toInt = _ := sg_0 (sg_t (sg_t (sg_t (sg_t (sg_t (sg_t (sg_t hs)))))))
                  have b0 := bt_in (g := g) (n := n) (k := p) (by omega)
                  have b1 := bt_in (g := g) (n := n) (k := p + 1) (by omega)
                  have b2 := bt_in (g := g) (n := n) (k := p + 2) (by omega)
                  have b3 := bt_in (g := g) (n := n) (k := p + 3) (by omega)
                  have b4 := bt_in (g := g) (n := n) (k := p + 4) (by omega)
                  have b5 := bt_in (g := g) (n := n) (k := p + 5) (by omega)
                  have b6 := bt_in (g := g) (n := n) (k := p + 6) (by omega)
                  have b7 := bt_in (g := g) (n := n) (k := p + 7) (by omega)
                  exact num 8 (DN_8 (b0.trans g0) (b1.trans g1) (b2.trans g2) (b3.trans g3) (b4.trans g4) (b5.trans g5) (b6.trans g6) (b7.trans g7) (by omega) x1 x2 rfl y3) (by omega)
        · rw [if_neg z2, if_neg z3] at hne
          by_cases z45 : cd.toInt = 4 ∨ cd.toInt = 5
          · rw [if_pos z45] at hne
            by_cases y : Bf x = -1
            · rw [if_pos y] at hne; exact absurd rfl hne
            · have e : enc cd x (Bf x) = [(Bf x).toInt] := by
                unfold enc; rw [if_neg z0, if_neg z1, if_neg z2, if_neg z3, if_pos z45, if_neg y]
              rw [e] at hs hn ⊢
              have h1 : ([(Bf x).toInt] : List Int).length = 1 := rfl
              rw [h1] at hn ⊢
              have g0 := sg_0 hs
              have y2 : ¬ (Bf x).toInt = -1 := v_ne y
              have ck := ix_eq (x := g p) (N := (Bf x).toInt.toNat) (by omega)
              refine ⟨by omega, Or.inl ⟨rfl, ?_, xn⟩⟩
              unfold alF
              rw [if_neg (by omega), if_neg z1, if_neg z3]
              by_cases z4 : cd.toInt = 4
              · rw [if_pos z4, ck]
                exact (hL.1 z4 _ x (by omega) x0 x1).mpr (by omega)
              · rw [if_neg z4, if_pos (by omega), ck]
                exact (hL.2 (by omega) _ x (by omega) x0 x1).mpr (by omega)
          · rw [if_neg z45] at hne; exact absurd rfl hne
theorem dx_congr {cd : Int32} {L4 L5 M4 M5 g g' : Nat → Int32} {n : Int} (hg : ∀ k : Nat, (k : Int) < n → g k = g' k) (h4 : ∀ k, k < 256 → L4 k = M4 k) (h5 : ∀ k, k < 256 → L5 k = M5 k) (hb : prg n 0 255 g) : dx cd L4 L5 g n = dx cd M4 M5 g' n := by
  funext p
  by_cases z : ∃ (l : Nat) (x : Int32), Dec cd L4 L5 g n p l x
  · obtain ⟨l, x, h⟩ := z
    rw [(dl_of h).2, (dl_of ((Dec_iff hg h4 h5 hb).mp h)).2]
  · have e1 : dx cd L4 L5 g n p = -1 := by
      unfold dx
      exact dif_neg (fun e => e.elim (fun x e2 => e2.elim (fun l e3 => z ⟨l, x, e3⟩)))
    have e2 : dx cd M4 M5 g' n p = -1 := by
      unfold dx
      exact dif_neg (fun e => e.elim (fun x e2 => e2.elim (fun l e3 => z ⟨l, x, (Dec_iff hg h4 h5 hb).mpr e3⟩)))
    rw [e1, e2]
theorem dl_ex {cd : Int32} {L4 L5 g : Nat → Int32} {n : Int} {p : Nat} (h : ¬ dl cd L4 L5 g n p = 0) : Dec cd L4 L5 g n p (dl cd L4 L5 g n p) (dx cd L4 L5 g n p) := by
  by_cases z : ∃ (l : Nat) (x : Int32), Dec cd L4 L5 g n p l x
  · obtain ⟨l, x, e⟩ := z
    rw [(dl_of e).1, (dl_of e).2]; exact e
  · exact absurd (dl_no (fun l x e => z ⟨l, x, e⟩)) h
theorem psE_congr {E E' : Nat → List Int} : ∀ n, (∀ j, j < n → E j = E' j) → psE E n = psE E' n
  | 0, _ => rfl
  | n + 1, h => by rw [psE, psE, psE_congr n (fun j hj => h j (by omega)), h n (by omega)]
theorem WR_congr {E E' : Nat → List Int} {n : Nat} {l : Int32} {g : Nat → Int32} (h : WR E n l g) (he : ∀ j, j < n → E j = E' j) : WR E' n l g := by
  refine ⟨by rw [h.1, psE_congr n he], fun j hj => ?_⟩
  rw [← he j hj, ← psE_congr j (fun i hi => he i (by omega))]
  exact h.2 j hj
/-- a text of n letters, written in a, read in b, is one of c letters -/
def HM (a b : Int32) (L4 L5 : Nat → Int32) (Bf : Int32 → Int32) (n : Nat) (f : Nat → Int32) (c : Nat) (f' : Nat → Int32) : Prop := ∃ (m : Int32) (g : Nat → Int32), WR (fun j => enc a (f j) (Bf (f j))) n m g ∧ m.toInt ≤ 900 ∧ rdOk (dl b L4 L5 g m.toInt) m.toInt c ∧ c ≤ 300 ∧ ∀ i, i < c → f' i = dx b L4 L5 g m.toInt (psn (dl b L4 L5 g m.toInt) i)
def okB (Bf : Int32 → Int32) : Prop := ∀ x : Int32, 0 ≤ x.toInt → x.toInt ≤ 65535 → -1 ≤ (Bf x).toInt ∧ (Bf x).toInt ≤ 255
theorem WR_b {a : Int32} {Bf : Int32 → Int32} {n : Nat} {f : Nat → Int32} {m : Int32} {g : Nat → Int32} (h : WR (fun j => enc a (f j) (Bf (f j))) n m g) (hf : prg n 0 65535 f) (hB : okB Bf) : prg m.toInt 0 255 g := WR_byt h (fun i hi => (enc_b (hf i (by omega)).1 (hf i (by omega)).2 (hB _ (hf i (by omega)).1 (hf i (by omega)).2)).1)
theorem HM_u {a b : Int32} {L4 L5 : Nat → Int32} {Bf : Int32 → Int32} {n c c' : Nat} {f f1 f2 : Nat → Int32} (hf : prg n 0 65535 f) (hB : okB Bf) (h : HM a b L4 L5 Bf n f c f1) (h' : HM a b L4 L5 Bf n f c' f2) : c = c' ∧ ∀ i, i < c → f1 i = f2 i := by
  obtain ⟨m, g, a1, a2, a3, a4, a5⟩ := h
  obtain ⟨m', g', b1, b2, b3, b4, b5⟩ := h'
  obtain ⟨e1, e2⟩ := WR_eq a1 b1
  subst e1
  have hb := WR_b a1 hf hB
  have e3 : dl b L4 L5 g m.toInt = dl b L4 L5 g' m.toInt := dl_congr e2 (fun _ _ => rfl) (fun _ _ => rfl) hb
  have e4 : dx b L4 L5 g m.toInt = dx b L4 L5 g' m.toInt := dx_congr e2 (fun _ _ => rfl) (fun _ _ => rfl) hb
  rw [← e3] at b3 b5
  rw [← e4] at b5
  have ec := rd_uniq a3 b3
  exact ⟨ec, fun i hi => by rw [a5 i hi, b5 i (by omega)]⟩
theorem HM_t {a b : Int32} {L4 L5 M4 M5 : Nat → Int32} {Bf Cf : Int32 → Int32} {n c : Nat} {f e f' : Nat → Int32} (hf : prg n 0 65535 f) (hB : okB Bf) (hfe : ∀ j, j < n → f j = e j) (h4 : ∀ k, k < 256 → L4 k = M4 k) (h5 : ∀ k, k < 256 → L5 k = M5 k) (hE : ∀ x : Int32, 0 ≤ x.toInt → x.toInt ≤ 65535 → enc a x (Bf x) = enc a x (Cf x)) (h : HM a b L4 L5 Bf n f c f') : HM a b M4 M5 Cf n e c f' := by
  obtain ⟨m, g, a1, a2, a3, a4, a5⟩ := h
  have hb := WR_b a1 hf hB
  have e3 : dl b L4 L5 g m.toInt = dl b M4 M5 g m.toInt := dl_congr (fun _ _ => rfl) h4 h5 hb
  have e4 : dx b L4 L5 g m.toInt = dx b M4 M5 g m.toInt := dx_congr (fun _ _ => rfl) h4 h5 hb
  rw [e3] at a3 a5
  rw [e4] at a5
  refine ⟨m, g, WR_congr a1 (fun j hj => ?_), a2, a3, a4, a5⟩
  show enc a (f j) (Bf (f j)) = enc a (e j) (Cf (e j))
  rw [hE _ (hf j (by omega)).1 (hf j (by omega)).2, hfe j hj]
/-- what goes through comes back -/
theorem HM_back {a b : Int32} {L4 L5 : Nat → Int32} {Ba Bb : Int32 → Int32} {n c : Nat} {f f' : Nat → Int32} (hn : n ≤ 300) (hf : ∀ j, j < n → isLz (f j)) (hBb : okB Bb) (h4 : prg 256 (-1) 65535 L4) (h5 : prg 256 (-1) 65535 L5) (ha : LBk a L4 L5 Ba) (hb : LBk b L4 L5 Bb) (h : HM b a L4 L5 Bb n f c f') : HM a b L4 L5 Ba c f' n f := by
  obtain ⟨m, g, a1, a2, a3, a4, a5⟩ := h
  have hfr : prg n 0 65535 f := fun j hj => ⟨(hf j (by omega)).1, (hf j (by omega)).2.1⟩
  have gb := WR_b a1 hfr hBb
  have de : ∀ i, i < c → (enc a (f' i) (Ba (f' i))).length = dl a L4 L5 g m.toInt (psn (dl a L4 L5 g m.toInt) i) ∧ sg g (psn (dl a L4 L5 g m.toInt) i) (enc a (f' i) (Ba (f' i))) := by
    intro i hi
    rw [a5 i hi]
    exact Dec_en (dl_ex (a3.2 i hi)) gb h4 h5 ha
  have ps1 : ∀ i, i ≤ c → psE (fun j => enc a (f' j) (Ba (f' j))) i = psn (dl a L4 L5 g m.toInt) i := by
    intro i
    induction i with
    | zero => exact fun _ => rfl
    | succ i ih =>
      intro hi
      rw [psE, psn, ih (by omega), (de i (by omega)).1]
  have w2 : WR (fun j => enc a (f' j) (Ba (f' j))) c m g := by
    refine ⟨by rw [ps1 c (Nat.le_refl c)]; exact a3.1.symm, fun j hj => ⟨fun e => ?_, ?_⟩⟩
    · have q := (de j hj).1
      have e9 : enc a (f' j) (Ba (f' j)) = [] := e
      rw [e9] at q
      exact a3.2 j hj q.symm
    · rw [ps1 j (by omega)]; exact (de j hj).2
  have en : ∀ i, i < n → dl b L4 L5 g m.toInt (psE (fun j => enc b (f j) (Bb (f j))) i) = (enc b (f i) (Bb (f i))).length ∧ dx b L4 L5 g m.toInt (psE (fun j => enc b (f j) (Bb (f j))) i) = f i := by
    intro i hi
    obtain ⟨q1, q2⟩ := a1.2 i hi
    have q3 := psE_le (fun j => enc b (f j) (Bb (f j))) (i := i + 1) n (by omega)
    rw [psE] at q3
    have q4 := a1.1
    exact dl_of (en_Dec q2 q1 (by omega) (hf i hi) (hBb _ (hf i hi).1 (hf i hi).2.1) hb)
  have ps2 : ∀ i, i ≤ n → psn (dl b L4 L5 g m.toInt) i = psE (fun j => enc b (f j) (Bb (f j))) i := by
    intro i
    induction i with
    | zero => exact fun _ => rfl
    | succ i ih =>
      intro hi
      rw [psE, psn, ih (by omega), (en i (by omega)).1]
  refine ⟨m, g, w2, a2, ⟨?_, fun i hi => ?_⟩, hn, fun i hi => ?_⟩
  · rw [ps2 n (Nat.le_refl n)]; exact a1.1.symm
  · rw [ps2 i (by omega), (en i hi).1]
    exact fun e => (a1.2 i hi).1 (List.length_eq_zero_iff.mp e)
  · rw [ps2 i (by omega), (en i hi).2]
/-- what pass (of the class) and does (of the reference) answer -/
def F_ps (r l : Int32) (f' : Nat → Int32) (a b : Int32) (L4 L5 : Nat → Int32) (Bf : Int32 → Int32) (n : Int) (f : Nat → Int32) : Prop := (r = 1 ∧ ∃ c : Nat, l.toInt = c ∧ HM a b L4 L5 Bf n.toNat f c f') ∨ (r = 0 ∧ ∀ (c : Nat) (f2 : Nat → Int32), ¬ HM a b L4 L5 Bf n.toNat f c f2)
theorem ps_w0 {r r1 ft m l a b : Int32} {g f f' L4 L5 : Nat → Int32} {Bf : Int32 → Int32} {n : Int} (hw : F_wr r1 ft m g (fun j => enc a (f j) (Bf (f j))) n) (h1 : r1.toInt = 0) (hr : r.toInt = 0) : F_ps r l f' a b L4 L5 Bf n f := by
  rcases hw with ⟨e, _⟩ | ⟨_, i, i1, i2, i3, i4⟩
  · rw [e] at h1; exact absurd h1 (by decide)
  · refine Or.inr ⟨v_inj hr, ?_⟩
    rintro c f2 ⟨m', g', b1, _⟩
    exact (b1.2 i (by omega)).1 i3
theorem wr_WR {r1 ft m : Int32} {g : Nat → Int32} {E : Nat → List Int} {n : Int} (hw : F_wr r1 ft m g E n) (h1 : ¬ r1.toInt = 0) : WR E n.toNat m g := by
  rcases hw with ⟨_, c, c1, c2⟩ | ⟨e, _⟩
  · have e : n.toNat = c := by omega
    rw [e]; exact c2
  · exact absurd (by rw [e]; rfl) h1
theorem ps_no {r m l a b : Int32} {g f f' L4 L5 : Nat → Int32} {Bf : Int32 → Int32} {n : Int} (hw : WR (fun j => enc a (f j) (Bf (f j))) n.toNat m g) (hb : prg m.toInt 0 255 g) (h : m.toInt ≤ 900 → ∀ c, rdOk (dl b L4 L5 g m.toInt) m.toInt c → 300 < c) (hr : r.toInt = 0) : F_ps r l f' a b L4 L5 Bf n f := by
  refine Or.inr ⟨v_inj hr, ?_⟩
  rintro c f2 ⟨m', g', b1, b2, b3, b4, b5⟩
  obtain ⟨e1, e2⟩ := WR_eq hw b1
  subst e1
  have e3 : dl b L4 L5 g m.toInt = dl b L4 L5 g' m.toInt := dl_congr e2 (fun _ _ => rfl) (fun _ _ => rfl) hb
  rw [← e3] at b3
  have := h b2 c b3
  omega
theorem ps_cl {r r2 ft m l a b : Int32} {g f f' L4 L5 : Nat → Int32} {Bf : Int32 → Int32} {n : Int} (hw : WR (fun j => enc a (f j) (Bf (f j))) n.toNat m g) (hb : prg m.toInt 0 255 g) (hx : F_rx r2 ft l f' (dl b L4 L5 g m.toInt) (dx b L4 L5 g m.toInt) m.toInt) (hr : (r.toInt = 1 ∧ ¬ r2.toInt = 0 ∧ m.toInt ≤ 900) ∨ (r.toInt = 0 ∧ (r2.toInt = 0 ∨ 900 < m.toInt))) : F_ps r l f' a b L4 L5 Bf n f := by
  have o1 : (1 : Int32).toInt = 1 := rfl
  have o0 : (0 : Int32).toInt = 0 := rfl
  rcases hr with ⟨r1, r3, r4⟩ | ⟨r1, r3⟩
  · rcases hx with ⟨e, _, c, c1, c2, c3, c4⟩ | ⟨e, _⟩ | ⟨e, _⟩
    · exact Or.inl ⟨v_inj r1, c, c3, m, g, hw, r4, c1, c2, c4⟩
    · rw [e] at r3; exact absurd rfl r3
    · rw [e] at r3; exact absurd rfl r3
  · refine ps_no hw hb (fun h9 c hc => ?_) r1
    rcases hx with ⟨e, _⟩ | ⟨_, _, c', c1, c2⟩ | ⟨_, c', c1, c2, c3, _⟩
    · rw [e] at r3
      omega
    · rw [rd_uniq hc c1]; exact c2
    · exact absurd hc (rd_stop c1 c2 c3 c)
theorem ps_rf {r r2 ft m l a b : Int32} {g f f' L4 L5 : Nat → Int32} {Bf : Int32 → Int32} {n : Int} (hw : WR (fun j => enc a (f j) (Bf (f j))) n.toNat m g) (hb : prg m.toInt 0 255 g) (h9 : m.toInt ≤ 900) (hx : F_rr r2 l ft f' (dl b L4 L5 g m.toInt) (dx b L4 L5 g m.toInt) m.toInt) (hr : (r.toInt = 1 ∧ ¬ r2.toInt = 0 ∧ l.toInt ≤ 300) ∨ (r.toInt = 0 ∧ (r2.toInt = 0 ∨ 300 < l.toInt))) : F_ps r l f' a b L4 L5 Bf n f := by
  have o1 : (1 : Int32).toInt = 1 := rfl
  have o0 : (0 : Int32).toInt = 0 := rfl
  rcases hr with ⟨r1, r3, r4⟩ | ⟨r1, r3⟩
  · rcases hx with ⟨e, c, c1, c2, c3⟩ | ⟨e, _⟩
    · exact Or.inl ⟨v_inj r1, c, c2, m, g, hw, h9, c1, by omega, c3⟩
    · rw [e] at r3; exact absurd rfl r3
  · refine ps_no hw hb (fun _ c hc => ?_) r1
    rcases hx with ⟨e, c', c1, c2, c3⟩ | ⟨_, c', c1, c2, c3, _⟩
    · rw [e] at r3
      rw [rd_uniq hc c1]
      omega
    · exact absurd hc (rd_stop c1 c2 c3 c)
theorem ps_big {r m l a b : Int32} {g f f' L4 L5 : Nat → Int32} {Bf : Int32 → Int32} {n : Int} (hw : WR (fun j => enc a (f j) (Bf (f j))) n.toNat m g) (hb : prg m.toInt 0 255 g) (h9 : 900 < m.toInt) (hr : r.toInt = 0) : F_ps r l f' a b L4 L5 Bf n f := ps_no hw hb (fun z => by omega) hr
theorem okB_r {a : Int32} {eB : Nat → Int32} (g : rg (-1) 255 eB) : okB (Br a eB) := fun x _ _ => g _
theorem ps_0 {r r1 l l2 a b : Int32} {f f' f2 L4 L5 : Nat → Int32} {Bf : Int32 → Int32} {n : Int} (h : F_ps r1 l f' a b L4 L5 Bf n f) (h0 : r1.toInt = 0) (hr : r.toInt = 0) : F_ps r l2 f2 a b L4 L5 Bf n f := by
  rcases h with ⟨e, _⟩ | ⟨_, h⟩
  · rw [e] at h0; exact absurd h0 (by decide)
  · exact Or.inr ⟨v_inj hr, h⟩
theorem ps_1 {r l a b : Int32} {f f' L4 L5 : Nat → Int32} {Bf : Int32 → Int32} {n : Int} (h : F_ps r l f' a b L4 L5 Bf n f) (h0 : ¬ r.toInt = 0) : ∃ c : Nat, l.toInt = c ∧ HM a b L4 L5 Bf n.toNat f c f' := h.elim (fun z => z.2) (fun z => absurd (by rw [z.1]; rfl) h0)
theorem HM_f {a b : Int32} {L4 L5 : Nat → Int32} {Bf : Int32 → Int32} {n c : Nat} {f f1 f2 : Nat → Int32} (h : HM a b L4 L5 Bf n f c f1) (he : ∀ i, i < c → f2 i = f1 i) : HM a b L4 L5 Bf n f c f2 := by
  obtain ⟨m, g, a1, a2, a3, a4, a5⟩ := h
  exact ⟨m, g, a1, a2, a3, a4, fun i hi => by rw [he i hi]; exact a5 i hi⟩
theorem HM_g {a b : Int32} {L4 L5 : Nat → Int32} {Bf : Int32 → Int32} {n c : Nat} {f e f1 : Nat → Int32} (h : HM a b L4 L5 Bf n f c f1) (he : ∀ i, i < n → f i = e i) : HM a b L4 L5 Bf n e c f1 := by
  obtain ⟨m, g, a1, a2, a3, a4, a5⟩ := h
  exact ⟨m, g, WR_congr a1 (fun j hj => by show enc a (f j) (Bf (f j)) = enc a (e j) (Bf (e j)); rw [he j hj]), a2, a3, a4, a5⟩
theorem dx_r {cd : Int32} {L4 L5 g : Nat → Int32} {n : Int} {p : Nat} (h : ¬ dl cd L4 L5 g n p = 0) (hb : prg n 0 255 g) (h4 : prg 256 (-1) 65535 L4) (h5 : prg 256 (-1) 65535 L5) : 0 ≤ (dx cd L4 L5 g n p).toInt ∧ (dx cd L4 L5 g n p).toInt ≤ 65535 := by
  obtain ⟨h0, ⟨a1, a2, a3⟩ | ⟨a1, a2⟩ | ⟨a1, a2⟩⟩ := dl_ex h
  · have r := hb p h0
    have q := alF_r (cd := cd) h4 h5 r.1 r.2
    rw [a2] at q
    have m1 : (-1 : Int32).toInt = -1 := rfl
    have x0 : ¬ (dx cd L4 L5 g n p).toInt = -1 := fun z => a3 (v_inj (by omega))
    omega
  · unfold DMa DM at a2
    omega
  · unfold DNa DN at a2
    omega
theorem HM_r {a b : Int32} {L4 L5 : Nat → Int32} {Bf : Int32 → Int32} {n c : Nat} {f f' : Nat → Int32} (hf : prg n 0 65535 f) (hB : okB Bf) (h4 : prg 256 (-1) 65535 L4) (h5 : prg 256 (-1) 65535 L5) (h : HM a b L4 L5 Bf n f c f') : prg c 0 65535 f' := by
  obtain ⟨m, g, a1, a2, a3, a4, a5⟩ := h
  intro j hj
  rw [a5 j (by omega)]
  exact dx_r (a3.2 j (by omega)) (WR_b a1 hf hB) h4 h5
/-- the reference's second way gives the text again -/
theorem ud_back {r1 r2 z1 z2 a b : Int32} {f f1 f2 o L4 L5 : Nat → Int32} {Ba Bb : Int32 → Int32} {n : Int} (h1 : F_ps r1 z1 f1 b a L4 L5 Bb n f) (hr1 : ¬ r1.toInt = 0) (ho : ∀ j : Nat, (j : Int) < z1.toInt → o j = f1 j) (h2 : F_ps r2 z2 f2 a b L4 L5 Ba z1.toInt o) (h0 : 0 ≤ n) (hn : n ≤ 300) (hf : ∀ j : Nat, (j : Int) < n → isLz (f j)) (hBa : okB Ba) (hBb : okB Bb) (h4 : prg 256 (-1) 65535 L4) (h5 : prg 256 (-1) 65535 L5) (ha : LBk a L4 L5 Ba) (hb : LBk b L4 L5 Bb) : r2.toInt = 1 ∧ z2.toInt = n ∧ ∀ j : Nat, (j : Int) < n → f2 j = f j := by
  obtain ⟨c, c1, c2⟩ := ps_1 h1 hr1
  have hfr : prg n.toNat 0 65535 f := fun j hj => ⟨(hf j (by omega)).1, (hf j (by omega)).2.1⟩
  have hr := HM_r hfr hBb h4 h5 c2
  have bk := HM_back (by omega) (fun j hj => hf j (by omega)) hBb h4 h5 ha hb c2
  have e : z1.toInt.toNat = c := by omega
  have bo : HM a b L4 L5 Ba z1.toInt.toNat o n.toNat f := by
    rw [e]; exact HM_g bk (fun i hi => (ho i (by omega)).symm)
  have hor : prg z1.toInt.toNat 0 65535 o := fun j hj => by
    rw [ho j (by omega)]; exact hr j (by omega)
  rcases h2 with ⟨q1, c', q2, q3⟩ | ⟨_, q2⟩
  · obtain ⟨u1, u2⟩ := HM_u hor hBa q3 bo
    exact ⟨by rw [q1]; rfl, by omega, fun j hj => u2 j (by omega)⟩
  · exact absurd bo (q2 _ _)
theorem ps_end {r1 z1 k a b : Int32} {f f1 o w L4 L5 : Nat → Int32} {Bf : Int32 → Int32} {n : Int} (h1 : F_ps r1 z1 f1 b a L4 L5 Bf n f) (hr1 : ¬ r1.toInt = 0) (ho : ∀ j : Nat, (j : Int) < z1.toInt → o j = f1 j) (hw : ∀ j : Nat, (j : Int) < k.toInt → w j = o j) (hk : k.toInt = z1.toInt) : F_ps 1 z1 w b a L4 L5 Bf n f := by
  obtain ⟨c, c1, c2⟩ := ps_1 h1 hr1
  exact Or.inl ⟨rfl, c, c1, HM_f c2 (fun i hi => by rw [hw i (by omega), ho i (by omega)])⟩
def cpE (k : Int) (g e : Nat → Int32) : Prop := ∀ j : Nat, (j : Int) < k → g j = e j
theorem cpE_0 {k : Int} {g e : Nat → Int32} (h : k ≤ 0) : cpE k g e := fun j hj => by omega
theorem cpE_s {k k' x : Int32} {g g' e : Nat → Int32} (h : cpE k.toInt g e) (ex : x = e k.toNatClampNeg) (eg : g' = upd g k.toNatClampNeg x) (hk : 0 ≤ k.toInt) (hk' : k'.toInt = k.toInt + 1) : cpE k'.toInt g' e := by
  intro j hj
  have q := v_clamp hk
  by_cases z : j = k.toNatClampNeg
  · rw [eg, z, pk_us, ← ex]
  · rw [eg, pk_un z]; exact h j (by omega)
theorem rg_prg {n lo hi : Int} {f : Nat → Int32} (h : rg lo hi f) : prg n lo hi f := fun j _ => h j
theorem rg_L5 {eL : Nat → Int32} {lo hi : Int} (h : rg lo hi eL) : prg 256 lo hi (fun k => eL (256 + k)) := fun j _ => h _
def LBr (eL eB : Nat → Int32) : Prop := ∀ cd : Int32, LBk cd (fun k => eL k) (fun k => eL (256 + k)) (Br cd eB)
/-! the text and what it was before, on both sides -/
def CPB (b i : Int) (e g src : Nat → Int32) : Prop := (∀ k : Nat, (k : Int) < i → g (b.toNat + k) = src k) ∧ ∀ k : Nat, (k : Int) < b ∨ b + i ≤ k → g k = e k
theorem CPB_0 {b i : Int} {e src : Nat → Int32} (h : i ≤ 0) : CPB b i e e src := ⟨fun k hk => by omega, fun _ _ => rfl⟩
theorem CPB_s {b : Int} {i i' a x : Int32} {e g g' src : Nat → Int32} (h : CPB b i.toInt e g src) (hb : 0 ≤ b) (hi : 0 ≤ i.toInt) (ex : x = src i.toNatClampNeg) (eg : g' = upd g a.toNatClampNeg x) (ha : a.toInt = b + i.toInt) (hi' : i'.toInt = i.toInt + 1) : CPB b i'.toInt e g' src := by
  have c := v_clamp hi
  have ca : a.toNatClampNeg = b.toNat + i.toNatClampNeg := ix_eq (by omega)
  refine ⟨fun k hk => ?_, fun k hk => ?_⟩
  · by_cases z : k = i.toNatClampNeg
    · rw [eg, ca, z, pk_us, ex]
    · rw [eg, pk_un (by omega)]; exact h.1 k (by omega)
  · rw [eg, pk_un (by omega)]; exact h.2 k (by omega)
theorem CPB_n {b i n : Int} {e g src : Nat → Int32} (h : CPB b i e g src) (e1 : i = n) : CPB b n e g src := by rw [← e1]; exact h
def TXR (l : Int32) (f eS eX : Nat → Int32) : Prop := l = eS 0 ∧ ∀ j : Nat, (j : Int) < l.toInt → f j = eX j ∧ isLz (f j)
def CHR (gn lG zp zf : Int32) (f1 f2 eS eX : Nat → Int32) : Prop := lG.toInt = zp.toInt ∧ gn.toInt = (zf.toInt + zp.toInt) % 20 ∧ ∀ s : Nat, s < 20 → f2 s = eS (s + 1) ∧ ∀ k : Nat, (k : Int) < (f2 s).toInt → f1 (300 * s + k) = eX (300 * (s + 1) + k) ∧ isLz (f1 (300 * s + k))
/-- remember: the text goes into the place gn -/
def F_rm (gn gn' lG lG' l : Int32) (f1 f1' f2 f2' f : Nat → Int32) : Prop := CPB (300 * gn.toInt) l.toInt f1 f1' f ∧ (∃ n : Int32, n.toInt = l.toInt ∧ f2' = upd f2 gn.toNatClampNeg n) ∧ gn'.toInt = (gn.toInt + 1) % 20 ∧ ((lG.toInt < 20 ∧ lG'.toInt = lG.toInt + 1) ∨ (20 ≤ lG.toInt ∧ lG'.toInt = 20))
/-- the class's become -/
def F_bC (gn gn' lG lG' l l' lM : Int32) (f1 f1' f2 f2' f f' fM : Nat → Int32) : Prop := F_rm gn gn' lG lG' l f1 f1' f2 f2' f ∧ l'.toInt = lM.toInt ∧ ∀ j : Nat, (j : Int) < lM.toInt → f' j = fM j
theorem addAll_cp {cap : Nat} {l' lo r : Int32} {f f' g : Nat → Int32} (h : F_addAll cap 0 l' lo r f f' g) (h0 : 0 ≤ lo.toInt) (hl : lo.toInt ≤ cap) : l'.toInt = lo.toInt ∧ ∀ j : Nat, (j : Int) < lo.toInt → f' j = g j := by
  have e : (0 : Int32).toInt = 0 := rfl
  have c := v_clamp h0
  rcases h with ⟨a1, a2, a3, a4⟩ | ⟨a1, _⟩
  · refine ⟨by omega, fun j hj => ?_⟩
    have e0 : (0 : Int32).toNatClampNeg = 0 := rfl
    rw [a4, e0]
    unfold va_cpy
    rw [if_pos (by omega)]
    congr 1
    omega
  · omega
/-- the reference's become -/
def F_bR (zp zp' zf zf' n : Int32) (eS eS' eX eX' fr : Nat → Int32) : Prop := ((zp.toInt = 20 ∧ zp'.toInt = 20 ∧ zf'.toInt = (zf.toInt + 1) % 20) ∨ (¬ zp.toInt = 20 ∧ zp'.toInt = zp.toInt + 1 ∧ zf'.toInt = zf.toInt)) ∧ ∃ (t : Nat) (e1 : Nat → Int32), (t : Int) = 1 + (zf'.toInt + zp'.toInt - 1) % 20 ∧ eS' = upd (upd eS t (eS 0)) 0 n ∧ CPB (300 * t) (eS 0).toInt eX e1 eX ∧ CPB 0 n.toInt e1 eX' fr
theorem bec_rel {gn gn' lG lG' l l' lM zp zp' zf zf' n : Int32} {f1 f1' f2 f2' f f' fM eS eS' eX eX' fr : Nat → Int32} (hT : TXR l f eS eX) (hC : CHR gn lG zp zf f1 f2 eS eX) (h : F_bC gn gn' lG lG' l l' lM f1 f1' f2 f2' f f' fM) (h' : F_bR zp zp' zf zf' n eS eS' eX eX' fr) (hn : lM.toInt = n.toInt) (hm : ∀ j : Nat, (j : Int) < n.toInt → fM j = fr j ∧ isLz (fM j)) (hn0 : 0 ≤ n.toInt) (hn3 : n.toInt ≤ 300) (hl0 : 0 ≤ l.toInt) (hl3 : l.toInt ≤ 300) (hg : 0 ≤ gn.toInt ∧ gn.toInt ≤ 19) (hz : 0 ≤ zp.toInt ∧ zp.toInt ≤ 20) (hzf : 0 ≤ zf.toInt ∧ zf.toInt ≤ 19) (h2 : rg 0 300 f2) : TXR l' f' eS' eX' ∧ CHR gn' lG' zp' zf' f1' f2' eS' eX' := by
  obtain ⟨t1, t2⟩ := hT
  obtain ⟨c1, c2, c3⟩ := hC
  obtain ⟨⟨a1, ⟨m, a2, a3⟩, a4, a5⟩, a6, a7⟩ := h
  obtain ⟨b1, t, e1, b2, b3, b4, b5⟩ := h'
  have tg : (t : Int) = gn.toInt + 1 := by omega
  have kg : gn.toNatClampNeg = t - 1 := ix_eq (by omega)
  have em : m = l := v_inj a2
  have s0 : eS' 0 = n := by rw [b3, pk_us]
  have st : eS' t = eS 0 := by rw [b3, pk_un (by omega), pk_us]
  refine ⟨⟨v_inj (by rw [s0]; omega), fun j hj => ?_⟩, by omega, by omega, fun s hs => ?_⟩
  · have q := hm j (by omega)
    have w := b5.1 j (by omega)
    have e0 : (0 : Int).toNat + j = j := by omega
    rw [e0] at w
    rw [a7 j (by omega), w]
    exact q
  · by_cases z : s + 1 = t
    · have es : s = gn.toNatClampNeg := by omega
      have f2s : f2' s = l := by rw [a3, es, pk_us, em]
      refine ⟨by rw [f2s, z, st]; exact t1, fun k hk => ?_⟩
      rw [f2s] at hk
      have u1 := a1.1 k (by omega)
      have x1 : (300 * gn.toInt).toNat + k = 300 * s + k := by omega
      rw [x1] at u1
      have u2 := b4.1 k (by rw [← t1]; omega)
      have x2 : (300 * (t : Int)).toNat + k = 300 * (s + 1) + k := by omega
      rw [x2] at u2
      have u3 := b5.2 (300 * (s + 1) + k) (by omega)
      rw [u1, u3, u2]
      exact t2 k (by omega)
    · have f2s : f2' s = f2 s := by rw [a3, pk_un (by omega)]
      have es : eS' (s + 1) = eS (s + 1) := by rw [b3, pk_un (by omega), pk_un z]
      have r2 := h2 s
      obtain ⟨d1, d2⟩ := c3 s hs
      refine ⟨by rw [f2s, es]; exact d1, fun k hk => ?_⟩
      rw [f2s] at hk
      have lt : l.toInt ≤ 300 := hl3
      rw [t1] at lt
      rw [a1.2 (300 * s + k) (by omega), b5.2 (300 * (s + 1) + k) (by omega), b4.2 (300 * (s + 1) + k) (by omega)]
      exact d2 k hk
/-- one step back -/
def F_tbC (r gn gn' lG lG' l l' : Int32) (f1 f2 f f' : Nat → Int32) : Prop := (r.toInt = 1 ∧ 1 ≤ lG.toInt ∧ lG'.toInt = lG.toInt - 1 ∧ gn'.toInt = (gn.toInt + 19) % 20 ∧ l'.toInt = (f2 gn'.toNatClampNeg).toInt ∧ ∀ j : Nat, (j : Int) < l'.toInt → f' j = f1 (300 * gn'.toNatClampNeg + j)) ∨ (r.toInt = 0 ∧ lG.toInt = 0 ∧ gn' = gn ∧ lG' = lG ∧ l' = l ∧ f' = f)
def F_tbR (r zp zp' zf : Int32) (eS eS' eX eX' : Nat → Int32) : Prop := (1 ≤ zp.toInt ∧ zp'.toInt = zp.toInt - 1 ∧ r.toInt = zp'.toInt ∧ ∃ t : Nat, (t : Int) = 1 + (zf.toInt + zp'.toInt) % 20 ∧ eS' = upd eS 0 (eS t) ∧ CPB 0 (eS t).toInt eX eX' (fun k => eX (300 * t + k))) ∨ (zp.toInt = 0 ∧ r.toInt = -1 ∧ zp' = zp ∧ eS' = eS ∧ eX' = eX)
theorem back_rel {r q gn gn' lG lG' l l' zp zp' zf : Int32} {f1 f2 f f' eS eS' eX eX' : Nat → Int32} (hC : CHR gn lG zp zf f1 f2 eS eX) (h : F_tbC r gn gn' lG lG' l l' f1 f2 f f') (hr : ¬ r.toInt = 0) (h' : F_tbR q zp zp' zf eS eS' eX eX') (hg : 0 ≤ gn.toInt ∧ gn.toInt ≤ 19) (hz : 0 ≤ zp.toInt ∧ zp.toInt ≤ 20) (hzf : 0 ≤ zf.toInt ∧ zf.toInt ≤ 19) (h2 : rg 0 300 f2) : q.toInt = lG'.toInt ∧ TXR l' f' eS' eX' ∧ CHR gn' lG' zp' zf f1 f2 eS' eX' := by
  obtain ⟨c1, c2, c3⟩ := hC
  rcases h with ⟨a1, a2, a3, a4, a5, a6⟩ | ⟨a1, _⟩
  · rcases h' with ⟨b1, b2, b3, t, b4, b5, b6⟩ | ⟨b1, _⟩
    · have tg : (t : Int) = gn'.toInt + 1 := by omega
      have kg : gn'.toNatClampNeg = t - 1 := ix_eq (by omega)
      obtain ⟨d1, d2⟩ := c3 (t - 1) (by omega)
      have e1 : t - 1 + 1 = t := by omega
      rw [e1] at d1 d2
      rw [kg] at a5 a6
      have s0 : eS' 0 = eS t := by rw [b5, pk_us]
      have r2 := h2 (t - 1)
      refine ⟨by omega, ⟨v_inj (by rw [s0, ← d1]; exact a5), fun j hj => ?_⟩, by omega, by omega, fun s hs => ?_⟩
      · have w := b6.1 j (by rw [← d1]; omega)
        have e0 : (0 : Int).toNat + j = j := by omega
        rw [e0] at w
        rw [a6 j hj, w]
        exact d2 j (by omega)
      · obtain ⟨g1, g2⟩ := c3 s hs
        refine ⟨by rw [b5, pk_un (by omega)]; exact g1, fun k hk => ?_⟩
        rw [b6.2 (300 * (s + 1) + k) (by rw [← d1]; omega)]
        exact g2 k hk
    · omega
  · exact absurd a1 hr
theorem up0 {eS f : Nat → Int32} {t v x : Int32} (ef : f = upd eS t.toNatClampNeg v) (ht : 1 ≤ t.toInt) (ex : x = f (Int32.toNatClampNeg 0)) : x = eS 0 := by
  have c := v_clamp (x := t) (by omega)
  have e0 : Int32.toNatClampNeg 0 = 0 := rfl
  rw [ex, ef, e0]
  exact pk_un (by omega)
theorem CPB_b {b b' i n : Int} {e g src : Nat → Int32} (h : CPB b i e g src) (e1 : b = b') (e2 : i = n) : CPB b' n e g src := by rw [← e1, ← e2]; exact h
theorem bR_of {zp zp' zf zf' n t s0 : Int32} {eS fa eS' eX e1 eX' fr : Nat → Int32} {k k2 : Int32} (hc : (zp.toInt = 20 ∧ zp'.toInt = 20 ∧ zf'.toInt = (zf.toInt + 1) % 20) ∨ (¬ zp.toInt = 20 ∧ zp'.toInt = zp.toInt + 1 ∧ zf'.toInt = zf.toInt)) (ht : t.toInt = 1 + (zf'.toInt + zp'.toInt - 1) % 20) (h1 : 1 ≤ t.toInt) (es : s0 = eS (Int32.toNatClampNeg 0)) (ea : fa = upd eS t.toNatClampNeg s0) (eb : eS' = upd fa (Int32.toNatClampNeg 0) n) (hp : CPB (300 * t.toInt) k.toInt eX e1 eX) (hk : k.toInt = (eS 0).toInt) (hq : CPB 0 k2.toInt e1 eX' fr) (hk2 : k2.toInt = n.toInt) : F_bR zp zp' zf zf' n eS eS' eX eX' fr := by
  have c := v_clamp (x := t) (by omega)
  refine ⟨hc, t.toNatClampNeg, e1, by omega, ?_, CPB_b hp (by omega) hk, CPB_b hq rfl hk2⟩
  rw [eb, ea, es]; rfl
theorem tbR_of {r zp zp' zf t s0 : Int32} {eS eS' eX eX' : Nat → Int32} {k : Int32} (h1 : 1 ≤ zp.toInt) (h2 : zp'.toInt = zp.toInt - 1) (hr : r.toInt = zp'.toInt) (ht : t.toInt = 1 + (zf.toInt + zp'.toInt) % 20) (h0 : 0 ≤ t.toInt) (es : s0 = eS t.toNatClampNeg) (eb : eS' = upd eS (Int32.toNatClampNeg 0) s0) (hp : CPB 0 k.toInt eX eX' (fun j => eX (300 * t.toNatClampNeg + j))) (hk : k.toInt = s0.toInt) : F_tbR r zp zp' zf eS eS' eX eX' := by
  have c := v_clamp h0
  refine Or.inl ⟨h1, h2, hr, t.toNatClampNeg, by omega, by rw [eb, es]; rfl, CPB_b hp rfl (by rw [hk, es])⟩
theorem ub0 {eS f : Nat → Int32} {v x : Int32} (ef : f = upd eS (Int32.toNatClampNeg 0) v) (ex : x = f (Int32.toNatClampNeg 0)) : x = v := by rw [ex, ef, pk_us]
/-- a call that makes a new text of c letters fm and answers v where P holds of them, or leaves all as it is and answers no -/
def OC (no : Int) (r fsh fsh' gn gn' lG lG' l l' : Int32) (f1 f1' f2 f2' f f' : Nat → Int32) (P : Nat → (Nat → Int32) → Int → Prop) : Prop := (∃ (lm : Int32) (fm : Nat → Int32) (c : Nat), lm.toInt = c ∧ P c fm r.toInt ∧ F_bC gn gn' lG lG' l l' lm f1 f1' f2 f2' f f' fm ∧ fsh' = 0) ∨ (r.toInt = no ∧ (∀ c fm v, ¬ P c fm v) ∧ fsh' = fsh ∧ gn' = gn ∧ lG' = lG ∧ l' = l ∧ f1' = f1 ∧ f2' = f2 ∧ f' = f)
def OR (no : Int) (r zs zs' zp zp' zf zf' : Int32) (eS eS' eX eX' : Nat → Int32) (Q : Nat → (Nat → Int32) → Int → Prop) : Prop := (∃ (n : Int32) (fr : Nat → Int32) (c : Nat), n.toInt = c ∧ Q c fr r.toInt ∧ F_bR zp zp' zf zf' n eS eS' eX eX' fr ∧ zs'.toInt = zs.toInt + 1) ∨ (r.toInt = no ∧ (∀ c fr v, ¬ Q c fr v) ∧ zs' = zs ∧ zp' = zp ∧ zf' = zf ∧ eS' = eS ∧ eX' = eX)
/-- one text comes of it, of letters, of at most 300 -/
def okQ (Q : Nat → (Nat → Int32) → Int → Prop) : Prop := ∀ c fm v, Q c fm v → (c ≤ 300 ∧ ∀ i, i < c → isLz (fm i)) ∧ ∀ c' fm' v', Q c' fm' v' → c = c' ∧ v = v' ∧ ∀ i, i < c → fm i = fm' i
theorem chg_rel {no : Int} {r q fsh fsh' zs zs' gn gn' lG lG' l l' zp zp' zf zf' : Int32} {f1 f1' f2 f2' f f' eS eS' eX eX' : Nat → Int32} {P Q : Nat → (Nat → Int32) → Int → Prop} (hT : TXR l f eS eX) (hC : CHR gn lG zp zf f1 f2 eS eX) (h : OC no r fsh fsh' gn gn' lG lG' l l' f1 f1' f2 f2' f f' P) (h' : OR no q zs zs' zp zp' zf zf' eS eS' eX eX' Q) (hPQ : ∀ c fm v, P c fm v ↔ Q c fm v) (hQ : okQ Q) (hl0 : 0 ≤ l.toInt) (hl3 : l.toInt ≤ 300) (hg : 0 ≤ gn.toInt ∧ gn.toInt ≤ 19) (hz : 0 ≤ zp.toInt ∧ zp.toInt ≤ 20) (hzf : 0 ≤ zf.toInt ∧ zf.toInt ≤ 19) (h2 : rg 0 300 f2) : r = q ∧ TXR l' f' eS' eX' ∧ CHR gn' lG' zp' zf' f1' f2' eS' eX' ∧ ((fsh' = fsh ∧ zs' = zs) ∨ (fsh' = 0 ∧ zs'.toInt = zs.toInt + 1)) := by
  rcases h with ⟨lm, fm, c, a1, a2, a3, a4⟩ | ⟨a1, a2, a0, a3, a4, a5, a6, a7, a8⟩ <;> rcases h' with ⟨n, fr, c', b1, b2, b3, b4⟩ | ⟨b1, b2, b0, b3, b4, b5, b6⟩
  · have q1 := (hPQ _ _ _).mp a2
    obtain ⟨⟨z1, z2⟩, z3⟩ := hQ _ _ _ q1
    obtain ⟨e1, e2, e3⟩ := z3 _ _ _ b2
    have w := bec_rel hT hC a3 b3 (by omega) (fun j hj => ⟨e3 j (by omega), z2 j (by omega)⟩) (by omega) (by omega) hl0 hl3 hg hz hzf h2
    exact ⟨v_inj e2, w.1, w.2, Or.inr ⟨a4, b4⟩⟩
  · exact absurd ((hPQ _ _ _).mp a2) (b2 _ _ _)
  · exact absurd ((hPQ _ _ _).mpr b2) (a2 _ _ _)
  · refine ⟨v_inj (by omega), ?_⟩
    rw [a3, a4, a5, a6, a7, a8, b3, b4, b5, b6]
    exact ⟨hT, hC, Or.inl ⟨a0, b0⟩⟩
/-- harm (a, b) -/
def hmP (a b : Int32) (L4 L5 : Nat → Int32) (Bf : Int32 → Int32) (n : Int) (f : Nat → Int32) (c : Nat) (f' : Nat → Int32) (v : Int) : Prop := okd a ∧ okd b ∧ v = c ∧ HM a b L4 L5 Bf n.toNat f c f'
def F_pz (r l : Int32) (f' : Nat → Int32) (a b : Int32) (L4 L5 : Nat → Int32) (Bf : Int32 → Int32) (n : Int) (f : Nat → Int32) : Prop := (okd a ∧ okd b ∧ F_ps r l f' a b L4 L5 Bf n f) ∨ (r = 0 ∧ ¬ (okd a ∧ okd b))
theorem pz_1 {r l a b : Int32} {f f' L4 L5 : Nat → Int32} {Bf : Int32 → Int32} {n : Int} (h : F_pz r l f' a b L4 L5 Bf n f) (h0 : ¬ r.toInt = 0) : ∃ c : Nat, l.toInt = c ∧ ∀ v : Int, v = l.toInt → hmP a b L4 L5 Bf n f c f' v := by
  rcases h with ⟨a1, a2, a3⟩ | ⟨e, _⟩
  · obtain ⟨c, c1, c2⟩ := ps_1 a3 h0
    exact ⟨c, c1, fun v hv => ⟨a1, a2, by omega, c2⟩⟩
  · exact absurd (by rw [e]; rfl) h0
theorem pz_0 {r l a b : Int32} {f f' L4 L5 : Nat → Int32} {Bf : Int32 → Int32} {n : Int} (h : F_pz r l f' a b L4 L5 Bf n f) (h0 : r.toInt = 0) : ∀ c fm v, ¬ hmP a b L4 L5 Bf n f c fm v := by
  rintro c fm v ⟨b1, b2, _, b4⟩
  rcases h with ⟨_, _, ⟨e, _⟩ | ⟨_, a3⟩⟩ | ⟨_, a2⟩
  · rw [e] at h0; exact absurd h0 (by decide)
  · exact a3 _ _ b4
  · exact a2 ⟨b1, b2⟩
theorem OC_y {no : Int} {r fsh fsh' gn gn' lG lG' l l' lm : Int32} {f1 f1' f2 f2' f f' fm : Nat → Int32} {P : Nat → (Nat → Int32) → Int → Prop} (hp : ∃ c : Nat, lm.toInt = c ∧ P c fm r.toInt) (hb : F_bC gn gn' lG lG' l l' lm f1 f1' f2 f2' f f' fm) (hf : fsh' = 0) : OC no r fsh fsh' gn gn' lG lG' l l' f1 f1' f2 f2' f f' P := hp.elim (fun c hc => Or.inl ⟨lm, fm, c, hc.1, hc.2, hb, hf⟩)
theorem OC_n {no : Int} {r fsh gn lG l : Int32} {f1 f2 f : Nat → Int32} {P : Nat → (Nat → Int32) → Int → Prop} (hr : r.toInt = no) (hp : ∀ c fm v, ¬ P c fm v) : OC no r fsh fsh gn gn lG lG l l f1 f1 f2 f2 f f P := Or.inr ⟨hr, hp, rfl, rfl, rfl, rfl, rfl, rfl, rfl⟩
theorem OR_y {no : Int} {r zs zs' zp zp' zf zf' n : Int32} {eS eS' eX eX' fr : Nat → Int32} {Q : Nat → (Nat → Int32) → Int → Prop} (hp : ∃ c : Nat, n.toInt = c ∧ Q c fr r.toInt) (hb : F_bR zp zp' zf zf' n eS eS' eX eX' fr) (hz : zs'.toInt = zs.toInt + 1) : OR no r zs zs' zp zp' zf zf' eS eS' eX eX' Q := hp.elim (fun c hc => Or.inl ⟨n, fr, c, hc.1, hc.2, hb, hz⟩)
theorem OR_n {no : Int} {r zs zp zf : Int32} {eS eX : Nat → Int32} {Q : Nat → (Nat → Int32) → Int → Prop} (hr : r.toInt = no) (hp : ∀ c fm v, ¬ Q c fm v) : OR no r zs zs zp zp zf zf eS eS eX eX Q := Or.inr ⟨hr, hp, rfl, rfl, rfl, rfl, rfl⟩
/-- letters of told codes are letters -/
def LZ (eL : Nat → Int32) : Prop := ∀ k, eL k = -1 ∨ isLz (eL k)
theorem al_lz {cd v : Int32} {eL : Nat → Int32} (hz : LZ eL) (h0 : 0 ≤ v.toInt) (h1 : v.toInt ≤ 255) (hn : ¬ alF cd v (fun k => eL k) (fun k => eL (256 + k)) = -1) : isLz (alF cd v (fun k => eL k) (fun k => eL (256 + k))) := by
  have lv : isLz v := ⟨h0, by omega, by omega⟩
  unfold alF at hn ⊢
  split
  · rename_i z
    rw [if_pos z] at hn
    split
    · exact lv
    · rename_i y
      rw [if_neg y] at hn; exact absurd rfl hn
  · rename_i z
    rw [if_neg z] at hn
    split
    · exact lv
    · rename_i z1
      rw [if_neg z1] at hn
      split
      · rename_i z3
        rw [if_pos z3] at hn
        split
        · exact lv
        · rename_i y
          rw [if_neg y] at hn; exact absurd rfl hn
      · rename_i z3
        rw [if_neg z3] at hn
        split
        · rename_i z4
          rw [if_pos z4] at hn
          exact (hz _).resolve_left hn
        · rename_i z4
          rw [if_neg z4] at hn
          split
          · rename_i z5
            rw [if_pos z5] at hn
            exact (hz _).resolve_left hn
          · rename_i z5
            rw [if_neg z5] at hn; exact absurd rfl hn
theorem dx_lz {cd : Int32} {eL g : Nat → Int32} {n : Int} {p : Nat} (hz : LZ eL) (hb : prg n 0 255 g) (h : ¬ dl cd (fun k => eL k) (fun k => eL (256 + k)) g n p = 0) : isLz (dx cd (fun k => eL k) (fun k => eL (256 + k)) g n p) := by
  obtain ⟨h0, ⟨a1, a2, a3⟩ | ⟨a1, a2⟩ | ⟨a1, a2⟩⟩ := dl_ex h
  · have r := hb p h0
    rw [← a2] at a3 ⊢
    exact al_lz hz r.1 r.2 a3
  · unfold DMa DM at a2
    unfold isLz
    omega
  · unfold DNa DN at a2
    unfold isLz
    omega
theorem HM_lz {a b : Int32} {eL : Nat → Int32} {Bf : Int32 → Int32} {n c : Nat} {f f' : Nat → Int32} (hz : LZ eL) (hf : prg n 0 65535 f) (hB : okB Bf) (h : HM a b (fun k => eL k) (fun k => eL (256 + k)) Bf n f c f') : c ≤ 300 ∧ ∀ i, i < c → isLz (f' i) := by
  obtain ⟨m, g, a1, a2, a3, a4, a5⟩ := h
  refine ⟨a4, fun i hi => ?_⟩
  rw [a5 i hi]
  exact dx_lz hz (WR_b a1 hf hB) (a3.2 i hi)
theorem hm_ok {a b : Int32} {eL : Nat → Int32} {Bf : Int32 → Int32} {n : Int} {f : Nat → Int32} (hz : LZ eL) (hf : prg n 0 65535 f) (h0 : 0 ≤ n) (hB : okB Bf) : okQ (hmP a b (fun k => eL k) (fun k => eL (256 + k)) Bf n f) := by
  have hf2 : prg n.toNat 0 65535 f := fun j hj => hf j (by omega)
  rintro c fm v ⟨_, _, a3, a4⟩
  refine ⟨HM_lz hz hf2 hB a4, ?_⟩
  rintro c' fm' v' ⟨_, _, b3, b4⟩
  obtain ⟨e1, e2⟩ := HM_u hf2 hB a4 b4
  exact ⟨e1, by omega, e2⟩
theorem hm_iff {a b l4 l5 : Int32} {f41 f42 f43 f51 f52 f53 eL eB eD f e : Nat → Int32} {n n' : Int} (R4 : TR 0 l4 f41 f42 f43 eL eB eD) (R5 : TR 1 l5 f51 f52 f53 eL eB eD) (en : n = n') (hfe : ∀ j : Nat, (j : Int) < n → f j = e j) (hf : prg n 0 65535 f) (h0 : 0 ≤ n) (gB : rg (-1) 255 eB) : ∀ c fm v, hmP a b f41 f51 (Bc a f42 f43 f52 f53) n f c fm v ↔ hmP a b (fun k => eL k) (fun k => eL (256 + k)) (Br a eB) n' e c fm v := by
  subst en
  have hf2 : prg n.toNat 0 65535 f := fun j hj => hf j (by omega)
  have he2 : prg n.toNat 0 65535 e := fun j hj => by rw [← hfe j (by omega)]; exact hf j (by omega)
  have oc : okB (Bc a f42 f43 f52 f53) := by
    intro x h1 h2
    unfold Bc
    split
    · rw [TR_bf R4 h1 h2]; exact gB _
    · rw [TR_bf R5 h1 h2]; exact gB _
  intro c fm v
  constructor
  · rintro ⟨a1, a2, a3, a4⟩
    exact ⟨a1, a2, a3, HM_t hf2 oc (fun j hj => hfe j (by omega)) (TR_L4 R4) (TR_L5 R5) (fun x h1 h2 => enc_eq R4 R5 h1 h2) a4⟩
  · rintro ⟨a1, a2, a3, a4⟩
    exact ⟨a1, a2, a3, HM_t he2 (okB_r gB) (fun j hj => (hfe j (by omega)).symm) (fun k hk => (TR_L4 R4 k hk).symm) (fun k hk => (TR_L5 R5 k hk).symm) (fun x h1 h2 => (enc_eq R4 R5 h1 h2).symm) a4⟩
theorem ps_n {r l a b : Int32} {f f' L4 L5 : Nat → Int32} {Bf : Int32 → Int32} {n n' : Int} (h : F_ps r l f' a b L4 L5 Bf n f) (e : n = n') : F_ps r l f' a b L4 L5 Bf n' f := by rw [← e]; exact h
theorem ps_g {r l a b : Int32} {f f' e L4 L5 : Nat → Int32} {Bf : Int32 → Int32} {n : Int} (h : F_ps r l f' a b L4 L5 Bf n f) (he : ∀ j : Nat, (j : Int) < n → f j = e j) : F_ps r l f' a b L4 L5 Bf n e := by
  rcases h with ⟨a1, c, a2, a3⟩ | ⟨a1, a2⟩
  · exact Or.inl ⟨a1, c, a2, HM_g a3 (fun i hi => he i (by omega))⟩
  · exact Or.inr ⟨a1, fun c f2 hh => a2 c f2 (HM_g hh (fun i hi => (he i (by omega)).symm))⟩
theorem cpE_n {k n : Int} {g e : Nat → Int32} (h : cpE k g e) (hn : n ≤ k) : ∀ j : Nat, (j : Int) < n → g j = e j := fun j hj => h j (by omega)
def F_tt (zk : Int32) (eW eS eX : Nat → Int32) : Prop := zk = eS 0 ∧ ∀ j : Nat, (j : Int) < zk.toInt → eW j = eX j
/-! a text through two codes roughly: what can't be read becomes a mark -/
def D1 (D : Nat → Nat) (p : Nat) : Nat := if D p = 0 then 1 else D p
def X1 (D : Nat → Nat) (X : Nat → Int32) (p : Nat) : Int32 := if D p = 0 then 65533 else X p
def mkC (D : Nat → Nat) : Nat → Int
  | 0 => 0
  | c + 1 => mkC D c + (if D (psn (D1 D) c) = 0 then 1 else 0)
theorem D1_gd {D : Nat → Nat} {c : Nat} : gdD (D1 D) c := by
  intro i _
  unfold D1
  split <;> omega
theorem mkC_r {D : Nat → Nat} : ∀ c : Nat, 0 ≤ mkC D c ∧ mkC D c ≤ c
  | 0 => ⟨Int.le_refl 0, Int.le_refl 0⟩
  | c + 1 => by
    have := mkC_r (D := D) c
    rw [mkC]
    split <;> omega
def RG (a b : Int32) (L4 L5 : Nat → Int32) (Bf : Int32 → Int32) (n : Nat) (f : Nat → Int32) (c : Nat) (f' : Nat → Int32) (v : Int) : Prop := ∃ (m : Int32) (g : Nat → Int32), WR (fun j => enc a (f j) (Bf (f j))) n m g ∧ m.toInt ≤ 900 ∧ (psn (D1 (dl b L4 L5 g m.toInt)) c : Int) = m.toInt ∧ c ≤ 300 ∧ (∀ i, i < c → f' i = X1 (dl b L4 L5 g m.toInt) (dx b L4 L5 g m.toInt) (psn (D1 (dl b L4 L5 g m.toInt)) i)) ∧ v = mkC (dl b L4 L5 g m.toInt) c
theorem rg_rd {D : Nat → Nat} {n : Int} {c : Nat} (h : (psn (D1 D) c : Int) = n) : rdOk (D1 D) n c := ⟨h, D1_gd⟩
/-- reading roughly, after c letters -/
def RQ (p l mk : Int32) (f : Nat → Int32) (D : Nat → Nat) (X : Nat → Int32) : Prop := ∃ c : Nat, p.toInt = psn (D1 D) c ∧ l.toInt = c ∧ mk.toInt = mkC D c ∧ ∀ i : Nat, i < c → f i = X1 D X (psn (D1 D) i)
theorem RQ_0 {p l mk : Int32} {f : Nat → Int32} {D : Nat → Nat} {X : Nat → Int32} (hp : p.toInt = 0) (hl : l.toInt = 0) (hm : mk.toInt = 0) : RQ p l mk f D X := ⟨0, by rw [hp]; rfl, by rw [hl]; rfl, by rw [hm]; rfl, fun i hi => absurd hi (Nat.not_lt_zero i)⟩
theorem RQ_s {p p' l l' mk mk' v : Int32} {f f' : Nat → Int32} {D : Nat → Nat} {X : Nat → Int32} (h : RQ p l mk f D X) (e1 : l'.toInt = l.toInt + 1) (e2 : f' = upd f l.toNatClampNeg v) (hc : (D p.toNatClampNeg = 0 ∧ v = 65533 ∧ mk'.toInt = mk.toInt + 1 ∧ p'.toInt = p.toInt + 1) ∨ (¬ D p.toNatClampNeg = 0 ∧ v = X p.toNatClampNeg ∧ mk'.toInt = mk.toInt ∧ p'.toInt = p.toInt + D p.toNatClampNeg)) : RQ p' l' mk' f' D X := by
  obtain ⟨c, a1, a2, a3, a4⟩ := h
  have ep : p.toNatClampNeg = psn (D1 D) c := ix_eq a1
  have el : l.toNatClampNeg = c := ix_eq a2
  rw [ep] at hc
  have vx : v = X1 D X (psn (D1 D) c) := by
    unfold X1
    rcases hc with ⟨z, q, _⟩ | ⟨z, q, _⟩
    · rw [if_pos z]; exact q
    · rw [if_neg z]; exact q
  refine ⟨c + 1, ?_, by omega, ?_, fun i hi => ?_⟩
  · rw [psn]
    rcases hc with ⟨z, _, _, q⟩ | ⟨z, _, _, q⟩
    · have : D1 D (psn (D1 D) c) = 1 := if_pos z
      omega
    · have : D1 D (psn (D1 D) c) = D (psn (D1 D) c) := if_neg z
      omega
  · rw [mkC]
    rcases hc with ⟨z, _, q, _⟩ | ⟨z, _, q, _⟩
    · rw [if_pos z]; omega
    · rw [if_neg z]; omega
  · rw [e2, el]
    by_cases z : i = c
    · rw [z, pk_us]; exact vx
    · rw [pk_un z]; exact a4 i (by omega)
theorem RG_u {a b : Int32} {L4 L5 : Nat → Int32} {Bf : Int32 → Int32} {n c c' : Nat} {f f1 f2 : Nat → Int32} {v v' : Int} (hf : prg n 0 65535 f) (hB : okB Bf) (h : RG a b L4 L5 Bf n f c f1 v) (h' : RG a b L4 L5 Bf n f c' f2 v') : c = c' ∧ v = v' ∧ ∀ i, i < c → f1 i = f2 i := by
  obtain ⟨m, g, a1, a2, a3, a4, a5, a6⟩ := h
  obtain ⟨m', g', b1, b2, b3, b4, b5, b6⟩ := h'
  obtain ⟨e1, e2⟩ := WR_eq a1 b1
  subst e1
  have hb := WR_b a1 hf hB
  have e3 : dl b L4 L5 g m.toInt = dl b L4 L5 g' m.toInt := dl_congr e2 (fun _ _ => rfl) (fun _ _ => rfl) hb
  have e4 : dx b L4 L5 g m.toInt = dx b L4 L5 g' m.toInt := dx_congr e2 (fun _ _ => rfl) (fun _ _ => rfl) hb
  rw [← e3] at b3 b5 b6
  rw [← e4] at b5
  have ec := rd_uniq (rg_rd a3) (rg_rd b3)
  subst ec
  exact ⟨rfl, by rw [a6, b6], fun i hi => by rw [a5 i hi, b5 i hi]⟩
theorem RG_t {a b : Int32} {L4 L5 M4 M5 : Nat → Int32} {Bf Cf : Int32 → Int32} {n c : Nat} {f e f' : Nat → Int32} {v : Int} (hf : prg n 0 65535 f) (hB : okB Bf) (hfe : ∀ j, j < n → f j = e j) (h4 : ∀ k, k < 256 → L4 k = M4 k) (h5 : ∀ k, k < 256 → L5 k = M5 k) (hE : ∀ x : Int32, 0 ≤ x.toInt → x.toInt ≤ 65535 → enc a x (Bf x) = enc a x (Cf x)) (h : RG a b L4 L5 Bf n f c f' v) : RG a b M4 M5 Cf n e c f' v := by
  obtain ⟨m, g, a1, a2, a3, a4, a5, a6⟩ := h
  have hb := WR_b a1 hf hB
  have e3 : dl b L4 L5 g m.toInt = dl b M4 M5 g m.toInt := dl_congr (fun _ _ => rfl) h4 h5 hb
  have e4 : dx b L4 L5 g m.toInt = dx b M4 M5 g m.toInt := dx_congr (fun _ _ => rfl) h4 h5 hb
  rw [e3] at a3 a5 a6
  rw [e4] at a5
  refine ⟨m, g, WR_congr a1 (fun j hj => ?_), a2, a3, a4, a5, a6⟩
  show enc a (f j) (Bf (f j)) = enc a (e j) (Cf (e j))
  rw [hE _ (hf j (by omega)).1 (hf j (by omega)).2, hfe j hj]
def rgP (a b : Int32) (L4 L5 : Nat → Int32) (Bf : Int32 → Int32) (n : Int) (f : Nat → Int32) (c : Nat) (f' : Nat → Int32) (v : Int) : Prop := okd a ∧ okd b ∧ RG a b L4 L5 Bf n.toNat f c f' v
/-- what passRoughly answers -/
def F_pr (r l : Int32) (f' : Nat → Int32) (a b : Int32) (L4 L5 : Nat → Int32) (Bf : Int32 → Int32) (n : Int) (f : Nat → Int32) : Prop := (0 ≤ r.toInt ∧ ∃ c : Nat, l.toInt = c ∧ RG a b L4 L5 Bf n.toNat f c f' r.toInt) ∨ (r = -1 ∧ ∀ c fm v, ¬ RG a b L4 L5 Bf n.toNat f c fm v)
theorem rg_w0 {r1 ft m a b : Int32} {g f L4 L5 : Nat → Int32} {Bf : Int32 → Int32} {n : Int} (hw : F_wr r1 ft m g (fun j => enc a (f j) (Bf (f j))) n) (h1 : r1.toInt = 0) : ∀ c fm v, ¬ RG a b L4 L5 Bf n.toNat f c fm v := by
  rcases hw with ⟨e, _⟩ | ⟨_, i, i1, i2, i3, i4⟩
  · rw [e] at h1; exact absurd h1 (by decide)
  · rintro c fm v ⟨m', g', b1, _⟩
    exact (b1.2 i (by omega)).1 i3
theorem rg_no {m a b : Int32} {g f L4 L5 : Nat → Int32} {Bf : Int32 → Int32} {n : Int} (hw : WR (fun j => enc a (f j) (Bf (f j))) n.toNat m g) (hb : prg m.toInt 0 255 g) (h : m.toInt ≤ 900 → ∀ c, (psn (D1 (dl b L4 L5 g m.toInt)) c : Int) = m.toInt → 300 < c) : ∀ c fm v, ¬ RG a b L4 L5 Bf n.toNat f c fm v := by
  rintro c f2 v ⟨m', g', b1, b2, b3, b4, _⟩
  obtain ⟨e1, e2⟩ := WR_eq hw b1
  subst e1
  have e3 : dl b L4 L5 g m.toInt = dl b L4 L5 g' m.toInt := dl_congr e2 (fun _ _ => rfl) (fun _ _ => rfl) hb
  rw [← e3] at b3
  have := h b2 c b3
  omega
theorem rg_yes {m a b p l mk : Int32} {g f f' L4 L5 : Nat → Int32} {Bf : Int32 → Int32} {n : Int} (hw : WR (fun j => enc a (f j) (Bf (f j))) n.toNat m g) (h9 : m.toInt ≤ 900) (h : RQ p l mk f' (dl b L4 L5 g m.toInt) (dx b L4 L5 g m.toInt)) (hp : p.toInt = m.toInt) (hl : l.toInt ≤ 300) : ∃ c : Nat, l.toInt = c ∧ RG a b L4 L5 Bf n.toNat f c f' mk.toInt := by
  obtain ⟨c, a1, a2, a3, a4⟩ := h
  exact ⟨c, a2, m, g, hw, h9, by omega, by omega, a4, a3⟩
theorem RQ_mk {p l mk : Int32} {f : Nat → Int32} {D : Nat → Nat} {X : Nat → Int32} (h : RQ p l mk f D X) : 0 ≤ mk.toInt ∧ mk.toInt ≤ l.toInt := by
  obtain ⟨c, a1, a2, a3, a4⟩ := h
  have := mkC_r (D := D) c
  omega
/-- 300 letters and bytes left: more than 300 letters in all -/
theorem RQ_full {p l mk : Int32} {f : Nat → Int32} {D : Nat → Nat} {X : Nat → Int32} {n : Int} (h : RQ p l mk f D X) (hl : 300 ≤ l.toInt) (hp : p.toInt < n) : ∀ c, (psn (D1 D) c : Int) = n → 300 < c := by
  obtain ⟨c0, a1, a2, a3, a4⟩ := h
  intro c hc
  rcases Nat.lt_trichotomy c0 c with z | z | z
  · omega
  · rw [← z] at hc; omega
  · have := psn_lt (i := c) (D1_gd (D := D) (c := c0)) c0 z (Nat.le_refl _)
    omega
theorem RQ_end {p l mk : Int32} {f : Nat → Int32} {D : Nat → Nat} {X : Nat → Int32} {n : Int} (h : RQ p l mk f D X) (hl : 300 < l.toInt) (hp : p.toInt = n) : ∀ c, (psn (D1 D) c : Int) = n → 300 < c := by
  obtain ⟨c0, a1, a2, a3, a4⟩ := h
  intro c hc
  have e := rd_uniq (rg_rd hc) (rg_rd (show (psn (D1 D) c0 : Int) = n by omega))
  omega
theorem RG_lz {a b : Int32} {eL : Nat → Int32} {Bf : Int32 → Int32} {n c : Nat} {f f' : Nat → Int32} {v : Int} (hz : LZ eL) (hf : prg n 0 65535 f) (hB : okB Bf) (h : RG a b (fun k => eL k) (fun k => eL (256 + k)) Bf n f c f' v) : c ≤ 300 ∧ ∀ i, i < c → isLz (f' i) := by
  obtain ⟨m, g, a1, a2, a3, a4, a5, a6⟩ := h
  refine ⟨a4, fun i hi => ?_⟩
  rw [a5 i hi]
  unfold X1
  split
  · unfold isLz
    decide
  · rename_i z
    exact dx_lz hz (WR_b a1 hf hB) z
theorem rg_ok {a b : Int32} {eL : Nat → Int32} {Bf : Int32 → Int32} {n : Int} {f : Nat → Int32} (hz : LZ eL) (hf : prg n 0 65535 f) (h0 : 0 ≤ n) (hB : okB Bf) : okQ (rgP a b (fun k => eL k) (fun k => eL (256 + k)) Bf n f) := by
  have hf2 : prg n.toNat 0 65535 f := fun j hj => hf j (by omega)
  rintro c fm v ⟨_, _, a4⟩
  refine ⟨RG_lz hz hf2 hB a4, ?_⟩
  rintro c' fm' v' ⟨_, _, b4⟩
  exact RG_u hf2 hB a4 b4
theorem okB_c {a l4 l5 : Int32} {f41 f42 f43 f51 f52 f53 eL eB eD : Nat → Int32} (R4 : TR 0 l4 f41 f42 f43 eL eB eD) (R5 : TR 1 l5 f51 f52 f53 eL eB eD) (gB : rg (-1) 255 eB) : okB (Bc a f42 f43 f52 f53) := by
  intro x h1 h2
  unfold Bc
  split
  · rw [TR_bf R4 h1 h2]; exact gB _
  · rw [TR_bf R5 h1 h2]; exact gB _
theorem rg_iff {a b l4 l5 : Int32} {f41 f42 f43 f51 f52 f53 eL eB eD f e : Nat → Int32} {n n' : Int} (R4 : TR 0 l4 f41 f42 f43 eL eB eD) (R5 : TR 1 l5 f51 f52 f53 eL eB eD) (en : n = n') (hfe : ∀ j : Nat, (j : Int) < n → f j = e j) (hf : prg n 0 65535 f) (h0 : 0 ≤ n) (gB : rg (-1) 255 eB) : ∀ c fm v, rgP a b f41 f51 (Bc a f42 f43 f52 f53) n f c fm v ↔ rgP a b (fun k => eL k) (fun k => eL (256 + k)) (Br a eB) n' e c fm v := by
  subst en
  have hf2 : prg n.toNat 0 65535 f := fun j hj => hf j (by omega)
  have he2 : prg n.toNat 0 65535 e := fun j hj => by rw [← hfe j (by omega)]; exact hf j (by omega)
  intro c fm v
  constructor
  · rintro ⟨a1, a2, a4⟩
    exact ⟨a1, a2, RG_t hf2 (okB_c R4 R5 gB) (fun j hj => hfe j (by omega)) (TR_L4 R4) (TR_L5 R5) (fun x h1 h2 => enc_eq R4 R5 h1 h2) a4⟩
  · rintro ⟨a1, a2, a4⟩
    exact ⟨a1, a2, RG_t he2 (okB_r gB) (fun j hj => (hfe j (by omega)).symm) (fun k hk => (TR_L4 R4 k hk).symm) (fun k hk => (TR_L5 R5 k hk).symm) (fun x h1 h2 => (enc_eq R4 R5 h1 h2).symm) a4⟩
/-! told codes of the reference: letters and bytes tell each other; letters are letters -/
def LB (t : Nat) (eL eB : Nat → Int32) : Prop := ∀ (v : Nat) (x : Int32), v < 256 → 0 ≤ x.toInt → x.toInt ≤ 65535 → (eL (256 * t + v) = x ↔ (eB (65536 * t + x.toNatClampNeg)).toInt = v)
theorem LBr_of {eL eB : Nat → Int32} (h0 : LB 0 eL eB) (h1 : LB 1 eL eB) : LBr eL eB := by
  intro cd
  refine ⟨fun e v x hv x0 x1 => ?_, fun e v x hv x0 x1 => ?_⟩
  · have q := h0 v x hv x0 x1
    have e1 : (cd.toInt - 4).toNat = 0 := by omega
    have e2 : 256 * 0 + v = v := by omega
    unfold Br
    rw [e1]
    rw [e2] at q
    exact q
  · have q := h1 v x hv x0 x1
    have e1 : (cd.toInt - 4).toNat = 1 := by omega
    unfold Br
    rw [e1]
    exact q
theorem LB_span {t' : Nat} {q cd fr n le sp : Int32} {eL gL eB gB eD gD : Nat → Int32} (ht' : t' ≤ 1) (h : LB t' eL eB) (hR : F_spanR q cd fr n le sp eL gL eB gB eD gD) : LB t' gL gB := by
  rcases hR with ⟨t, d1, d2, d3, d4, d5, d6⟩ | ⟨d1, d2, d3, d4, d5⟩
  · obtain ⟨p1, p2, p3, p4⟩ := d4
    have bs := d3.1
    intro v x hv x0 x1
    have hx := v_clamp x0
    by_cases et : t' = t
    · subst et
      have out : (∀ j : Int32, 0 ≤ j.toInt → j.toInt < n.toInt → ¬ x = le + j * sp) → gB (65536 * t' + x.toNatClampNeg) = eB (65536 * t' + x.toNatClampNeg) := by
        intro z
        refine p4 _ (fun j j0 j1 e => z j j0 j1 ?_)
        have cj := (d3.2 j j0 j1).1
        have := v_clamp cj.1
        exact v_inj (by omega)
      have old := h v x hv x0 x1
      by_cases z : fr.toInt ≤ v ∧ (v : Int) < fr.toInt + n.toInt
      · have ej : (Int32.ofNat (v - fr.toInt.toNat)).toInt = ((v - fr.toInt.toNat : Nat) : Int) := v_nat (by omega)
        have ek : (fr.toInt + (Int32.ofNat (v - fr.toInt.toNat)).toInt).toNat = v := by omega
        have u1 := p1 (Int32.ofNat (v - fr.toInt.toNat)) (by omega) (by omega)
        have u2 := p3 (Int32.ofNat (v - fr.toInt.toNat)) (by omega) (by omega)
        have u3 := (d3.2 (Int32.ofNat (v - fr.toInt.toNat)) (by omega) (by omega)).2.1
        rw [ek] at u1 u3
        have fv := v_add (x := fr + Int32.ofNat (v - fr.toInt.toNat)) rfl (by omega) (by omega)
        constructor
        · intro e
          rw [u1] at e
          rw [← e, u2]
          omega
        · intro e
          by_cases w : ∃ j : Int32, 0 ≤ j.toInt ∧ j.toInt < n.toInt ∧ x = le + j * sp
          · obtain ⟨j, j0, j1, j2⟩ := w
            have u4 := p3 j j0 j1
            rw [← j2] at u4
            rw [u4] at e
            have fj := v_add (x := fr + j) rfl (by omega) (by omega)
            have ee : Int32.ofNat (v - fr.toInt.toNat) = j := v_inj (by omega)
            rw [u1, ee]; exact j2.symm
          · rw [out (fun j j0 j1 e => w ⟨j, j0, j1, e⟩)] at e
            have e2 := old.mpr e
            unfold pL at u3
            rw [u3] at e2
            exact absurd e2.symm (v_nn x0)
      · have u1 := p2 (256 * t' + v) (by omega)
        rw [u1]
        constructor
        · intro e
          have e2 := old.mp e
          rw [out (fun j j0 j1 e3 => ?_)]
          · exact e2
          · have u3 := (d3.2 j j0 j1).2.2
            unfold pB at u3
            rw [← e3] at u3
            rw [u3] at e2
            have m1 : (-1 : Int32).toInt = -1 := rfl
            omega
        · intro e
          by_cases w : ∃ j : Int32, 0 ≤ j.toInt ∧ j.toInt < n.toInt ∧ x = le + j * sp
          · obtain ⟨j, j0, j1, j2⟩ := w
            have u4 := p3 j j0 j1
            rw [← j2] at u4
            rw [u4] at e
            have fj := v_add (x := fr + j) rfl (by omega) (by omega)
            omega
          · rw [out (fun j j0 j1 e => w ⟨j, j0, j1, e⟩)] at e
            exact old.mpr e
    · have u1 := p2 (256 * t' + v) (by omega)
      have u2 := p4 (65536 * t' + x.toNatClampNeg) (fun j j0 j1 e => by
        have cj := (d3.2 j j0 j1).1
        have z1 := v_clamp cj.1
        have z2 := cj.2.1
        omega)
      rw [u1, u2]
      exact h v x hv x0 x1
  · rw [d2, d3]; exact h
theorem LZ_span {q cd fr n le sp : Int32} {eL gL eB gB eD gD : Nat → Int32} (h : LZ eL) (hR : F_spanR q cd fr n le sp eL gL eB gB eD gD) : LZ gL := by
  rcases hR with ⟨t, d1, d2, d3, d4, d5, d6⟩ | ⟨d1, d2, d3, d4, d5⟩
  · obtain ⟨p1, p2, p3, p4⟩ := d4
    have bs := d3.1
    intro k
    by_cases z : 256 * t + fr.toInt ≤ k ∧ (k : Int) < 256 * t + fr.toInt + n.toInt
    · have ej : (Int32.ofNat (k - 256 * t - fr.toInt.toNat)).toInt = ((k - 256 * t - fr.toInt.toNat : Nat) : Int) := v_nat (by omega)
      have u1 := p1 (Int32.ofNat (k - 256 * t - fr.toInt.toNat)) (by omega) (by omega)
      have ek : 256 * t + (fr.toInt + (Int32.ofNat (k - 256 * t - fr.toInt.toNat)).toInt).toNat = k := by omega
      rw [ek] at u1
      rw [u1]
      exact Or.inr (d3.2 _ (by omega) (by omega)).1
    · rw [p2 k (by omega)]; exact h k
  · rw [d2]; exact h
theorem LB_blank {t' : Nat} {cd : Int32} {eL gL eB gB eD gD : Nat → Int32} (ht' : t' ≤ 1) (h : LB t' eL eB) (hR : F_blankR cd eL gL eB gB eD gD) : LB t' gL gB := by
  rcases hR with ⟨t, d1, d2, d3, d4, d5⟩ | ⟨d1, d2, d3, d4, d5⟩
  · intro v x hv x0 x1
    have hx := v_clamp x0
    by_cases et : t' = t
    · subst et
      rw [d3.1 (256 * t' + v) (by omega) (by omega), d4.1 (65536 * t' + x.toNatClampNeg) (by omega) (by omega)]
      have m1 : (-1 : Int32).toInt = -1 := rfl
      constructor
      · exact fun e => absurd e.symm (v_nn x0)
      · exact fun e => by omega
    · rw [d3.2 (256 * t' + v) (by omega), d4.2 (65536 * t' + x.toNatClampNeg) (by omega)]
      exact h v x hv x0 x1
  · rw [d3, d4]; exact h
theorem LZ_blank {cd : Int32} {eL gL eB gB eD gD : Nat → Int32} (h : LZ eL) (hR : F_blankR cd eL gL eB gB eD gD) : LZ gL := by
  rcases hR with ⟨t, d1, d2, d3, d4, d5⟩ | ⟨d1, d2, d3, d4, d5⟩
  · intro k
    by_cases z : 256 * (t : Int) ≤ k ∧ (k : Int) < 256 * t + 256
    · exact Or.inl (d3.1 k z.1 z.2)
    · rw [d3.2 k (by omega)]; exact h k
  · rw [d3]; exact h

end

/-! 57.text -/
section
theorem F_addAll_l {cap : Nat} {l l' lo r : Int32} {f f' g : Nat → Int32} (h : F_addAll cap l l' lo r f f' g) (hl : l.toInt + lo.toInt ≤ cap) : l'.toInt = l.toInt + lo.toInt := by
  rcases h with h | h
  · exact h.2.1
  · have := h.1
    omega
theorem F_addAll_0 {cap : Nat} {l' lo r : Int32} {f f' g : Nat → Int32} (h : F_addAll cap 0 l' lo r f f' g) (hl : lo.toInt ≤ cap) : l'.toInt = lo.toInt := by
  have e : (0 : Int32).toInt = 0 := rfl
  have := F_addAll_l h (by omega)
  omega
def isLt (x : Int32) : Prop := 0 ≤ x.toInt ∧ x.toInt ≤ 65535 ∧ (x.toInt < 55296 ∨ 57343 < x.toInt)
def allLt (n : Int) (f : Nat → Int32) : Prop := ∀ j : Nat, (j : Int) < n → isLt (f j)
def F_allL (l r : Int32) (f : Nat → Int32) : Prop := (r = 1 ∧ allLt l.toInt f) ∨ (r = 0 ∧ ¬ allLt l.toInt f)
theorem allLt_0 {n : Int} {f : Nat → Int32} (h : n ≤ 0) : allLt n f := fun j hj => by omega
theorem allLt_s {k k' x : Int32} {f : Nat → Int32} (h : allLt k.toInt f) (ex : x = f k.toNatClampNeg) (hk : 0 ≤ k.toInt) (hk' : k'.toInt = k.toInt + 1) (hx : isLt x) : allLt k'.toInt f := by
  intro j hj
  have q := v_clamp hk
  by_cases z : j = k.toNatClampNeg
  · rw [z, ← ex]; exact hx
  · exact h j (by omega)
theorem allLt_no {n : Int} {k x : Int32} {f : Nat → Int32} (ex : x = f k.toNatClampNeg) (hk : 0 ≤ k.toInt) (hn : k.toInt < n) (hx : ¬ isLt x) : ¬ allLt n f := fun h => by
  have q := v_clamp hk
  exact hx (by rw [ex]; exact h _ (by omega))
/-- what text() answers, by the tape alone -/
def F_text (l r : Int32) (f : Nat → Int32) : Prop := (r.toInt = l.toInt ∧ l.toInt ≤ 300 ∧ allLt l.toInt f) ∨ (r.toInt = -1 ∧ (300 < l.toInt ∨ ¬ allLt l.toInt f))
def eqT (n : Int) (f g : Nat → Int32) : Prop := ∀ j : Nat, (j : Int) < n → f j = g j
theorem eqT_all {n : Int} {f g : Nat → Int32} (h : eqT n f g) (h2 : allLt n f) : allLt n g := fun j hj => by rw [← h j hj]; exact h2 j hj
theorem text_eq {l z r q : Int32} {f g : Nat → Int32} (hl : l.toInt = z.toInt) (he : eqT l.toInt f g) (h1 : F_text l r f) (h2 : F_text z q g) : r = q := by
  have e2 : ∀ j : Nat, (j : Int) < z.toInt → g j = f j := fun j hj => (he j (by omega)).symm
  rcases h1 with ⟨a1, a2, a3⟩ | ⟨a1, a2⟩ <;> rcases h2 with ⟨b1, b2, b3⟩ | ⟨b1, b2⟩
  · exact v_inj (by omega)
  · exfalso
    rcases b2 with w | w
    · omega
    · exact w (by rw [← hl]; exact eqT_all he a3)
  · exfalso
    rcases a2 with w | w
    · omega
    · exact w (by rw [hl]; exact eqT_all e2 b3)
  · exact v_inj (by omega)
/-- five more on the tape -/
def F_feed (l l' r v1 v2 v3 v4 v5 : Int32) (f f' : Nat → Int32) : Prop := (895 < l.toInt ∧ r.toInt = -1 ∧ l'.toInt = l.toInt ∧ f' = f) ∨ (l.toInt ≤ 895 ∧ r.toInt = l.toInt + 5 ∧ l'.toInt = l.toInt + 5 ∧ ∀ j : Nat, f' j = if (j : Int) = l.toInt then v1 else if (j : Int) = l.toInt + 1 then v2 else if (j : Int) = l.toInt + 2 then v3 else if (j : Int) = l.toInt + 3 then v4 else if (j : Int) = l.toInt + 4 then v5 else f j)
theorem feed5 {l k0 k1 k2 k3 k4 v1 v2 v3 v4 v5 : Int32} {f f1 f2 f3 f4 f5 : Nat → Int32} (h0 : 0 ≤ l.toInt) (e0 : k0.toInt = l.toInt) (e1 : k1.toInt = l.toInt + 1) (e2 : k2.toInt = l.toInt + 2) (e3 : k3.toInt = l.toInt + 3) (e4 : k4.toInt = l.toInt + 4) (g1 : f1 = upd f k0.toNatClampNeg v1) (g2 : f2 = upd f1 k1.toNatClampNeg v2) (g3 : f3 = upd f2 k2.toNatClampNeg v3) (g4 : f4 = upd f3 k3.toNatClampNeg v4) (g5 : f5 = upd f4 k4.toNatClampNeg v5) (j : Nat) : f5 j = if (j : Int) = l.toInt then v1 else if (j : Int) = l.toInt + 1 then v2 else if (j : Int) = l.toInt + 2 then v3 else if (j : Int) = l.toInt + 3 then v4 else if (j : Int) = l.toInt + 4 then v5 else f j := by
  have c0 := v_clamp (x := k0) (by omega)
  have c1 := v_clamp (x := k1) (by omega)
  have c2 := v_clamp (x := k2) (by omega)
  have c3 := v_clamp (x := k3) (by omega)
  have c4 := v_clamp (x := k4) (by omega)
  rw [g5, g4, g3, g2, g1]
  unfold upd
  by_cases z0 : (j : Int) = l.toInt
  · rw [if_neg (by omega), if_neg (by omega), if_neg (by omega), if_neg (by omega), if_pos (by omega), if_pos z0]
  · by_cases z1 : (j : Int) = l.toInt + 1
    · rw [if_neg (by omega), if_neg (by omega), if_neg (by omega), if_pos (by omega), if_neg z0, if_pos z1]
    · by_cases z2 : (j : Int) = l.toInt + 2
      · rw [if_neg (by omega), if_neg (by omega), if_pos (by omega), if_neg z0, if_neg z1, if_pos z2]
      · by_cases z3 : (j : Int) = l.toInt + 3
        · rw [if_neg (by omega), if_pos (by omega), if_neg z0, if_neg z1, if_neg z2, if_pos z3]
        · by_cases z4 : (j : Int) = l.toInt + 4
          · rw [if_pos (by omega), if_neg z0, if_neg z1, if_neg z2, if_neg z3, if_pos z4]
          · rw [if_neg (by omega), if_neg (by omega), if_neg (by omega), if_neg (by omega), if_neg (by omega), if_neg z0, if_neg z1, if_neg z2, if_neg z3, if_neg z4]
theorem feed_eq {l l' r z z' q v1 v2 v3 v4 v5 : Int32} {f f' g g' : Nat → Int32} (hl : l.toInt = z.toInt) (he : eqT l.toInt f g) (h1 : F_feed l l' r v1 v2 v3 v4 v5 f f') (h2 : F_feed z z' q v1 v2 v3 v4 v5 g g') : l'.toInt = z'.toInt ∧ eqT l'.toInt f' g' := by
  rcases h1 with ⟨a1, a2, a3, a4⟩ | ⟨a1, a2, a3, a4⟩ <;> rcases h2 with ⟨b1, b2, b3, b4⟩ | ⟨b1, b2, b3, b4⟩
  · refine ⟨by omega, ?_⟩
    rw [a3, a4, b4]; exact he
  · exfalso; omega
  · exfalso; omega
  · refine ⟨by omega, fun j hj => ?_⟩
    rw [a4 j, b4 j, hl]
    by_cases z0 : (j : Int) = z.toInt
    · rw [if_pos z0, if_pos z0]
    · rw [if_neg z0, if_neg z0]
      by_cases z1 : (j : Int) = z.toInt + 1
      · rw [if_pos z1, if_pos z1]
      · rw [if_neg z1, if_neg z1]
        by_cases z2 : (j : Int) = z.toInt + 2
        · rw [if_pos z2, if_pos z2]
        · rw [if_neg z2, if_neg z2]
          by_cases z3 : (j : Int) = z.toInt + 3
          · rw [if_pos z3, if_pos z3]
          · rw [if_neg z3, if_neg z3]
            by_cases z4 : (j : Int) = z.toInt + 4
            · rw [if_pos z4, if_pos z4]
            · rw [if_neg z4, if_neg z4]; exact he j (by omega)
theorem eqT_le {n n' : Int} {f g : Nat → Int32} (h : eqT n f g) (hn : n' ≤ n) : eqT n' f g := fun j hj => h j (by omega)

set_option maxHeartbeats 40000000 in
set_option maxRecDepth 100000 in
theorem f_X11_feed (l : Launch) (dC : Nat → ClassId) (dI : Nat → Nat → Nat) (cI cS : ClassId) (sz : Nat) (oX : Nat) (nT : Nat) (nL : Nat) (nM : Nat) (oC : Nat) (oP : Nat) (oH : Nat) (oK : Nat) (oG : Nat) (oR : Nat) (oQ : Nat) (oW : Nat) (aT : Nat) (fa : Int32) (lT : Int32) (fT : Nat → Int32) (v1 : Int32) (v2 : Int32) (v3 : Int32) (v4 : Int32) (v5 : Int32) (g_lT : 0 ≤ lT.toInt ∧ lT.toInt ≤ 900) : kMi l yX11_feed wsX11_feed ({ frames := 1, cells := 0, slots := 0, locals := 21 } : Room) [.ref oX, .int v1, .int v2, .int v3, .int v4, .int v5] sz (dC, dI) vwCl [(cI, .int), (cS, .short)] [(oX, .inr (11, [.ref nT, .ref nL, .ref nM, .ref oC, .ref oP, .ref oH, .ref oK, .ref oG, .ref oR, .ref oQ, .ref oW, .int fa])), (nT, .inr (5, [.ref aT, .int lT])), (aT, .inl (cI, 900, .inl fT))] (fun _ => True) 0 0 (fun (A : Nat → Prop) (r : Int32) (hh9 : Heap) => ∀ PZ9 : Prop, (∀ (lT' : Int32) (fT' : Nat → Int32), kPD (dC, dI) vwCl A [(oX, .inr (11, [.ref nT, .ref nL, .ref nM, .ref oC, .ref oP, .ref oH, .ref oK, .ref oG, .ref oR, .ref oQ, .ref oW, .int fa])), (nT, .inr (5, [.ref aT, .int lT'])), (aT, .inl (cI, 900, .inl fT'))] hh9 → (0 ≤ lT'.toInt ∧ lT'.toInt ≤ 900) → ((895 < lT.toInt ∧ r.toInt = -1 ∧ lT'.toInt = lT.toInt) ∨ (lT.toInt ≤ 895 ∧ r.toInt = lT.toInt + 5 ∧ lT'.toInt = lT.toInt + 5)) → (F_feed lT lT' r v1 v2 v3 v4 v5 fT fT') → PZ9) → PZ9) := by
  refine kMi_of (cc := cX11_feed) (maxL := 6) (ret := (some .int)) (lv := [(0, .ref oX), (1, .int v1), (2, .int v2), (3, .int v3), (4, .int v4), (5, .int v5)]) (by decide +kernel) rfl rfl (Nat.le_of_ble_eq_true rfl) ?_
  intro p e s m below meth c A QQ ls hx hb hr hts hml hown hlocks hA hQQ hK hX hP hD hS hl
  have hown : s.vm.findClass RX11 = some m.cls := hown
  have hcf := k_cf hx hb hml hown hts
  have in_X11 : ∀ w ∈ wsX110, w ∈ wsX11_feed := fun _ h => List.mem_cons_of_mem _ (List.mem_append_left _ (List.mem_append_left _ (List.mem_append_left _ (List.mem_append_right _ (h)))))
  refine lv_aload_n hx hb dX11_feed_0 rfl (lv_at hl 0 rfl) ?_
  refine va_get (D := (dC, dI)) (ci := 11) (v := .ref nT) (C := RX11) (T := TX11) (N := 12) hx hb hts in_X11 hown hK hP 0 rfl rfl 0 (Nat.le_of_ble_eq_true rfl) (hts (.fieldLink RX11 30 "TextMender" "tape" "LTextMender$Numbers;") (List.mem_of_getElem? (i := 1) rfl)) (fun _ h9 => h9) rfl dX11_feed_1 ?_
  refine kV_i (rest := []) (q0 := 0) (ci := 5) hcf (m_X5_length l dC dI cI cS s.heap.size nT aT lT ) kc_X5_length gX11_feed_X5_length rfl rfl rfl ⟨Nat.le_of_ble_eq_true rfl, Nat.le_of_ble_eq_true rfl⟩ kX_t hK hP hD hS hA [1] [0, 2] rfl (by decide +kernel) rfl rfl rfl hl rfl (Nat.le_of_ble_eq_true rfl) dX11_feed_4 ⟨Nat.le_of_ble_eq_true rfl, Nat.le_of_ble_eq_true rfl⟩ (fun r_1 H locs hB hJ hSn => ?_)
  refine hB _ (fun hPD9 hf1_0 => ?_)
  clear hB
  obtain ⟨hPn, hDn⟩ := hJ _ hPD9.1 hPD9.2 [(oX, .inr (11, [.ref nT, .ref nL, .ref nM, .ref oC, .ref oP, .ref oH, .ref oK, .ref oG, .ref oR, .ref oQ, .ref oW, .int fa])), (aT, .inl (cI, 900, .inl fT)), (nT, .inr (5, [.ref aT, .int lT]))] rfl
  clear hP hD hS hJ hPD9
  have hP := hPn
  have hD := hDn
  have hS := hSn
  clear hPn hDn hSn
  rw [hf1_0]
  refine lv_iconst (v := 5) hx hb dX11_feed_7 (by decide) ?_
  refine lv_iadd hx hb dX11_feed_8 ?_
  refine lv_topi (fun x_2 ex_2 => ?_)
  have tx_2 : x_2.toInt = lT.toInt + 5 := v_addR (l2 := 5) (h2 := 5) ex_2 g_lT (by decide) (by decide) (by decide)
  refine lv_sipush (v := 900) hx hb dX11_feed_9 (by decide) ?_
  refine lv_icmp_le (tgt := 17) hx hb dX11_feed_12 (by decide) (fun c_3 => ?_) (fun c_3 => ?_)
  · have tc_3 : x_2.toInt ≤ 900 := v_le c_3
    refine lv_aload_n hx hb dX11_feed_17 rfl (lv_at hl 0 rfl) ?_
    refine va_get (D := (dC, dI)) (ci := 11) (v := .ref nT) (C := RX11) (T := TX11) (N := 12) hx hb hts in_X11 hown hK hP 0 rfl rfl 0 (Nat.le_of_ble_eq_true rfl) (hts (.fieldLink RX11 30 "TextMender" "tape" "LTextMender$Numbers;") (List.mem_of_getElem? (i := 1) rfl)) (fun _ h9 => h9) rfl dX11_feed_18 ?_
    refine lv_iload_n hx hb dX11_feed_21 rfl (lv_at hl 1 rfl) ?_
    refine kV_i (rest := []) (q0 := 0) (ci := 5) hcf (m_X5_add l dC dI cI cS H.size nT aT 900 lT fT v1 (by omega) (by omega)) kc_X5_add gX11_feed_X5_add rfl rfl rfl ⟨Nat.le_of_ble_eq_true rfl, Nat.le_of_ble_eq_true rfl⟩ kX_t hK hP hD hS hA [2, 1] [0] rfl (by decide +kernel) rfl rfl rfl hl rfl (Nat.le_of_ble_eq_true rfl) dX11_feed_22 ⟨Nat.le_of_ble_eq_true rfl, Nat.le_of_ble_eq_true rfl⟩ (fun r_4 H locs hB hJ hSn => ?_)
    refine hB _ (fun lu_4 fu_4 hPD9 hf4_0 hf4_1 hf4_2 => ?_)
    clear hB
    obtain ⟨hPn, hDn⟩ := hJ _ hPD9.1 hPD9.2 [(oX, .inr (11, [.ref nT, .ref nL, .ref nM, .ref oC, .ref oP, .ref oH, .ref oK, .ref oG, .ref oR, .ref oQ, .ref oW, .int fa])), (nT, .inr (5, [.ref aT, .int lu_4])), (aT, .inl (cI, 900, .inl fu_4))] rfl
    clear hP hD hS hJ hPD9
    have hP := hPn
    have hD := hDn
    have hS := hSn
    clear hPn hDn hSn
    have ha4 : lu_4.toInt = lT.toInt + 1 := F_add_l hf4_2 (by omega)
    have hb4 := F_add_f hf4_2 (by omega)
    refine lv_pop hx hb dX11_feed_25 rfl ?_
    refine lv_aload_n hx hb dX11_feed_26 rfl (lv_at hl 0 rfl) ?_
    refine va_get (D := (dC, dI)) (ci := 11) (v := .ref nT) (C := RX11) (T := TX11) (N := 12) hx hb hts in_X11 hown hK hP 0 rfl rfl 0 (Nat.le_of_ble_eq_true rfl) (hts (.fieldLink RX11 30 "TextMender" "tape" "LTextMender$Numbers;") (List.mem_of_getElem? (i := 1) rfl)) (fun _ h9 => h9) rfl dX11_feed_27 ?_
    refine lv_iload_n hx hb dX11_feed_30 rfl (lv_at hl 2 rfl) ?_
    refine kV_i (rest := []) (q0 := 0) (ci := 5) hcf (m_X5_add l dC dI cI cS H.size nT aT 900 lu_4 fu_4 v2 (hf4_0) (by omega)) kc_X5_add gX11_feed_X5_add rfl rfl rfl ⟨Nat.le_of_ble_eq_true rfl, Nat.le_of_ble_eq_true rfl⟩ kX_t hK hP hD hS hA [1, 2] [0] rfl (by decide +kernel) rfl rfl rfl hl rfl (Nat.le_of_ble_eq_true rfl) dX11_feed_31 ⟨Nat.le_of_ble_eq_true rfl, Nat.le_of_ble_eq_true rfl⟩ (fun r_5 H locs hB hJ hSn => ?_)
    refine hB _ (fun lu_5 fu_5 hPD9 hf5_0 hf5_1 hf5_2 => ?_)
    clear hB
    obtain ⟨hPn, hDn⟩ := hJ _ hPD9.1 hPD9.2 [(oX, .inr (11, [.ref nT, .ref nL, .ref nM, .ref oC, .ref oP, .ref oH, .ref oK, .ref oG, .ref oR, .ref oQ, .ref oW, .int fa])), (nT, .inr (5, [.ref aT, .int lu_5])), (aT, .inl (cI, 900, .inl fu_5))] rfl
    clear hP hD hS hJ hPD9
    have hP := hPn
    have hD := hDn
    have hS := hSn
    clear hPn hDn hSn
    have ha5 : lu_5.toInt = lu_4.toInt + 1 := F_add_l hf5_2 (by omega)
    have hb5 := F_add_f hf5_2 (by omega)
    refine lv_pop hx hb dX11_feed_34 rfl ?_
    refine lv_aload_n hx hb dX11_feed_35 rfl (lv_at hl 0 rfl) ?_
    refine va_get (D := (dC, dI)) (ci := 11) (v := .ref nT) (C := RX11) (T := TX11) (N := 12) hx hb hts in_X11 hown hK hP 0 rfl rfl 0 (Nat.le_of_ble_eq_true rfl) (hts (.fieldLink RX11 30 "TextMender" "tape" "LTextMender$Numbers;") (List.mem_of_getElem? (i := 1) rfl)) (fun _ h9 => h9) rfl dX11_feed_36 ?_
    refine lv_iload_n hx hb dX11_feed_39 rfl (lv_at hl 3 rfl) ?_
    refine kV_i (rest := []) (q0 := 0) (ci := 5) hcf (m_X5_add l dC dI cI cS H.size nT aT 900 lu_5 fu_5 v3 (hf5_0) (by omega)) kc_X5_add gX11_feed_X5_add rfl rfl rfl ⟨Nat.le_of_ble_eq_true rfl, Nat.le_of_ble_eq_true rfl⟩ kX_t hK hP hD hS hA [1, 2] [0] rfl (by decide +kernel) rfl rfl rfl hl rfl (Nat.le_of_ble_eq_true rfl) dX11_feed_40 ⟨Nat.le_of_ble_eq_true rfl, Nat.le_of_ble_eq_true rfl⟩ (fun r_6 H locs hB hJ hSn => ?_)
    refine hB _ (fun lu_6 fu_6 hPD9 hf6_0 hf6_1 hf6_2 => ?_)
    clear hB
    obtain ⟨hPn, hDn⟩ := hJ _ hPD9.1 hPD9.2 [(oX, .inr (11, [.ref nT, .ref nL, .ref nM, .ref oC, .ref oP, .ref oH, .ref oK, .ref oG, .ref oR, .ref oQ, .ref oW, .int fa])), (nT, .inr (5, [.ref aT, .int lu_6])), (aT, .inl (cI, 900, .inl fu_6))] rfl
    clear hP hD hS hJ hPD9
    have hP := hPn
    have hD := hDn
    have hS := hSn
    clear hPn hDn hSn
    have ha6 : lu_6.toInt = lu_5.toInt + 1 := F_add_l hf6_2 (by omega)
    have hb6 := F_add_f hf6_2 (by omega)
    refine lv_pop hx hb dX11_feed_43 rfl ?_
    refine lv_aload_n hx hb dX11_feed_44 rfl (lv_at hl 0 rfl) ?_
    refine va_get (D := (dC, dI)) (ci := 11) (v := .ref nT) (C := RX11) (T := TX11) (N := 12) hx hb hts in_X11 hown hK hP 0 rfl rfl 0 (Nat.le_of_ble_eq_true rfl) (hts (.fieldLink RX11 30 "TextMender" "tape" "LTextMender$Numbers;") (List.mem_of_getElem? (i := 1) rfl)) (fun _ h9 => h9) rfl dX11_feed_45 ?_
    refine lv_iload hx hb dX11_feed_48 (lv_at hl 4 rfl) ?_
    refine kV_i (rest := []) (q0 := 0) (ci := 5) hcf (m_X5_add l dC dI cI cS H.size nT aT 900 lu_6 fu_6 v4 (hf6_0) (by omega)) kc_X5_add gX11_feed_X5_add rfl rfl rfl ⟨Nat.le_of_ble_eq_true rfl, Nat.le_of_ble_eq_true rfl⟩ kX_t hK hP hD hS hA [1, 2] [0] rfl (by decide +kernel) rfl rfl rfl hl rfl (Nat.le_of_ble_eq_true rfl) dX11_feed_50 ⟨Nat.le_of_ble_eq_true rfl, Nat.le_of_ble_eq_true rfl⟩ (fun r_7 H locs hB hJ hSn => ?_)
    refine hB _ (fun lu_7 fu_7 hPD9 hf7_0 hf7_1 hf7_2 => ?_)
    clear hB
    obtain ⟨hPn, hDn⟩ := hJ _ hPD9.1 hPD9.2 [(oX, .inr (11, [.ref nT, .ref nL, .ref nM, .ref oC, .ref oP, .ref oH, .ref oK, .ref oG, .ref oR, .ref oQ, .ref oW, .int fa])), (nT, .inr (5, [.ref aT, .int lu_7])), (aT, .inl (cI, 900, .inl fu_7))] rfl
    clear hP hD hS hJ hPD9
    have hP := hPn
    have hD := hDn
    have hS := hSn
    clear hPn hDn hSn
    have ha7 : lu_7.toInt = lu_6.toInt + 1 := F_add_l hf7_2 (by omega)
    have hb7 := F_add_f hf7_2 (by omega)
    refine lv_pop hx hb dX11_feed_53 rfl ?_
    refine lv_aload_n hx hb dX11_feed_54 rfl (lv_at hl 0 rfl) ?_
    refine va_get (D := (dC, dI)) (ci := 11) (v := .ref nT) (C := RX11) (T := TX11) (N := 12) hx hb hts in_X11 hown hK hP 0 rfl rfl 0 (Nat.le_of_ble_eq_true rfl) (hts (.fieldLink RX11 30 "TextMender" "tape" "LTextMender$Numbers;") (List.mem_of_getElem? (i := 1) rfl)) (fun _ h9 => h9) rfl dX11_feed_55 ?_
    refine lv_iload hx hb dX11_feed_58 (lv_at hl 5 rfl) ?_
    refine kV_i (rest := []) (q0 := 0) (ci := 5) hcf (m_X5_add l dC dI cI cS H.size nT aT 900 lu_7 fu_7 v5 (hf7_0) (by omega)) kc_X5_add gX11_feed_X5_add rfl rfl rfl ⟨Nat.le_of_ble_eq_true rfl, Nat.le_of_ble_eq_true rfl⟩ kX_t hK hP hD hS hA [1, 2] [0] rfl (by decide +kernel) rfl rfl rfl hl rfl (Nat.le_of_ble_eq_true rfl) dX11_feed_60 ⟨Nat.le_of_ble_eq_true rfl, Nat.le_of_ble_eq_true rfl⟩ (fun r_8 H locs hB hJ hSn => ?_)
    refine hB _ (fun lu_8 fu_8 hPD9 hf8_0 hf8_1 hf8_2 => ?_)
    clear hB
    obtain ⟨hPn, hDn⟩ := hJ _ hPD9.1 hPD9.2 [(oX, .inr (11, [.ref nT, .ref nL, .ref nM, .ref oC, .ref oP, .ref oH, .ref oK, .ref oG, .ref oR, .ref oQ, .ref oW, .int fa])), (nT, .inr (5, [.ref aT, .int lu_8])), (aT, .inl (cI, 900, .inl fu_8))] rfl
    clear hP hD hS hJ hPD9
    have hP := hPn
    have hD := hDn
    have hS := hSn
    clear hPn hDn hSn
    have ha8 : lu_8.toInt = lu_7.toInt + 1 := F_add_l hf8_2 (by omega)
    have hb8 := F_add_f hf8_2 (by omega)
    refine lv_pop hx hb dX11_feed_63 rfl ?_
    refine lv_aload_n hx hb dX11_feed_64 rfl (lv_at hl 0 rfl) ?_
    refine va_get (D := (dC, dI)) (ci := 11) (v := .ref nT) (C := RX11) (T := TX11) (N := 12) hx hb hts in_X11 hown hK hP 0 rfl rfl 0 (Nat.le_of_ble_eq_true rfl) (hts (.fieldLink RX11 30 "TextMender" "tape" "LTextMender$Numbers;") (List.mem_of_getElem? (i := 1) rfl)) (fun _ h9 => h9) rfl dX11_feed_65 ?_
    refine kV_i (rest := []) (q0 := 0) (ci := 5) hcf (m_X5_length l dC dI cI cS H.size nT aT lu_8 ) kc_X5_length gX11_feed_X5_length rfl rfl rfl ⟨Nat.le_of_ble_eq_true rfl, Nat.le_of_ble_eq_true rfl⟩ kX_t hK hP hD hS hA [1] [0, 2] rfl (by decide +kernel) rfl rfl rfl hl rfl (Nat.le_of_ble_eq_true rfl) dX11_feed_68 ⟨Nat.le_of_ble_eq_true rfl, Nat.le_of_ble_eq_true rfl⟩ (fun r_9 H locs hB hJ hSn => ?_)
    refine hB _ (fun hPD9 hf9_0 => ?_)
    clear hB
    obtain ⟨hPn, hDn⟩ := hJ _ hPD9.1 hPD9.2 [(oX, .inr (11, [.ref nT, .ref nL, .ref nM, .ref oC, .ref oP, .ref oH, .ref oK, .ref oG, .ref oR, .ref oQ, .ref oW, .int fa])), (aT, .inl (cI, 900, .inl fu_8)), (nT, .inr (5, [.ref aT, .int lu_8]))] rfl
    clear hP hD hS hJ hPD9
    have hP := hPn
    have hD := hDn
    have hS := hSn
    clear hPn hDn hSn
    rw [hf9_0]
    exact kl_i (v := lu_8) hQQ hx hb hr hlocks hS dX11_feed_71 (fun PZ9 kZ9 => kZ9 lu_8 fu_8 (kPD_sub hP hD [0, 2, 1] (by decide +kernel) rfl) (by omega) (by show (895 < lT.toInt ∧ lu_8.toInt = -1 ∧ lu_8.toInt = lT.toInt) ∨ (lT.toInt ≤ 895 ∧ lu_8.toInt = lT.toInt + 5 ∧ lu_8.toInt = lT.toInt + 5); omega) (Or.inr ⟨by omega, by omega, by omega, feed5 (by omega) (k0 := lT) rfl (by omega) (by omega) (by omega) (by omega) hb4 hb5 hb6 hb7 hb8⟩))
  · have tc_3 : 900 < x_2.toInt := v_nle c_3
    refine lv_iconst (v := (-1)) hx hb dX11_feed_15 (by decide) ?_
    exact kl_i (v := (-1)) hQQ hx hb hr hlocks hS dX11_feed_16 (fun PZ9 kZ9 => kZ9 lT fT (kPD_sub hP hD [0, 2, 1] (by decide +kernel) rfl) (g_lT) (by show (895 < lT.toInt ∧ (-1) = -1 ∧ lT.toInt = lT.toInt) ∨ (lT.toInt ≤ 895 ∧ (-1) = lT.toInt + 5 ∧ lT.toInt = lT.toInt + 5); omega) (Or.inl ⟨by omega, by decide, rfl, rfl⟩))

set_option maxHeartbeats 40000000 in
set_option maxRecDepth 100000 in
theorem f_X12_feed (l : Launch) (dC : Nat → ClassId) (dI : Nat → Nat → Nat) (cI cS : ClassId) (sz : Nat) (oM : Nat) (mT : Nat) (mS : Nat) (mX : Nat) (mL : Nat) (mB : Nat) (mD : Nat) (m1 : Nat) (m2 : Nat) (mR : Nat) (x1 : Nat) (x2 : Nat) (x3 : Nat) (mH : Nat) (mY : Nat) (mE : Nat) (mW : Nat) (mO : Nat) (y1 : Nat) (y2 : Nat) (y3 : Nat) (y4 : Nat) (mZ : Nat) (zt : Int32) (zp : Int32) (zf : Int32) (zh : Int32) (zr : Int32) (zc : Int32) (zy : Int32) (za : Int32) (zb : Int32) (zs : Int32) (zq : Int32) (zw : Int32) (ze : Int32) (zn : Int32) (zm : Int32) (zl : Int32) (zk : Int32) (zd : Int32) (eT : Nat → Int32) (v1 : Int32) (v2 : Int32) (v3 : Int32) (v4 : Int32) (v5 : Int32) (g_zt : 0 ≤ zt.toInt ∧ zt.toInt ≤ 900) (g_zp : 0 ≤ zp.toInt ∧ zp.toInt ≤ 20) (g_zf : 0 ≤ zf.toInt ∧ zf.toInt ≤ 19) (g_zh : 0 ≤ zh.toInt ∧ zh.toInt ≤ 6) (g_zr : 0 ≤ zr.toInt ∧ zr.toInt ≤ 258) (g_zc : 0 ≤ zc.toInt ∧ zc.toInt ≤ 300) (g_zy : 0 ≤ zy.toInt ∧ zy.toInt ≤ 65536) (g_za : 0 ≤ za.toInt ∧ za.toInt ≤ 5) (g_zb : 0 ≤ zb.toInt ∧ zb.toInt ≤ 5) (g_zs : 0 ≤ zs.toInt ∧ zs.toInt ≤ 2000000) (g_zq : -1 ≤ zq.toInt ∧ zq.toInt ≤ 2000000) (g_zn : 0 ≤ zn.toInt ∧ zn.toInt ≤ 2600) (g_zm : 0 ≤ zm.toInt ∧ zm.toInt ≤ 2600) (g_zk : 0 ≤ zk.toInt ∧ zk.toInt ≤ 300) (hzs : zs.toInt ≤ 1000000) : kMi l yX12_feed wsX12_feed ({ frames := 0, cells := 0, slots := 0, locals := 0 } : Room) [.ref oM, .int v1, .int v2, .int v3, .int v4, .int v5] sz (dC, dI) vwCl [(cI, .int), (cS, .short)] [(oM, .inr (12, [.ref mT, .int zt, .ref mS, .ref mX, .int zp, .int zf, .ref mL, .ref mB, .ref mD, .ref m1, .ref m2, .int zh, .ref mR, .int zr, .ref x1, .ref x2, .ref x3, .int zc, .ref mH, .int zy, .int za, .int zb, .int zs, .int zq, .int zw, .int ze, .ref mY, .int zn, .ref mE, .int zm, .int zl, .ref mW, .int zk, .ref mO, .int zd, .ref y1, .ref y2, .ref y3, .ref y4, .ref mZ])), (mT, .inl (cI, 900, .inl eT))] (fun _ => True) 0 0 (fun (A : Nat → Prop) (r : Int32) (hh9 : Heap) => ∀ PZ9 : Prop, (∀ (ze' : Int32) (zt' : Int32) (eT' : Nat → Int32), kPD (dC, dI) vwCl A [(oM, .inr (12, [.ref mT, .int zt', .ref mS, .ref mX, .int zp, .int zf, .ref mL, .ref mB, .ref mD, .ref m1, .ref m2, .int zh, .ref mR, .int zr, .ref x1, .ref x2, .ref x3, .int zc, .ref mH, .int zy, .int za, .int zb, .int zs, .int zq, .int zw, .int ze', .ref mY, .int zn, .ref mE, .int zm, .int zl, .ref mW, .int zk, .ref mO, .int zd, .ref y1, .ref y2, .ref y3, .ref y4, .ref mZ])), (mT, .inl (cI, 900, .inl eT'))] hh9 → (0 ≤ zt'.toInt ∧ zt'.toInt ≤ 900) → ((895 < zt.toInt ∧ r.toInt = -1 ∧ zt'.toInt = zt.toInt) ∨ (zt.toInt ≤ 895 ∧ r.toInt = zt.toInt + 5 ∧ zt'.toInt = zt.toInt + 5)) → (F_feed zt zt' r v1 v2 v3 v4 v5 eT eT') → PZ9) → PZ9) := by
  refine kMi_of (cc := cX12_feed) (maxL := 6) (ret := (some .int)) (lv := [(0, .ref oM), (1, .int v1), (2, .int v2), (3, .int v3), (4, .int v4), (5, .int v5)]) (by decide +kernel) rfl rfl (Nat.le_of_ble_eq_true rfl) ?_
  intro p e s m below meth c A QQ ls hx hb hr hts hml hown hlocks hA hQQ hK hX hP hD hS hl
  have hown : s.vm.findClass RX12 = some m.cls := hown
  have hcf := k_cf hx hb hml hown hts
  have in_X12 : ∀ w ∈ wsX120, w ∈ wsX12_feed := fun _ h => List.mem_cons_of_mem _ (List.mem_append_right _ (h))
  replace g_zp := hid g_zp
  replace g_zf := hid g_zf
  replace g_zh := hid g_zh
  replace g_zr := hid g_zr
  replace g_zc := hid g_zc
  replace g_zy := hid g_zy
  replace g_za := hid g_za
  replace g_zb := hid g_zb
  replace g_zs := hid g_zs
  replace g_zq := hid g_zq
  replace g_zn := hid g_zn
  replace g_zm := hid g_zm
  replace g_zk := hid g_zk
  refine lv_aload_n hx hb dX12_feed_0 rfl (lv_at hl 0 rfl) ?_
  refine lv_iconst (v := 0) hx hb dX12_feed_1 (by decide) ?_
  refine va_put (D := (dC, dI)) (ci := 12) (v := .int 0) (ty := .int) (C := RX12) (T := TX12) (N := 40) hx hb hts in_X12 tyX12 tyX12_ok nmX12 hown hK hP hD hS 0 rfl rfl 25 (Nat.le_of_ble_eq_true rfl) (hts (.fieldLink RX12 85 "TextMenderModel" "thrown" "I") (List.mem_of_getElem? (i := 1) rfl)) (fun _ h9 => h9) rfl (tyX12_ok 25 (Nat.le_of_ble_eq_true rfl)) rfl rfl (Nat.le_of_ble_eq_true rfl) dX12_feed_2 (kW (wn := [(oM, .inr (12, [.ref mT, .int zt, .ref mS, .ref mX, .int zp, .int zf, .ref mL, .ref mB, .ref mD, .ref m1, .ref m2, .int zh, .ref mR, .int zr, .ref x1, .ref x2, .ref x3, .int zc, .ref mH, .int zy, .int za, .int zb, .int zs, .int zq, .int zw, .int 0, .ref mY, .int zn, .ref mE, .int zm, .int zl, .ref mW, .int zk, .ref mO, .int zd, .ref y1, .ref y2, .ref y3, .ref y4, .ref mZ])), (mT, .inl (cI, 900, .inl eT))]) rfl (fun H locs hPn hDn hSn => ?_))
  clear hP hD hS
  have hP := hPn
  have hD := hDn
  have hS := hSn
  clear hPn hDn hSn
  refine lv_aload_n hx hb dX12_feed_5 rfl (lv_at hl 0 rfl) ?_
  refine va_get (D := (dC, dI)) (ci := 12) (v := .int zt) (C := RX12) (T := TX12) (N := 40) hx hb hts in_X12 hown hK hP 0 rfl rfl 1 (Nat.le_of_ble_eq_true rfl) (hts (.fieldLink RX12 151 "TextMenderModel" "taped" "I") (List.mem_of_getElem? (i := 2) rfl)) (fun _ h9 => h9) rfl dX12_feed_6 ?_
  refine lv_iconst (v := 5) hx hb dX12_feed_9 (by decide) ?_
  refine lv_iadd hx hb dX12_feed_10 ?_
  refine lv_topi (fun x_1 ex_1 => ?_)
  have tx_1 : x_1.toInt = zt.toInt + 5 := v_addR (l2 := 5) (h2 := 5) ex_1 g_zt (by decide) (by decide) (by decide)
  refine lv_sipush (v := 900) hx hb dX12_feed_11 (by decide) ?_
  refine lv_icmp_le (tgt := 19) hx hb dX12_feed_14 (by decide) (fun c_2 => ?_) (fun c_2 => ?_)
  · have tc_2 : x_1.toInt ≤ 900 := v_le c_2
    refine lv_aload_n hx hb dX12_feed_19 rfl (lv_at hl 0 rfl) ?_
    refine va_get (D := (dC, dI)) (ci := 12) (v := .ref mT) (C := RX12) (T := TX12) (N := 40) hx hb hts in_X12 hown hK hP 0 rfl rfl 0 (Nat.le_of_ble_eq_true rfl) (hts (.fieldLink RX12 9 "TextMenderModel" "tape" "[I") (List.mem_of_getElem? (i := 3) rfl)) (fun _ h9 => h9) rfl dX12_feed_20 ?_
    refine lv_aload_n hx hb dX12_feed_23 rfl (lv_at hl 0 rfl) ?_
    refine va_get (D := (dC, dI)) (ci := 12) (v := .int zt) (C := RX12) (T := TX12) (N := 40) hx hb hts in_X12 hown hK hP 0 rfl rfl 1 (Nat.le_of_ble_eq_true rfl) (hts (.fieldLink RX12 151 "TextMenderModel" "taped" "I") (List.mem_of_getElem? (i := 2) rfl)) (fun _ h9 => h9) rfl dX12_feed_24 ?_
    refine lv_iload_n hx hb dX12_feed_27 rfl (lv_at hl 1 rfl) ?_
    obtain ⟨f_3, ef_3⟩ : ∃ g : Nat → Int32, g = upd eT (zt : Int32).toNatClampNeg v1 := ⟨_, rfl⟩
    refine va_iast hx hb hK hP hD hS 1 0 rfl rfl (v_in (by omega)) dX12_feed_28 (kWf (g := f_3) (F := fun f_3 => [(oM, .inr (12, [.ref mT, .int zt, .ref mS, .ref mX, .int zp, .int zf, .ref mL, .ref mB, .ref mD, .ref m1, .ref m2, .int zh, .ref mR, .int zr, .ref x1, .ref x2, .ref x3, .int zc, .ref mH, .int zy, .int za, .int zb, .int zs, .int zq, .int zw, .int 0, .ref mY, .int zn, .ref mE, .int zm, .int zl, .ref mW, .int zk, .ref mO, .int zd, .ref y1, .ref y2, .ref y3, .ref y4, .ref mZ])), (mT, .inl (cI, 900, .inl f_3))]) ef_3 rfl (fun H locs hPn hDn hSn => ?_))
    clear hP hD hS
    have hP := hPn
    have hD := hDn
    have hS := hSn
    clear hPn hDn hSn
    refine lv_aload_n hx hb dX12_feed_29 rfl (lv_at hl 0 rfl) ?_
    refine va_get (D := (dC, dI)) (ci := 12) (v := .ref mT) (C := RX12) (T := TX12) (N := 40) hx hb hts in_X12 hown hK hP 0 rfl rfl 0 (Nat.le_of_ble_eq_true rfl) (hts (.fieldLink RX12 9 "TextMenderModel" "tape" "[I") (List.mem_of_getElem? (i := 3) rfl)) (fun _ h9 => h9) rfl dX12_feed_30 ?_
    refine lv_aload_n hx hb dX12_feed_33 rfl (lv_at hl 0 rfl) ?_
    refine va_get (D := (dC, dI)) (ci := 12) (v := .int zt) (C := RX12) (T := TX12) (N := 40) hx hb hts in_X12 hown hK hP 0 rfl rfl 1 (Nat.le_of_ble_eq_true rfl) (hts (.fieldLink RX12 151 "TextMenderModel" "taped" "I") (List.mem_of_getElem? (i := 2) rfl)) (fun _ h9 => h9) rfl dX12_feed_34 ?_
    refine lv_iconst (v := 1) hx hb dX12_feed_37 (by decide) ?_
    refine lv_iadd hx hb dX12_feed_38 ?_
    refine lv_topi (fun x_4 ex_4 => ?_)
    have tx_4 : x_4.toInt = zt.toInt + 1 := v_addR (l2 := 1) (h2 := 1) ex_4 g_zt (by decide) (by decide) (by decide)
    refine lv_iload_n hx hb dX12_feed_39 rfl (lv_at hl 2 rfl) ?_
    obtain ⟨f_5, ef_5⟩ : ∃ g : Nat → Int32, g = upd f_3 (x_4 : Int32).toNatClampNeg v2 := ⟨_, rfl⟩
    refine va_iast hx hb hK hP hD hS 1 0 rfl rfl (v_in (by omega)) dX12_feed_40 (kWf (g := f_5) (F := fun f_5 => [(oM, .inr (12, [.ref mT, .int zt, .ref mS, .ref mX, .int zp, .int zf, .ref mL, .ref mB, .ref mD, .ref m1, .ref m2, .int zh, .ref mR, .int zr, .ref x1, .ref x2, .ref x3, .int zc, .ref mH, .int zy, .int za, .int zb, .int zs, .int zq, .int zw, .int 0, .ref mY, .int zn, .ref mE, .int zm, .int zl, .ref mW, .int zk, .ref mO, .int zd, .ref y1, .ref y2, .ref y3, .ref y4, .ref mZ])), (mT, .inl (cI, 900, .inl f_5))]) ef_5 rfl (fun H locs hPn hDn hSn => ?_))
    clear hP hD hS
    have hP := hPn
    have hD := hDn
    have hS := hSn
    clear hPn hDn hSn
    refine lv_aload_n hx hb dX12_feed_41 rfl (lv_at hl 0 rfl) ?_
    refine va_get (D := (dC, dI)) (ci := 12) (v := .ref mT) (C := RX12) (T := TX12) (N := 40) hx hb hts in_X12 hown hK hP 0 rfl rfl 0 (Nat.le_of_ble_eq_true rfl) (hts (.fieldLink RX12 9 "TextMenderModel" "tape" "[I") (List.mem_of_getElem? (i := 3) rfl)) (fun _ h9 => h9) rfl dX12_feed_42 ?_
    refine lv_aload_n hx hb dX12_feed_45 rfl (lv_at hl 0 rfl) ?_
    refine va_get (D := (dC, dI)) (ci := 12) (v := .int zt) (C := RX12) (T := TX12) (N := 40) hx hb hts in_X12 hown hK hP 0 rfl rfl 1 (Nat.le_of_ble_eq_true rfl) (hts (.fieldLink RX12 151 "TextMenderModel" "taped" "I") (List.mem_of_getElem? (i := 2) rfl)) (fun _ h9 => h9) rfl dX12_feed_46 ?_
    refine lv_iconst (v := 2) hx hb dX12_feed_49 (by decide) ?_
    refine lv_iadd hx hb dX12_feed_50 ?_
    refine lv_topi (fun x_6 ex_6 => ?_)
    have tx_6 : x_6.toInt = zt.toInt + 2 := v_addR (l2 := 2) (h2 := 2) ex_6 g_zt (by decide) (by decide) (by decide)
    refine lv_iload_n hx hb dX12_feed_51 rfl (lv_at hl 3 rfl) ?_
    obtain ⟨f_7, ef_7⟩ : ∃ g : Nat → Int32, g = upd f_5 (x_6 : Int32).toNatClampNeg v3 := ⟨_, rfl⟩
    refine va_iast hx hb hK hP hD hS 1 0 rfl rfl (v_in (by omega)) dX12_feed_52 (kWf (g := f_7) (F := fun f_7 => [(oM, .inr (12, [.ref mT, .int zt, .ref mS, .ref mX, .int zp, .int zf, .ref mL, .ref mB, .ref mD, .ref m1, .ref m2, .int zh, .ref mR, .int zr, .ref x1, .ref x2, .ref x3, .int zc, .ref mH, .int zy, .int za, .int zb, .int zs, .int zq, .int zw, .int 0, .ref mY, .int zn, .ref mE, .int zm, .int zl, .ref mW, .int zk, .ref mO, .int zd, .ref y1, .ref y2, .ref y3, .ref y4, .ref mZ])), (mT, .inl (cI, 900, .inl f_7))]) ef_7 rfl (fun H locs hPn hDn hSn => ?_))
    clear hP hD hS
    have hP := hPn
    have hD := hDn
    have hS := hSn
    clear hPn hDn hSn
    refine lv_aload_n hx hb dX12_feed_53 rfl (lv_at hl 0 rfl) ?_
    refine va_get (D := (dC, dI)) (ci := 12) (v := .ref mT) (C := RX12) (T := TX12) (N := 40) hx hb hts in_X12 hown hK hP 0 rfl rfl 0 (Nat.le_of_ble_eq_true rfl) (hts (.fieldLink RX12 9 "TextMenderModel" "tape" "[I") (List.mem_of_getElem? (i := 3) rfl)) (fun _ h9 => h9) rfl dX12_feed_54 ?_
    refine lv_aload_n hx hb dX12_feed_57 rfl (lv_at hl 0 rfl) ?_
    refine va_get (D := (dC, dI)) (ci := 12) (v := .int zt) (C := RX12) (T := TX12) (N := 40) hx hb hts in_X12 hown hK hP 0 rfl rfl 1 (Nat.le_of_ble_eq_true rfl) (hts (.fieldLink RX12 151 "TextMenderModel" "taped" "I") (List.mem_of_getElem? (i := 2) rfl)) (fun _ h9 => h9) rfl dX12_feed_58 ?_
    refine lv_iconst (v := 3) hx hb dX12_feed_61 (by decide) ?_
    refine lv_iadd hx hb dX12_feed_62 ?_
    refine lv_topi (fun x_8 ex_8 => ?_)
    have tx_8 : x_8.toInt = zt.toInt + 3 := v_addR (l2 := 3) (h2 := 3) ex_8 g_zt (by decide) (by decide) (by decide)
    refine lv_iload hx hb dX12_feed_63 (lv_at hl 4 rfl) ?_
    obtain ⟨f_9, ef_9⟩ : ∃ g : Nat → Int32, g = upd f_7 (x_8 : Int32).toNatClampNeg v4 := ⟨_, rfl⟩
    refine va_iast hx hb hK hP hD hS 1 0 rfl rfl (v_in (by omega)) dX12_feed_65 (kWf (g := f_9) (F := fun f_9 => [(oM, .inr (12, [.ref mT, .int zt, .ref mS, .ref mX, .int zp, .int zf, .ref mL, .ref mB, .ref mD, .ref m1, .ref m2, .int zh, .ref mR, .int zr, .ref x1, .ref x2, .ref x3, .int zc, .ref mH, .int zy, .int za, .int zb, .int zs, .int zq, .int zw, .int 0, .ref mY, .int zn, .ref mE, .int zm, .int zl, .ref mW, .int zk, .ref mO, .int zd, .ref y1, .ref y2, .ref y3, .ref y4, .ref mZ])), (mT, .inl (cI, 900, .inl f_9))]) ef_9 rfl (fun H locs hPn hDn hSn => ?_))
    clear hP hD hS
    have hP := hPn
    have hD := hDn
    have hS := hSn
    clear hPn hDn hSn
    refine lv_aload_n hx hb dX12_feed_66 rfl (lv_at hl 0 rfl) ?_
    refine va_get (D := (dC, dI)) (ci := 12) (v := .ref mT) (C := RX12) (T := TX12) (N := 40) hx hb hts in_X12 hown hK hP 0 rfl rfl 0 (Nat.le_of_ble_eq_true rfl) (hts (.fieldLink RX12 9 "TextMenderModel" "tape" "[I") (List.mem_of_getElem? (i := 3) rfl)) (fun _ h9 => h9) rfl dX12_feed_67 ?_
    refine lv_aload_n hx hb dX12_feed_70 rfl (lv_at hl 0 rfl) ?_
    refine va_get (D := (dC, dI)) (ci := 12) (v := .int zt) (C := RX12) (T := TX12) (N := 40) hx hb hts in_X12 hown hK hP 0 rfl rfl 1 (Nat.le_of_ble_eq_true rfl) (hts (.fieldLink RX12 151 "TextMenderModel" "taped" "I") (List.mem_of_getElem? (i := 2) rfl)) (fun _ h9 => h9) rfl dX12_feed_71 ?_
    refine lv_iconst (v := 4) hx hb dX12_feed_74 (by decide) ?_
    refine lv_iadd hx hb dX12_feed_75 ?_
    refine lv_topi (fun x_10 ex_10 => ?_)
    have tx_10 : x_10.toInt = zt.toInt + 4 := v_addR (l2 := 4) (h2 := 4) ex_10 g_zt (by decide) (by decide) (by decide)
    refine lv_iload hx hb dX12_feed_76 (lv_at hl 5 rfl) ?_
    obtain ⟨f_11, ef_11⟩ : ∃ g : Nat → Int32, g = upd f_9 (x_10 : Int32).toNatClampNeg v5 := ⟨_, rfl⟩
    refine va_iast hx hb hK hP hD hS 1 0 rfl rfl (v_in (by omega)) dX12_feed_78 (kWf (g := f_11) (F := fun f_11 => [(oM, .inr (12, [.ref mT, .int zt, .ref mS, .ref mX, .int zp, .int zf, .ref mL, .ref mB, .ref mD, .ref m1, .ref m2, .int zh, .ref mR, .int zr, .ref x1, .ref x2, .ref x3, .int zc, .ref mH, .int zy, .int za, .int zb, .int zs, .int zq, .int zw, .int 0, .ref mY, .int zn, .ref mE, .int zm, .int zl, .ref mW, .int zk, .ref mO, .int zd, .ref y1, .ref y2, .ref y3, .ref y4, .ref mZ])), (mT, .inl (cI, 900, .inl f_11))]) ef_11 rfl (fun H locs hPn hDn hSn => ?_))
    clear hP hD hS
    have hP := hPn
    have hD := hDn
    have hS := hSn
    clear hPn hDn hSn
    refine lv_aload_n hx hb dX12_feed_79 rfl (lv_at hl 0 rfl) ?_
    refine lv_dup hx hb dX12_feed_80 rfl ?_
    refine va_get (D := (dC, dI)) (ci := 12) (v := .int zt) (C := RX12) (T := TX12) (N := 40) hx hb hts in_X12 hown hK hP 0 rfl rfl 1 (Nat.le_of_ble_eq_true rfl) (hts (.fieldLink RX12 151 "TextMenderModel" "taped" "I") (List.mem_of_getElem? (i := 2) rfl)) (fun _ h9 => h9) rfl dX12_feed_81 ?_
    refine lv_iconst (v := 5) hx hb dX12_feed_84 (by decide) ?_
    refine lv_iadd hx hb dX12_feed_85 ?_
    refine lv_topi (fun x_12 ex_12 => ?_)
    have tx_12 : x_12.toInt = zt.toInt + 5 := v_addR (l2 := 5) (h2 := 5) ex_12 g_zt (by decide) (by decide) (by decide)
    refine va_put (D := (dC, dI)) (ci := 12) (v := .int x_12) (ty := .int) (C := RX12) (T := TX12) (N := 40) hx hb hts in_X12 tyX12 tyX12_ok nmX12 hown hK hP hD hS 0 rfl rfl 1 (Nat.le_of_ble_eq_true rfl) (hts (.fieldLink RX12 151 "TextMenderModel" "taped" "I") (List.mem_of_getElem? (i := 2) rfl)) (fun _ h9 => h9) rfl (tyX12_ok 1 (Nat.le_of_ble_eq_true rfl)) rfl rfl (Nat.le_of_ble_eq_true rfl) dX12_feed_86 (kW (wn := [(oM, .inr (12, [.ref mT, .int x_12, .ref mS, .ref mX, .int zp, .int zf, .ref mL, .ref mB, .ref mD, .ref m1, .ref m2, .int zh, .ref mR, .int zr, .ref x1, .ref x2, .ref x3, .int zc, .ref mH, .int zy, .int za, .int zb, .int zs, .int zq, .int zw, .int 0, .ref mY, .int zn, .ref mE, .int zm, .int zl, .ref mW, .int zk, .ref mO, .int zd, .ref y1, .ref y2, .ref y3, .ref y4, .ref mZ])), (mT, .inl (cI, 900, .inl f_11))]) rfl (fun H locs hPn hDn hSn => ?_))
    clear hP hD hS
    have hP := hPn
    have hD := hDn
    have hS := hSn
    clear hPn hDn hSn
    refine lv_aload_n hx hb dX12_feed_89 rfl (lv_at hl 0 rfl) ?_
    refine va_get (D := (dC, dI)) (ci := 12) (v := .int x_12) (C := RX12) (T := TX12) (N := 40) hx hb hts in_X12 hown hK hP 0 rfl rfl 1 (Nat.le_of_ble_eq_true rfl) (hts (.fieldLink RX12 151 "TextMenderModel" "taped" "I") (List.mem_of_getElem? (i := 2) rfl)) (fun _ h9 => h9) rfl dX12_feed_90 ?_
    exact kl_i (v := x_12) hQQ hx hb hr hlocks hS dX12_feed_93 (fun PZ9 kZ9 => kZ9 0 x_12 f_11 (⟨hP, hD⟩) (by omega) (by show (895 < zt.toInt ∧ x_12.toInt = -1 ∧ x_12.toInt = zt.toInt) ∨ (zt.toInt ≤ 895 ∧ x_12.toInt = zt.toInt + 5 ∧ x_12.toInt = zt.toInt + 5); omega) (Or.inr ⟨by omega, by omega, by omega, feed5 (by omega) (k0 := zt) rfl (by omega) (by omega) (by omega) (by omega) ef_3 ef_5 ef_7 ef_9 ef_11⟩))
  · have tc_2 : 900 < x_1.toInt := v_nle c_2
    refine lv_iconst (v := (-1)) hx hb dX12_feed_17 (by decide) ?_
    exact kl_i (v := (-1)) hQQ hx hb hr hlocks hS dX12_feed_18 (fun PZ9 kZ9 => kZ9 0 zt eT (⟨hP, hD⟩) (g_zt) (by show (895 < zt.toInt ∧ (-1) = -1 ∧ zt.toInt = zt.toInt) ∨ (zt.toInt ≤ 895 ∧ (-1) = zt.toInt + 5 ∧ zt.toInt = zt.toInt + 5); omega) (Or.inl ⟨by omega, by decide, rfl, rfl⟩))

set_option maxHeartbeats 40000000 in
set_option maxRecDepth 100000 in
theorem f_X11_tapeHoldsLetters (l : Launch) (dC : Nat → ClassId) (dI : Nat → Nat → Nat) (cI cS : ClassId) (sz : Nat) (oX : Nat) (nT : Nat) (nL : Nat) (nM : Nat) (oC : Nat) (oP : Nat) (oH : Nat) (oK : Nat) (oG : Nat) (oR : Nat) (oQ : Nat) (oW : Nat) (aT : Nat) (fa : Int32) (lT : Int32) (fT : Nat → Int32) (g_lT : 0 ≤ lT.toInt ∧ lT.toInt ≤ 900) : kMi l yX11_tapeHoldsLetters wsX11_tapeHoldsLetters ({ frames := 1, cells := 0, slots := 0, locals := 21 } : Room) [.ref oX] sz (dC, dI) vwCl [(cI, .int), (cS, .short)] [(oX, .inr (11, [.ref nT, .ref nL, .ref nM, .ref oC, .ref oP, .ref oH, .ref oK, .ref oG, .ref oR, .ref oQ, .ref oW, .int fa])), (nT, .inr (5, [.ref aT, .int lT])), (aT, .inl (cI, 900, .inl fT))] (fun _ => True) 0 0 (fun (A : Nat → Prop) (r : Int32) (hh9 : Heap) => ∀ PZ9 : Prop, (∀ (fa' : Int32), kPD (dC, dI) vwCl A [(oX, .inr (11, [.ref nT, .ref nL, .ref nM, .ref oC, .ref oP, .ref oH, .ref oK, .ref oG, .ref oR, .ref oQ, .ref oW, .int fa'])), (nT, .inr (5, [.ref aT, .int lT])), (aT, .inl (cI, 900, .inl fT))] hh9 → (0 ≤ r.toInt ∧ r.toInt ≤ 1) → (F_allL lT r fT) → PZ9) → PZ9) := by
  refine kMi_of (cc := cX11_tapeHoldsLetters) (maxL := 2) (ret := (some .boolean)) (lv := [(0, .ref oX)]) (by decide +kernel) rfl rfl (Nat.le_of_ble_eq_true rfl) ?_
  intro p e s m below meth c A QQ ls hx hb hr hts hml hown hlocks hA hQQ hK hX hP hD hS hl
  have hown : s.vm.findClass RX11 = some m.cls := hown
  have hcf := k_cf hx hb hml hown hts
  have in_X11 : ∀ w ∈ wsX110, w ∈ wsX11_tapeHoldsLetters := fun _ h => List.mem_cons_of_mem _ (List.mem_append_left _ (List.mem_append_left _ (List.mem_append_left _ (List.mem_append_left _ (List.mem_append_right _ (h))))))
  refine lv_iconst (v := 0) hx hb dX11_tapeHoldsLetters_0 (by decide) ?_
  refine lv_istore_n (lv' := [(1, .int 0), (0, .ref oX)]) hx hb dX11_tapeHoldsLetters_1 rfl hl (by decide) rfl (fun ls hl => ?_)
  have LOOP_2 : ∀ (k_2 : Nat) (i : Int32) (H : Heap) (locs : List Loc) (ls : Array Slot), MSd (900 - i.toInt : Int) k_2 → (0 ≤ i.toInt ∧ i.toInt ≤ 900) → (allLt i.toInt fT) → va_P (dC, dI) vwCl [(oX, .inr (11, [.ref nT, .ref nL, .ref nM, .ref oC, .ref oP, .ref oH, .ref oK, .ref oG, .ref oR, .ref oQ, .ref oW, .int fa])), (nT, .inr (5, [.ref aT, .int lT])), (aT, .inl (cI, 900, .inl fT))] H → va_D A [(oX, .inr (11, [.ref nT, .ref nL, .ref nM, .ref oC, .ref oP, .ref oH, .ref oK, .ref oG, .ref oR, .ref oQ, .ref oW, .int fa])), (nT, .inr (5, [.ref aT, .int lT])), (aT, .inl (cI, 900, .inl fT))] → va_S A s.heap H locs → lv_has ls 2 [(1, .int i), (0, .ref oX)] → W p l e (headSpec wsX11_tapeHoldsLetters ({ frames := 1, cells := 0, slots := 0, locals := 21 } : Room)).room s m ([.ref oX] : List Value).toArray below meth c H locs 0 0 (MQ below QQ ([.ref oX] : List Value).toArray s 0 0 A) (F0 m 2 ls []) := by
    clear hP hD hS hl
    intro k_2
    induction k_2 with
    | zero =>
      intro i H locs ls hm_2 g_i hal hP hD hS hl
      exact ms_0 hm_2
    | succ k_2 ih_2 =>
      intro i H locs ls hm_2 g_i hal hP hD hS hl
      refine lv_iload_n hx hb dX11_tapeHoldsLetters_2 rfl (lv_at hl 0 rfl) ?_
      refine lv_aload_n hx hb dX11_tapeHoldsLetters_3 rfl (lv_at hl 1 rfl) ?_
      refine va_get (D := (dC, dI)) (ci := 11) (v := .ref nT) (C := RX11) (T := TX11) (N := 12) hx hb hts in_X11 hown hK hP 0 rfl rfl 0 (Nat.le_of_ble_eq_true rfl) (hts (.fieldLink RX11 30 "TextMender" "tape" "LTextMender$Numbers;") (List.mem_of_getElem? (i := 1) rfl)) (fun _ h9 => h9) rfl dX11_tapeHoldsLetters_4 ?_
      refine kV_i (rest := [.int i]) (q0 := 0) (ci := 5) hcf (m_X5_length l dC dI cI cS H.size nT aT lT ) kc_X5_length gX11_tapeHoldsLetters_X5_length rfl rfl rfl ⟨Nat.le_of_ble_eq_true rfl, Nat.le_of_ble_eq_true rfl⟩ kX_t hK hP hD hS hA [1] [0, 2] rfl (by decide +kernel) rfl rfl rfl hl rfl (Nat.le_of_ble_eq_true rfl) dX11_tapeHoldsLetters_7 ⟨Nat.le_of_ble_eq_true rfl, Nat.le_of_ble_eq_true rfl⟩ (fun r_1 H locs hB hJ hSn => ?_)
      refine hB _ (fun hPD9 hf1_0 => ?_)
      clear hB
      obtain ⟨hPn, hDn⟩ := hJ _ hPD9.1 hPD9.2 [(oX, .inr (11, [.ref nT, .ref nL, .ref nM, .ref oC, .ref oP, .ref oH, .ref oK, .ref oG, .ref oR, .ref oQ, .ref oW, .int fa])), (aT, .inl (cI, 900, .inl fT)), (nT, .inr (5, [.ref aT, .int lT]))] rfl
      clear hP hD hS hJ hPD9
      have hP := hPn
      have hD := hDn
      have hS := hSn
      clear hPn hDn hSn
      rw [hf1_0]
      refine lv_icmp_ge (tgt := 40) hx hb dX11_tapeHoldsLetters_10 (by decide) (fun c_2 => ?_) (fun c_2 => ?_)
      · have tc_2 : lT.toInt ≤ i.toInt := v_le c_2
        refine lv_iconst (v := 1) hx hb dX11_tapeHoldsLetters_40 (by decide) ?_
        exact kl_z (v := 1) hQQ hx hb hr hlocks hS dX11_tapeHoldsLetters_41 (rfl) (fun PZ9 kZ9 => kZ9 fa (kPD_sub hP hD [0, 2, 1] (by decide +kernel) rfl) (by decide) (Or.inl ⟨rfl, fun j hj => hal j (by omega)⟩))
      · have tc_2 : i.toInt < lT.toInt := v_nle c_2
        refine lv_aload_n hx hb dX11_tapeHoldsLetters_13 rfl (lv_at hl 1 rfl) ?_
        refine va_get (D := (dC, dI)) (ci := 11) (v := .ref nT) (C := RX11) (T := TX11) (N := 12) hx hb hts in_X11 hown hK hP 0 rfl rfl 0 (Nat.le_of_ble_eq_true rfl) (hts (.fieldLink RX11 30 "TextMender" "tape" "LTextMender$Numbers;") (List.mem_of_getElem? (i := 1) rfl)) (fun _ h9 => h9) rfl dX11_tapeHoldsLetters_14 ?_
        refine lv_iload_n hx hb dX11_tapeHoldsLetters_17 rfl (lv_at hl 0 rfl) ?_
        refine kV_i (rest := []) (q0 := 0) (ci := 5) hcf (m_X5_get l dC dI cI cS H.size nT aT 900 lT fT i (by omega) (by omega)) kc_X5_get gX11_tapeHoldsLetters_X5_get rfl rfl rfl ⟨Nat.le_of_ble_eq_true rfl, Nat.le_of_ble_eq_true rfl⟩ kX_t hK hP hD hS hA [2, 1] [0] rfl (by decide +kernel) rfl rfl rfl hl rfl (Nat.le_of_ble_eq_true rfl) dX11_tapeHoldsLetters_18 ⟨Nat.le_of_ble_eq_true rfl, Nat.le_of_ble_eq_true rfl⟩ (fun r_3 H locs hB hJ hSn => ?_)
        refine hB _ (fun hPD9 hf3_0 => ?_)
        clear hB
        obtain ⟨hPn, hDn⟩ := hJ _ hPD9.1 hPD9.2 [(oX, .inr (11, [.ref nT, .ref nL, .ref nM, .ref oC, .ref oP, .ref oH, .ref oK, .ref oG, .ref oR, .ref oQ, .ref oW, .int fa])), (nT, .inr (5, [.ref aT, .int lT])), (aT, .inl (cI, 900, .inl fT))] rfl
        clear hP hD hS hJ hPD9
        have hP := hPn
        have hD := hDn
        have hS := hSn
        clear hPn hDn hSn
        have hg3 : r_3 = fT i.toNatClampNeg := F_get_f hf3_0 (by omega) (by omega)
        refine kS_i (rest := []) hcf (m_X11_isLetter l dC dI cI cS H.size r_3 ) kc_X11_isLetter gX11_tapeHoldsLetters_X11_isLetter rfl rfl ⟨Nat.le_of_ble_eq_true rfl, Nat.le_of_ble_eq_true rfl⟩ kX_t hK hP hD hS hA [] [0, 1, 2] rfl (by decide +kernel) rfl hl rfl (Nat.le_of_ble_eq_true rfl) dX11_tapeHoldsLetters_21 ⟨Nat.le_of_ble_eq_true rfl, Nat.le_of_ble_eq_true rfl⟩ (fun r_4 H locs hB hJ hSn => ?_)
        refine hB _ (fun hPD9 hf4_0 hf4_1 => ?_)
        clear hB
        obtain ⟨hPn, hDn⟩ := hJ _ hPD9.1 hPD9.2 [(oX, .inr (11, [.ref nT, .ref nL, .ref nM, .ref oC, .ref oP, .ref oH, .ref oK, .ref oG, .ref oR, .ref oQ, .ref oW, .int fa])), (nT, .inr (5, [.ref aT, .int lT])), (aT, .inl (cI, 900, .inl fT))] rfl
        clear hP hD hS hJ hPD9
        have hP := hPn
        have hD := hDn
        have hS := hSn
        clear hPn hDn hSn
        refine lv_if_ne (tgt := 34) hx hb dX11_tapeHoldsLetters_24 (by decide) (fun c_5 => ?_) (fun c_5 => ?_)
        · have tc_5 : ¬ r_4.toInt = 0 := v_ne c_5
          obtain ⟨x_6, ex_6⟩ : ∃ y : Int32, y = i + 1 := ⟨_, rfl⟩
          have tx_6 : x_6.toInt = i.toInt + 1 := v_addR (l2 := 1) (h2 := 1) ex_6 g_i (by decide) (by decide) (by decide)
          refine lv_iinc (v := x_6) (lv' := [(1, .int x_6), (0, .ref oX)]) hx hb dX11_tapeHoldsLetters_34 hl (k := 0) rfl (by rw [ex_6]; rfl) (by decide) rfl (fun ls hl => ?_)
          refine lv_goto (tgt := 2) hx hb dX11_tapeHoldsLetters_37 (by decide) ?_
          exact ih_2 x_6 _ _ _ (ms_lt hm_2 (by show ((900 - x_6.toInt : Int)) < 900 - i.toInt; omega) (by show (0 : Int) < 900 - i.toInt; omega)) (by show 0 ≤ x_6.toInt ∧ x_6.toInt ≤ 900; omega) (allLt_s hal hg3 (by omega) (by omega) (by unfold isLt; omega)) hP hD hS (lv_sub hl [0, 1] rfl)
        · have tc_5 : r_4.toInt = 0 := v_eq c_5
          refine lv_aload_n hx hb dX11_tapeHoldsLetters_27 rfl (lv_at hl 1 rfl) ?_
          refine lv_iload_n hx hb dX11_tapeHoldsLetters_28 rfl (lv_at hl 0 rfl) ?_
          refine va_put (D := (dC, dI)) (ci := 11) (v := .int i) (ty := .int) (C := RX11) (T := TX11) (N := 12) hx hb hts in_X11 tyX11 tyX11_ok nmX11 hown hK hP hD hS 0 rfl rfl 11 (Nat.le_of_ble_eq_true rfl) (hts (.fieldLink RX11 90 "TextMender" "fault" "I") (List.mem_of_getElem? (i := 2) rfl)) (fun _ h9 => h9) rfl (tyX11_ok 11 (Nat.le_of_ble_eq_true rfl)) rfl rfl (Nat.le_of_ble_eq_true rfl) dX11_tapeHoldsLetters_29 (kW (wn := [(oX, .inr (11, [.ref nT, .ref nL, .ref nM, .ref oC, .ref oP, .ref oH, .ref oK, .ref oG, .ref oR, .ref oQ, .ref oW, .int i])), (nT, .inr (5, [.ref aT, .int lT])), (aT, .inl (cI, 900, .inl fT))]) rfl (fun H locs hPn hDn hSn => ?_))
          clear hP hD hS
          have hP := hPn
          have hD := hDn
          have hS := hSn
          clear hPn hDn hSn
          refine lv_iconst (v := 0) hx hb dX11_tapeHoldsLetters_32 (by decide) ?_
          exact kl_z (v := 0) hQQ hx hb hr hlocks hS dX11_tapeHoldsLetters_33 (rfl) (fun PZ9 kZ9 => kZ9 i (⟨hP, hD⟩) (by decide) (Or.inr ⟨rfl, allLt_no hg3 (by omega) (by omega) (by unfold isLt; omega)⟩))
  exact LOOP_2 _ 0 _ _ _ (ms_s _) (by decide) (allLt_0 (by decide)) hP hD hS (lv_sub hl [0, 1] rfl)

end

/-! 58.a.rows -/
section
set_option maxRecDepth 100000 in
theorem dA87_cX3_pairOf : kDec cX3_pairOf [(0, .iload_n 0, 1), (1, .bipush 16, 2), (3, .ishl, 1), (4, .iload_n 1, 1), (5, .ior, 1), (6, .ireturn, 1)] = true := by decide +kernel
theorem dX3_pairOf_0 : decode cX3_pairOf 0 = .ok (.iload_n 0, 1) := kDec_at dA87_cX3_pairOf 0 rfl
theorem dX3_pairOf_1 : decode cX3_pairOf 1 = .ok (.bipush 16, 2) := kDec_at dA87_cX3_pairOf 1 rfl
theorem dX3_pairOf_3 : decode cX3_pairOf 3 = .ok (.ishl, 1) := kDec_at dA87_cX3_pairOf 2 rfl
theorem dX3_pairOf_4 : decode cX3_pairOf 4 = .ok (.iload_n 1, 1) := kDec_at dA87_cX3_pairOf 3 rfl
theorem dX3_pairOf_5 : decode cX3_pairOf 5 = .ok (.ior, 1) := kDec_at dA87_cX3_pairOf 4 rfl
theorem dX3_pairOf_6 : decode cX3_pairOf 6 = .ok (.ireturn, 1) := kDec_at dA87_cX3_pairOf 5 rfl
set_option maxRecDepth 100000 in
theorem dA88_cX3_placeFor : kDec cX3_placeFor [(0, .iload_n 1, 1), (1, .iload_n 2, 1), (2, .invokestatic 32, 3), (5, .istore_n 3, 1), (6, .iload_n 3, 1), (7, .ldc 53, 2), (9, .imul, 1), (10, .bipush 22, 2), (12, .iushr, 1), (13, .istore 4, 2), (15, .iconst 0, 1), (16, .istore 5, 2), (18, .iload 5, 2), (20, .sipush 1024, 3), (23, .if_icmp .ge 45, 3), (68, .iconst (-1), 1), (69, .ireturn, 1), (26, .iload 4, 2), (28, .iload 5, 2), (30, .iadd, 1), (31, .sipush 1023, 3), (34, .iand, 1), (35, .istore 6, 2), (37, .aload_n 0, 1)] = true := by decide +kernel
theorem dX3_placeFor_0 : decode cX3_placeFor 0 = .ok (.iload_n 1, 1) := kDec_at dA88_cX3_placeFor 0 rfl
theorem dX3_placeFor_1 : decode cX3_placeFor 1 = .ok (.iload_n 2, 1) := kDec_at dA88_cX3_placeFor 1 rfl
theorem dX3_placeFor_2 : decode cX3_placeFor 2 = .ok (.invokestatic 32, 3) := kDec_at dA88_cX3_placeFor 2 rfl
theorem dX3_placeFor_5 : decode cX3_placeFor 5 = .ok (.istore_n 3, 1) := kDec_at dA88_cX3_placeFor 3 rfl
theorem dX3_placeFor_6 : decode cX3_placeFor 6 = .ok (.iload_n 3, 1) := kDec_at dA88_cX3_placeFor 4 rfl
theorem dX3_placeFor_7 : decode cX3_placeFor 7 = .ok (.ldc 53, 2) := kDec_at dA88_cX3_placeFor 5 rfl
theorem dX3_placeFor_9 : decode cX3_placeFor 9 = .ok (.imul, 1) := kDec_at dA88_cX3_placeFor 6 rfl
theorem dX3_placeFor_10 : decode cX3_placeFor 10 = .ok (.bipush 22, 2) := kDec_at dA88_cX3_placeFor 7 rfl
theorem dX3_placeFor_12 : decode cX3_placeFor 12 = .ok (.iushr, 1) := kDec_at dA88_cX3_placeFor 8 rfl
theorem dX3_placeFor_13 : decode cX3_placeFor 13 = .ok (.istore 4, 2) := kDec_at dA88_cX3_placeFor 9 rfl
theorem dX3_placeFor_15 : decode cX3_placeFor 15 = .ok (.iconst 0, 1) := kDec_at dA88_cX3_placeFor 10 rfl
theorem dX3_placeFor_16 : decode cX3_placeFor 16 = .ok (.istore 5, 2) := kDec_at dA88_cX3_placeFor 11 rfl
theorem dX3_placeFor_18 : decode cX3_placeFor 18 = .ok (.iload 5, 2) := kDec_at dA88_cX3_placeFor 12 rfl
theorem dX3_placeFor_20 : decode cX3_placeFor 20 = .ok (.sipush 1024, 3) := kDec_at dA88_cX3_placeFor 13 rfl
theorem dX3_placeFor_23 : decode cX3_placeFor 23 = .ok (.if_icmp .ge 45, 3) := kDec_at dA88_cX3_placeFor 14 rfl
theorem dX3_placeFor_68 : decode cX3_placeFor 68 = .ok (.iconst (-1), 1) := kDec_at dA88_cX3_placeFor 15 rfl
theorem dX3_placeFor_69 : decode cX3_placeFor 69 = .ok (.ireturn, 1) := kDec_at dA88_cX3_placeFor 16 rfl
theorem dX3_placeFor_26 : decode cX3_placeFor 26 = .ok (.iload 4, 2) := kDec_at dA88_cX3_placeFor 17 rfl
theorem dX3_placeFor_28 : decode cX3_placeFor 28 = .ok (.iload 5, 2) := kDec_at dA88_cX3_placeFor 18 rfl
theorem dX3_placeFor_30 : decode cX3_placeFor 30 = .ok (.iadd, 1) := kDec_at dA88_cX3_placeFor 19 rfl
theorem dX3_placeFor_31 : decode cX3_placeFor 31 = .ok (.sipush 1023, 3) := kDec_at dA88_cX3_placeFor 20 rfl
theorem dX3_placeFor_34 : decode cX3_placeFor 34 = .ok (.iand, 1) := kDec_at dA88_cX3_placeFor 21 rfl
theorem dX3_placeFor_35 : decode cX3_placeFor 35 = .ok (.istore 6, 2) := kDec_at dA88_cX3_placeFor 22 rfl
theorem dX3_placeFor_37 : decode cX3_placeFor 37 = .ok (.aload_n 0, 1) := kDec_at dA88_cX3_placeFor 23 rfl
set_option maxRecDepth 20000 in
theorem gX3_pairOf_all : wsX3_pairOf.all goodWord = true := by
  unfold wsX3_pairOf
  exact good_c (by decide +kernel) (rfl)
set_option maxRecDepth 20000 in
theorem ggX3_placeFor_X3_pairOf : GoodIn wsX3_placeFor wsX3_pairOf := goodIn_sub (fun _ h => List.mem_cons_of_mem _ (List.mem_append_right _ (h))) gX3_pairOf_all
set_option maxRecDepth 20000 in
theorem gX3_placeFor_X3_pairOf : GoodIn wsX3_placeFor (va_wsS RX3 32 yX3_pairOf wsX3_pairOf) := goodIn_app (goodIn_r _ [4, 5, 6] rfl (by decide +kernel)) ggX3_placeFor_X3_pairOf
set_option maxRecDepth 100000 in
theorem dA89_cX3_placeFor : kDec cX3_placeFor [(38, .getfield 15, 3), (41, .iload 6, 2), (43, .iaload, 1), (44, .iconst (-1), 1), (45, .if_icmp .eq 14, 3), (59, .iload 6, 2), (61, .ireturn, 1), (48, .aload_n 0, 1), (49, .getfield 11, 3), (52, .iload 6, 2), (54, .iaload, 1), (55, .iload_n 3, 1), (56, .if_icmp .ne 6, 3), (62, .iinc 5 1, 3), (65, .goto (-47), 3)] = true := by decide +kernel
theorem dX3_placeFor_38 : decode cX3_placeFor 38 = .ok (.getfield 15, 3) := kDec_at dA89_cX3_placeFor 0 rfl
theorem dX3_placeFor_41 : decode cX3_placeFor 41 = .ok (.iload 6, 2) := kDec_at dA89_cX3_placeFor 1 rfl
theorem dX3_placeFor_43 : decode cX3_placeFor 43 = .ok (.iaload, 1) := kDec_at dA89_cX3_placeFor 2 rfl
theorem dX3_placeFor_44 : decode cX3_placeFor 44 = .ok (.iconst (-1), 1) := kDec_at dA89_cX3_placeFor 3 rfl
theorem dX3_placeFor_45 : decode cX3_placeFor 45 = .ok (.if_icmp .eq 14, 3) := kDec_at dA89_cX3_placeFor 4 rfl
theorem dX3_placeFor_59 : decode cX3_placeFor 59 = .ok (.iload 6, 2) := kDec_at dA89_cX3_placeFor 5 rfl
theorem dX3_placeFor_61 : decode cX3_placeFor 61 = .ok (.ireturn, 1) := kDec_at dA89_cX3_placeFor 6 rfl
theorem dX3_placeFor_48 : decode cX3_placeFor 48 = .ok (.aload_n 0, 1) := kDec_at dA89_cX3_placeFor 7 rfl
theorem dX3_placeFor_49 : decode cX3_placeFor 49 = .ok (.getfield 11, 3) := kDec_at dA89_cX3_placeFor 8 rfl
theorem dX3_placeFor_52 : decode cX3_placeFor 52 = .ok (.iload 6, 2) := kDec_at dA89_cX3_placeFor 9 rfl
theorem dX3_placeFor_54 : decode cX3_placeFor 54 = .ok (.iaload, 1) := kDec_at dA89_cX3_placeFor 10 rfl
theorem dX3_placeFor_55 : decode cX3_placeFor 55 = .ok (.iload_n 3, 1) := kDec_at dA89_cX3_placeFor 11 rfl
theorem dX3_placeFor_56 : decode cX3_placeFor 56 = .ok (.if_icmp .ne 6, 3) := kDec_at dA89_cX3_placeFor 12 rfl
theorem dX3_placeFor_62 : decode cX3_placeFor 62 = .ok (.iinc 5 1, 3) := kDec_at dA89_cX3_placeFor 13 rfl
theorem dX3_placeFor_65 : decode cX3_placeFor 65 = .ok (.goto (-47), 3) := kDec_at dA89_cX3_placeFor 14 rfl
set_option maxRecDepth 100000 in
theorem dA90_cX3_tell : kDec cX3_tell [(0, .aload_n 0, 1), (1, .iload_n 1, 1), (2, .iload_n 2, 1), (3, .invokevirtual 28, 3), (6, .istore 4, 2), (8, .iload 4, 2), (10, .iconst (-1), 1), (11, .if_icmp .eq 14, 3), (25, .iconst 0, 1), (26, .ireturn, 1), (14, .iload_n 3, 1), (15, .ifCond .lt 10, 3), (18, .iload_n 3, 1), (19, .sipush 200, 3), (22, .if_icmp .le 5, 3), (27, .aload_n 0, 1), (28, .getfield 15, 3), (31, .iload 4, 2), (33, .iaload, 1), (34, .iconst (-1), 1), (35, .if_icmp .ne 37, 3), (72, .aload_n 0, 1), (73, .getfield 15, 3), (76, .iload 4, 2)] = true := by decide +kernel
theorem dX3_tell_0 : decode cX3_tell 0 = .ok (.aload_n 0, 1) := kDec_at dA90_cX3_tell 0 rfl
theorem dX3_tell_1 : decode cX3_tell 1 = .ok (.iload_n 1, 1) := kDec_at dA90_cX3_tell 1 rfl
theorem dX3_tell_2 : decode cX3_tell 2 = .ok (.iload_n 2, 1) := kDec_at dA90_cX3_tell 2 rfl
theorem dX3_tell_3 : decode cX3_tell 3 = .ok (.invokevirtual 28, 3) := kDec_at dA90_cX3_tell 3 rfl
theorem dX3_tell_6 : decode cX3_tell 6 = .ok (.istore 4, 2) := kDec_at dA90_cX3_tell 4 rfl
theorem dX3_tell_8 : decode cX3_tell 8 = .ok (.iload 4, 2) := kDec_at dA90_cX3_tell 5 rfl
theorem dX3_tell_10 : decode cX3_tell 10 = .ok (.iconst (-1), 1) := kDec_at dA90_cX3_tell 6 rfl
theorem dX3_tell_11 : decode cX3_tell 11 = .ok (.if_icmp .eq 14, 3) := kDec_at dA90_cX3_tell 7 rfl
theorem dX3_tell_25 : decode cX3_tell 25 = .ok (.iconst 0, 1) := kDec_at dA90_cX3_tell 8 rfl
theorem dX3_tell_26 : decode cX3_tell 26 = .ok (.ireturn, 1) := kDec_at dA90_cX3_tell 9 rfl
theorem dX3_tell_14 : decode cX3_tell 14 = .ok (.iload_n 3, 1) := kDec_at dA90_cX3_tell 10 rfl
theorem dX3_tell_15 : decode cX3_tell 15 = .ok (.ifCond .lt 10, 3) := kDec_at dA90_cX3_tell 11 rfl
theorem dX3_tell_18 : decode cX3_tell 18 = .ok (.iload_n 3, 1) := kDec_at dA90_cX3_tell 12 rfl
theorem dX3_tell_19 : decode cX3_tell 19 = .ok (.sipush 200, 3) := kDec_at dA90_cX3_tell 13 rfl
theorem dX3_tell_22 : decode cX3_tell 22 = .ok (.if_icmp .le 5, 3) := kDec_at dA90_cX3_tell 14 rfl
theorem dX3_tell_27 : decode cX3_tell 27 = .ok (.aload_n 0, 1) := kDec_at dA90_cX3_tell 15 rfl
theorem dX3_tell_28 : decode cX3_tell 28 = .ok (.getfield 15, 3) := kDec_at dA90_cX3_tell 16 rfl
theorem dX3_tell_31 : decode cX3_tell 31 = .ok (.iload 4, 2) := kDec_at dA90_cX3_tell 17 rfl
theorem dX3_tell_33 : decode cX3_tell 33 = .ok (.iaload, 1) := kDec_at dA90_cX3_tell 18 rfl
theorem dX3_tell_34 : decode cX3_tell 34 = .ok (.iconst (-1), 1) := kDec_at dA90_cX3_tell 19 rfl
theorem dX3_tell_35 : decode cX3_tell 35 = .ok (.if_icmp .ne 37, 3) := kDec_at dA90_cX3_tell 20 rfl
theorem dX3_tell_72 : decode cX3_tell 72 = .ok (.aload_n 0, 1) := kDec_at dA90_cX3_tell 21 rfl
theorem dX3_tell_73 : decode cX3_tell 73 = .ok (.getfield 15, 3) := kDec_at dA90_cX3_tell 22 rfl
theorem dX3_tell_76 : decode cX3_tell 76 = .ok (.iload 4, 2) := kDec_at dA90_cX3_tell 23 rfl
set_option maxRecDepth 20000 in
theorem gX3_placeFor_all : wsX3_placeFor.all goodWord = true := by
  unfold wsX3_placeFor
  exact good_c (by decide +kernel) (good_a (good_a ((by decide +kernel)) gX3_clsall) gX3_pairOf_all)
set_option maxRecDepth 20000 in
theorem ggX3_tell_X3_placeFor : GoodIn wsX3_tell wsX3_placeFor := goodIn_sub (fun _ h => List.mem_cons_of_mem _ (List.mem_append_left _ (List.mem_append_right _ (h)))) gX3_placeFor_all
set_option maxRecDepth 20000 in
theorem gX3_tell_X3_placeFor : GoodIn wsX3_tell (wsV RX3 28 RX3 yX3_placeFor wsX3_placeFor) := goodIn_app (goodIn_r _ [4, 5, 6, 7] rfl (by decide +kernel)) ggX3_tell_X3_placeFor
set_option maxRecDepth 100000 in
theorem dA91_cX3_tell : kDec cX3_tell [(78, .iload_n 3, 1), (79, .iastore, 1), (80, .iconst 1, 1), (81, .ireturn, 1), (38, .aload_n 0, 1), (39, .getfield 24, 3), (42, .sipush 300, 3), (45, .if_icmp .lt 5, 3), (50, .aload_n 0, 1), (51, .getfield 11, 3), (54, .iload 4, 2), (56, .iload_n 1, 1), (57, .iload_n 2, 1), (58, .invokestatic 32, 3), (61, .iastore, 1), (62, .aload_n 0, 1), (63, .dup, 1), (64, .getfield 24, 3), (67, .iconst 1, 1), (68, .iadd, 1), (69, .putfield 24, 3), (48, .iconst 0, 1), (49, .ireturn, 1)] = true := by decide +kernel
theorem dX3_tell_78 : decode cX3_tell 78 = .ok (.iload_n 3, 1) := kDec_at dA91_cX3_tell 0 rfl
theorem dX3_tell_79 : decode cX3_tell 79 = .ok (.iastore, 1) := kDec_at dA91_cX3_tell 1 rfl
theorem dX3_tell_80 : decode cX3_tell 80 = .ok (.iconst 1, 1) := kDec_at dA91_cX3_tell 2 rfl
theorem dX3_tell_81 : decode cX3_tell 81 = .ok (.ireturn, 1) := kDec_at dA91_cX3_tell 3 rfl
theorem dX3_tell_38 : decode cX3_tell 38 = .ok (.aload_n 0, 1) := kDec_at dA91_cX3_tell 4 rfl
theorem dX3_tell_39 : decode cX3_tell 39 = .ok (.getfield 24, 3) := kDec_at dA91_cX3_tell 5 rfl
theorem dX3_tell_42 : decode cX3_tell 42 = .ok (.sipush 300, 3) := kDec_at dA91_cX3_tell 6 rfl
theorem dX3_tell_45 : decode cX3_tell 45 = .ok (.if_icmp .lt 5, 3) := kDec_at dA91_cX3_tell 7 rfl
theorem dX3_tell_50 : decode cX3_tell 50 = .ok (.aload_n 0, 1) := kDec_at dA91_cX3_tell 8 rfl
theorem dX3_tell_51 : decode cX3_tell 51 = .ok (.getfield 11, 3) := kDec_at dA91_cX3_tell 9 rfl
theorem dX3_tell_54 : decode cX3_tell 54 = .ok (.iload 4, 2) := kDec_at dA91_cX3_tell 10 rfl
theorem dX3_tell_56 : decode cX3_tell 56 = .ok (.iload_n 1, 1) := kDec_at dA91_cX3_tell 11 rfl
theorem dX3_tell_57 : decode cX3_tell 57 = .ok (.iload_n 2, 1) := kDec_at dA91_cX3_tell 12 rfl
theorem dX3_tell_58 : decode cX3_tell 58 = .ok (.invokestatic 32, 3) := kDec_at dA91_cX3_tell 13 rfl
theorem dX3_tell_61 : decode cX3_tell 61 = .ok (.iastore, 1) := kDec_at dA91_cX3_tell 14 rfl
theorem dX3_tell_62 : decode cX3_tell 62 = .ok (.aload_n 0, 1) := kDec_at dA91_cX3_tell 15 rfl
theorem dX3_tell_63 : decode cX3_tell 63 = .ok (.dup, 1) := kDec_at dA91_cX3_tell 16 rfl
theorem dX3_tell_64 : decode cX3_tell 64 = .ok (.getfield 24, 3) := kDec_at dA91_cX3_tell 17 rfl
theorem dX3_tell_67 : decode cX3_tell 67 = .ok (.iconst 1, 1) := kDec_at dA91_cX3_tell 18 rfl
theorem dX3_tell_68 : decode cX3_tell 68 = .ok (.iadd, 1) := kDec_at dA91_cX3_tell 19 rfl
theorem dX3_tell_69 : decode cX3_tell 69 = .ok (.putfield 24, 3) := kDec_at dA91_cX3_tell 20 rfl
theorem dX3_tell_48 : decode cX3_tell 48 = .ok (.iconst 0, 1) := kDec_at dA91_cX3_tell 21 rfl
theorem dX3_tell_49 : decode cX3_tell 49 = .ok (.ireturn, 1) := kDec_at dA91_cX3_tell 22 rfl
set_option maxRecDepth 20000 in
theorem ggX3_tell_X3_pairOf : GoodIn wsX3_tell wsX3_pairOf := goodIn_sub (fun _ h => List.mem_cons_of_mem _ (List.mem_append_right _ (h))) gX3_pairOf_all
set_option maxRecDepth 20000 in
theorem gX3_tell_X3_pairOf : GoodIn wsX3_tell (va_wsS RX3 32 yX3_pairOf wsX3_pairOf) := goodIn_app (goodIn_r _ [8, 9, 7] rfl (by decide +kernel)) ggX3_tell_X3_pairOf
set_option maxRecDepth 100000 in
theorem dA92_cX11_cost : kDec cX11_cost [(0, .iload_n 1, 1), (1, .invokestatic 205, 3), (4, .ifCond .eq 23, 3), (27, .iconst 0, 1), (28, .ireturn, 1), (7, .iload_n 2, 1), (8, .invokestatic 205, 3), (11, .ifCond .eq 16, 3), (14, .aload_n 0, 1), (15, .getfield 52, 3), (18, .iload_n 1, 1), (19, .iload_n 2, 1), (20, .iload_n 3, 1), (21, .invokevirtual 208, 3), (24, .ifCond .ne 5, 3), (29, .aload_n 0, 1), (30, .getfield 86, 3), (33, .invokevirtual 143, 3), (36, .iconst 1, 1), (37, .ireturn, 1)] = true := by decide +kernel
theorem dX11_cost_0 : decode cX11_cost 0 = .ok (.iload_n 1, 1) := kDec_at dA92_cX11_cost 0 rfl
theorem dX11_cost_1 : decode cX11_cost 1 = .ok (.invokestatic 205, 3) := kDec_at dA92_cX11_cost 1 rfl
theorem dX11_cost_4 : decode cX11_cost 4 = .ok (.ifCond .eq 23, 3) := kDec_at dA92_cX11_cost 2 rfl
theorem dX11_cost_27 : decode cX11_cost 27 = .ok (.iconst 0, 1) := kDec_at dA92_cX11_cost 3 rfl
theorem dX11_cost_28 : decode cX11_cost 28 = .ok (.ireturn, 1) := kDec_at dA92_cX11_cost 4 rfl
theorem dX11_cost_7 : decode cX11_cost 7 = .ok (.iload_n 2, 1) := kDec_at dA92_cX11_cost 5 rfl
theorem dX11_cost_8 : decode cX11_cost 8 = .ok (.invokestatic 205, 3) := kDec_at dA92_cX11_cost 6 rfl
theorem dX11_cost_11 : decode cX11_cost 11 = .ok (.ifCond .eq 16, 3) := kDec_at dA92_cX11_cost 7 rfl
theorem dX11_cost_14 : decode cX11_cost 14 = .ok (.aload_n 0, 1) := kDec_at dA92_cX11_cost 8 rfl
theorem dX11_cost_15 : decode cX11_cost 15 = .ok (.getfield 52, 3) := kDec_at dA92_cX11_cost 9 rfl
theorem dX11_cost_18 : decode cX11_cost 18 = .ok (.iload_n 1, 1) := kDec_at dA92_cX11_cost 10 rfl
theorem dX11_cost_19 : decode cX11_cost 19 = .ok (.iload_n 2, 1) := kDec_at dA92_cX11_cost 11 rfl
theorem dX11_cost_20 : decode cX11_cost 20 = .ok (.iload_n 3, 1) := kDec_at dA92_cX11_cost 12 rfl
theorem dX11_cost_21 : decode cX11_cost 21 = .ok (.invokevirtual 208, 3) := kDec_at dA92_cX11_cost 13 rfl
theorem dX11_cost_24 : decode cX11_cost 24 = .ok (.ifCond .ne 5, 3) := kDec_at dA92_cX11_cost 14 rfl
theorem dX11_cost_29 : decode cX11_cost 29 = .ok (.aload_n 0, 1) := kDec_at dA92_cX11_cost 15 rfl
theorem dX11_cost_30 : decode cX11_cost 30 = .ok (.getfield 86, 3) := kDec_at dA92_cX11_cost 16 rfl
theorem dX11_cost_33 : decode cX11_cost 33 = .ok (.invokevirtual 143, 3) := kDec_at dA92_cX11_cost 17 rfl
theorem dX11_cost_36 : decode cX11_cost 36 = .ok (.iconst 1, 1) := kDec_at dA92_cX11_cost 18 rfl
theorem dX11_cost_37 : decode cX11_cost 37 = .ok (.ireturn, 1) := kDec_at dA92_cX11_cost 19 rfl
set_option maxRecDepth 20000 in
theorem ggX11_cost_X11_isLetter : GoodIn wsX11_cost wsX11_isLetter := goodIn_sub (fun _ h => List.mem_cons_of_mem _ (List.mem_append_left _ (List.mem_append_left _ (List.mem_append_right _ (h))))) gX11_isLetter_all
set_option maxRecDepth 20000 in
theorem gX11_cost_X11_isLetter : GoodIn wsX11_cost (va_wsS RX11 205 yX11_isLetter wsX11_isLetter) := goodIn_app (goodIn_r _ [3, 4, 5] rfl (by decide +kernel)) ggX11_cost_X11_isLetter
set_option maxRecDepth 20000 in
theorem gX3_tell_all : wsX3_tell.all goodWord = true := by
  unfold wsX3_tell
  exact good_c (by decide +kernel) (good_a (good_a (good_a ((by decide +kernel)) gX3_clsall) gX3_placeFor_all) gX3_pairOf_all)
set_option maxRecDepth 20000 in
theorem ggX11_cost_X3_tell : GoodIn wsX11_cost wsX3_tell := goodIn_sub (fun _ h => List.mem_cons_of_mem _ (List.mem_append_left _ (List.mem_append_right _ (h)))) gX3_tell_all
set_option maxRecDepth 20000 in
theorem gX11_cost_X3_tell : GoodIn wsX11_cost (wsV RX11 208 RX3 yX3_tell wsX3_tell) := goodIn_app (goodIn_r _ [6, 7, 8, 9] rfl (by decide +kernel)) ggX11_cost_X3_tell
set_option maxRecDepth 20000 in
theorem gX1_forgetFreshness_all : wsX1_forgetFreshness.all goodWord = true := by
  unfold wsX1_forgetFreshness
  exact good_c (by decide +kernel) (good_a ((by decide +kernel)) gX1_clsall)
set_option maxRecDepth 20000 in
theorem ggX11_cost_X1_forgetFreshness : GoodIn wsX11_cost wsX1_forgetFreshness := goodIn_sub (fun _ h => List.mem_cons_of_mem _ (List.mem_append_right _ (h))) gX1_forgetFreshness_all
set_option maxRecDepth 20000 in
theorem gX11_cost_X1_forgetFreshness : GoodIn wsX11_cost (wsV RX11 143 RX1 yX1_forgetFreshness wsX1_forgetFreshness) := goodIn_app (goodIn_r _ [10, 11, 12, 13] rfl (by decide +kernel)) ggX11_cost_X1_forgetFreshness
set_option maxRecDepth 100000 in
theorem dA93_cX12_cost : kDec cX12_cost [(0, .aload_n 0, 1), (1, .iconst 0, 1), (2, .putfield 85, 3), (5, .iload_n 1, 1), (6, .invokestatic 116, 3), (9, .ifCond .eq 21, 3), (30, .iconst 0, 1), (31, .ireturn, 1), (12, .iload_n 2, 1), (13, .invokestatic 116, 3), (16, .ifCond .eq 14, 3), (19, .iload_n 3, 1), (20, .ifCond .lt 10, 3), (23, .iload_n 3, 1), (24, .sipush 200, 3), (27, .if_icmp .le 5, 3), (32, .iconst 0, 1), (33, .istore 4, 2), (35, .iload 4, 2), (37, .aload_n 0, 1), (38, .getfield 168, 3), (41, .if_icmp .ge 31, 3), (72, .iload 4, 2), (74, .sipush 300, 3)] = true := by decide +kernel
theorem dX12_cost_0 : decode cX12_cost 0 = .ok (.aload_n 0, 1) := kDec_at dA93_cX12_cost 0 rfl
theorem dX12_cost_1 : decode cX12_cost 1 = .ok (.iconst 0, 1) := kDec_at dA93_cX12_cost 1 rfl
theorem dX12_cost_2 : decode cX12_cost 2 = .ok (.putfield 85, 3) := kDec_at dA93_cX12_cost 2 rfl
theorem dX12_cost_5 : decode cX12_cost 5 = .ok (.iload_n 1, 1) := kDec_at dA93_cX12_cost 3 rfl
theorem dX12_cost_6 : decode cX12_cost 6 = .ok (.invokestatic 116, 3) := kDec_at dA93_cX12_cost 4 rfl
theorem dX12_cost_9 : decode cX12_cost 9 = .ok (.ifCond .eq 21, 3) := kDec_at dA93_cX12_cost 5 rfl
theorem dX12_cost_30 : decode cX12_cost 30 = .ok (.iconst 0, 1) := kDec_at dA93_cX12_cost 6 rfl
theorem dX12_cost_31 : decode cX12_cost 31 = .ok (.ireturn, 1) := kDec_at dA93_cX12_cost 7 rfl
theorem dX12_cost_12 : decode cX12_cost 12 = .ok (.iload_n 2, 1) := kDec_at dA93_cX12_cost 8 rfl
theorem dX12_cost_13 : decode cX12_cost 13 = .ok (.invokestatic 116, 3) := kDec_at dA93_cX12_cost 9 rfl
theorem dX12_cost_16 : decode cX12_cost 16 = .ok (.ifCond .eq 14, 3) := kDec_at dA93_cX12_cost 10 rfl
theorem dX12_cost_19 : decode cX12_cost 19 = .ok (.iload_n 3, 1) := kDec_at dA93_cX12_cost 11 rfl
theorem dX12_cost_20 : decode cX12_cost 20 = .ok (.ifCond .lt 10, 3) := kDec_at dA93_cX12_cost 12 rfl
theorem dX12_cost_23 : decode cX12_cost 23 = .ok (.iload_n 3, 1) := kDec_at dA93_cX12_cost 13 rfl
theorem dX12_cost_24 : decode cX12_cost 24 = .ok (.sipush 200, 3) := kDec_at dA93_cX12_cost 14 rfl
theorem dX12_cost_27 : decode cX12_cost 27 = .ok (.if_icmp .le 5, 3) := kDec_at dA93_cX12_cost 15 rfl
theorem dX12_cost_32 : decode cX12_cost 32 = .ok (.iconst 0, 1) := kDec_at dA93_cX12_cost 16 rfl
theorem dX12_cost_33 : decode cX12_cost 33 = .ok (.istore 4, 2) := kDec_at dA93_cX12_cost 17 rfl
theorem dX12_cost_35 : decode cX12_cost 35 = .ok (.iload 4, 2) := kDec_at dA93_cX12_cost 18 rfl
theorem dX12_cost_37 : decode cX12_cost 37 = .ok (.aload_n 0, 1) := kDec_at dA93_cX12_cost 19 rfl
theorem dX12_cost_38 : decode cX12_cost 38 = .ok (.getfield 168, 3) := kDec_at dA93_cX12_cost 20 rfl
theorem dX12_cost_41 : decode cX12_cost 41 = .ok (.if_icmp .ge 31, 3) := kDec_at dA93_cX12_cost 21 rfl
theorem dX12_cost_72 : decode cX12_cost 72 = .ok (.iload 4, 2) := kDec_at dA93_cX12_cost 22 rfl
theorem dX12_cost_74 : decode cX12_cost 74 = .ok (.sipush 300, 3) := kDec_at dA93_cX12_cost 23 rfl
set_option maxRecDepth 20000 in
theorem gX12_isLetter_all : wsX12_isLetter.all goodWord = true := by
  unfold wsX12_isLetter
  exact good_c (by decide +kernel) ((by decide +kernel))
set_option maxRecDepth 20000 in
theorem ggX12_cost_X12_isLetter : GoodIn wsX12_cost wsX12_isLetter := goodIn_sub (fun _ h => List.mem_cons_of_mem _ (List.mem_append_right _ (h))) gX12_isLetter_all
set_option maxRecDepth 20000 in
theorem gX12_cost_X12_isLetter : GoodIn wsX12_cost (va_wsS RX12 116 yX12_isLetter wsX12_isLetter) := goodIn_app (goodIn_r _ [7, 8, 9] rfl (by decide +kernel)) ggX12_cost_X12_isLetter
set_option maxRecDepth 100000 in
theorem dA94_cX12_cost : kDec cX12_cost [(77, .if_icmp .ne 5, 3), (82, .aload_n 0, 1), (83, .getfield 39, 3), (86, .iload 4, 2), (88, .iload_n 1, 1), (89, .iastore, 1), (90, .aload_n 0, 1), (91, .getfield 42, 3), (94, .iload 4, 2), (96, .iload_n 2, 1), (97, .iastore, 1), (98, .aload_n 0, 1), (99, .getfield 45, 3), (102, .iload 4, 2), (104, .iload_n 3, 1), (105, .iastore, 1), (106, .iload 4, 2), (108, .aload_n 0, 1), (109, .getfield 168, 3), (112, .if_icmp .ne 13, 3), (125, .aload_n 0, 1), (126, .dup, 1), (127, .getfield 148, 3), (130, .iconst 1, 1)] = true := by decide +kernel
theorem dX12_cost_77 : decode cX12_cost 77 = .ok (.if_icmp .ne 5, 3) := kDec_at dA94_cX12_cost 0 rfl
theorem dX12_cost_82 : decode cX12_cost 82 = .ok (.aload_n 0, 1) := kDec_at dA94_cX12_cost 1 rfl
theorem dX12_cost_83 : decode cX12_cost 83 = .ok (.getfield 39, 3) := kDec_at dA94_cX12_cost 2 rfl
theorem dX12_cost_86 : decode cX12_cost 86 = .ok (.iload 4, 2) := kDec_at dA94_cX12_cost 3 rfl
theorem dX12_cost_88 : decode cX12_cost 88 = .ok (.iload_n 1, 1) := kDec_at dA94_cX12_cost 4 rfl
theorem dX12_cost_89 : decode cX12_cost 89 = .ok (.iastore, 1) := kDec_at dA94_cX12_cost 5 rfl
theorem dX12_cost_90 : decode cX12_cost 90 = .ok (.aload_n 0, 1) := kDec_at dA94_cX12_cost 6 rfl
theorem dX12_cost_91 : decode cX12_cost 91 = .ok (.getfield 42, 3) := kDec_at dA94_cX12_cost 7 rfl
theorem dX12_cost_94 : decode cX12_cost 94 = .ok (.iload 4, 2) := kDec_at dA94_cX12_cost 8 rfl
theorem dX12_cost_96 : decode cX12_cost 96 = .ok (.iload_n 2, 1) := kDec_at dA94_cX12_cost 9 rfl
theorem dX12_cost_97 : decode cX12_cost 97 = .ok (.iastore, 1) := kDec_at dA94_cX12_cost 10 rfl
theorem dX12_cost_98 : decode cX12_cost 98 = .ok (.aload_n 0, 1) := kDec_at dA94_cX12_cost 11 rfl
theorem dX12_cost_99 : decode cX12_cost 99 = .ok (.getfield 45, 3) := kDec_at dA94_cX12_cost 12 rfl
theorem dX12_cost_102 : decode cX12_cost 102 = .ok (.iload 4, 2) := kDec_at dA94_cX12_cost 13 rfl
theorem dX12_cost_104 : decode cX12_cost 104 = .ok (.iload_n 3, 1) := kDec_at dA94_cX12_cost 14 rfl
theorem dX12_cost_105 : decode cX12_cost 105 = .ok (.iastore, 1) := kDec_at dA94_cX12_cost 15 rfl
theorem dX12_cost_106 : decode cX12_cost 106 = .ok (.iload 4, 2) := kDec_at dA94_cX12_cost 16 rfl
theorem dX12_cost_108 : decode cX12_cost 108 = .ok (.aload_n 0, 1) := kDec_at dA94_cX12_cost 17 rfl
theorem dX12_cost_109 : decode cX12_cost 109 = .ok (.getfield 168, 3) := kDec_at dA94_cX12_cost 18 rfl
theorem dX12_cost_112 : decode cX12_cost 112 = .ok (.if_icmp .ne 13, 3) := kDec_at dA94_cX12_cost 19 rfl
theorem dX12_cost_125 : decode cX12_cost 125 = .ok (.aload_n 0, 1) := kDec_at dA94_cX12_cost 20 rfl
theorem dX12_cost_126 : decode cX12_cost 126 = .ok (.dup, 1) := kDec_at dA94_cX12_cost 21 rfl
theorem dX12_cost_127 : decode cX12_cost 127 = .ok (.getfield 148, 3) := kDec_at dA94_cX12_cost 22 rfl
theorem dX12_cost_130 : decode cX12_cost 130 = .ok (.iconst 1, 1) := kDec_at dA94_cX12_cost 23 rfl
set_option maxRecDepth 100000 in
theorem dA95_cX12_cost : kDec cX12_cost [(131, .iadd, 1), (132, .putfield 148, 3), (135, .iconst 1, 1), (136, .ireturn, 1), (115, .aload_n 0, 1), (116, .dup, 1), (117, .getfield 168, 3), (120, .iconst 1, 1), (121, .iadd, 1), (122, .putfield 168, 3), (80, .iconst 0, 1), (81, .ireturn, 1), (44, .aload_n 0, 1), (45, .getfield 39, 3), (48, .iload 4, 2), (50, .iaload, 1), (51, .iload_n 1, 1), (52, .if_icmp .ne 14, 3), (66, .iinc 4 1, 3), (69, .goto (-34), 3), (55, .aload_n 0, 1), (56, .getfield 42, 3), (59, .iload 4, 2), (61, .iaload, 1)] = true := by decide +kernel
theorem dX12_cost_131 : decode cX12_cost 131 = .ok (.iadd, 1) := kDec_at dA95_cX12_cost 0 rfl
theorem dX12_cost_132 : decode cX12_cost 132 = .ok (.putfield 148, 3) := kDec_at dA95_cX12_cost 1 rfl
theorem dX12_cost_135 : decode cX12_cost 135 = .ok (.iconst 1, 1) := kDec_at dA95_cX12_cost 2 rfl
theorem dX12_cost_136 : decode cX12_cost 136 = .ok (.ireturn, 1) := kDec_at dA95_cX12_cost 3 rfl
theorem dX12_cost_115 : decode cX12_cost 115 = .ok (.aload_n 0, 1) := kDec_at dA95_cX12_cost 4 rfl
theorem dX12_cost_116 : decode cX12_cost 116 = .ok (.dup, 1) := kDec_at dA95_cX12_cost 5 rfl
theorem dX12_cost_117 : decode cX12_cost 117 = .ok (.getfield 168, 3) := kDec_at dA95_cX12_cost 6 rfl
theorem dX12_cost_120 : decode cX12_cost 120 = .ok (.iconst 1, 1) := kDec_at dA95_cX12_cost 7 rfl
theorem dX12_cost_121 : decode cX12_cost 121 = .ok (.iadd, 1) := kDec_at dA95_cX12_cost 8 rfl
theorem dX12_cost_122 : decode cX12_cost 122 = .ok (.putfield 168, 3) := kDec_at dA95_cX12_cost 9 rfl
theorem dX12_cost_80 : decode cX12_cost 80 = .ok (.iconst 0, 1) := kDec_at dA95_cX12_cost 10 rfl
theorem dX12_cost_81 : decode cX12_cost 81 = .ok (.ireturn, 1) := kDec_at dA95_cX12_cost 11 rfl
theorem dX12_cost_44 : decode cX12_cost 44 = .ok (.aload_n 0, 1) := kDec_at dA95_cX12_cost 12 rfl
theorem dX12_cost_45 : decode cX12_cost 45 = .ok (.getfield 39, 3) := kDec_at dA95_cX12_cost 13 rfl
theorem dX12_cost_48 : decode cX12_cost 48 = .ok (.iload 4, 2) := kDec_at dA95_cX12_cost 14 rfl
theorem dX12_cost_50 : decode cX12_cost 50 = .ok (.iaload, 1) := kDec_at dA95_cX12_cost 15 rfl
theorem dX12_cost_51 : decode cX12_cost 51 = .ok (.iload_n 1, 1) := kDec_at dA95_cX12_cost 16 rfl
theorem dX12_cost_52 : decode cX12_cost 52 = .ok (.if_icmp .ne 14, 3) := kDec_at dA95_cX12_cost 17 rfl
theorem dX12_cost_66 : decode cX12_cost 66 = .ok (.iinc 4 1, 3) := kDec_at dA95_cX12_cost 18 rfl
theorem dX12_cost_69 : decode cX12_cost 69 = .ok (.goto (-34), 3) := kDec_at dA95_cX12_cost 19 rfl
theorem dX12_cost_55 : decode cX12_cost 55 = .ok (.aload_n 0, 1) := kDec_at dA95_cX12_cost 20 rfl
theorem dX12_cost_56 : decode cX12_cost 56 = .ok (.getfield 42, 3) := kDec_at dA95_cX12_cost 21 rfl
theorem dX12_cost_59 : decode cX12_cost 59 = .ok (.iload 4, 2) := kDec_at dA95_cX12_cost 22 rfl
theorem dX12_cost_61 : decode cX12_cost 61 = .ok (.iaload, 1) := kDec_at dA95_cX12_cost 23 rfl
set_option maxRecDepth 100000 in
theorem dA96_cX12_cost : kDec cX12_cost [(62, .iload_n 2, 1), (63, .if_icmp .eq 9, 3)] = true := by decide +kernel
theorem dX12_cost_62 : decode cX12_cost 62 = .ok (.iload_n 2, 1) := kDec_at dA96_cX12_cost 0 rfl
theorem dX12_cost_63 : decode cX12_cost 63 = .ok (.if_icmp .eq 9, 3) := kDec_at dA96_cX12_cost 1 rfl
set_option maxRecDepth 100000 in
theorem dA97_cX4_tell : kDec cX4_tell [(0, .iconst 0, 1), (1, .istore_n 3, 1), (2, .iload_n 3, 1), (3, .aload_n 0, 1), (4, .getfield 22, 3), (7, .if_icmp .ge 31, 3), (38, .aload_n 0, 1), (39, .getfield 22, 3), (42, .bipush 6, 2), (44, .if_icmp .lt 5, 3), (49, .aload_n 0, 1), (50, .getfield 9, 3), (53, .aload_n 0, 1), (54, .getfield 22, 3), (57, .iload_n 1, 1), (58, .iastore, 1), (59, .aload_n 0, 1), (60, .getfield 15, 3), (63, .aload_n 0, 1), (64, .getfield 22, 3), (67, .iload_n 2, 1), (68, .iastore, 1), (69, .aload_n 0, 1), (70, .dup, 1)] = true := by decide +kernel
theorem dX4_tell_0 : decode cX4_tell 0 = .ok (.iconst 0, 1) := kDec_at dA97_cX4_tell 0 rfl
theorem dX4_tell_1 : decode cX4_tell 1 = .ok (.istore_n 3, 1) := kDec_at dA97_cX4_tell 1 rfl
theorem dX4_tell_2 : decode cX4_tell 2 = .ok (.iload_n 3, 1) := kDec_at dA97_cX4_tell 2 rfl
theorem dX4_tell_3 : decode cX4_tell 3 = .ok (.aload_n 0, 1) := kDec_at dA97_cX4_tell 3 rfl
theorem dX4_tell_4 : decode cX4_tell 4 = .ok (.getfield 22, 3) := kDec_at dA97_cX4_tell 4 rfl
theorem dX4_tell_7 : decode cX4_tell 7 = .ok (.if_icmp .ge 31, 3) := kDec_at dA97_cX4_tell 5 rfl
theorem dX4_tell_38 : decode cX4_tell 38 = .ok (.aload_n 0, 1) := kDec_at dA97_cX4_tell 6 rfl
theorem dX4_tell_39 : decode cX4_tell 39 = .ok (.getfield 22, 3) := kDec_at dA97_cX4_tell 7 rfl
theorem dX4_tell_42 : decode cX4_tell 42 = .ok (.bipush 6, 2) := kDec_at dA97_cX4_tell 8 rfl
theorem dX4_tell_44 : decode cX4_tell 44 = .ok (.if_icmp .lt 5, 3) := kDec_at dA97_cX4_tell 9 rfl
theorem dX4_tell_49 : decode cX4_tell 49 = .ok (.aload_n 0, 1) := kDec_at dA97_cX4_tell 10 rfl
theorem dX4_tell_50 : decode cX4_tell 50 = .ok (.getfield 9, 3) := kDec_at dA97_cX4_tell 11 rfl
theorem dX4_tell_53 : decode cX4_tell 53 = .ok (.aload_n 0, 1) := kDec_at dA97_cX4_tell 12 rfl
theorem dX4_tell_54 : decode cX4_tell 54 = .ok (.getfield 22, 3) := kDec_at dA97_cX4_tell 13 rfl
theorem dX4_tell_57 : decode cX4_tell 57 = .ok (.iload_n 1, 1) := kDec_at dA97_cX4_tell 14 rfl
theorem dX4_tell_58 : decode cX4_tell 58 = .ok (.iastore, 1) := kDec_at dA97_cX4_tell 15 rfl
theorem dX4_tell_59 : decode cX4_tell 59 = .ok (.aload_n 0, 1) := kDec_at dA97_cX4_tell 16 rfl
theorem dX4_tell_60 : decode cX4_tell 60 = .ok (.getfield 15, 3) := kDec_at dA97_cX4_tell 17 rfl
theorem dX4_tell_63 : decode cX4_tell 63 = .ok (.aload_n 0, 1) := kDec_at dA97_cX4_tell 18 rfl
theorem dX4_tell_64 : decode cX4_tell 64 = .ok (.getfield 22, 3) := kDec_at dA97_cX4_tell 19 rfl
theorem dX4_tell_67 : decode cX4_tell 67 = .ok (.iload_n 2, 1) := kDec_at dA97_cX4_tell 20 rfl
theorem dX4_tell_68 : decode cX4_tell 68 = .ok (.iastore, 1) := kDec_at dA97_cX4_tell 21 rfl
theorem dX4_tell_69 : decode cX4_tell 69 = .ok (.aload_n 0, 1) := kDec_at dA97_cX4_tell 22 rfl
theorem dX4_tell_70 : decode cX4_tell 70 = .ok (.dup, 1) := kDec_at dA97_cX4_tell 23 rfl
set_option maxRecDepth 100000 in
theorem dA98_cX4_tell : kDec cX4_tell [(71, .getfield 22, 3), (74, .iconst 1, 1), (75, .iadd, 1), (76, .putfield 22, 3), (79, .iconst 1, 1), (80, .ireturn, 1), (47, .iconst 0, 1), (48, .ireturn, 1), (10, .aload_n 0, 1), (11, .getfield 9, 3), (14, .iload_n 3, 1), (15, .iaload, 1), (16, .iload_n 1, 1), (17, .if_icmp .ne 15, 3), (32, .iinc 3 1, 3), (35, .goto (-33), 3), (20, .aload_n 0, 1), (21, .getfield 15, 3), (24, .iload_n 3, 1), (25, .iaload, 1), (26, .iload_n 2, 1), (27, .if_icmp .ne 5, 3), (30, .iconst 0, 1), (31, .ireturn, 1)] = true := by decide +kernel
theorem dX4_tell_71 : decode cX4_tell 71 = .ok (.getfield 22, 3) := kDec_at dA98_cX4_tell 0 rfl
theorem dX4_tell_74 : decode cX4_tell 74 = .ok (.iconst 1, 1) := kDec_at dA98_cX4_tell 1 rfl
theorem dX4_tell_75 : decode cX4_tell 75 = .ok (.iadd, 1) := kDec_at dA98_cX4_tell 2 rfl
theorem dX4_tell_76 : decode cX4_tell 76 = .ok (.putfield 22, 3) := kDec_at dA98_cX4_tell 3 rfl
theorem dX4_tell_79 : decode cX4_tell 79 = .ok (.iconst 1, 1) := kDec_at dA98_cX4_tell 4 rfl
theorem dX4_tell_80 : decode cX4_tell 80 = .ok (.ireturn, 1) := kDec_at dA98_cX4_tell 5 rfl
theorem dX4_tell_47 : decode cX4_tell 47 = .ok (.iconst 0, 1) := kDec_at dA98_cX4_tell 6 rfl
theorem dX4_tell_48 : decode cX4_tell 48 = .ok (.ireturn, 1) := kDec_at dA98_cX4_tell 7 rfl
theorem dX4_tell_10 : decode cX4_tell 10 = .ok (.aload_n 0, 1) := kDec_at dA98_cX4_tell 8 rfl
theorem dX4_tell_11 : decode cX4_tell 11 = .ok (.getfield 9, 3) := kDec_at dA98_cX4_tell 9 rfl
theorem dX4_tell_14 : decode cX4_tell 14 = .ok (.iload_n 3, 1) := kDec_at dA98_cX4_tell 10 rfl
theorem dX4_tell_15 : decode cX4_tell 15 = .ok (.iaload, 1) := kDec_at dA98_cX4_tell 11 rfl
theorem dX4_tell_16 : decode cX4_tell 16 = .ok (.iload_n 1, 1) := kDec_at dA98_cX4_tell 12 rfl
theorem dX4_tell_17 : decode cX4_tell 17 = .ok (.if_icmp .ne 15, 3) := kDec_at dA98_cX4_tell 13 rfl
theorem dX4_tell_32 : decode cX4_tell 32 = .ok (.iinc 3 1, 3) := kDec_at dA98_cX4_tell 14 rfl
theorem dX4_tell_35 : decode cX4_tell 35 = .ok (.goto (-33), 3) := kDec_at dA98_cX4_tell 15 rfl
theorem dX4_tell_20 : decode cX4_tell 20 = .ok (.aload_n 0, 1) := kDec_at dA98_cX4_tell 16 rfl
theorem dX4_tell_21 : decode cX4_tell 21 = .ok (.getfield 15, 3) := kDec_at dA98_cX4_tell 17 rfl
theorem dX4_tell_24 : decode cX4_tell 24 = .ok (.iload_n 3, 1) := kDec_at dA98_cX4_tell 18 rfl
theorem dX4_tell_25 : decode cX4_tell 25 = .ok (.iaload, 1) := kDec_at dA98_cX4_tell 19 rfl
theorem dX4_tell_26 : decode cX4_tell 26 = .ok (.iload_n 2, 1) := kDec_at dA98_cX4_tell 20 rfl
theorem dX4_tell_27 : decode cX4_tell 27 = .ok (.if_icmp .ne 5, 3) := kDec_at dA98_cX4_tell 21 rfl
theorem dX4_tell_30 : decode cX4_tell 30 = .ok (.iconst 0, 1) := kDec_at dA98_cX4_tell 22 rfl
theorem dX4_tell_31 : decode cX4_tell 31 = .ok (.ireturn, 1) := kDec_at dA98_cX4_tell 23 rfl
set_option maxRecDepth 100000 in
theorem dA99_cX11_list : kDec cX11_list [(0, .aload_n 0, 1), (1, .iconst (-1), 1), (2, .putfield 90, 3), (5, .iload_n 1, 1), (6, .invokestatic 117, 3), (9, .ifCond .eq 22, 3), (31, .iconst (-1), 1), (32, .ireturn, 1), (12, .iload_n 2, 1), (13, .invokestatic 117, 3), (16, .ifCond .eq 15, 3), (19, .aload_n 0, 1), (20, .getfield 48, 3), (23, .iload_n 1, 1), (24, .iload_n 2, 1), (25, .invokevirtual 191, 3), (28, .ifCond .ne 5, 3), (33, .aload_n 0, 1), (34, .getfield 86, 3), (37, .invokevirtual 143, 3), (40, .aload_n 0, 1), (41, .getfield 48, 3), (44, .invokevirtual 150, 3), (47, .iconst 1, 1)] = true := by decide +kernel
theorem dX11_list_0 : decode cX11_list 0 = .ok (.aload_n 0, 1) := kDec_at dA99_cX11_list 0 rfl
theorem dX11_list_1 : decode cX11_list 1 = .ok (.iconst (-1), 1) := kDec_at dA99_cX11_list 1 rfl
theorem dX11_list_2 : decode cX11_list 2 = .ok (.putfield 90, 3) := kDec_at dA99_cX11_list 2 rfl
theorem dX11_list_5 : decode cX11_list 5 = .ok (.iload_n 1, 1) := kDec_at dA99_cX11_list 3 rfl
theorem dX11_list_6 : decode cX11_list 6 = .ok (.invokestatic 117, 3) := kDec_at dA99_cX11_list 4 rfl
theorem dX11_list_9 : decode cX11_list 9 = .ok (.ifCond .eq 22, 3) := kDec_at dA99_cX11_list 5 rfl
theorem dX11_list_31 : decode cX11_list 31 = .ok (.iconst (-1), 1) := kDec_at dA99_cX11_list 6 rfl
theorem dX11_list_32 : decode cX11_list 32 = .ok (.ireturn, 1) := kDec_at dA99_cX11_list 7 rfl
theorem dX11_list_12 : decode cX11_list 12 = .ok (.iload_n 2, 1) := kDec_at dA99_cX11_list 8 rfl
theorem dX11_list_13 : decode cX11_list 13 = .ok (.invokestatic 117, 3) := kDec_at dA99_cX11_list 9 rfl
theorem dX11_list_16 : decode cX11_list 16 = .ok (.ifCond .eq 15, 3) := kDec_at dA99_cX11_list 10 rfl
theorem dX11_list_19 : decode cX11_list 19 = .ok (.aload_n 0, 1) := kDec_at dA99_cX11_list 11 rfl
theorem dX11_list_20 : decode cX11_list 20 = .ok (.getfield 48, 3) := kDec_at dA99_cX11_list 12 rfl
theorem dX11_list_23 : decode cX11_list 23 = .ok (.iload_n 1, 1) := kDec_at dA99_cX11_list 13 rfl
theorem dX11_list_24 : decode cX11_list 24 = .ok (.iload_n 2, 1) := kDec_at dA99_cX11_list 14 rfl
theorem dX11_list_25 : decode cX11_list 25 = .ok (.invokevirtual 191, 3) := kDec_at dA99_cX11_list 15 rfl
theorem dX11_list_28 : decode cX11_list 28 = .ok (.ifCond .ne 5, 3) := kDec_at dA99_cX11_list 16 rfl
theorem dX11_list_33 : decode cX11_list 33 = .ok (.aload_n 0, 1) := kDec_at dA99_cX11_list 17 rfl
theorem dX11_list_34 : decode cX11_list 34 = .ok (.getfield 86, 3) := kDec_at dA99_cX11_list 18 rfl
theorem dX11_list_37 : decode cX11_list 37 = .ok (.invokevirtual 143, 3) := kDec_at dA99_cX11_list 19 rfl
theorem dX11_list_40 : decode cX11_list 40 = .ok (.aload_n 0, 1) := kDec_at dA99_cX11_list 20 rfl
theorem dX11_list_41 : decode cX11_list 41 = .ok (.getfield 48, 3) := kDec_at dA99_cX11_list 21 rfl
theorem dX11_list_44 : decode cX11_list 44 = .ok (.invokevirtual 150, 3) := kDec_at dA99_cX11_list 22 rfl
theorem dX11_list_47 : decode cX11_list 47 = .ok (.iconst 1, 1) := kDec_at dA99_cX11_list 23 rfl
set_option maxRecDepth 20000 in
theorem gX2_known_all : wsX2_known.all goodWord = true := by
  unfold wsX2_known
  exact good_c (by decide +kernel) (rfl)
set_option maxRecDepth 20000 in
theorem ggX11_list_X2_known : GoodIn wsX11_list wsX2_known := goodIn_sub (fun _ h => List.mem_cons_of_mem _ (List.mem_append_left _ (List.mem_append_left _ (List.mem_append_left _ (List.mem_append_right _ (h)))))) gX2_known_all
set_option maxRecDepth 20000 in
theorem gX11_list_X2_known : GoodIn wsX11_list (va_wsS RX11 117 yX2_known wsX2_known) := goodIn_app (goodIn_r _ [4, 5, 6] rfl (by decide +kernel)) ggX11_list_X2_known
set_option maxRecDepth 20000 in
theorem gX4_tell_all : wsX4_tell.all goodWord = true := by
  unfold wsX4_tell
  exact good_c (by decide +kernel) (good_a ((by decide +kernel)) gX4_clsall)
set_option maxRecDepth 20000 in
theorem ggX11_list_X4_tell : GoodIn wsX11_list wsX4_tell := goodIn_sub (fun _ h => List.mem_cons_of_mem _ (List.mem_append_left _ (List.mem_append_left _ (List.mem_append_right _ (h))))) gX4_tell_all
set_option maxRecDepth 20000 in
theorem gX11_list_X4_tell : GoodIn wsX11_list (wsV RX11 191 RX4 yX4_tell wsX4_tell) := goodIn_app (goodIn_r _ [7, 8, 9, 10] rfl (by decide +kernel)) ggX11_list_X4_tell
set_option maxRecDepth 20000 in
theorem ggX11_list_X1_forgetFreshness : GoodIn wsX11_list wsX1_forgetFreshness := goodIn_sub (fun _ h => List.mem_cons_of_mem _ (List.mem_append_left _ (List.mem_append_right _ (h)))) gX1_forgetFreshness_all
set_option maxRecDepth 20000 in
theorem gX11_list_X1_forgetFreshness : GoodIn wsX11_list (wsV RX11 143 RX1 yX1_forgetFreshness wsX1_forgetFreshness) := goodIn_app (goodIn_r _ [11, 12, 13, 14] rfl (by decide +kernel)) ggX11_list_X1_forgetFreshness
set_option maxRecDepth 20000 in
theorem ggX11_list_X4_length : GoodIn wsX11_list wsX4_length := goodIn_sub (fun _ h => List.mem_cons_of_mem _ (List.mem_append_right _ (h))) gX4_length_all
set_option maxRecDepth 20000 in
theorem gX11_list_X4_length : GoodIn wsX11_list (wsV RX11 150 RX4 yX4_length wsX4_length) := goodIn_app (goodIn_r _ [15, 16, 17, 10] rfl (by decide +kernel)) ggX11_list_X4_length
set_option maxRecDepth 100000 in
theorem dA100_cX11_list : kDec cX11_list [(48, .isub, 1), (49, .ireturn, 1)] = true := by decide +kernel
theorem dX11_list_48 : decode cX11_list 48 = .ok (.isub, 1) := kDec_at dA100_cX11_list 0 rfl
theorem dX11_list_49 : decode cX11_list 49 = .ok (.ireturn, 1) := kDec_at dA100_cX11_list 1 rfl
set_option maxRecDepth 100000 in
theorem dA101_cX11_unlist : kDec cX11_unlist [(0, .aload_n 0, 1), (1, .getfield 48, 3), (4, .invokevirtual 150, 3), (7, .istore_n 1, 1), (8, .aload_n 0, 1), (9, .getfield 48, 3), (12, .invokevirtual 193, 3), (15, .aload_n 0, 1), (16, .getfield 86, 3), (19, .invokevirtual 143, 3), (22, .iload_n 1, 1), (23, .ireturn, 1)] = true := by decide +kernel
theorem dX11_unlist_0 : decode cX11_unlist 0 = .ok (.aload_n 0, 1) := kDec_at dA101_cX11_unlist 0 rfl
theorem dX11_unlist_1 : decode cX11_unlist 1 = .ok (.getfield 48, 3) := kDec_at dA101_cX11_unlist 1 rfl
theorem dX11_unlist_4 : decode cX11_unlist 4 = .ok (.invokevirtual 150, 3) := kDec_at dA101_cX11_unlist 2 rfl
theorem dX11_unlist_7 : decode cX11_unlist 7 = .ok (.istore_n 1, 1) := kDec_at dA101_cX11_unlist 3 rfl
theorem dX11_unlist_8 : decode cX11_unlist 8 = .ok (.aload_n 0, 1) := kDec_at dA101_cX11_unlist 4 rfl
theorem dX11_unlist_9 : decode cX11_unlist 9 = .ok (.getfield 48, 3) := kDec_at dA101_cX11_unlist 5 rfl
theorem dX11_unlist_12 : decode cX11_unlist 12 = .ok (.invokevirtual 193, 3) := kDec_at dA101_cX11_unlist 6 rfl
theorem dX11_unlist_15 : decode cX11_unlist 15 = .ok (.aload_n 0, 1) := kDec_at dA101_cX11_unlist 7 rfl
theorem dX11_unlist_16 : decode cX11_unlist 16 = .ok (.getfield 86, 3) := kDec_at dA101_cX11_unlist 8 rfl
theorem dX11_unlist_19 : decode cX11_unlist 19 = .ok (.invokevirtual 143, 3) := kDec_at dA101_cX11_unlist 9 rfl
theorem dX11_unlist_22 : decode cX11_unlist 22 = .ok (.iload_n 1, 1) := kDec_at dA101_cX11_unlist 10 rfl
theorem dX11_unlist_23 : decode cX11_unlist 23 = .ok (.ireturn, 1) := kDec_at dA101_cX11_unlist 11 rfl
set_option maxRecDepth 20000 in
theorem ggX11_unlist_X4_length : GoodIn wsX11_unlist wsX4_length := goodIn_sub (fun _ h => List.mem_cons_of_mem _ (List.mem_append_left _ (List.mem_append_left _ (List.mem_append_right _ (h))))) gX4_length_all
set_option maxRecDepth 20000 in
theorem gX11_unlist_X4_length : GoodIn wsX11_unlist (wsV RX11 150 RX4 yX4_length wsX4_length) := goodIn_app (goodIn_r _ [3, 4, 5, 6] rfl (by decide +kernel)) ggX11_unlist_X4_length
set_option maxRecDepth 20000 in
theorem gX4_empty_all : wsX4_empty.all goodWord = true := by
  unfold wsX4_empty
  exact good_c (by decide +kernel) (good_a ((by decide +kernel)) gX4_clsall)
set_option maxRecDepth 20000 in
theorem ggX11_unlist_X4_empty : GoodIn wsX11_unlist wsX4_empty := goodIn_sub (fun _ h => List.mem_cons_of_mem _ (List.mem_append_left _ (List.mem_append_right _ (h)))) gX4_empty_all
set_option maxRecDepth 20000 in
theorem gX11_unlist_X4_empty : GoodIn wsX11_unlist (wsV RX11 193 RX4 yX4_empty wsX4_empty) := goodIn_app (goodIn_r _ [7, 8, 9, 6] rfl (by decide +kernel)) ggX11_unlist_X4_empty
set_option maxRecDepth 20000 in
theorem ggX11_unlist_X1_forgetFreshness : GoodIn wsX11_unlist wsX1_forgetFreshness := goodIn_sub (fun _ h => List.mem_cons_of_mem _ (List.mem_append_right _ (h))) gX1_forgetFreshness_all
set_option maxRecDepth 20000 in
theorem gX11_unlist_X1_forgetFreshness : GoodIn wsX11_unlist (wsV RX11 143 RX1 yX1_forgetFreshness wsX1_forgetFreshness) := goodIn_app (goodIn_r _ [10, 11, 12, 13] rfl (by decide +kernel)) ggX11_unlist_X1_forgetFreshness
set_option maxRecDepth 100000 in
theorem dA102_cX12_list : kDec cX12_list [(0, .aload_n 0, 1), (1, .iconst 0, 1), (2, .putfield 85, 3), (5, .aload_n 0, 1), (6, .iconst (-1), 1), (7, .putfield 55, 3), (10, .iload_n 1, 1), (11, .invokestatic 158, 3), (14, .ifCond .eq 19, 3), (33, .iconst (-1), 1), (34, .ireturn, 1), (17, .iload_n 2, 1), (18, .invokestatic 158, 3), (21, .ifCond .eq 12, 3), (24, .aload_n 0, 1), (25, .getfield 161, 3), (28, .bipush 6, 2), (30, .if_icmp .ne 5, 3), (35, .iconst 0, 1), (36, .istore_n 3, 1), (37, .iload_n 3, 1), (38, .aload_n 0, 1), (39, .getfield 161, 3), (42, .if_icmp .ge 31, 3)] = true := by decide +kernel
theorem dX12_list_0 : decode cX12_list 0 = .ok (.aload_n 0, 1) := kDec_at dA102_cX12_list 0 rfl
theorem dX12_list_1 : decode cX12_list 1 = .ok (.iconst 0, 1) := kDec_at dA102_cX12_list 1 rfl
theorem dX12_list_2 : decode cX12_list 2 = .ok (.putfield 85, 3) := kDec_at dA102_cX12_list 2 rfl
theorem dX12_list_5 : decode cX12_list 5 = .ok (.aload_n 0, 1) := kDec_at dA102_cX12_list 3 rfl
theorem dX12_list_6 : decode cX12_list 6 = .ok (.iconst (-1), 1) := kDec_at dA102_cX12_list 4 rfl
theorem dX12_list_7 : decode cX12_list 7 = .ok (.putfield 55, 3) := kDec_at dA102_cX12_list 5 rfl
theorem dX12_list_10 : decode cX12_list 10 = .ok (.iload_n 1, 1) := kDec_at dA102_cX12_list 6 rfl
theorem dX12_list_11 : decode cX12_list 11 = .ok (.invokestatic 158, 3) := kDec_at dA102_cX12_list 7 rfl
theorem dX12_list_14 : decode cX12_list 14 = .ok (.ifCond .eq 19, 3) := kDec_at dA102_cX12_list 8 rfl
theorem dX12_list_33 : decode cX12_list 33 = .ok (.iconst (-1), 1) := kDec_at dA102_cX12_list 9 rfl
theorem dX12_list_34 : decode cX12_list 34 = .ok (.ireturn, 1) := kDec_at dA102_cX12_list 10 rfl
theorem dX12_list_17 : decode cX12_list 17 = .ok (.iload_n 2, 1) := kDec_at dA102_cX12_list 11 rfl
theorem dX12_list_18 : decode cX12_list 18 = .ok (.invokestatic 158, 3) := kDec_at dA102_cX12_list 12 rfl
theorem dX12_list_21 : decode cX12_list 21 = .ok (.ifCond .eq 12, 3) := kDec_at dA102_cX12_list 13 rfl
theorem dX12_list_24 : decode cX12_list 24 = .ok (.aload_n 0, 1) := kDec_at dA102_cX12_list 14 rfl
theorem dX12_list_25 : decode cX12_list 25 = .ok (.getfield 161, 3) := kDec_at dA102_cX12_list 15 rfl
theorem dX12_list_28 : decode cX12_list 28 = .ok (.bipush 6, 2) := kDec_at dA102_cX12_list 16 rfl
theorem dX12_list_30 : decode cX12_list 30 = .ok (.if_icmp .ne 5, 3) := kDec_at dA102_cX12_list 17 rfl
theorem dX12_list_35 : decode cX12_list 35 = .ok (.iconst 0, 1) := kDec_at dA102_cX12_list 18 rfl
theorem dX12_list_36 : decode cX12_list 36 = .ok (.istore_n 3, 1) := kDec_at dA102_cX12_list 19 rfl
theorem dX12_list_37 : decode cX12_list 37 = .ok (.iload_n 3, 1) := kDec_at dA102_cX12_list 20 rfl
theorem dX12_list_38 : decode cX12_list 38 = .ok (.aload_n 0, 1) := kDec_at dA102_cX12_list 21 rfl
theorem dX12_list_39 : decode cX12_list 39 = .ok (.getfield 161, 3) := kDec_at dA102_cX12_list 22 rfl
theorem dX12_list_42 : decode cX12_list 42 = .ok (.if_icmp .ge 31, 3) := kDec_at dA102_cX12_list 23 rfl
set_option maxRecDepth 20000 in
theorem gX12_isCode_all : wsX12_isCode.all goodWord = true := by
  unfold wsX12_isCode
  exact good_c (by decide +kernel) (rfl)
set_option maxRecDepth 20000 in
theorem ggX12_list_X12_isCode : GoodIn wsX12_list wsX12_isCode := goodIn_sub (fun _ h => List.mem_cons_of_mem _ (List.mem_append_right _ (h))) gX12_isCode_all
set_option maxRecDepth 20000 in
theorem gX12_list_X12_isCode : GoodIn wsX12_list (va_wsS RX12 158 yX12_isCode wsX12_isCode) := goodIn_app (goodIn_r _ [7, 8, 9] rfl (by decide +kernel)) ggX12_list_X12_isCode
set_option maxRecDepth 100000 in
theorem dA103_cX12_list : kDec cX12_list [(73, .aload_n 0, 1), (74, .getfield 30, 3), (77, .aload_n 0, 1), (78, .getfield 161, 3), (81, .iload_n 1, 1), (82, .iastore, 1), (83, .aload_n 0, 1), (84, .getfield 33, 3), (87, .aload_n 0, 1), (88, .getfield 161, 3), (91, .iload_n 2, 1), (92, .iastore, 1), (93, .aload_n 0, 1), (94, .dup, 1), (95, .getfield 161, 3), (98, .iconst 1, 1), (99, .iadd, 1), (100, .putfield 161, 3), (103, .aload_n 0, 1), (104, .dup, 1), (105, .getfield 148, 3), (108, .iconst 1, 1), (109, .iadd, 1), (110, .putfield 148, 3)] = true := by decide +kernel
theorem dX12_list_73 : decode cX12_list 73 = .ok (.aload_n 0, 1) := kDec_at dA103_cX12_list 0 rfl
theorem dX12_list_74 : decode cX12_list 74 = .ok (.getfield 30, 3) := kDec_at dA103_cX12_list 1 rfl
theorem dX12_list_77 : decode cX12_list 77 = .ok (.aload_n 0, 1) := kDec_at dA103_cX12_list 2 rfl
theorem dX12_list_78 : decode cX12_list 78 = .ok (.getfield 161, 3) := kDec_at dA103_cX12_list 3 rfl
theorem dX12_list_81 : decode cX12_list 81 = .ok (.iload_n 1, 1) := kDec_at dA103_cX12_list 4 rfl
theorem dX12_list_82 : decode cX12_list 82 = .ok (.iastore, 1) := kDec_at dA103_cX12_list 5 rfl
theorem dX12_list_83 : decode cX12_list 83 = .ok (.aload_n 0, 1) := kDec_at dA103_cX12_list 6 rfl
theorem dX12_list_84 : decode cX12_list 84 = .ok (.getfield 33, 3) := kDec_at dA103_cX12_list 7 rfl
theorem dX12_list_87 : decode cX12_list 87 = .ok (.aload_n 0, 1) := kDec_at dA103_cX12_list 8 rfl
theorem dX12_list_88 : decode cX12_list 88 = .ok (.getfield 161, 3) := kDec_at dA103_cX12_list 9 rfl
theorem dX12_list_91 : decode cX12_list 91 = .ok (.iload_n 2, 1) := kDec_at dA103_cX12_list 10 rfl
theorem dX12_list_92 : decode cX12_list 92 = .ok (.iastore, 1) := kDec_at dA103_cX12_list 11 rfl
theorem dX12_list_93 : decode cX12_list 93 = .ok (.aload_n 0, 1) := kDec_at dA103_cX12_list 12 rfl
theorem dX12_list_94 : decode cX12_list 94 = .ok (.dup, 1) := kDec_at dA103_cX12_list 13 rfl
theorem dX12_list_95 : decode cX12_list 95 = .ok (.getfield 161, 3) := kDec_at dA103_cX12_list 14 rfl
theorem dX12_list_98 : decode cX12_list 98 = .ok (.iconst 1, 1) := kDec_at dA103_cX12_list 15 rfl
theorem dX12_list_99 : decode cX12_list 99 = .ok (.iadd, 1) := kDec_at dA103_cX12_list 16 rfl
theorem dX12_list_100 : decode cX12_list 100 = .ok (.putfield 161, 3) := kDec_at dA103_cX12_list 17 rfl
theorem dX12_list_103 : decode cX12_list 103 = .ok (.aload_n 0, 1) := kDec_at dA103_cX12_list 18 rfl
theorem dX12_list_104 : decode cX12_list 104 = .ok (.dup, 1) := kDec_at dA103_cX12_list 19 rfl
theorem dX12_list_105 : decode cX12_list 105 = .ok (.getfield 148, 3) := kDec_at dA103_cX12_list 20 rfl
theorem dX12_list_108 : decode cX12_list 108 = .ok (.iconst 1, 1) := kDec_at dA103_cX12_list 21 rfl
theorem dX12_list_109 : decode cX12_list 109 = .ok (.iadd, 1) := kDec_at dA103_cX12_list 22 rfl
theorem dX12_list_110 : decode cX12_list 110 = .ok (.putfield 148, 3) := kDec_at dA103_cX12_list 23 rfl
set_option maxRecDepth 100000 in
theorem dA104_cX12_list : kDec cX12_list [(113, .aload_n 0, 1), (114, .getfield 161, 3), (117, .iconst 1, 1), (118, .isub, 1), (119, .ireturn, 1), (45, .aload_n 0, 1), (46, .getfield 30, 3), (49, .iload_n 3, 1), (50, .iaload, 1), (51, .iload_n 1, 1), (52, .if_icmp .ne 15, 3), (67, .iinc 3 1, 3), (70, .goto (-33), 3), (55, .aload_n 0, 1), (56, .getfield 33, 3), (59, .iload_n 3, 1), (60, .iaload, 1), (61, .iload_n 2, 1), (62, .if_icmp .ne 5, 3), (65, .iconst (-1), 1), (66, .ireturn, 1)] = true := by decide +kernel
theorem dX12_list_113 : decode cX12_list 113 = .ok (.aload_n 0, 1) := kDec_at dA104_cX12_list 0 rfl
theorem dX12_list_114 : decode cX12_list 114 = .ok (.getfield 161, 3) := kDec_at dA104_cX12_list 1 rfl
theorem dX12_list_117 : decode cX12_list 117 = .ok (.iconst 1, 1) := kDec_at dA104_cX12_list 2 rfl
theorem dX12_list_118 : decode cX12_list 118 = .ok (.isub, 1) := kDec_at dA104_cX12_list 3 rfl
theorem dX12_list_119 : decode cX12_list 119 = .ok (.ireturn, 1) := kDec_at dA104_cX12_list 4 rfl
theorem dX12_list_45 : decode cX12_list 45 = .ok (.aload_n 0, 1) := kDec_at dA104_cX12_list 5 rfl
theorem dX12_list_46 : decode cX12_list 46 = .ok (.getfield 30, 3) := kDec_at dA104_cX12_list 6 rfl
theorem dX12_list_49 : decode cX12_list 49 = .ok (.iload_n 3, 1) := kDec_at dA104_cX12_list 7 rfl
theorem dX12_list_50 : decode cX12_list 50 = .ok (.iaload, 1) := kDec_at dA104_cX12_list 8 rfl
theorem dX12_list_51 : decode cX12_list 51 = .ok (.iload_n 1, 1) := kDec_at dA104_cX12_list 9 rfl
theorem dX12_list_52 : decode cX12_list 52 = .ok (.if_icmp .ne 15, 3) := kDec_at dA104_cX12_list 10 rfl
theorem dX12_list_67 : decode cX12_list 67 = .ok (.iinc 3 1, 3) := kDec_at dA104_cX12_list 11 rfl
theorem dX12_list_70 : decode cX12_list 70 = .ok (.goto (-33), 3) := kDec_at dA104_cX12_list 12 rfl
theorem dX12_list_55 : decode cX12_list 55 = .ok (.aload_n 0, 1) := kDec_at dA104_cX12_list 13 rfl
theorem dX12_list_56 : decode cX12_list 56 = .ok (.getfield 33, 3) := kDec_at dA104_cX12_list 14 rfl
theorem dX12_list_59 : decode cX12_list 59 = .ok (.iload_n 3, 1) := kDec_at dA104_cX12_list 15 rfl
theorem dX12_list_60 : decode cX12_list 60 = .ok (.iaload, 1) := kDec_at dA104_cX12_list 16 rfl
theorem dX12_list_61 : decode cX12_list 61 = .ok (.iload_n 2, 1) := kDec_at dA104_cX12_list 17 rfl
theorem dX12_list_62 : decode cX12_list 62 = .ok (.if_icmp .ne 5, 3) := kDec_at dA104_cX12_list 18 rfl
theorem dX12_list_65 : decode cX12_list 65 = .ok (.iconst (-1), 1) := kDec_at dA104_cX12_list 19 rfl
theorem dX12_list_66 : decode cX12_list 66 = .ok (.ireturn, 1) := kDec_at dA104_cX12_list 20 rfl
set_option maxRecDepth 100000 in
theorem dA105_cX12_unlist : kDec cX12_unlist [(0, .aload_n 0, 1), (1, .iconst 0, 1), (2, .putfield 85, 3), (5, .aload_n 0, 1), (6, .getfield 161, 3), (9, .istore_n 1, 1), (10, .aload_n 0, 1), (11, .iconst 0, 1), (12, .putfield 161, 3), (15, .aload_n 0, 1), (16, .dup, 1), (17, .getfield 148, 3), (20, .iconst 1, 1), (21, .iadd, 1), (22, .putfield 148, 3), (25, .iload_n 1, 1), (26, .ireturn, 1)] = true := by decide +kernel
theorem dX12_unlist_0 : decode cX12_unlist 0 = .ok (.aload_n 0, 1) := kDec_at dA105_cX12_unlist 0 rfl
theorem dX12_unlist_1 : decode cX12_unlist 1 = .ok (.iconst 0, 1) := kDec_at dA105_cX12_unlist 1 rfl
theorem dX12_unlist_2 : decode cX12_unlist 2 = .ok (.putfield 85, 3) := kDec_at dA105_cX12_unlist 2 rfl
theorem dX12_unlist_5 : decode cX12_unlist 5 = .ok (.aload_n 0, 1) := kDec_at dA105_cX12_unlist 3 rfl
theorem dX12_unlist_6 : decode cX12_unlist 6 = .ok (.getfield 161, 3) := kDec_at dA105_cX12_unlist 4 rfl
theorem dX12_unlist_9 : decode cX12_unlist 9 = .ok (.istore_n 1, 1) := kDec_at dA105_cX12_unlist 5 rfl
theorem dX12_unlist_10 : decode cX12_unlist 10 = .ok (.aload_n 0, 1) := kDec_at dA105_cX12_unlist 6 rfl
theorem dX12_unlist_11 : decode cX12_unlist 11 = .ok (.iconst 0, 1) := kDec_at dA105_cX12_unlist 7 rfl
theorem dX12_unlist_12 : decode cX12_unlist 12 = .ok (.putfield 161, 3) := kDec_at dA105_cX12_unlist 8 rfl
theorem dX12_unlist_15 : decode cX12_unlist 15 = .ok (.aload_n 0, 1) := kDec_at dA105_cX12_unlist 9 rfl
theorem dX12_unlist_16 : decode cX12_unlist 16 = .ok (.dup, 1) := kDec_at dA105_cX12_unlist 10 rfl
theorem dX12_unlist_17 : decode cX12_unlist 17 = .ok (.getfield 148, 3) := kDec_at dA105_cX12_unlist 11 rfl
theorem dX12_unlist_20 : decode cX12_unlist 20 = .ok (.iconst 1, 1) := kDec_at dA105_cX12_unlist 12 rfl
theorem dX12_unlist_21 : decode cX12_unlist 21 = .ok (.iadd, 1) := kDec_at dA105_cX12_unlist 13 rfl
theorem dX12_unlist_22 : decode cX12_unlist 22 = .ok (.putfield 148, 3) := kDec_at dA105_cX12_unlist 14 rfl
theorem dX12_unlist_25 : decode cX12_unlist 25 = .ok (.iload_n 1, 1) := kDec_at dA105_cX12_unlist 15 rfl
theorem dX12_unlist_26 : decode cX12_unlist 26 = .ok (.ireturn, 1) := kDec_at dA105_cX12_unlist 16 rfl
set_option maxRecDepth 100000 in
theorem dA106_cX10_placeFor : kDec cX10_placeFor [(0, .iload_n 1, 1), (1, .ldc 45, 2), (3, .imul, 1), (4, .bipush 23, 2), (6, .iushr, 1), (7, .istore_n 2, 1), (8, .iconst 0, 1), (9, .istore_n 3, 1), (10, .iload_n 3, 1), (11, .sipush 512, 3), (14, .if_icmp .ge 43, 3), (57, .iconst (-1), 1), (58, .ireturn, 1), (17, .iload_n 2, 1), (18, .iload_n 3, 1), (19, .iadd, 1), (20, .sipush 511, 3), (23, .iand, 1), (24, .istore 4, 2), (26, .aload_n 0, 1), (27, .getfield 18, 3), (30, .iload 4, 2), (32, .iaload, 1), (33, .iconst (-1), 1)] = true := by decide +kernel
theorem dX10_placeFor_0 : decode cX10_placeFor 0 = .ok (.iload_n 1, 1) := kDec_at dA106_cX10_placeFor 0 rfl
theorem dX10_placeFor_1 : decode cX10_placeFor 1 = .ok (.ldc 45, 2) := kDec_at dA106_cX10_placeFor 1 rfl
theorem dX10_placeFor_3 : decode cX10_placeFor 3 = .ok (.imul, 1) := kDec_at dA106_cX10_placeFor 2 rfl
theorem dX10_placeFor_4 : decode cX10_placeFor 4 = .ok (.bipush 23, 2) := kDec_at dA106_cX10_placeFor 3 rfl
theorem dX10_placeFor_6 : decode cX10_placeFor 6 = .ok (.iushr, 1) := kDec_at dA106_cX10_placeFor 4 rfl
theorem dX10_placeFor_7 : decode cX10_placeFor 7 = .ok (.istore_n 2, 1) := kDec_at dA106_cX10_placeFor 5 rfl
theorem dX10_placeFor_8 : decode cX10_placeFor 8 = .ok (.iconst 0, 1) := kDec_at dA106_cX10_placeFor 6 rfl
theorem dX10_placeFor_9 : decode cX10_placeFor 9 = .ok (.istore_n 3, 1) := kDec_at dA106_cX10_placeFor 7 rfl
theorem dX10_placeFor_10 : decode cX10_placeFor 10 = .ok (.iload_n 3, 1) := kDec_at dA106_cX10_placeFor 8 rfl
theorem dX10_placeFor_11 : decode cX10_placeFor 11 = .ok (.sipush 512, 3) := kDec_at dA106_cX10_placeFor 9 rfl
theorem dX10_placeFor_14 : decode cX10_placeFor 14 = .ok (.if_icmp .ge 43, 3) := kDec_at dA106_cX10_placeFor 10 rfl
theorem dX10_placeFor_57 : decode cX10_placeFor 57 = .ok (.iconst (-1), 1) := kDec_at dA106_cX10_placeFor 11 rfl
theorem dX10_placeFor_58 : decode cX10_placeFor 58 = .ok (.ireturn, 1) := kDec_at dA106_cX10_placeFor 12 rfl
theorem dX10_placeFor_17 : decode cX10_placeFor 17 = .ok (.iload_n 2, 1) := kDec_at dA106_cX10_placeFor 13 rfl
theorem dX10_placeFor_18 : decode cX10_placeFor 18 = .ok (.iload_n 3, 1) := kDec_at dA106_cX10_placeFor 14 rfl
theorem dX10_placeFor_19 : decode cX10_placeFor 19 = .ok (.iadd, 1) := kDec_at dA106_cX10_placeFor 15 rfl
theorem dX10_placeFor_20 : decode cX10_placeFor 20 = .ok (.sipush 511, 3) := kDec_at dA106_cX10_placeFor 16 rfl
theorem dX10_placeFor_23 : decode cX10_placeFor 23 = .ok (.iand, 1) := kDec_at dA106_cX10_placeFor 17 rfl
theorem dX10_placeFor_24 : decode cX10_placeFor 24 = .ok (.istore 4, 2) := kDec_at dA106_cX10_placeFor 18 rfl
theorem dX10_placeFor_26 : decode cX10_placeFor 26 = .ok (.aload_n 0, 1) := kDec_at dA106_cX10_placeFor 19 rfl
theorem dX10_placeFor_27 : decode cX10_placeFor 27 = .ok (.getfield 18, 3) := kDec_at dA106_cX10_placeFor 20 rfl
theorem dX10_placeFor_30 : decode cX10_placeFor 30 = .ok (.iload 4, 2) := kDec_at dA106_cX10_placeFor 21 rfl
theorem dX10_placeFor_32 : decode cX10_placeFor 32 = .ok (.iaload, 1) := kDec_at dA106_cX10_placeFor 22 rfl
theorem dX10_placeFor_33 : decode cX10_placeFor 33 = .ok (.iconst (-1), 1) := kDec_at dA106_cX10_placeFor 23 rfl
set_option maxRecDepth 100000 in
theorem dA107_cX10_placeFor : kDec cX10_placeFor [(34, .if_icmp .eq 14, 3), (48, .iload 4, 2), (50, .ireturn, 1), (37, .aload_n 0, 1), (38, .getfield 15, 3), (41, .iload 4, 2), (43, .iaload, 1), (44, .iload_n 1, 1), (45, .if_icmp .ne 6, 3), (51, .iinc 3 1, 3), (54, .goto (-44), 3)] = true := by decide +kernel
theorem dX10_placeFor_34 : decode cX10_placeFor 34 = .ok (.if_icmp .eq 14, 3) := kDec_at dA107_cX10_placeFor 0 rfl
theorem dX10_placeFor_48 : decode cX10_placeFor 48 = .ok (.iload 4, 2) := kDec_at dA107_cX10_placeFor 1 rfl
theorem dX10_placeFor_50 : decode cX10_placeFor 50 = .ok (.ireturn, 1) := kDec_at dA107_cX10_placeFor 2 rfl
theorem dX10_placeFor_37 : decode cX10_placeFor 37 = .ok (.aload_n 0, 1) := kDec_at dA107_cX10_placeFor 3 rfl
theorem dX10_placeFor_38 : decode cX10_placeFor 38 = .ok (.getfield 15, 3) := kDec_at dA107_cX10_placeFor 4 rfl
theorem dX10_placeFor_41 : decode cX10_placeFor 41 = .ok (.iload 4, 2) := kDec_at dA107_cX10_placeFor 5 rfl
theorem dX10_placeFor_43 : decode cX10_placeFor 43 = .ok (.iaload, 1) := kDec_at dA107_cX10_placeFor 6 rfl
theorem dX10_placeFor_44 : decode cX10_placeFor 44 = .ok (.iload_n 1, 1) := kDec_at dA107_cX10_placeFor 7 rfl
theorem dX10_placeFor_45 : decode cX10_placeFor 45 = .ok (.if_icmp .ne 6, 3) := kDec_at dA107_cX10_placeFor 8 rfl
theorem dX10_placeFor_51 : decode cX10_placeFor 51 = .ok (.iinc 3 1, 3) := kDec_at dA107_cX10_placeFor 9 rfl
theorem dX10_placeFor_54 : decode cX10_placeFor 54 = .ok (.goto (-44), 3) := kDec_at dA107_cX10_placeFor 10 rfl
set_option maxRecDepth 100000 in
theorem dA108_cX10_byteFor : kDec cX10_byteFor [(0, .aload_n 0, 1), (1, .iload_n 1, 1), (2, .invokevirtual 31, 3), (5, .istore_n 2, 1), (6, .iload_n 2, 1), (7, .iconst (-1), 1), (8, .if_icmp .ne 7, 3), (15, .aload_n 0, 1), (16, .getfield 18, 3), (19, .iload_n 2, 1), (20, .iaload, 1), (21, .ireturn, 1)] = true := by decide +kernel
theorem dX10_byteFor_0 : decode cX10_byteFor 0 = .ok (.aload_n 0, 1) := kDec_at dA108_cX10_byteFor 0 rfl
theorem dX10_byteFor_1 : decode cX10_byteFor 1 = .ok (.iload_n 1, 1) := kDec_at dA108_cX10_byteFor 1 rfl
theorem dX10_byteFor_2 : decode cX10_byteFor 2 = .ok (.invokevirtual 31, 3) := kDec_at dA108_cX10_byteFor 2 rfl
theorem dX10_byteFor_5 : decode cX10_byteFor 5 = .ok (.istore_n 2, 1) := kDec_at dA108_cX10_byteFor 3 rfl
theorem dX10_byteFor_6 : decode cX10_byteFor 6 = .ok (.iload_n 2, 1) := kDec_at dA108_cX10_byteFor 4 rfl
theorem dX10_byteFor_7 : decode cX10_byteFor 7 = .ok (.iconst (-1), 1) := kDec_at dA108_cX10_byteFor 5 rfl
theorem dX10_byteFor_8 : decode cX10_byteFor 8 = .ok (.if_icmp .ne 7, 3) := kDec_at dA108_cX10_byteFor 6 rfl
theorem dX10_byteFor_15 : decode cX10_byteFor 15 = .ok (.aload_n 0, 1) := kDec_at dA108_cX10_byteFor 7 rfl
theorem dX10_byteFor_16 : decode cX10_byteFor 16 = .ok (.getfield 18, 3) := kDec_at dA108_cX10_byteFor 8 rfl
theorem dX10_byteFor_19 : decode cX10_byteFor 19 = .ok (.iload_n 2, 1) := kDec_at dA108_cX10_byteFor 9 rfl
theorem dX10_byteFor_20 : decode cX10_byteFor 20 = .ok (.iaload, 1) := kDec_at dA108_cX10_byteFor 10 rfl
theorem dX10_byteFor_21 : decode cX10_byteFor 21 = .ok (.ireturn, 1) := kDec_at dA108_cX10_byteFor 11 rfl
set_option maxRecDepth 20000 in
theorem gX10_placeFor_all : wsX10_placeFor.all goodWord = true := by
  unfold wsX10_placeFor
  exact good_c (by decide +kernel) (good_a ((by decide +kernel)) gX10_clsall)
set_option maxRecDepth 20000 in
theorem ggX10_byteFor_X10_placeFor : GoodIn wsX10_byteFor wsX10_placeFor := goodIn_sub (fun _ h => List.mem_cons_of_mem _ (List.mem_append_right _ (h))) gX10_placeFor_all
set_option maxRecDepth 20000 in
theorem gX10_byteFor_X10_placeFor : GoodIn wsX10_byteFor (wsV RX10 31 RX10 yX10_placeFor wsX10_placeFor) := goodIn_app (goodIn_r _ [2, 3, 4, 5] rfl (by decide +kernel)) ggX10_byteFor_X10_placeFor
set_option maxRecDepth 100000 in
theorem dA109_cX10_canTake : kDec cX10_canTake [(0, .iload_n 1, 1), (1, .ifCond .lt 28, 3), (29, .iconst 0, 1), (30, .istore 5, 2), (32, .iload 5, 2), (34, .ifCond .eq 26, 3), (60, .iconst 0, 1), (61, .ireturn, 1), (4, .iload_n 1, 1), (5, .sipush 256, 3), (8, .if_icmp .ge 21, 3), (11, .iload_n 2, 1), (12, .iconst 1, 1), (13, .if_icmp .lt 16, 3), (16, .iload_n 2, 1), (17, .sipush 256, 3), (20, .iload_n 1, 1), (21, .isub, 1), (22, .if_icmp .gt 7, 3), (25, .iconst 1, 1), (26, .goto 4, 3), (37, .iload 4, 2), (39, .sipush (-255), 3), (42, .if_icmp .lt 18, 3)] = true := by decide +kernel
theorem dX10_canTake_0 : decode cX10_canTake 0 = .ok (.iload_n 1, 1) := kDec_at dA109_cX10_canTake 0 rfl
theorem dX10_canTake_1 : decode cX10_canTake 1 = .ok (.ifCond .lt 28, 3) := kDec_at dA109_cX10_canTake 1 rfl
theorem dX10_canTake_29 : decode cX10_canTake 29 = .ok (.iconst 0, 1) := kDec_at dA109_cX10_canTake 2 rfl
theorem dX10_canTake_30 : decode cX10_canTake 30 = .ok (.istore 5, 2) := kDec_at dA109_cX10_canTake 3 rfl
theorem dX10_canTake_32 : decode cX10_canTake 32 = .ok (.iload 5, 2) := kDec_at dA109_cX10_canTake 4 rfl
theorem dX10_canTake_34 : decode cX10_canTake 34 = .ok (.ifCond .eq 26, 3) := kDec_at dA109_cX10_canTake 5 rfl
theorem dX10_canTake_60 : decode cX10_canTake 60 = .ok (.iconst 0, 1) := kDec_at dA109_cX10_canTake 6 rfl
theorem dX10_canTake_61 : decode cX10_canTake 61 = .ok (.ireturn, 1) := kDec_at dA109_cX10_canTake 7 rfl
theorem dX10_canTake_4 : decode cX10_canTake 4 = .ok (.iload_n 1, 1) := kDec_at dA109_cX10_canTake 8 rfl
theorem dX10_canTake_5 : decode cX10_canTake 5 = .ok (.sipush 256, 3) := kDec_at dA109_cX10_canTake 9 rfl
theorem dX10_canTake_8 : decode cX10_canTake 8 = .ok (.if_icmp .ge 21, 3) := kDec_at dA109_cX10_canTake 10 rfl
theorem dX10_canTake_11 : decode cX10_canTake 11 = .ok (.iload_n 2, 1) := kDec_at dA109_cX10_canTake 11 rfl
theorem dX10_canTake_12 : decode cX10_canTake 12 = .ok (.iconst 1, 1) := kDec_at dA109_cX10_canTake 12 rfl
theorem dX10_canTake_13 : decode cX10_canTake 13 = .ok (.if_icmp .lt 16, 3) := kDec_at dA109_cX10_canTake 13 rfl
theorem dX10_canTake_16 : decode cX10_canTake 16 = .ok (.iload_n 2, 1) := kDec_at dA109_cX10_canTake 14 rfl
theorem dX10_canTake_17 : decode cX10_canTake 17 = .ok (.sipush 256, 3) := kDec_at dA109_cX10_canTake 15 rfl
theorem dX10_canTake_20 : decode cX10_canTake 20 = .ok (.iload_n 1, 1) := kDec_at dA109_cX10_canTake 16 rfl
theorem dX10_canTake_21 : decode cX10_canTake 21 = .ok (.isub, 1) := kDec_at dA109_cX10_canTake 17 rfl
theorem dX10_canTake_22 : decode cX10_canTake 22 = .ok (.if_icmp .gt 7, 3) := kDec_at dA109_cX10_canTake 18 rfl
theorem dX10_canTake_25 : decode cX10_canTake 25 = .ok (.iconst 1, 1) := kDec_at dA109_cX10_canTake 19 rfl
theorem dX10_canTake_26 : decode cX10_canTake 26 = .ok (.goto 4, 3) := kDec_at dA109_cX10_canTake 20 rfl
theorem dX10_canTake_37 : decode cX10_canTake 37 = .ok (.iload 4, 2) := kDec_at dA109_cX10_canTake 21 rfl
theorem dX10_canTake_39 : decode cX10_canTake 39 = .ok (.sipush (-255), 3) := kDec_at dA109_cX10_canTake 22 rfl
theorem dX10_canTake_42 : decode cX10_canTake 42 = .ok (.if_icmp .lt 18, 3) := kDec_at dA109_cX10_canTake 23 rfl
set_option maxRecDepth 100000 in
theorem dA110_cX10_canTake : kDec cX10_canTake [(45, .iload 4, 2), (47, .sipush 255, 3), (50, .if_icmp .gt 10, 3), (53, .iload_n 3, 1), (54, .invokestatic 35, 3), (57, .ifCond .ne 5, 3), (62, .iload 4, 2), (64, .ifCond .ne 10, 3), (74, .iconst 0, 1), (75, .istore 6, 2), (77, .iload 6, 2), (79, .iload_n 2, 1), (80, .if_icmp .ge 50, 3), (130, .iconst 1, 1), (131, .ireturn, 1), (83, .iload_n 3, 1), (84, .iload 6, 2), (86, .iload 4, 2), (88, .imul, 1), (89, .iadd, 1), (90, .istore 7, 2), (92, .iload 7, 2), (94, .invokestatic 35, 3), (97, .ifCond .eq 25, 3)] = true := by decide +kernel
theorem dX10_canTake_45 : decode cX10_canTake 45 = .ok (.iload 4, 2) := kDec_at dA110_cX10_canTake 0 rfl
theorem dX10_canTake_47 : decode cX10_canTake 47 = .ok (.sipush 255, 3) := kDec_at dA110_cX10_canTake 1 rfl
theorem dX10_canTake_50 : decode cX10_canTake 50 = .ok (.if_icmp .gt 10, 3) := kDec_at dA110_cX10_canTake 2 rfl
theorem dX10_canTake_53 : decode cX10_canTake 53 = .ok (.iload_n 3, 1) := kDec_at dA110_cX10_canTake 3 rfl
theorem dX10_canTake_54 : decode cX10_canTake 54 = .ok (.invokestatic 35, 3) := kDec_at dA110_cX10_canTake 4 rfl
theorem dX10_canTake_57 : decode cX10_canTake 57 = .ok (.ifCond .ne 5, 3) := kDec_at dA110_cX10_canTake 5 rfl
theorem dX10_canTake_62 : decode cX10_canTake 62 = .ok (.iload 4, 2) := kDec_at dA110_cX10_canTake 6 rfl
theorem dX10_canTake_64 : decode cX10_canTake 64 = .ok (.ifCond .ne 10, 3) := kDec_at dA110_cX10_canTake 7 rfl
theorem dX10_canTake_74 : decode cX10_canTake 74 = .ok (.iconst 0, 1) := kDec_at dA110_cX10_canTake 8 rfl
theorem dX10_canTake_75 : decode cX10_canTake 75 = .ok (.istore 6, 2) := kDec_at dA110_cX10_canTake 9 rfl
theorem dX10_canTake_77 : decode cX10_canTake 77 = .ok (.iload 6, 2) := kDec_at dA110_cX10_canTake 10 rfl
theorem dX10_canTake_79 : decode cX10_canTake 79 = .ok (.iload_n 2, 1) := kDec_at dA110_cX10_canTake 11 rfl
theorem dX10_canTake_80 : decode cX10_canTake 80 = .ok (.if_icmp .ge 50, 3) := kDec_at dA110_cX10_canTake 12 rfl
theorem dX10_canTake_130 : decode cX10_canTake 130 = .ok (.iconst 1, 1) := kDec_at dA110_cX10_canTake 13 rfl
theorem dX10_canTake_131 : decode cX10_canTake 131 = .ok (.ireturn, 1) := kDec_at dA110_cX10_canTake 14 rfl
theorem dX10_canTake_83 : decode cX10_canTake 83 = .ok (.iload_n 3, 1) := kDec_at dA110_cX10_canTake 15 rfl
theorem dX10_canTake_84 : decode cX10_canTake 84 = .ok (.iload 6, 2) := kDec_at dA110_cX10_canTake 16 rfl
theorem dX10_canTake_86 : decode cX10_canTake 86 = .ok (.iload 4, 2) := kDec_at dA110_cX10_canTake 17 rfl
theorem dX10_canTake_88 : decode cX10_canTake 88 = .ok (.imul, 1) := kDec_at dA110_cX10_canTake 18 rfl
theorem dX10_canTake_89 : decode cX10_canTake 89 = .ok (.iadd, 1) := kDec_at dA110_cX10_canTake 19 rfl
theorem dX10_canTake_90 : decode cX10_canTake 90 = .ok (.istore 7, 2) := kDec_at dA110_cX10_canTake 20 rfl
theorem dX10_canTake_92 : decode cX10_canTake 92 = .ok (.iload 7, 2) := kDec_at dA110_cX10_canTake 21 rfl
theorem dX10_canTake_94 : decode cX10_canTake 94 = .ok (.invokestatic 35, 3) := kDec_at dA110_cX10_canTake 22 rfl
theorem dX10_canTake_97 : decode cX10_canTake 97 = .ok (.ifCond .eq 25, 3) := kDec_at dA110_cX10_canTake 23 rfl
set_option maxRecDepth 20000 in
theorem ggX10_canTake_X11_isLetter : GoodIn wsX10_canTake wsX11_isLetter := goodIn_sub (fun _ h => List.mem_cons_of_mem _ (List.mem_append_left _ (List.mem_append_left _ (List.mem_append_right _ (h))))) gX11_isLetter_all
set_option maxRecDepth 20000 in
theorem gX10_canTake_X11_isLetter_n35 : GoodIn wsX10_canTake (wsX11_isLetter) := ggX10_canTake_X11_isLetter
set_option maxRecDepth 100000 in
theorem dA111_cX10_canTake : kDec cX10_canTake [(122, .iconst 0, 1), (123, .ireturn, 1), (100, .aload_n 0, 1), (101, .iload_n 1, 1), (102, .iload 6, 2), (104, .iadd, 1), (105, .invokevirtual 39, 3), (108, .iconst (-1), 1), (109, .if_icmp .ne 13, 3), (112, .aload_n 0, 1), (113, .iload 7, 2), (115, .invokevirtual 42, 3), (118, .iconst (-1), 1), (119, .if_icmp .eq 5, 3), (124, .iinc 6 1, 3), (127, .goto (-50), 3), (67, .iload_n 2, 1), (68, .iconst 1, 1), (69, .if_icmp .le 5, 3), (72, .iconst 0, 1), (73, .ireturn, 1)] = true := by decide +kernel
theorem dX10_canTake_122 : decode cX10_canTake 122 = .ok (.iconst 0, 1) := kDec_at dA111_cX10_canTake 0 rfl
theorem dX10_canTake_123 : decode cX10_canTake 123 = .ok (.ireturn, 1) := kDec_at dA111_cX10_canTake 1 rfl
theorem dX10_canTake_100 : decode cX10_canTake 100 = .ok (.aload_n 0, 1) := kDec_at dA111_cX10_canTake 2 rfl
theorem dX10_canTake_101 : decode cX10_canTake 101 = .ok (.iload_n 1, 1) := kDec_at dA111_cX10_canTake 3 rfl
theorem dX10_canTake_102 : decode cX10_canTake 102 = .ok (.iload 6, 2) := kDec_at dA111_cX10_canTake 4 rfl
theorem dX10_canTake_104 : decode cX10_canTake 104 = .ok (.iadd, 1) := kDec_at dA111_cX10_canTake 5 rfl
theorem dX10_canTake_105 : decode cX10_canTake 105 = .ok (.invokevirtual 39, 3) := kDec_at dA111_cX10_canTake 6 rfl
theorem dX10_canTake_108 : decode cX10_canTake 108 = .ok (.iconst (-1), 1) := kDec_at dA111_cX10_canTake 7 rfl
theorem dX10_canTake_109 : decode cX10_canTake 109 = .ok (.if_icmp .ne 13, 3) := kDec_at dA111_cX10_canTake 8 rfl
theorem dX10_canTake_112 : decode cX10_canTake 112 = .ok (.aload_n 0, 1) := kDec_at dA111_cX10_canTake 9 rfl
theorem dX10_canTake_113 : decode cX10_canTake 113 = .ok (.iload 7, 2) := kDec_at dA111_cX10_canTake 10 rfl
theorem dX10_canTake_115 : decode cX10_canTake 115 = .ok (.invokevirtual 42, 3) := kDec_at dA111_cX10_canTake 11 rfl
theorem dX10_canTake_118 : decode cX10_canTake 118 = .ok (.iconst (-1), 1) := kDec_at dA111_cX10_canTake 12 rfl
theorem dX10_canTake_119 : decode cX10_canTake 119 = .ok (.if_icmp .eq 5, 3) := kDec_at dA111_cX10_canTake 13 rfl
theorem dX10_canTake_124 : decode cX10_canTake 124 = .ok (.iinc 6 1, 3) := kDec_at dA111_cX10_canTake 14 rfl
theorem dX10_canTake_127 : decode cX10_canTake 127 = .ok (.goto (-50), 3) := kDec_at dA111_cX10_canTake 15 rfl
theorem dX10_canTake_67 : decode cX10_canTake 67 = .ok (.iload_n 2, 1) := kDec_at dA111_cX10_canTake 16 rfl
theorem dX10_canTake_68 : decode cX10_canTake 68 = .ok (.iconst 1, 1) := kDec_at dA111_cX10_canTake 17 rfl
theorem dX10_canTake_69 : decode cX10_canTake 69 = .ok (.if_icmp .le 5, 3) := kDec_at dA111_cX10_canTake 18 rfl
theorem dX10_canTake_72 : decode cX10_canTake 72 = .ok (.iconst 0, 1) := kDec_at dA111_cX10_canTake 19 rfl
theorem dX10_canTake_73 : decode cX10_canTake 73 = .ok (.ireturn, 1) := kDec_at dA111_cX10_canTake 20 rfl
set_option maxRecDepth 20000 in
theorem gX10_letterFor_all : wsX10_letterFor.all goodWord = true := by
  unfold wsX10_letterFor
  exact good_c (by decide +kernel) (good_a ((by decide +kernel)) gX10_clsall)
set_option maxRecDepth 20000 in
theorem ggX10_canTake_X10_letterFor : GoodIn wsX10_canTake wsX10_letterFor := goodIn_sub (fun _ h => List.mem_cons_of_mem _ (List.mem_append_left _ (List.mem_append_right _ (h)))) gX10_letterFor_all
set_option maxRecDepth 20000 in
theorem gX10_canTake_X10_letterFor : GoodIn wsX10_canTake (wsV RX10 39 RX10 yX10_letterFor wsX10_letterFor) := goodIn_app (goodIn_r _ [3, 4, 5, 6] rfl (by decide +kernel)) ggX10_canTake_X10_letterFor
set_option maxRecDepth 20000 in
theorem gX10_byteFor_all : wsX10_byteFor.all goodWord = true := by
  unfold wsX10_byteFor
  exact good_c (by decide +kernel) (good_a (good_a ((by decide +kernel)) gX10_clsall) gX10_placeFor_all)
set_option maxRecDepth 20000 in
theorem ggX10_canTake_X10_byteFor : GoodIn wsX10_canTake wsX10_byteFor := goodIn_sub (fun _ h => List.mem_cons_of_mem _ (List.mem_append_right _ (h))) gX10_byteFor_all
set_option maxRecDepth 20000 in
theorem gX10_canTake_X10_byteFor : GoodIn wsX10_canTake (wsV RX10 42 RX10 yX10_byteFor wsX10_byteFor) := goodIn_app (goodIn_r _ [7, 8, 9, 6] rfl (by decide +kernel)) ggX10_canTake_X10_byteFor
set_option maxRecDepth 100000 in
theorem dA112_cX10_tell : kDec cX10_tell [(0, .aload_n 0, 1), (1, .iload_n 2, 1), (2, .invokevirtual 31, 3), (5, .istore_n 3, 1), (6, .iload_n 3, 1), (7, .iconst (-1), 1), (8, .if_icmp .eq 14, 3), (11, .iload_n 1, 1), (12, .ifCond .lt 10, 3), (15, .iload_n 1, 1), (16, .sipush 256, 3), (19, .if_icmp .lt 4, 3), (23, .aload_n 0, 1), (24, .getfield 9, 3), (27, .iload_n 1, 1), (28, .iload_n 2, 1), (29, .iastore, 1), (30, .aload_n 0, 1), (31, .getfield 15, 3), (34, .iload_n 3, 1), (35, .iload_n 2, 1), (36, .iastore, 1), (37, .aload_n 0, 1), (38, .getfield 18, 3)] = true := by decide +kernel
theorem dX10_tell_0 : decode cX10_tell 0 = .ok (.aload_n 0, 1) := kDec_at dA112_cX10_tell 0 rfl
theorem dX10_tell_1 : decode cX10_tell 1 = .ok (.iload_n 2, 1) := kDec_at dA112_cX10_tell 1 rfl
theorem dX10_tell_2 : decode cX10_tell 2 = .ok (.invokevirtual 31, 3) := kDec_at dA112_cX10_tell 2 rfl
theorem dX10_tell_5 : decode cX10_tell 5 = .ok (.istore_n 3, 1) := kDec_at dA112_cX10_tell 3 rfl
theorem dX10_tell_6 : decode cX10_tell 6 = .ok (.iload_n 3, 1) := kDec_at dA112_cX10_tell 4 rfl
theorem dX10_tell_7 : decode cX10_tell 7 = .ok (.iconst (-1), 1) := kDec_at dA112_cX10_tell 5 rfl
theorem dX10_tell_8 : decode cX10_tell 8 = .ok (.if_icmp .eq 14, 3) := kDec_at dA112_cX10_tell 6 rfl
theorem dX10_tell_11 : decode cX10_tell 11 = .ok (.iload_n 1, 1) := kDec_at dA112_cX10_tell 7 rfl
theorem dX10_tell_12 : decode cX10_tell 12 = .ok (.ifCond .lt 10, 3) := kDec_at dA112_cX10_tell 8 rfl
theorem dX10_tell_15 : decode cX10_tell 15 = .ok (.iload_n 1, 1) := kDec_at dA112_cX10_tell 9 rfl
theorem dX10_tell_16 : decode cX10_tell 16 = .ok (.sipush 256, 3) := kDec_at dA112_cX10_tell 10 rfl
theorem dX10_tell_19 : decode cX10_tell 19 = .ok (.if_icmp .lt 4, 3) := kDec_at dA112_cX10_tell 11 rfl
theorem dX10_tell_23 : decode cX10_tell 23 = .ok (.aload_n 0, 1) := kDec_at dA112_cX10_tell 12 rfl
theorem dX10_tell_24 : decode cX10_tell 24 = .ok (.getfield 9, 3) := kDec_at dA112_cX10_tell 13 rfl
theorem dX10_tell_27 : decode cX10_tell 27 = .ok (.iload_n 1, 1) := kDec_at dA112_cX10_tell 14 rfl
theorem dX10_tell_28 : decode cX10_tell 28 = .ok (.iload_n 2, 1) := kDec_at dA112_cX10_tell 15 rfl
theorem dX10_tell_29 : decode cX10_tell 29 = .ok (.iastore, 1) := kDec_at dA112_cX10_tell 16 rfl
theorem dX10_tell_30 : decode cX10_tell 30 = .ok (.aload_n 0, 1) := kDec_at dA112_cX10_tell 17 rfl
theorem dX10_tell_31 : decode cX10_tell 31 = .ok (.getfield 15, 3) := kDec_at dA112_cX10_tell 18 rfl
theorem dX10_tell_34 : decode cX10_tell 34 = .ok (.iload_n 3, 1) := kDec_at dA112_cX10_tell 19 rfl
theorem dX10_tell_35 : decode cX10_tell 35 = .ok (.iload_n 2, 1) := kDec_at dA112_cX10_tell 20 rfl
theorem dX10_tell_36 : decode cX10_tell 36 = .ok (.iastore, 1) := kDec_at dA112_cX10_tell 21 rfl
theorem dX10_tell_37 : decode cX10_tell 37 = .ok (.aload_n 0, 1) := kDec_at dA112_cX10_tell 22 rfl
theorem dX10_tell_38 : decode cX10_tell 38 = .ok (.getfield 18, 3) := kDec_at dA112_cX10_tell 23 rfl
set_option maxRecDepth 20000 in
theorem ggX10_tell_X10_placeFor : GoodIn wsX10_tell wsX10_placeFor := goodIn_sub (fun _ h => List.mem_cons_of_mem _ (List.mem_append_right _ (h))) gX10_placeFor_all
set_option maxRecDepth 20000 in
theorem gX10_tell_X10_placeFor : GoodIn wsX10_tell (wsV RX10 31 RX10 yX10_placeFor wsX10_placeFor) := goodIn_app (goodIn_r _ [5, 6, 7, 8] rfl (by decide +kernel)) ggX10_tell_X10_placeFor
set_option maxRecDepth 100000 in
theorem dA113_cX10_tell : kDec cX10_tell [(41, .iload_n 3, 1), (42, .iload_n 1, 1), (43, .iastore, 1), (44, .aload_n 0, 1), (45, .dup, 1), (46, .getfield 27, 3), (49, .iconst 1, 1), (50, .iadd, 1), (51, .putfield 27, 3), (54, .return_, 1)] = true := by decide +kernel
theorem dX10_tell_41 : decode cX10_tell 41 = .ok (.iload_n 3, 1) := kDec_at dA113_cX10_tell 0 rfl
theorem dX10_tell_42 : decode cX10_tell 42 = .ok (.iload_n 1, 1) := kDec_at dA113_cX10_tell 1 rfl
theorem dX10_tell_43 : decode cX10_tell 43 = .ok (.iastore, 1) := kDec_at dA113_cX10_tell 2 rfl
theorem dX10_tell_44 : decode cX10_tell 44 = .ok (.aload_n 0, 1) := kDec_at dA113_cX10_tell 3 rfl
theorem dX10_tell_45 : decode cX10_tell 45 = .ok (.dup, 1) := kDec_at dA113_cX10_tell 4 rfl
theorem dX10_tell_46 : decode cX10_tell 46 = .ok (.getfield 27, 3) := kDec_at dA113_cX10_tell 5 rfl
theorem dX10_tell_49 : decode cX10_tell 49 = .ok (.iconst 1, 1) := kDec_at dA113_cX10_tell 6 rfl
theorem dX10_tell_50 : decode cX10_tell 50 = .ok (.iadd, 1) := kDec_at dA113_cX10_tell 7 rfl
theorem dX10_tell_51 : decode cX10_tell 51 = .ok (.putfield 27, 3) := kDec_at dA113_cX10_tell 8 rfl
theorem dX10_tell_54 : decode cX10_tell 54 = .ok (.return_, 1) := kDec_at dA113_cX10_tell 9 rfl
set_option maxRecDepth 100000 in
theorem dA114_cX11_span : kDec cX11_span [(20, .aload 6, 2), (22, .iload_n 2, 1), (23, .iload_n 3, 1), (24, .iload 4, 2), (26, .iload 5, 2), (28, .invokevirtual 133, 3), (31, .ifCond .ne 5, 3), (36, .iconst 0, 1), (37, .istore 7, 2), (39, .iload 7, 2), (41, .iload_n 3, 1), (42, .if_icmp .ge 26, 3), (68, .aload_n 0, 1), (69, .getfield 86, 3), (72, .invokevirtual 143, 3), (75, .aload 6, 2), (77, .invokevirtual 146, 3), (80, .ireturn, 1), (45, .aload 6, 2), (47, .iload_n 2, 1), (48, .iload 7, 2), (50, .iadd, 1), (51, .iload 4, 2), (53, .iload 7, 2)] = true := by decide +kernel
theorem dX11_span_20 : decode cX11_span 20 = .ok (.aload 6, 2) := kDec_at dA114_cX11_span 0 rfl
theorem dX11_span_22 : decode cX11_span 22 = .ok (.iload_n 2, 1) := kDec_at dA114_cX11_span 1 rfl
theorem dX11_span_23 : decode cX11_span 23 = .ok (.iload_n 3, 1) := kDec_at dA114_cX11_span 2 rfl
theorem dX11_span_24 : decode cX11_span 24 = .ok (.iload 4, 2) := kDec_at dA114_cX11_span 3 rfl
theorem dX11_span_26 : decode cX11_span 26 = .ok (.iload 5, 2) := kDec_at dA114_cX11_span 4 rfl
theorem dX11_span_28 : decode cX11_span 28 = .ok (.invokevirtual 133, 3) := kDec_at dA114_cX11_span 5 rfl
theorem dX11_span_31 : decode cX11_span 31 = .ok (.ifCond .ne 5, 3) := kDec_at dA114_cX11_span 6 rfl
theorem dX11_span_36 : decode cX11_span 36 = .ok (.iconst 0, 1) := kDec_at dA114_cX11_span 7 rfl
theorem dX11_span_37 : decode cX11_span 37 = .ok (.istore 7, 2) := kDec_at dA114_cX11_span 8 rfl
theorem dX11_span_39 : decode cX11_span 39 = .ok (.iload 7, 2) := kDec_at dA114_cX11_span 9 rfl
theorem dX11_span_41 : decode cX11_span 41 = .ok (.iload_n 3, 1) := kDec_at dA114_cX11_span 10 rfl
theorem dX11_span_42 : decode cX11_span 42 = .ok (.if_icmp .ge 26, 3) := kDec_at dA114_cX11_span 11 rfl
theorem dX11_span_68 : decode cX11_span 68 = .ok (.aload_n 0, 1) := kDec_at dA114_cX11_span 12 rfl
theorem dX11_span_69 : decode cX11_span 69 = .ok (.getfield 86, 3) := kDec_at dA114_cX11_span 13 rfl
theorem dX11_span_72 : decode cX11_span 72 = .ok (.invokevirtual 143, 3) := kDec_at dA114_cX11_span 14 rfl
theorem dX11_span_75 : decode cX11_span 75 = .ok (.aload 6, 2) := kDec_at dA114_cX11_span 15 rfl
theorem dX11_span_77 : decode cX11_span 77 = .ok (.invokevirtual 146, 3) := kDec_at dA114_cX11_span 16 rfl
theorem dX11_span_80 : decode cX11_span 80 = .ok (.ireturn, 1) := kDec_at dA114_cX11_span 17 rfl
theorem dX11_span_45 : decode cX11_span 45 = .ok (.aload 6, 2) := kDec_at dA114_cX11_span 18 rfl
theorem dX11_span_47 : decode cX11_span 47 = .ok (.iload_n 2, 1) := kDec_at dA114_cX11_span 19 rfl
theorem dX11_span_48 : decode cX11_span 48 = .ok (.iload 7, 2) := kDec_at dA114_cX11_span 20 rfl
theorem dX11_span_50 : decode cX11_span 50 = .ok (.iadd, 1) := kDec_at dA114_cX11_span 21 rfl
theorem dX11_span_51 : decode cX11_span 51 = .ok (.iload 4, 2) := kDec_at dA114_cX11_span 22 rfl
theorem dX11_span_53 : decode cX11_span 53 = .ok (.iload 7, 2) := kDec_at dA114_cX11_span 23 rfl
set_option maxRecDepth 20000 in
theorem gX10_canTake_all : wsX10_canTake.all goodWord = true := by
  unfold wsX10_canTake
  exact good_c (by decide +kernel) (good_a (good_a (good_a (good_a ((by decide +kernel)) gX10_clsall) gX11_isLetter_all) gX10_letterFor_all) gX10_byteFor_all)
set_option maxRecDepth 20000 in
theorem ggX11_span_X10_canTake : GoodIn wsX11_span wsX10_canTake := goodIn_sub (fun _ h => List.mem_cons_of_mem _ (List.mem_append_left _ (List.mem_append_left _ (List.mem_append_left _ (List.mem_append_right _ (h)))))) gX10_canTake_all
set_option maxRecDepth 20000 in
theorem gX11_span_X10_canTake : GoodIn wsX11_span (wsV RX11 133 RX10 yX10_canTake wsX10_canTake) := goodIn_app (goodIn_r _ [8, 9, 10, 11] rfl (by decide +kernel)) ggX11_span_X10_canTake
set_option maxRecDepth 20000 in
theorem ggX11_span_X1_forgetFreshness : GoodIn wsX11_span wsX1_forgetFreshness := goodIn_sub (fun _ h => List.mem_cons_of_mem _ (List.mem_append_left _ (List.mem_append_right _ (h)))) gX1_forgetFreshness_all
set_option maxRecDepth 20000 in
theorem gX11_span_X1_forgetFreshness : GoodIn wsX11_span (wsV RX11 143 RX1 yX1_forgetFreshness wsX1_forgetFreshness) := goodIn_app (goodIn_r _ [15, 16, 17, 18] rfl (by decide +kernel)) ggX11_span_X1_forgetFreshness
set_option maxRecDepth 20000 in
theorem ggX11_span_X10_length : GoodIn wsX11_span wsX10_length := goodIn_sub (fun _ h => List.mem_cons_of_mem _ (List.mem_append_right _ (h))) gX10_length_all
set_option maxRecDepth 20000 in
theorem gX11_span_X10_length : GoodIn wsX11_span (wsV RX11 146 RX10 yX10_length wsX10_length) := goodIn_app (goodIn_r _ [19, 20, 21, 11] rfl (by decide +kernel)) ggX11_span_X10_length
set_option maxRecDepth 100000 in
theorem dA115_cX11_span : kDec cX11_span [(55, .iload 5, 2), (57, .imul, 1), (58, .iadd, 1), (59, .invokevirtual 139, 3), (62, .iinc 7 1, 3), (65, .goto (-26), 3)] = true := by decide +kernel
theorem dX11_span_55 : decode cX11_span 55 = .ok (.iload 5, 2) := kDec_at dA115_cX11_span 0 rfl
theorem dX11_span_57 : decode cX11_span 57 = .ok (.imul, 1) := kDec_at dA115_cX11_span 1 rfl
theorem dX11_span_58 : decode cX11_span 58 = .ok (.iadd, 1) := kDec_at dA115_cX11_span 2 rfl
theorem dX11_span_59 : decode cX11_span 59 = .ok (.invokevirtual 139, 3) := kDec_at dA115_cX11_span 3 rfl
theorem dX11_span_62 : decode cX11_span 62 = .ok (.iinc 7 1, 3) := kDec_at dA115_cX11_span 4 rfl
theorem dX11_span_65 : decode cX11_span 65 = .ok (.goto (-26), 3) := kDec_at dA115_cX11_span 5 rfl
set_option maxRecDepth 20000 in
theorem gX10_tell_all : wsX10_tell.all goodWord = true := by
  unfold wsX10_tell
  exact good_c (by decide +kernel) (good_a (good_a ((by decide +kernel)) gX10_clsall) gX10_placeFor_all)
set_option maxRecDepth 20000 in
theorem ggX11_span_X10_tell : GoodIn wsX11_span wsX10_tell := goodIn_sub (fun _ h => List.mem_cons_of_mem _ (List.mem_append_left _ (List.mem_append_left _ (List.mem_append_right _ (h))))) gX10_tell_all
set_option maxRecDepth 20000 in
theorem gX11_span_X10_tell : GoodIn wsX11_span (wsV RX11 139 RX10 yX10_tell wsX10_tell) := goodIn_app (goodIn_r _ [12, 13, 14, 11] rfl (by decide +kernel)) ggX11_span_X10_tell
set_option maxRecDepth 100000 in
theorem dA116_cX11_blank : kDec cX11_blank [(15, .aload_n 2, 1), (16, .invokevirtual 147, 3), (19, .aload_n 0, 1), (20, .getfield 86, 3), (23, .invokevirtual 143, 3), (26, .iconst 1, 1), (27, .ireturn, 1)] = true := by decide +kernel
theorem dX11_blank_15 : decode cX11_blank 15 = .ok (.aload_n 2, 1) := kDec_at dA116_cX11_blank 0 rfl
theorem dX11_blank_16 : decode cX11_blank 16 = .ok (.invokevirtual 147, 3) := kDec_at dA116_cX11_blank 1 rfl
theorem dX11_blank_19 : decode cX11_blank 19 = .ok (.aload_n 0, 1) := kDec_at dA116_cX11_blank 2 rfl
theorem dX11_blank_20 : decode cX11_blank 20 = .ok (.getfield 86, 3) := kDec_at dA116_cX11_blank 3 rfl
theorem dX11_blank_23 : decode cX11_blank 23 = .ok (.invokevirtual 143, 3) := kDec_at dA116_cX11_blank 4 rfl
theorem dX11_blank_26 : decode cX11_blank 26 = .ok (.iconst 1, 1) := kDec_at dA116_cX11_blank 5 rfl
theorem dX11_blank_27 : decode cX11_blank 27 = .ok (.ireturn, 1) := kDec_at dA116_cX11_blank 6 rfl
set_option maxRecDepth 20000 in
theorem gX10_empty_all : wsX10_empty.all goodWord = true := by
  unfold wsX10_empty
  exact good_c (by decide +kernel) (good_a (good_a ((by decide +kernel)) gX10_clsall) gJ7_fill_53178_all)
set_option maxRecDepth 20000 in
theorem ggX11_blank_X10_empty : GoodIn wsX11_blank wsX10_empty := goodIn_sub (fun _ h => List.mem_cons_of_mem _ (List.mem_append_left _ (List.mem_append_right _ (h)))) gX10_empty_all
set_option maxRecDepth 20000 in
theorem gX11_blank_X10_empty : GoodIn wsX11_blank (wsV RX11 147 RX10 yX10_empty wsX10_empty) := goodIn_app (goodIn_r _ [7, 8, 9, 10] rfl (by decide +kernel)) ggX11_blank_X10_empty
set_option maxRecDepth 20000 in
theorem ggX11_blank_X1_forgetFreshness : GoodIn wsX11_blank wsX1_forgetFreshness := goodIn_sub (fun _ h => List.mem_cons_of_mem _ (List.mem_append_right _ (h))) gX1_forgetFreshness_all
set_option maxRecDepth 20000 in
theorem gX11_blank_X1_forgetFreshness : GoodIn wsX11_blank (wsV RX11 143 RX1 yX1_forgetFreshness wsX1_forgetFreshness) := goodIn_app (goodIn_r _ [11, 12, 13, 14] rfl (by decide +kernel)) ggX11_blank_X1_forgetFreshness

end
