/-! 54.ref -/
section
set_option maxHeartbeats 40000000 in
set_option maxRecDepth 100000 in
theorem y_size (l : Launch) (dC : Nat → ClassId) (dI : Nat → Nat → Nat) (cI cS : ClassId) (sz : Nat) (oM : Nat) (mT : Nat) (mS : Nat) (mX : Nat) (mL : Nat) (mB : Nat) (mD : Nat) (m1 : Nat) (m2 : Nat) (mR : Nat) (x1 : Nat) (x2 : Nat) (x3 : Nat) (mH : Nat) (mY : Nat) (mE : Nat) (mW : Nat) (mO : Nat) (y1 : Nat) (y2 : Nat) (y3 : Nat) (y4 : Nat) (mZ : Nat) (zt : Int32) (zp : Int32) (zf : Int32) (zh : Int32) (zr : Int32) (zc : Int32) (zy : Int32) (za : Int32) (zb : Int32) (zs : Int32) (zq : Int32) (zw : Int32) (ze : Int32) (zn : Int32) (zm : Int32) (zl : Int32) (zk : Int32) (zd : Int32) (eY : Nat → Int32) (eB : Nat → Int32) (eS : Nat → Int32) (eX : Nat → Int32) (cd : Int32) (g_zt : 0 ≤ zt.toInt ∧ zt.toInt ≤ 900) (g_zp : 0 ≤ zp.toInt ∧ zp.toInt ≤ 20) (g_zf : 0 ≤ zf.toInt ∧ zf.toInt ≤ 19) (g_zh : 0 ≤ zh.toInt ∧ zh.toInt ≤ 6) (g_zr : 0 ≤ zr.toInt ∧ zr.toInt ≤ 258) (g_zc : 0 ≤ zc.toInt ∧ zc.toInt ≤ 300) (g_zy : 0 ≤ zy.toInt ∧ zy.toInt ≤ 65536) (g_za : 0 ≤ za.toInt ∧ za.toInt ≤ 5) (g_zb : 0 ≤ zb.toInt ∧ zb.toInt ≤ 5) (g_zs : 0 ≤ zs.toInt ∧ zs.toInt ≤ 2000000) (g_zq : -1 ≤ zq.toInt ∧ zq.toInt ≤ 2000000) (g_zn : 0 ≤ zn.toInt ∧ zn.toInt ≤ 2600) (g_zm : 0 ≤ zm.toInt ∧ zm.toInt ≤ 2600) (g_zk : 0 ≤ zk.toInt ∧ zk.toInt ≤ 300) (g_eY : rg 0 255 eY) (g_eB : rg (-1) 255 eB) (g_eS : rg 0 300 eS) (g_eX : rg 0 65535 eX) (hzs : zs.toInt ≤ 1000000) : Met l yX12_size wsX12_size ({ frames := 3, cells := 0, slots := 0, locals := 68 } : Room) (va_Pc [.ref oM, .int cd] (fun U => U.heap.size = sz ∧ va_P (dC, dI) vwCl [(oM, .inr (12, [.ref mT, .int zt, .ref mS, .ref mX, .int zp, .int zf, .ref mL, .ref mB, .ref mD, .ref m1, .ref m2, .int zh, .ref mR, .int zr, .ref x1, .ref x2, .ref x3, .int zc, .ref mH, .int zy, .int za, .int zb, .int zs, .int zq, .int zw, .int ze, .ref mY, .int zn, .ref mE, .int zm, .int zl, .ref mW, .int zk, .ref mO, .int zd, .ref y1, .ref y2, .ref y3, .ref y4, .ref mZ])), (mY, .inl (cI, 2600, .inl eY)), (mB, .inl (cS, 131072, .inl eB)), (mS, .inl (cI, 21, .inl eS)), (mX, .inl (cI, 6300, .inl eX))] U.heap ∧ va_K (dC, dI) vwCl [(cI, .int), (cS, .short)] U ∧ va_D (fun _ => True) [(oM, .inr (12, [.ref mT, .int zt, .ref mS, .ref mX, .int zp, .int zf, .ref mL, .ref mB, .ref mD, .ref m1, .ref m2, .int zh, .ref mR, .int zr, .ref x1, .ref x2, .ref x3, .int zc, .ref mH, .int zy, .int za, .int zb, .int zs, .int zq, .int zw, .int ze, .ref mY, .int zn, .ref mE, .int zm, .int zl, .ref mW, .int zk, .ref mO, .int zd, .ref y1, .ref y2, .ref y3, .ref y4, .ref mZ])), (mY, .inl (cI, 2600, .inl eY)), (mB, .inl (cS, 131072, .inl eB)), (mS, .inl (cI, 21, .inl eS)), (mX, .inl (cI, 6300, .inl eX))])) (va_Qi (fun (r : Int32) (u : Int32) => r = u) (fun (r : Int32) t => ∃ (ze' : Int32) (zw' : Int32) (zn' : Int32) (eY' : Nat → Int32) (zl' : Int32), va_P (dC, dI) vwCl [(oM, .inr (12, [.ref mT, .int zt, .ref mS, .ref mX, .int zp, .int zf, .ref mL, .ref mB, .ref mD, .ref m1, .ref m2, .int zh, .ref mR, .int zr, .ref x1, .ref x2, .ref x3, .int zc, .ref mH, .int zy, .int za, .int zb, .int zs, .int zq, .int zw', .int ze', .ref mY, .int zn', .ref mE, .int zm, .int zl', .ref mW, .int zk, .ref mO, .int zd, .ref y1, .ref y2, .ref y3, .ref y4, .ref mZ])), (mY, .inl (cI, 2600, .inl eY')), (mB, .inl (cS, 131072, .inl eB)), (mS, .inl (cI, 21, .inl eS)), (mX, .inl (cI, 6300, .inl eX))] t.heap ∧ va_D (va_A [(oM, .inr (12, [.ref mT, .int zt, .ref mS, .ref mX, .int zp, .int zf, .ref mL, .ref mB, .ref mD, .ref m1, .ref m2, .int zh, .ref mR, .int zr, .ref x1, .ref x2, .ref x3, .int zc, .ref mH, .int zy, .int za, .int zb, .int zs, .int zq, .int zw, .int ze, .ref mY, .int zn, .ref mE, .int zm, .int zl, .ref mW, .int zk, .ref mO, .int zd, .ref y1, .ref y2, .ref y3, .ref y4, .ref mZ])), (mY, .inl (cI, 2600, .inl eY)), (mB, .inl (cS, 131072, .inl eB)), (mS, .inl (cI, 21, .inl eS)), (mX, .inl (cI, 6300, .inl eX))] sz) [(oM, .inr (12, [.ref mT, .int zt, .ref mS, .ref mX, .int zp, .int zf, .ref mL, .ref mB, .ref mD, .ref m1, .ref m2, .int zh, .ref mR, .int zr, .ref x1, .ref x2, .ref x3, .int zc, .ref mH, .int zy, .int za, .int zb, .int zs, .int zq, .int zw', .int ze', .ref mY, .int zn', .ref mE, .int zm, .int zl', .ref mW, .int zk, .ref mO, .int zd, .ref y1, .ref y2, .ref y3, .ref y4, .ref mZ])), (mY, .inl (cI, 2600, .inl eY')), (mB, .inl (cS, 131072, .inl eB)), (mS, .inl (cI, 21, .inl eS)), (mX, .inl (cI, 6300, .inl eX))] ∧ (0 ≤ zn'.toInt ∧ zn'.toInt ≤ 2600) ∧ (rg 0 255 eY')) (va_A [(oM, .inr (12, [.ref mT, .int zt, .ref mS, .ref mX, .int zp, .int zf, .ref mL, .ref mB, .ref mD, .ref m1, .ref m2, .int zh, .ref mR, .int zr, .ref x1, .ref x2, .ref x3, .int zc, .ref mH, .int zy, .int za, .int zb, .int zs, .int zq, .int zw, .int ze, .ref mY, .int zn, .ref mE, .int zm, .int zl, .ref mW, .int zk, .ref mO, .int zd, .ref y1, .ref y2, .ref y3, .ref y4, .ref mZ])), (mY, .inl (cI, 2600, .inl eY)), (mB, .inl (cS, 131072, .inl eB)), (mS, .inl (cI, 21, .inl eS)), (mX, .inl (cI, 6300, .inl eX))] sz)) 0 0 (va_A [(oM, .inr (12, [.ref mT, .int zt, .ref mS, .ref mX, .int zp, .int zf, .ref mL, .ref mB, .ref mD, .ref m1, .ref m2, .int zh, .ref mR, .int zr, .ref x1, .ref x2, .ref x3, .int zc, .ref mH, .int zy, .int za, .int zb, .int zs, .int zq, .int zw, .int ze, .ref mY, .int zn, .ref mE, .int zm, .int zl, .ref mW, .int zk, .ref mO, .int zd, .ref y1, .ref y2, .ref y3, .ref y4, .ref mZ])), (mY, .inl (cI, 2600, .inl eY)), (mB, .inl (cS, 131072, .inl eB)), (mS, .inl (cI, 21, .inl eS)), (mX, .inl (cI, 6300, .inl eX))] sz) := by
  refine Met.ofW (cc := cX12_size) (maxL := 2) (ret := (some .int)) (by decide) rfl ?_
  intro p e s m args below meth c s₁ B hml hv
  obtain ⟨rfl, hsz, hP, hK, hD0⟩ := hv
  have hx := B.exec
  have hb := B.bytes
  have hr := B.returns
  have hts := atoms_spec (ws := wsX12_size) B.pre
  have hown : s.vm.findClass RX12 = some m.cls := findClass_of_methodNamed B.named
  have hlocks := B.notSynchronized
  have in_X12 : ∀ w ∈ wsX120, w ∈ wsX12_size := fun _ h => List.mem_cons_of_mem _ (List.mem_append_right _ (h))
  subst hsz
  have hD := hD0.self (sz := s.heap.size)
  generalize hAe : va_A [(oM, .inr (12, [.ref mT, .int zt, .ref mS, .ref mX, .int zp, .int zf, .ref mL, .ref mB, .ref mD, .ref m1, .ref m2, .int zh, .ref mR, .int zr, .ref x1, .ref x2, .ref x3, .int zc, .ref mH, .int zy, .int za, .int zb, .int zs, .int zq, .int zw, .int ze, .ref mY, .int zn, .ref mE, .int zm, .int zl, .ref mW, .int zk, .ref mO, .int zd, .ref y1, .ref y2, .ref y3, .ref y4, .ref mZ])), (mY, .inl (cI, 2600, .inl eY)), (mB, .inl (cS, 131072, .inl eB)), (mS, .inl (cI, 21, .inl eS)), (mX, .inl (cI, 6300, .inl eX))] s.heap.size = A at hD ⊢
  have hA : ∀ q : Nat, s.heap.size ≤ q → A q := fun q h => by rw [← hAe]; exact Or.inr h
  have hS : va_S A s.heap s.heap [] := va_S.rf
  have hP : va_P (dC, dI) vwCl [(oM, .inr (12, [.ref mT, .int zt, .ref mS, .ref mX, .int zp, .int zf, .ref mL, .ref mB, .ref mD, .ref m1, .ref m2, .int zh, .ref mR, .int zr, .ref x1, .ref x2, .ref x3, .int zc, .ref mH, .int zy, .int za, .int zb, .int zs, .int zq, .int zw, .int ze, .ref mY, .int zn, .ref mE, .int zm, .int zl, .ref mW, .int zk, .ref mO, .int zd, .ref y1, .ref y2, .ref y3, .ref y4, .ref mZ])), (mY, .inl (cI, 2600, .inl eY)), (mB, .inl (cS, 131072, .inl eB)), (mS, .inl (cI, 21, .inl eS)), (mX, .inl (cI, 6300, .inl eX))] s.heap := hP
  have hl := lv_entry ([.ref oM, .int cd]) (n := 2) (Nat.le_of_ble_eq_true rfl)
  rw [lg_entry_eq]
  generalize (lg_sl ([.ref oM, .int cd]) ++ List.replicate (2 - (lg_sl ([.ref oM, .int cd])).length) Slot.unset).toArray = ls at hl ⊢
  have hl : lv_has ls 2 [(0, .ref oM), (1, .int cd)] := hl
  obtain ⟨QQ, hQQ⟩ : ∃ QQ : Array Value → State → Outcome → State → Prop, QQ = va_Qi (fun (r : Int32) (u : Int32) => r = u) (fun (r : Int32) t => ∃ (ze' : Int32) (zw' : Int32) (zn' : Int32) (eY' : Nat → Int32) (zl' : Int32), va_P (dC, dI) vwCl [(oM, .inr (12, [.ref mT, .int zt, .ref mS, .ref mX, .int zp, .int zf, .ref mL, .ref mB, .ref mD, .ref m1, .ref m2, .int zh, .ref mR, .int zr, .ref x1, .ref x2, .ref x3, .int zc, .ref mH, .int zy, .int za, .int zb, .int zs, .int zq, .int zw', .int ze', .ref mY, .int zn', .ref mE, .int zm, .int zl', .ref mW, .int zk, .ref mO, .int zd, .ref y1, .ref y2, .ref y3, .ref y4, .ref mZ])), (mY, .inl (cI, 2600, .inl eY')), (mB, .inl (cS, 131072, .inl eB)), (mS, .inl (cI, 21, .inl eS)), (mX, .inl (cI, 6300, .inl eX))] t.heap ∧ va_D A [(oM, .inr (12, [.ref mT, .int zt, .ref mS, .ref mX, .int zp, .int zf, .ref mL, .ref mB, .ref mD, .ref m1, .ref m2, .int zh, .ref mR, .int zr, .ref x1, .ref x2, .ref x3, .int zc, .ref mH, .int zy, .int za, .int zb, .int zs, .int zq, .int zw', .int ze', .ref mY, .int zn', .ref mE, .int zm, .int zl', .ref mW, .int zk, .ref mO, .int zd, .ref y1, .ref y2, .ref y3, .ref y4, .ref mZ])), (mY, .inl (cI, 2600, .inl eY')), (mB, .inl (cS, 131072, .inl eB)), (mS, .inl (cI, 21, .inl eS)), (mX, .inl (cI, 6300, .inl eX))] ∧ (0 ≤ zn'.toInt ∧ zn'.toInt ≤ 2600) ∧ (rg 0 255 eY')) A := ⟨_, rfl⟩
  rw [← hQQ]
  refine lv_aload_n hx hb dX12_size_0 rfl (lv_at hl 0 rfl) ?_
  refine lv_iconst (v := 0) hx hb dX12_size_1 (by decide) ?_
  refine va_put (D := (dC, dI)) (ci := 12) (v := .int 0) (ty := .int) (C := RX12) (T := TX12) (N := 40) hx hb hts in_X12 tyX12 tyX12_ok nmX12 hown hK hP hD hS 0 rfl rfl 25 (by decide) (hts (.fieldLink RX12 85 "TextMenderModel" "thrown" "I") (List.mem_of_getElem? (i := 1) rfl)) (fun _ h9 => h9) rfl (by decide +kernel) rfl rfl (Nat.le_of_ble_eq_true rfl) dX12_size_2 (fun H locs hPn hDn hSn => ?_)
  clear hP hD hS
  have hP : va_P (dC, dI) vwCl [(oM, .inr (12, [.ref mT, .int zt, .ref mS, .ref mX, .int zp, .int zf, .ref mL, .ref mB, .ref mD, .ref m1, .ref m2, .int zh, .ref mR, .int zr, .ref x1, .ref x2, .ref x3, .int zc, .ref mH, .int zy, .int za, .int zb, .int zs, .int zq, .int zw, .int 0, .ref mY, .int zn, .ref mE, .int zm, .int zl, .ref mW, .int zk, .ref mO, .int zd, .ref y1, .ref y2, .ref y3, .ref y4, .ref mZ])), (mY, .inl (cI, 2600, .inl eY)), (mB, .inl (cS, 131072, .inl eB)), (mS, .inl (cI, 21, .inl eS)), (mX, .inl (cI, 6300, .inl eX))] H := hPn
  have hD : va_D A [(oM, .inr (12, [.ref mT, .int zt, .ref mS, .ref mX, .int zp, .int zf, .ref mL, .ref mB, .ref mD, .ref m1, .ref m2, .int zh, .ref mR, .int zr, .ref x1, .ref x2, .ref x3, .int zc, .ref mH, .int zy, .int za, .int zb, .int zs, .int zq, .int zw, .int 0, .ref mY, .int zn, .ref mE, .int zm, .int zl, .ref mW, .int zk, .ref mO, .int zd, .ref y1, .ref y2, .ref y3, .ref y4, .ref mZ])), (mY, .inl (cI, 2600, .inl eY)), (mB, .inl (cS, 131072, .inl eB)), (mS, .inl (cI, 21, .inl eS)), (mX, .inl (cI, 6300, .inl eX))] := hDn
  have hS := hSn
  clear hPn hDn hSn
  refine lv_aload_n hx hb dX12_size_5 rfl (lv_at hl 0 rfl) ?_
  refine lv_iconst (v := (-1)) hx hb dX12_size_6 (by decide) ?_
  refine va_put (D := (dC, dI)) (ci := 12) (v := .int (-1)) (ty := .int) (C := RX12) (T := TX12) (N := 40) hx hb hts in_X12 tyX12 tyX12_ok nmX12 hown hK hP hD hS 0 rfl rfl 24 (by decide) (hts (.fieldLink RX12 55 "TextMenderModel" "where" "I") (List.mem_of_getElem? (i := 2) rfl)) (fun _ h9 => h9) rfl (by decide +kernel) rfl rfl (Nat.le_of_ble_eq_true rfl) dX12_size_7 (fun H locs hPn hDn hSn => ?_)
  clear hP hD hS
  have hP : va_P (dC, dI) vwCl [(oM, .inr (12, [.ref mT, .int zt, .ref mS, .ref mX, .int zp, .int zf, .ref mL, .ref mB, .ref mD, .ref m1, .ref m2, .int zh, .ref mR, .int zr, .ref x1, .ref x2, .ref x3, .int zc, .ref mH, .int zy, .int za, .int zb, .int zs, .int zq, .int (-1), .int 0, .ref mY, .int zn, .ref mE, .int zm, .int zl, .ref mW, .int zk, .ref mO, .int zd, .ref y1, .ref y2, .ref y3, .ref y4, .ref mZ])), (mY, .inl (cI, 2600, .inl eY)), (mB, .inl (cS, 131072, .inl eB)), (mS, .inl (cI, 21, .inl eS)), (mX, .inl (cI, 6300, .inl eX))] H := hPn
  have hD : va_D A [(oM, .inr (12, [.ref mT, .int zt, .ref mS, .ref mX, .int zp, .int zf, .ref mL, .ref mB, .ref mD, .ref m1, .ref m2, .int zh, .ref mR, .int zr, .ref x1, .ref x2, .ref x3, .int zc, .ref mH, .int zy, .int za, .int zb, .int zs, .int zq, .int (-1), .int 0, .ref mY, .int zn, .ref mE, .int zm, .int zl, .ref mW, .int zk, .ref mO, .int zd, .ref y1, .ref y2, .ref y3, .ref y4, .ref mZ])), (mY, .inl (cI, 2600, .inl eY)), (mB, .inl (cS, 131072, .inl eB)), (mS, .inl (cI, 21, .inl eS)), (mX, .inl (cI, 6300, .inl eX))] := hDn
  have hS := hSn
  clear hPn hDn hSn
  refine lv_iload_n hx hb dX12_size_10 rfl (lv_at hl 1 rfl) ?_
  have hPc := hP.sub (ws' := []) [] rfl
  have hDc := hD.sub (ws' := []) [] (by decide +kernel) rfl
  have hFc := va_free (wc := []) hD hS hA [] rfl
  refine va_calli (va_runS (As := [.int cd]) (rest := []) ⟨hx, hb, hml, hown, hts⟩ (m_X12_isCode l dC dI cI cS H.size cd ) (va_cwS 1 hts gX12_size_X12_isCode rfl rfl rfl (by decide +kernel) ⟨Nat.le_of_ble_eq_true rfl, Nat.le_of_ble_eq_true rfl⟩) ⟨fun a U g mk q => by obtain ⟨q0, q1, qP, qK, qD⟩ := q; exact ⟨q0, q1, qP, va_K.moved (u := U) (U := U.calling g mk a) (Vm.Alike.refl U.vm) qK, qD⟩, fun U hU hW => ⟨rfl, by rw [hU], by rw [hU]; exact hPc, va_K.moved hW.alike hK, hDc.weaken (fun _ _ _ _ => trivial)⟩⟩ rfl rfl hl.1 rfl (lv_room (Nat.le_of_ble_eq_true rfl)) dX12_size_11 ⟨Nat.le_of_ble_eq_true rfl, Nat.le_of_ble_eq_true rfl⟩) hS (fun q _ h => hFc q h) hFc (fun r_1 u t H1 locs ht hvm hw hB hz1 hk1 hSn => ?_)
  subst hw
  obtain ⟨hP1, hD1, hf1_0, hf1_1⟩ := hB
  rw [ht] at hP1
  obtain ⟨hPn, hDn⟩ := va_join (wr := [(oM, .inr (12, [.ref mT, .int zt, .ref mS, .ref mX, .int zp, .int zf, .ref mL, .ref mB, .ref mD, .ref m1, .ref m2, .int zh, .ref mR, .int zr, .ref x1, .ref x2, .ref x3, .int zc, .ref mH, .int zy, .int za, .int zb, .int zs, .int zq, .int (-1), .int 0, .ref mY, .int zn, .ref mE, .int zm, .int zl, .ref mW, .int zk, .ref mO, .int zd, .ref y1, .ref y2, .ref y3, .ref y4, .ref mZ])), (mY, .inl (cI, 2600, .inl eY)), (mB, .inl (cS, 131072, .inl eB)), (mS, .inl (cI, 21, .inl eS)), (mX, .inl (cI, 6300, .inl eX))]) (w1 := []) hP hD [] [0, 1, 2, 3, 4] rfl rfl (by decide +kernel) (by decide +kernel) hk1 hFc hP1 hD1
  clear hP hD hS hPc hDc hFc hk1 hz1 hvm ht hP1 hD1
  generalize H1 = H at hPn hSn ⊢
  have hP : va_P (dC, dI) vwCl [(oM, .inr (12, [.ref mT, .int zt, .ref mS, .ref mX, .int zp, .int zf, .ref mL, .ref mB, .ref mD, .ref m1, .ref m2, .int zh, .ref mR, .int zr, .ref x1, .ref x2, .ref x3, .int zc, .ref mH, .int zy, .int za, .int zb, .int zs, .int zq, .int (-1), .int 0, .ref mY, .int zn, .ref mE, .int zm, .int zl, .ref mW, .int zk, .ref mO, .int zd, .ref y1, .ref y2, .ref y3, .ref y4, .ref mZ])), (mY, .inl (cI, 2600, .inl eY)), (mB, .inl (cS, 131072, .inl eB)), (mS, .inl (cI, 21, .inl eS)), (mX, .inl (cI, 6300, .inl eX))] H := hPn
  have hD : va_D A [(oM, .inr (12, [.ref mT, .int zt, .ref mS, .ref mX, .int zp, .int zf, .ref mL, .ref mB, .ref mD, .ref m1, .ref m2, .int zh, .ref mR, .int zr, .ref x1, .ref x2, .ref x3, .int zc, .ref mH, .int zy, .int za, .int zb, .int zs, .int zq, .int (-1), .int 0, .ref mY, .int zn, .ref mE, .int zm, .int zl, .ref mW, .int zk, .ref mO, .int zd, .ref y1, .ref y2, .ref y3, .ref y4, .ref mZ])), (mY, .inl (cI, 2600, .inl eY)), (mB, .inl (cS, 131072, .inl eB)), (mS, .inl (cI, 21, .inl eS)), (mX, .inl (cI, 6300, .inl eX))] := hDn
  have hS := hSn
  clear hPn hDn hSn
  refine lv_if_ne (tgt := 19) hx hb dX12_size_14 (by decide) (fun c_2 => ?_) (fun c_2 => ?_)
  · have tc_2 : ¬ r_1.toInt = 0 := v_ne c_2
    refine lv_aload_n hx hb dX12_size_19 rfl (lv_at hl 0 rfl) ?_
    refine lv_iload_n hx hb dX12_size_20 rfl (lv_at hl 1 rfl) ?_
    refine lv_aload_n hx hb dX12_size_21 rfl (lv_at hl 0 rfl) ?_
    refine va_get (D := (dC, dI)) (ci := 12) (v := .ref mX) (C := RX12) (T := TX12) (N := 40) hx hb hts in_X12 hown hK hP 0 rfl rfl 3 (by decide) (hts (.fieldLink RX12 16 "TextMenderModel" "texts" "[I") (List.mem_of_getElem? (i := 3) rfl)) (fun _ h9 => h9) rfl dX12_size_22 ?_
    refine lv_aload_n hx hb dX12_size_25 rfl (lv_at hl 0 rfl) ?_
    refine va_get (D := (dC, dI)) (ci := 12) (v := .ref mS) (C := RX12) (T := TX12) (N := 40) hx hb hts in_X12 hown hK hP 0 rfl rfl 2 (by decide) (hts (.fieldLink RX12 13 "TextMenderModel" "sizes" "[I") (List.mem_of_getElem? (i := 4) rfl)) (fun _ h9 => h9) rfl dX12_size_26 ?_
    refine lv_iconst (v := 0) hx hb dX12_size_29 (by decide) ?_
    refine va_iald hx hb hK hP 3 0 rfl rfl (by unfold vp_in; decide) dX12_size_30 ?_
    refine lv_topi (fun x_3 ex_3 => ?_)
    have tx_3 : 0 ≤ x_3.toInt ∧ x_3.toInt ≤ 300 := rg_at g_eS ex_3
    have hPc := hP.sub (ws' := [(oM, .inr (12, [.ref mT, .int zt, .ref mS, .ref mX, .int zp, .int zf, .ref mL, .ref mB, .ref mD, .ref m1, .ref m2, .int zh, .ref mR, .int zr, .ref x1, .ref x2, .ref x3, .int zc, .ref mH, .int zy, .int za, .int zb, .int zs, .int zq, .int (-1), .int 0, .ref mY, .int zn, .ref mE, .int zm, .int zl, .ref mW, .int zk, .ref mO, .int zd, .ref y1, .ref y2, .ref y3, .ref y4, .ref mZ])), (mY, .inl (cI, 2600, .inl eY)), (mB, .inl (cS, 131072, .inl eB)), (mX, .inl (cI, 6300, .inl eX))]) [0, 1, 2, 4] rfl
    have hDc := hD.sub (ws' := [(oM, .inr (12, [.ref mT, .int zt, .ref mS, .ref mX, .int zp, .int zf, .ref mL, .ref mB, .ref mD, .ref m1, .ref m2, .int zh, .ref mR, .int zr, .ref x1, .ref x2, .ref x3, .int zc, .ref mH, .int zy, .int za, .int zb, .int zs, .int zq, .int (-1), .int 0, .ref mY, .int zn, .ref mE, .int zm, .int zl, .ref mW, .int zk, .ref mO, .int zd, .ref y1, .ref y2, .ref y3, .ref y4, .ref mZ])), (mY, .inl (cI, 2600, .inl eY)), (mB, .inl (cS, 131072, .inl eB)), (mX, .inl (cI, 6300, .inl eX))]) [0, 1, 2, 4] (by decide +kernel) rfl
    have hFc := va_free (wc := [(oM, .inr (12, [.ref mT, .int zt, .ref mS, .ref mX, .int zp, .int zf, .ref mL, .ref mB, .ref mD, .ref m1, .ref m2, .int zh, .ref mR, .int zr, .ref x1, .ref x2, .ref x3, .int zc, .ref mH, .int zy, .int za, .int zb, .int zs, .int zq, .int (-1), .int 0, .ref mY, .int zn, .ref mE, .int zm, .int zl, .ref mW, .int zk, .ref mO, .int zd, .ref y1, .ref y2, .ref y3, .ref y4, .ref mZ])), (mY, .inl (cI, 2600, .inl eY)), (mB, .inl (cS, 131072, .inl eB)), (mX, .inl (cI, 6300, .inl eX))]) hD hS hA [0, 1, 2, 4] rfl
    refine va_calli (va_runV (As := [.int cd, .ref mX, .int x_3]) (rest := []) ⟨hx, hb, hml, hown, hts⟩ (m_X12_write l dC dI cI cS H.size oM mX mT mS mX mL mB mD m1 m2 mR x1 x2 x3 mH mY mE mW mO y1 y2 y3 y4 mZ 6300 zt zp zf zh zr zc zy za zb zs zq (-1) 0 zn zm zl zk zd eY eB eX cd x_3 (g_zt) (g_zp) (g_zf) (g_zh) (g_zr) (g_zc) (g_zy) (g_za) (g_zb) (g_zs) (g_zq) (g_zn) (g_zm) (g_zk) (g_eY) (g_eB) (g_eX) (by omega) (by omega) (by omega) (by omega)) (cwV 3 hts gX12_size_X12_write rfl rfl rfl (by decide +kernel) ⟨Nat.le_of_ble_eq_true rfl, Nat.le_of_ble_eq_true rfl⟩) ⟨fun a U g mk q => by obtain ⟨q0, q1, qP, qK, qD⟩ := q; exact ⟨q0, q1, qP, va_K.moved (u := U) (U := U.calling g mk a) (Vm.Alike.refl U.vm) qK, qD⟩, va_recv hK hPc (ci := 12) (q0 := 0) rfl rfl, fun U hU hW => ⟨rfl, by rw [hU], by rw [hU]; exact hPc, va_K.moved hW.alike hK, hDc.weaken (fun _ _ _ _ => trivial)⟩⟩ rfl rfl hl.1 rfl (lv_room (Nat.le_of_ble_eq_true rfl)) dX12_size_31 ⟨Nat.le_of_ble_eq_true rfl, Nat.le_of_ble_eq_true rfl⟩) hS (fun q _ h => hFc q h) hFc (fun r_4 u t H1 locs ht hvm hw hB hz1 hk1 hSn => ?_)
    subst hw
    obtain ⟨zn_4, eY_4, zl_4, hP1, hD1, hf4_0, hf4_1, hf4_2⟩ := hB
    rw [ht] at hP1
    obtain ⟨hPn, hDn⟩ := va_join (wr := [(mS, .inl (cI, 21, .inl eS))]) (w1 := [(oM, .inr (12, [.ref mT, .int zt, .ref mS, .ref mX, .int zp, .int zf, .ref mL, .ref mB, .ref mD, .ref m1, .ref m2, .int zh, .ref mR, .int zr, .ref x1, .ref x2, .ref x3, .int zc, .ref mH, .int zy, .int za, .int zb, .int zs, .int zq, .int (-1), .int 0, .ref mY, .int zn_4, .ref mE, .int zm, .int zl_4, .ref mW, .int zk, .ref mO, .int zd, .ref y1, .ref y2, .ref y3, .ref y4, .ref mZ])), (mY, .inl (cI, 2600, .inl eY_4)), (mB, .inl (cS, 131072, .inl eB)), (mX, .inl (cI, 6300, .inl eX))]) hP hD [0, 1, 2, 4] [3] rfl rfl (by decide +kernel) (by decide +kernel) hk1 hFc hP1 hD1
    clear hP hD hS hPc hDc hFc hk1 hz1 hvm ht hP1 hD1
    generalize H1 = H at hPn hSn ⊢
    have hP : va_P (dC, dI) vwCl [(mS, .inl (cI, 21, .inl eS)), (oM, .inr (12, [.ref mT, .int zt, .ref mS, .ref mX, .int zp, .int zf, .ref mL, .ref mB, .ref mD, .ref m1, .ref m2, .int zh, .ref mR, .int zr, .ref x1, .ref x2, .ref x3, .int zc, .ref mH, .int zy, .int za, .int zb, .int zs, .int zq, .int (-1), .int 0, .ref mY, .int zn_4, .ref mE, .int zm, .int zl_4, .ref mW, .int zk, .ref mO, .int zd, .ref y1, .ref y2, .ref y3, .ref y4, .ref mZ])), (mY, .inl (cI, 2600, .inl eY_4)), (mB, .inl (cS, 131072, .inl eB)), (mX, .inl (cI, 6300, .inl eX))] H := hPn
    have hD : va_D A [(mS, .inl (cI, 21, .inl eS)), (oM, .inr (12, [.ref mT, .int zt, .ref mS, .ref mX, .int zp, .int zf, .ref mL, .ref mB, .ref mD, .ref m1, .ref m2, .int zh, .ref mR, .int zr, .ref x1, .ref x2, .ref x3, .int zc, .ref mH, .int zy, .int za, .int zb, .int zs, .int zq, .int (-1), .int 0, .ref mY, .int zn_4, .ref mE, .int zm, .int zl_4, .ref mW, .int zk, .ref mO, .int zd, .ref y1, .ref y2, .ref y3, .ref y4, .ref mZ])), (mY, .inl (cI, 2600, .inl eY_4)), (mB, .inl (cS, 131072, .inl eB)), (mX, .inl (cI, 6300, .inl eX))] := hDn
    have hS := hSn
    clear hPn hDn hSn
    refine lv_if_ne (tgt := 47) hx hb dX12_size_34 (by decide) (fun c_5 => ?_) (fun c_5 => ?_)
    · have tc_5 : ¬ r_4.toInt = 0 := v_ne c_5
      refine lv_aload_n hx hb dX12_size_47 rfl (lv_at hl 0 rfl) ?_
      refine va_get (D := (dC, dI)) (ci := 12) (v := .int zn_4) (C := RX12) (T := TX12) (N := 40) hx hb hts in_X12 hown hK hP 1 rfl rfl 27 (by decide) (hts (.fieldLink RX12 91 "TextMenderModel" "byteMany" "I") (List.mem_of_getElem? (i := 6) rfl)) (fun _ h9 => h9) rfl dX12_size_48 ?_
      have hP9 := hP.sub (ws' := [(oM, .inr (12, [.ref mT, .int zt, .ref mS, .ref mX, .int zp, .int zf, .ref mL, .ref mB, .ref mD, .ref m1, .ref m2, .int zh, .ref mR, .int zr, .ref x1, .ref x2, .ref x3, .int zc, .ref mH, .int zy, .int za, .int zb, .int zs, .int zq, .int (-1), .int 0, .ref mY, .int zn_4, .ref mE, .int zm, .int zl_4, .ref mW, .int zk, .ref mO, .int zd, .ref y1, .ref y2, .ref y3, .ref y4, .ref mZ])), (mY, .inl (cI, 2600, .inl eY_4)), (mB, .inl (cS, 131072, .inl eB)), (mS, .inl (cI, 21, .inl eS)), (mX, .inl (cI, 6300, .inl eX))]) [1, 2, 3, 0, 4] rfl
      have hD9 := hD.sub (ws' := [(oM, .inr (12, [.ref mT, .int zt, .ref mS, .ref mX, .int zp, .int zf, .ref mL, .ref mB, .ref mD, .ref m1, .ref m2, .int zh, .ref mR, .int zr, .ref x1, .ref x2, .ref x3, .int zc, .ref mH, .int zy, .int za, .int zb, .int zs, .int zq, .int (-1), .int 0, .ref mY, .int zn_4, .ref mE, .int zm, .int zl_4, .ref mW, .int zk, .ref mO, .int zd, .ref y1, .ref y2, .ref y3, .ref y4, .ref mZ])), (mY, .inl (cI, 2600, .inl eY_4)), (mB, .inl (cS, 131072, .inl eB)), (mS, .inl (cI, 21, .inl eS)), (mX, .inl (cI, 6300, .inl eX))]) [1, 2, 3, 0, 4] (by decide +kernel) rfl
      rw [hQQ]
      exact W.iret (v := zn_4) hx hb hr (fun t ht hW => ⟨⟨zn_4, zn_4, rfl, rfl, ⟨0, (-1), zn_4, eY_4, zl_4, by rw [ht]; exact hP9, hD9, hf4_0, hf4_1⟩⟩, hS.F ht⟩) hS.2.2 dX12_size_51
    · have tc_5 : r_4.toInt = 0 := v_eq c_5
      refine lv_aload_n hx hb dX12_size_37 rfl (lv_at hl 0 rfl) ?_
      refine lv_aload_n hx hb dX12_size_38 rfl (lv_at hl 0 rfl) ?_
      refine va_get (D := (dC, dI)) (ci := 12) (v := .int zl_4) (C := RX12) (T := TX12) (N := 40) hx hb hts in_X12 hown hK hP 1 rfl rfl 30 (by decide) (hts (.fieldLink RX12 102 "TextMenderModel" "faultAt" "I") (List.mem_of_getElem? (i := 5) rfl)) (fun _ h9 => h9) rfl dX12_size_39 ?_
      refine va_put (D := (dC, dI)) (ci := 12) (v := .int zl_4) (ty := .int) (C := RX12) (T := TX12) (N := 40) hx hb hts in_X12 tyX12 tyX12_ok nmX12 hown hK hP hD hS 1 rfl rfl 24 (by decide) (hts (.fieldLink RX12 55 "TextMenderModel" "where" "I") (List.mem_of_getElem? (i := 2) rfl)) (fun _ h9 => h9) rfl (by decide +kernel) rfl rfl (Nat.le_of_ble_eq_true rfl) dX12_size_42 (fun H locs hPn hDn hSn => ?_)
      clear hP hD hS
      have hP : va_P (dC, dI) vwCl [(mS, .inl (cI, 21, .inl eS)), (oM, .inr (12, [.ref mT, .int zt, .ref mS, .ref mX, .int zp, .int zf, .ref mL, .ref mB, .ref mD, .ref m1, .ref m2, .int zh, .ref mR, .int zr, .ref x1, .ref x2, .ref x3, .int zc, .ref mH, .int zy, .int za, .int zb, .int zs, .int zq, .int zl_4, .int 0, .ref mY, .int zn_4, .ref mE, .int zm, .int zl_4, .ref mW, .int zk, .ref mO, .int zd, .ref y1, .ref y2, .ref y3, .ref y4, .ref mZ])), (mY, .inl (cI, 2600, .inl eY_4)), (mB, .inl (cS, 131072, .inl eB)), (mX, .inl (cI, 6300, .inl eX))] H := hPn
      have hD : va_D A [(mS, .inl (cI, 21, .inl eS)), (oM, .inr (12, [.ref mT, .int zt, .ref mS, .ref mX, .int zp, .int zf, .ref mL, .ref mB, .ref mD, .ref m1, .ref m2, .int zh, .ref mR, .int zr, .ref x1, .ref x2, .ref x3, .int zc, .ref mH, .int zy, .int za, .int zb, .int zs, .int zq, .int zl_4, .int 0, .ref mY, .int zn_4, .ref mE, .int zm, .int zl_4, .ref mW, .int zk, .ref mO, .int zd, .ref y1, .ref y2, .ref y3, .ref y4, .ref mZ])), (mY, .inl (cI, 2600, .inl eY_4)), (mB, .inl (cS, 131072, .inl eB)), (mX, .inl (cI, 6300, .inl eX))] := hDn
      have hS := hSn
      clear hPn hDn hSn
      refine lv_iconst (v := (-1)) hx hb dX12_size_45 (by decide) ?_
      have hP9 := hP.sub (ws' := [(oM, .inr (12, [.ref mT, .int zt, .ref mS, .ref mX, .int zp, .int zf, .ref mL, .ref mB, .ref mD, .ref m1, .ref m2, .int zh, .ref mR, .int zr, .ref x1, .ref x2, .ref x3, .int zc, .ref mH, .int zy, .int za, .int zb, .int zs, .int zq, .int zl_4, .int 0, .ref mY, .int zn_4, .ref mE, .int zm, .int zl_4, .ref mW, .int zk, .ref mO, .int zd, .ref y1, .ref y2, .ref y3, .ref y4, .ref mZ])), (mY, .inl (cI, 2600, .inl eY_4)), (mB, .inl (cS, 131072, .inl eB)), (mS, .inl (cI, 21, .inl eS)), (mX, .inl (cI, 6300, .inl eX))]) [1, 2, 3, 0, 4] rfl
      have hD9 := hD.sub (ws' := [(oM, .inr (12, [.ref mT, .int zt, .ref mS, .ref mX, .int zp, .int zf, .ref mL, .ref mB, .ref mD, .ref m1, .ref m2, .int zh, .ref mR, .int zr, .ref x1, .ref x2, .ref x3, .int zc, .ref mH, .int zy, .int za, .int zb, .int zs, .int zq, .int zl_4, .int 0, .ref mY, .int zn_4, .ref mE, .int zm, .int zl_4, .ref mW, .int zk, .ref mO, .int zd, .ref y1, .ref y2, .ref y3, .ref y4, .ref mZ])), (mY, .inl (cI, 2600, .inl eY_4)), (mB, .inl (cS, 131072, .inl eB)), (mS, .inl (cI, 21, .inl eS)), (mX, .inl (cI, 6300, .inl eX))]) [1, 2, 3, 0, 4] (by decide +kernel) rfl
      rw [hQQ]
      exact W.iret (v := (-1)) hx hb hr (fun t ht hW => ⟨⟨(-1), (-1), rfl, rfl, ⟨0, zl_4, zn_4, eY_4, zl_4, by rw [ht]; exact hP9, hD9, hf4_0, hf4_1⟩⟩, hS.F ht⟩) hS.2.2 dX12_size_46
  · have tc_2 : r_1.toInt = 0 := v_eq c_2
    refine lv_iconst (v := (-1)) hx hb dX12_size_17 (by decide) ?_
    have hP9 := hP.sub (ws' := [(oM, .inr (12, [.ref mT, .int zt, .ref mS, .ref mX, .int zp, .int zf, .ref mL, .ref mB, .ref mD, .ref m1, .ref m2, .int zh, .ref mR, .int zr, .ref x1, .ref x2, .ref x3, .int zc, .ref mH, .int zy, .int za, .int zb, .int zs, .int zq, .int (-1), .int 0, .ref mY, .int zn, .ref mE, .int zm, .int zl, .ref mW, .int zk, .ref mO, .int zd, .ref y1, .ref y2, .ref y3, .ref y4, .ref mZ])), (mY, .inl (cI, 2600, .inl eY)), (mB, .inl (cS, 131072, .inl eB)), (mS, .inl (cI, 21, .inl eS)), (mX, .inl (cI, 6300, .inl eX))]) [0, 1, 2, 3, 4] rfl
    have hD9 := hD.sub (ws' := [(oM, .inr (12, [.ref mT, .int zt, .ref mS, .ref mX, .int zp, .int zf, .ref mL, .ref mB, .ref mD, .ref m1, .ref m2, .int zh, .ref mR, .int zr, .ref x1, .ref x2, .ref x3, .int zc, .ref mH, .int zy, .int za, .int zb, .int zs, .int zq, .int (-1), .int 0, .ref mY, .int zn, .ref mE, .int zm, .int zl, .ref mW, .int zk, .ref mO, .int zd, .ref y1, .ref y2, .ref y3, .ref y4, .ref mZ])), (mY, .inl (cI, 2600, .inl eY)), (mB, .inl (cS, 131072, .inl eB)), (mS, .inl (cI, 21, .inl eS)), (mX, .inl (cI, 6300, .inl eX))]) [0, 1, 2, 3, 4] (by decide +kernel) rfl
    rw [hQQ]
    exact W.iret (v := (-1)) hx hb hr (fun t ht hW => ⟨⟨(-1), (-1), rfl, rfl, ⟨0, (-1), zn, eY, zl, by rw [ht]; exact hP9, hD9, g_zn, g_eY⟩⟩, hS.F ht⟩) hS.2.2 dX12_size_18

set_option maxHeartbeats 40000000 in
set_option maxRecDepth 100000 in
theorem y_byteOf (l : Launch) (dC : Nat → ClassId) (dI : Nat → Nat → Nat) (cI cS : ClassId) (sz : Nat) (oM : Nat) (mT : Nat) (mS : Nat) (mX : Nat) (mL : Nat) (mB : Nat) (mD : Nat) (m1 : Nat) (m2 : Nat) (mR : Nat) (x1 : Nat) (x2 : Nat) (x3 : Nat) (mH : Nat) (mY : Nat) (mE : Nat) (mW : Nat) (mO : Nat) (y1 : Nat) (y2 : Nat) (y3 : Nat) (y4 : Nat) (mZ : Nat) (zt : Int32) (zp : Int32) (zf : Int32) (zh : Int32) (zr : Int32) (zc : Int32) (zy : Int32) (za : Int32) (zb : Int32) (zs : Int32) (zq : Int32) (zw : Int32) (ze : Int32) (zn : Int32) (zm : Int32) (zl : Int32) (zk : Int32) (zd : Int32) (eY : Nat → Int32) (eB : Nat → Int32) (eS : Nat → Int32) (eX : Nat → Int32) (cd : Int32) (i : Int32) (g_zt : 0 ≤ zt.toInt ∧ zt.toInt ≤ 900) (g_zp : 0 ≤ zp.toInt ∧ zp.toInt ≤ 20) (g_zf : 0 ≤ zf.toInt ∧ zf.toInt ≤ 19) (g_zh : 0 ≤ zh.toInt ∧ zh.toInt ≤ 6) (g_zr : 0 ≤ zr.toInt ∧ zr.toInt ≤ 258) (g_zc : 0 ≤ zc.toInt ∧ zc.toInt ≤ 300) (g_zy : 0 ≤ zy.toInt ∧ zy.toInt ≤ 65536) (g_za : 0 ≤ za.toInt ∧ za.toInt ≤ 5) (g_zb : 0 ≤ zb.toInt ∧ zb.toInt ≤ 5) (g_zs : 0 ≤ zs.toInt ∧ zs.toInt ≤ 2000000) (g_zq : -1 ≤ zq.toInt ∧ zq.toInt ≤ 2000000) (g_zn : 0 ≤ zn.toInt ∧ zn.toInt ≤ 2600) (g_zm : 0 ≤ zm.toInt ∧ zm.toInt ≤ 2600) (g_zk : 0 ≤ zk.toInt ∧ zk.toInt ≤ 300) (g_eY : rg 0 255 eY) (g_eB : rg (-1) 255 eB) (g_eS : rg 0 300 eS) (g_eX : rg 0 65535 eX) (hzs : zs.toInt ≤ 1000000) : Met l yX12_byteOf wsX12_byteOf ({ frames := 3, cells := 0, slots := 0, locals := 68 } : Room) (va_Pc [.ref oM, .int cd, .int i] (fun U => U.heap.size = sz ∧ va_P (dC, dI) vwCl [(oM, .inr (12, [.ref mT, .int zt, .ref mS, .ref mX, .int zp, .int zf, .ref mL, .ref mB, .ref mD, .ref m1, .ref m2, .int zh, .ref mR, .int zr, .ref x1, .ref x2, .ref x3, .int zc, .ref mH, .int zy, .int za, .int zb, .int zs, .int zq, .int zw, .int ze, .ref mY, .int zn, .ref mE, .int zm, .int zl, .ref mW, .int zk, .ref mO, .int zd, .ref y1, .ref y2, .ref y3, .ref y4, .ref mZ])), (mY, .inl (cI, 2600, .inl eY)), (mB, .inl (cS, 131072, .inl eB)), (mS, .inl (cI, 21, .inl eS)), (mX, .inl (cI, 6300, .inl eX))] U.heap ∧ va_K (dC, dI) vwCl [(cI, .int), (cS, .short)] U ∧ va_D (fun _ => True) [(oM, .inr (12, [.ref mT, .int zt, .ref mS, .ref mX, .int zp, .int zf, .ref mL, .ref mB, .ref mD, .ref m1, .ref m2, .int zh, .ref mR, .int zr, .ref x1, .ref x2, .ref x3, .int zc, .ref mH, .int zy, .int za, .int zb, .int zs, .int zq, .int zw, .int ze, .ref mY, .int zn, .ref mE, .int zm, .int zl, .ref mW, .int zk, .ref mO, .int zd, .ref y1, .ref y2, .ref y3, .ref y4, .ref mZ])), (mY, .inl (cI, 2600, .inl eY)), (mB, .inl (cS, 131072, .inl eB)), (mS, .inl (cI, 21, .inl eS)), (mX, .inl (cI, 6300, .inl eX))])) (va_Qi (fun (r : Int32) (u : Int32) => r = u) (fun (r : Int32) t => ∃ (ze' : Int32) (zw' : Int32) (zn' : Int32) (eY' : Nat → Int32) (zl' : Int32), va_P (dC, dI) vwCl [(oM, .inr (12, [.ref mT, .int zt, .ref mS, .ref mX, .int zp, .int zf, .ref mL, .ref mB, .ref mD, .ref m1, .ref m2, .int zh, .ref mR, .int zr, .ref x1, .ref x2, .ref x3, .int zc, .ref mH, .int zy, .int za, .int zb, .int zs, .int zq, .int zw', .int ze', .ref mY, .int zn', .ref mE, .int zm, .int zl', .ref mW, .int zk, .ref mO, .int zd, .ref y1, .ref y2, .ref y3, .ref y4, .ref mZ])), (mY, .inl (cI, 2600, .inl eY')), (mB, .inl (cS, 131072, .inl eB)), (mS, .inl (cI, 21, .inl eS)), (mX, .inl (cI, 6300, .inl eX))] t.heap ∧ va_D (va_A [(oM, .inr (12, [.ref mT, .int zt, .ref mS, .ref mX, .int zp, .int zf, .ref mL, .ref mB, .ref mD, .ref m1, .ref m2, .int zh, .ref mR, .int zr, .ref x1, .ref x2, .ref x3, .int zc, .ref mH, .int zy, .int za, .int zb, .int zs, .int zq, .int zw, .int ze, .ref mY, .int zn, .ref mE, .int zm, .int zl, .ref mW, .int zk, .ref mO, .int zd, .ref y1, .ref y2, .ref y3, .ref y4, .ref mZ])), (mY, .inl (cI, 2600, .inl eY)), (mB, .inl (cS, 131072, .inl eB)), (mS, .inl (cI, 21, .inl eS)), (mX, .inl (cI, 6300, .inl eX))] sz) [(oM, .inr (12, [.ref mT, .int zt, .ref mS, .ref mX, .int zp, .int zf, .ref mL, .ref mB, .ref mD, .ref m1, .ref m2, .int zh, .ref mR, .int zr, .ref x1, .ref x2, .ref x3, .int zc, .ref mH, .int zy, .int za, .int zb, .int zs, .int zq, .int zw', .int ze', .ref mY, .int zn', .ref mE, .int zm, .int zl', .ref mW, .int zk, .ref mO, .int zd, .ref y1, .ref y2, .ref y3, .ref y4, .ref mZ])), (mY, .inl (cI, 2600, .inl eY')), (mB, .inl (cS, 131072, .inl eB)), (mS, .inl (cI, 21, .inl eS)), (mX, .inl (cI, 6300, .inl eX))] ∧ (0 ≤ zn'.toInt ∧ zn'.toInt ≤ 2600) ∧ (rg 0 255 eY')) (va_A [(oM, .inr (12, [.ref mT, .int zt, .ref mS, .ref mX, .int zp, .int zf, .ref mL, .ref mB, .ref mD, .ref m1, .ref m2, .int zh, .ref mR, .int zr, .ref x1, .ref x2, .ref x3, .int zc, .ref mH, .int zy, .int za, .int zb, .int zs, .int zq, .int zw, .int ze, .ref mY, .int zn, .ref mE, .int zm, .int zl, .ref mW, .int zk, .ref mO, .int zd, .ref y1, .ref y2, .ref y3, .ref y4, .ref mZ])), (mY, .inl (cI, 2600, .inl eY)), (mB, .inl (cS, 131072, .inl eB)), (mS, .inl (cI, 21, .inl eS)), (mX, .inl (cI, 6300, .inl eX))] sz)) 0 0 (va_A [(oM, .inr (12, [.ref mT, .int zt, .ref mS, .ref mX, .int zp, .int zf, .ref mL, .ref mB, .ref mD, .ref m1, .ref m2, .int zh, .ref mR, .int zr, .ref x1, .ref x2, .ref x3, .int zc, .ref mH, .int zy, .int za, .int zb, .int zs, .int zq, .int zw, .int ze, .ref mY, .int zn, .ref mE, .int zm, .int zl, .ref mW, .int zk, .ref mO, .int zd, .ref y1, .ref y2, .ref y3, .ref y4, .ref mZ])), (mY, .inl (cI, 2600, .inl eY)), (mB, .inl (cS, 131072, .inl eB)), (mS, .inl (cI, 21, .inl eS)), (mX, .inl (cI, 6300, .inl eX))] sz) := by
  refine Met.ofW (cc := cX12_byteOf) (maxL := 3) (ret := (some .int)) (by decide) rfl ?_
  intro p e s m args below meth c s₁ B hml hv
  obtain ⟨rfl, hsz, hP, hK, hD0⟩ := hv
  have hx := B.exec
  have hb := B.bytes
  have hr := B.returns
  have hts := atoms_spec (ws := wsX12_byteOf) B.pre
  have hown : s.vm.findClass RX12 = some m.cls := findClass_of_methodNamed B.named
  have hlocks := B.notSynchronized
  have in_X12 : ∀ w ∈ wsX120, w ∈ wsX12_byteOf := fun _ h => List.mem_cons_of_mem _ (List.mem_append_right _ (h))
  subst hsz
  have hD := hD0.self (sz := s.heap.size)
  generalize hAe : va_A [(oM, .inr (12, [.ref mT, .int zt, .ref mS, .ref mX, .int zp, .int zf, .ref mL, .ref mB, .ref mD, .ref m1, .ref m2, .int zh, .ref mR, .int zr, .ref x1, .ref x2, .ref x3, .int zc, .ref mH, .int zy, .int za, .int zb, .int zs, .int zq, .int zw, .int ze, .ref mY, .int zn, .ref mE, .int zm, .int zl, .ref mW, .int zk, .ref mO, .int zd, .ref y1, .ref y2, .ref y3, .ref y4, .ref mZ])), (mY, .inl (cI, 2600, .inl eY)), (mB, .inl (cS, 131072, .inl eB)), (mS, .inl (cI, 21, .inl eS)), (mX, .inl (cI, 6300, .inl eX))] s.heap.size = A at hD ⊢
  have hA : ∀ q : Nat, s.heap.size ≤ q → A q := fun q h => by rw [← hAe]; exact Or.inr h
  have hS : va_S A s.heap s.heap [] := va_S.rf
  have hP : va_P (dC, dI) vwCl [(oM, .inr (12, [.ref mT, .int zt, .ref mS, .ref mX, .int zp, .int zf, .ref mL, .ref mB, .ref mD, .ref m1, .ref m2, .int zh, .ref mR, .int zr, .ref x1, .ref x2, .ref x3, .int zc, .ref mH, .int zy, .int za, .int zb, .int zs, .int zq, .int zw, .int ze, .ref mY, .int zn, .ref mE, .int zm, .int zl, .ref mW, .int zk, .ref mO, .int zd, .ref y1, .ref y2, .ref y3, .ref y4, .ref mZ])), (mY, .inl (cI, 2600, .inl eY)), (mB, .inl (cS, 131072, .inl eB)), (mS, .inl (cI, 21, .inl eS)), (mX, .inl (cI, 6300, .inl eX))] s.heap := hP
  have hl := lv_entry ([.ref oM, .int cd, .int i]) (n := 3) (Nat.le_of_ble_eq_true rfl)
  rw [lg_entry_eq]
  generalize (lg_sl ([.ref oM, .int cd, .int i]) ++ List.replicate (3 - (lg_sl ([.ref oM, .int cd, .int i])).length) Slot.unset).toArray = ls at hl ⊢
  have hl : lv_has ls 3 [(0, .ref oM), (1, .int cd), (2, .int i)] := hl
  obtain ⟨QQ, hQQ⟩ : ∃ QQ : Array Value → State → Outcome → State → Prop, QQ = va_Qi (fun (r : Int32) (u : Int32) => r = u) (fun (r : Int32) t => ∃ (ze' : Int32) (zw' : Int32) (zn' : Int32) (eY' : Nat → Int32) (zl' : Int32), va_P (dC, dI) vwCl [(oM, .inr (12, [.ref mT, .int zt, .ref mS, .ref mX, .int zp, .int zf, .ref mL, .ref mB, .ref mD, .ref m1, .ref m2, .int zh, .ref mR, .int zr, .ref x1, .ref x2, .ref x3, .int zc, .ref mH, .int zy, .int za, .int zb, .int zs, .int zq, .int zw', .int ze', .ref mY, .int zn', .ref mE, .int zm, .int zl', .ref mW, .int zk, .ref mO, .int zd, .ref y1, .ref y2, .ref y3, .ref y4, .ref mZ])), (mY, .inl (cI, 2600, .inl eY')), (mB, .inl (cS, 131072, .inl eB)), (mS, .inl (cI, 21, .inl eS)), (mX, .inl (cI, 6300, .inl eX))] t.heap ∧ va_D A [(oM, .inr (12, [.ref mT, .int zt, .ref mS, .ref mX, .int zp, .int zf, .ref mL, .ref mB, .ref mD, .ref m1, .ref m2, .int zh, .ref mR, .int zr, .ref x1, .ref x2, .ref x3, .int zc, .ref mH, .int zy, .int za, .int zb, .int zs, .int zq, .int zw', .int ze', .ref mY, .int zn', .ref mE, .int zm, .int zl', .ref mW, .int zk, .ref mO, .int zd, .ref y1, .ref y2, .ref y3, .ref y4, .ref mZ])), (mY, .inl (cI, 2600, .inl eY')), (mB, .inl (cS, 131072, .inl eB)), (mS, .inl (cI, 21, .inl eS)), (mX, .inl (cI, 6300, .inl eX))] ∧ (0 ≤ zn'.toInt ∧ zn'.toInt ≤ 2600) ∧ (rg 0 255 eY')) A := ⟨_, rfl⟩
  rw [← hQQ]
  refine lv_aload_n hx hb dX12_byteOf_0 rfl (lv_at hl 0 rfl) ?_
  refine lv_iconst (v := 0) hx hb dX12_byteOf_1 (by decide) ?_
  refine va_put (D := (dC, dI)) (ci := 12) (v := .int 0) (ty := .int) (C := RX12) (T := TX12) (N := 40) hx hb hts in_X12 tyX12 tyX12_ok nmX12 hown hK hP hD hS 0 rfl rfl 25 (by decide) (hts (.fieldLink RX12 85 "TextMenderModel" "thrown" "I") (List.mem_of_getElem? (i := 1) rfl)) (fun _ h9 => h9) rfl (by decide +kernel) rfl rfl (Nat.le_of_ble_eq_true rfl) dX12_byteOf_2 (fun H locs hPn hDn hSn => ?_)
  clear hP hD hS
  have hP : va_P (dC, dI) vwCl [(oM, .inr (12, [.ref mT, .int zt, .ref mS, .ref mX, .int zp, .int zf, .ref mL, .ref mB, .ref mD, .ref m1, .ref m2, .int zh, .ref mR, .int zr, .ref x1, .ref x2, .ref x3, .int zc, .ref mH, .int zy, .int za, .int zb, .int zs, .int zq, .int zw, .int 0, .ref mY, .int zn, .ref mE, .int zm, .int zl, .ref mW, .int zk, .ref mO, .int zd, .ref y1, .ref y2, .ref y3, .ref y4, .ref mZ])), (mY, .inl (cI, 2600, .inl eY)), (mB, .inl (cS, 131072, .inl eB)), (mS, .inl (cI, 21, .inl eS)), (mX, .inl (cI, 6300, .inl eX))] H := hPn
  have hD : va_D A [(oM, .inr (12, [.ref mT, .int zt, .ref mS, .ref mX, .int zp, .int zf, .ref mL, .ref mB, .ref mD, .ref m1, .ref m2, .int zh, .ref mR, .int zr, .ref x1, .ref x2, .ref x3, .int zc, .ref mH, .int zy, .int za, .int zb, .int zs, .int zq, .int zw, .int 0, .ref mY, .int zn, .ref mE, .int zm, .int zl, .ref mW, .int zk, .ref mO, .int zd, .ref y1, .ref y2, .ref y3, .ref y4, .ref mZ])), (mY, .inl (cI, 2600, .inl eY)), (mB, .inl (cS, 131072, .inl eB)), (mS, .inl (cI, 21, .inl eS)), (mX, .inl (cI, 6300, .inl eX))] := hDn
  have hS := hSn
  clear hPn hDn hSn
  refine lv_aload_n hx hb dX12_byteOf_5 rfl (lv_at hl 0 rfl) ?_
  refine lv_iconst (v := (-1)) hx hb dX12_byteOf_6 (by decide) ?_
  refine va_put (D := (dC, dI)) (ci := 12) (v := .int (-1)) (ty := .int) (C := RX12) (T := TX12) (N := 40) hx hb hts in_X12 tyX12 tyX12_ok nmX12 hown hK hP hD hS 0 rfl rfl 24 (by decide) (hts (.fieldLink RX12 55 "TextMenderModel" "where" "I") (List.mem_of_getElem? (i := 2) rfl)) (fun _ h9 => h9) rfl (by decide +kernel) rfl rfl (Nat.le_of_ble_eq_true rfl) dX12_byteOf_7 (fun H locs hPn hDn hSn => ?_)
  clear hP hD hS
  have hP : va_P (dC, dI) vwCl [(oM, .inr (12, [.ref mT, .int zt, .ref mS, .ref mX, .int zp, .int zf, .ref mL, .ref mB, .ref mD, .ref m1, .ref m2, .int zh, .ref mR, .int zr, .ref x1, .ref x2, .ref x3, .int zc, .ref mH, .int zy, .int za, .int zb, .int zs, .int zq, .int (-1), .int 0, .ref mY, .int zn, .ref mE, .int zm, .int zl, .ref mW, .int zk, .ref mO, .int zd, .ref y1, .ref y2, .ref y3, .ref y4, .ref mZ])), (mY, .inl (cI, 2600, .inl eY)), (mB, .inl (cS, 131072, .inl eB)), (mS, .inl (cI, 21, .inl eS)), (mX, .inl (cI, 6300, .inl eX))] H := hPn
  have hD : va_D A [(oM, .inr (12, [.ref mT, .int zt, .ref mS, .ref mX, .int zp, .int zf, .ref mL, .ref mB, .ref mD, .ref m1, .ref m2, .int zh, .ref mR, .int zr, .ref x1, .ref x2, .ref x3, .int zc, .ref mH, .int zy, .int za, .int zb, .int zs, .int zq, .int (-1), .int 0, .ref mY, .int zn, .ref mE, .int zm, .int zl, .ref mW, .int zk, .ref mO, .int zd, .ref y1, .ref y2, .ref y3, .ref y4, .ref mZ])), (mY, .inl (cI, 2600, .inl eY)), (mB, .inl (cS, 131072, .inl eB)), (mS, .inl (cI, 21, .inl eS)), (mX, .inl (cI, 6300, .inl eX))] := hDn
  have hS := hSn
  clear hPn hDn hSn
  refine lv_iload_n hx hb dX12_byteOf_10 rfl (lv_at hl 1 rfl) ?_
  have hPc := hP.sub (ws' := []) [] rfl
  have hDc := hD.sub (ws' := []) [] (by decide +kernel) rfl
  have hFc := va_free (wc := []) hD hS hA [] rfl
  refine va_calli (va_runS (As := [.int cd]) (rest := []) ⟨hx, hb, hml, hown, hts⟩ (m_X12_isCode l dC dI cI cS H.size cd ) (va_cwS 1 hts gX12_byteOf_X12_isCode rfl rfl rfl (by decide +kernel) ⟨Nat.le_of_ble_eq_true rfl, Nat.le_of_ble_eq_true rfl⟩) ⟨fun a U g mk q => by obtain ⟨q0, q1, qP, qK, qD⟩ := q; exact ⟨q0, q1, qP, va_K.moved (u := U) (U := U.calling g mk a) (Vm.Alike.refl U.vm) qK, qD⟩, fun U hU hW => ⟨rfl, by rw [hU], by rw [hU]; exact hPc, va_K.moved hW.alike hK, hDc.weaken (fun _ _ _ _ => trivial)⟩⟩ rfl rfl hl.1 rfl (lv_room (Nat.le_of_ble_eq_true rfl)) dX12_byteOf_11 ⟨Nat.le_of_ble_eq_true rfl, Nat.le_of_ble_eq_true rfl⟩) hS (fun q _ h => hFc q h) hFc (fun r_1 u t H1 locs ht hvm hw hB hz1 hk1 hSn => ?_)
  subst hw
  obtain ⟨hP1, hD1, hf1_0, hf1_1⟩ := hB
  rw [ht] at hP1
  obtain ⟨hPn, hDn⟩ := va_join (wr := [(oM, .inr (12, [.ref mT, .int zt, .ref mS, .ref mX, .int zp, .int zf, .ref mL, .ref mB, .ref mD, .ref m1, .ref m2, .int zh, .ref mR, .int zr, .ref x1, .ref x2, .ref x3, .int zc, .ref mH, .int zy, .int za, .int zb, .int zs, .int zq, .int (-1), .int 0, .ref mY, .int zn, .ref mE, .int zm, .int zl, .ref mW, .int zk, .ref mO, .int zd, .ref y1, .ref y2, .ref y3, .ref y4, .ref mZ])), (mY, .inl (cI, 2600, .inl eY)), (mB, .inl (cS, 131072, .inl eB)), (mS, .inl (cI, 21, .inl eS)), (mX, .inl (cI, 6300, .inl eX))]) (w1 := []) hP hD [] [0, 1, 2, 3, 4] rfl rfl (by decide +kernel) (by decide +kernel) hk1 hFc hP1 hD1
  clear hP hD hS hPc hDc hFc hk1 hz1 hvm ht hP1 hD1
  generalize H1 = H at hPn hSn ⊢
  have hP : va_P (dC, dI) vwCl [(oM, .inr (12, [.ref mT, .int zt, .ref mS, .ref mX, .int zp, .int zf, .ref mL, .ref mB, .ref mD, .ref m1, .ref m2, .int zh, .ref mR, .int zr, .ref x1, .ref x2, .ref x3, .int zc, .ref mH, .int zy, .int za, .int zb, .int zs, .int zq, .int (-1), .int 0, .ref mY, .int zn, .ref mE, .int zm, .int zl, .ref mW, .int zk, .ref mO, .int zd, .ref y1, .ref y2, .ref y3, .ref y4, .ref mZ])), (mY, .inl (cI, 2600, .inl eY)), (mB, .inl (cS, 131072, .inl eB)), (mS, .inl (cI, 21, .inl eS)), (mX, .inl (cI, 6300, .inl eX))] H := hPn
  have hD : va_D A [(oM, .inr (12, [.ref mT, .int zt, .ref mS, .ref mX, .int zp, .int zf, .ref mL, .ref mB, .ref mD, .ref m1, .ref m2, .int zh, .ref mR, .int zr, .ref x1, .ref x2, .ref x3, .int zc, .ref mH, .int zy, .int za, .int zb, .int zs, .int zq, .int (-1), .int 0, .ref mY, .int zn, .ref mE, .int zm, .int zl, .ref mW, .int zk, .ref mO, .int zd, .ref y1, .ref y2, .ref y3, .ref y4, .ref mZ])), (mY, .inl (cI, 2600, .inl eY)), (mB, .inl (cS, 131072, .inl eB)), (mS, .inl (cI, 21, .inl eS)), (mX, .inl (cI, 6300, .inl eX))] := hDn
  have hS := hSn
  clear hPn hDn hSn
  refine lv_if_ne (tgt := 19) hx hb dX12_byteOf_14 (by decide) (fun c_2 => ?_) (fun c_2 => ?_)
  · have tc_2 : ¬ r_1.toInt = 0 := v_ne c_2
    refine lv_aload_n hx hb dX12_byteOf_19 rfl (lv_at hl 0 rfl) ?_
    refine lv_iload_n hx hb dX12_byteOf_20 rfl (lv_at hl 1 rfl) ?_
    refine lv_aload_n hx hb dX12_byteOf_21 rfl (lv_at hl 0 rfl) ?_
    refine va_get (D := (dC, dI)) (ci := 12) (v := .ref mX) (C := RX12) (T := TX12) (N := 40) hx hb hts in_X12 hown hK hP 0 rfl rfl 3 (by decide) (hts (.fieldLink RX12 16 "TextMenderModel" "texts" "[I") (List.mem_of_getElem? (i := 3) rfl)) (fun _ h9 => h9) rfl dX12_byteOf_22 ?_
    refine lv_aload_n hx hb dX12_byteOf_25 rfl (lv_at hl 0 rfl) ?_
    refine va_get (D := (dC, dI)) (ci := 12) (v := .ref mS) (C := RX12) (T := TX12) (N := 40) hx hb hts in_X12 hown hK hP 0 rfl rfl 2 (by decide) (hts (.fieldLink RX12 13 "TextMenderModel" "sizes" "[I") (List.mem_of_getElem? (i := 4) rfl)) (fun _ h9 => h9) rfl dX12_byteOf_26 ?_
    refine lv_iconst (v := 0) hx hb dX12_byteOf_29 (by decide) ?_
    refine va_iald hx hb hK hP 3 0 rfl rfl (by unfold vp_in; decide) dX12_byteOf_30 ?_
    refine lv_topi (fun x_3 ex_3 => ?_)
    have tx_3 : 0 ≤ x_3.toInt ∧ x_3.toInt ≤ 300 := rg_at g_eS ex_3
    have hPc := hP.sub (ws' := [(oM, .inr (12, [.ref mT, .int zt, .ref mS, .ref mX, .int zp, .int zf, .ref mL, .ref mB, .ref mD, .ref m1, .ref m2, .int zh, .ref mR, .int zr, .ref x1, .ref x2, .ref x3, .int zc, .ref mH, .int zy, .int za, .int zb, .int zs, .int zq, .int (-1), .int 0, .ref mY, .int zn, .ref mE, .int zm, .int zl, .ref mW, .int zk, .ref mO, .int zd, .ref y1, .ref y2, .ref y3, .ref y4, .ref mZ])), (mY, .inl (cI, 2600, .inl eY)), (mB, .inl (cS, 131072, .inl eB)), (mX, .inl (cI, 6300, .inl eX))]) [0, 1, 2, 4] rfl
    have hDc := hD.sub (ws' := [(oM, .inr (12, [.ref mT, .int zt, .ref mS, .ref mX, .int zp, .int zf, .ref mL, .ref mB, .ref mD, .ref m1, .ref m2, .int zh, .ref mR, .int zr, .ref x1, .ref x2, .ref x3, .int zc, .ref mH, .int zy, .int za, .int zb, .int zs, .int zq, .int (-1), .int 0, .ref mY, .int zn, .ref mE, .int zm, .int zl, .ref mW, .int zk, .ref mO, .int zd, .ref y1, .ref y2, .ref y3, .ref y4, .ref mZ])), (mY, .inl (cI, 2600, .inl eY)), (mB, .inl (cS, 131072, .inl eB)), (mX, .inl (cI, 6300, .inl eX))]) [0, 1, 2, 4] (by decide +kernel) rfl
    have hFc := va_free (wc := [(oM, .inr (12, [.ref mT, .int zt, .ref mS, .ref mX, .int zp, .int zf, .ref mL, .ref mB, .ref mD, .ref m1, .ref m2, .int zh, .ref mR, .int zr, .ref x1, .ref x2, .ref x3, .int zc, .ref mH, .int zy, .int za, .int zb, .int zs, .int zq, .int (-1), .int 0, .ref mY, .int zn, .ref mE, .int zm, .int zl, .ref mW, .int zk, .ref mO, .int zd, .ref y1, .ref y2, .ref y3, .ref y4, .ref mZ])), (mY, .inl (cI, 2600, .inl eY)), (mB, .inl (cS, 131072, .inl eB)), (mX, .inl (cI, 6300, .inl eX))]) hD hS hA [0, 1, 2, 4] rfl
    refine va_calli (va_runV (As := [.int cd, .ref mX, .int x_3]) (rest := []) ⟨hx, hb, hml, hown, hts⟩ (m_X12_write l dC dI cI cS H.size oM mX mT mS mX mL mB mD m1 m2 mR x1 x2 x3 mH mY mE mW mO y1 y2 y3 y4 mZ 6300 zt zp zf zh zr zc zy za zb zs zq (-1) 0 zn zm zl zk zd eY eB eX cd x_3 (g_zt) (g_zp) (g_zf) (g_zh) (g_zr) (g_zc) (g_zy) (g_za) (g_zb) (g_zs) (g_zq) (g_zn) (g_zm) (g_zk) (g_eY) (g_eB) (g_eX) (by omega) (by omega) (by omega) (by omega)) (cwV 3 hts gX12_byteOf_X12_write rfl rfl rfl (by decide +kernel) ⟨Nat.le_of_ble_eq_true rfl, Nat.le_of_ble_eq_true rfl⟩) ⟨fun a U g mk q => by obtain ⟨q0, q1, qP, qK, qD⟩ := q; exact ⟨q0, q1, qP, va_K.moved (u := U) (U := U.calling g mk a) (Vm.Alike.refl U.vm) qK, qD⟩, va_recv hK hPc (ci := 12) (q0 := 0) rfl rfl, fun U hU hW => ⟨rfl, by rw [hU], by rw [hU]; exact hPc, va_K.moved hW.alike hK, hDc.weaken (fun _ _ _ _ => trivial)⟩⟩ rfl rfl hl.1 rfl (lv_room (Nat.le_of_ble_eq_true rfl)) dX12_byteOf_31 ⟨Nat.le_of_ble_eq_true rfl, Nat.le_of_ble_eq_true rfl⟩) hS (fun q _ h => hFc q h) hFc (fun r_4 u t H1 locs ht hvm hw hB hz1 hk1 hSn => ?_)
    subst hw
    obtain ⟨zn_4, eY_4, zl_4, hP1, hD1, hf4_0, hf4_1, hf4_2⟩ := hB
    rw [ht] at hP1
    obtain ⟨hPn, hDn⟩ := va_join (wr := [(mS, .inl (cI, 21, .inl eS))]) (w1 := [(oM, .inr (12, [.ref mT, .int zt, .ref mS, .ref mX, .int zp, .int zf, .ref mL, .ref mB, .ref mD, .ref m1, .ref m2, .int zh, .ref mR, .int zr, .ref x1, .ref x2, .ref x3, .int zc, .ref mH, .int zy, .int za, .int zb, .int zs, .int zq, .int (-1), .int 0, .ref mY, .int zn_4, .ref mE, .int zm, .int zl_4, .ref mW, .int zk, .ref mO, .int zd, .ref y1, .ref y2, .ref y3, .ref y4, .ref mZ])), (mY, .inl (cI, 2600, .inl eY_4)), (mB, .inl (cS, 131072, .inl eB)), (mX, .inl (cI, 6300, .inl eX))]) hP hD [0, 1, 2, 4] [3] rfl rfl (by decide +kernel) (by decide +kernel) hk1 hFc hP1 hD1
    clear hP hD hS hPc hDc hFc hk1 hz1 hvm ht hP1 hD1
    generalize H1 = H at hPn hSn ⊢
    have hP : va_P (dC, dI) vwCl [(mS, .inl (cI, 21, .inl eS)), (oM, .inr (12, [.ref mT, .int zt, .ref mS, .ref mX, .int zp, .int zf, .ref mL, .ref mB, .ref mD, .ref m1, .ref m2, .int zh, .ref mR, .int zr, .ref x1, .ref x2, .ref x3, .int zc, .ref mH, .int zy, .int za, .int zb, .int zs, .int zq, .int (-1), .int 0, .ref mY, .int zn_4, .ref mE, .int zm, .int zl_4, .ref mW, .int zk, .ref mO, .int zd, .ref y1, .ref y2, .ref y3, .ref y4, .ref mZ])), (mY, .inl (cI, 2600, .inl eY_4)), (mB, .inl (cS, 131072, .inl eB)), (mX, .inl (cI, 6300, .inl eX))] H := hPn
    have hD : va_D A [(mS, .inl (cI, 21, .inl eS)), (oM, .inr (12, [.ref mT, .int zt, .ref mS, .ref mX, .int zp, .int zf, .ref mL, .ref mB, .ref mD, .ref m1, .ref m2, .int zh, .ref mR, .int zr, .ref x1, .ref x2, .ref x3, .int zc, .ref mH, .int zy, .int za, .int zb, .int zs, .int zq, .int (-1), .int 0, .ref mY, .int zn_4, .ref mE, .int zm, .int zl_4, .ref mW, .int zk, .ref mO, .int zd, .ref y1, .ref y2, .ref y3, .ref y4, .ref mZ])), (mY, .inl (cI, 2600, .inl eY_4)), (mB, .inl (cS, 131072, .inl eB)), (mX, .inl (cI, 6300, .inl eX))] := hDn
    have hS := hSn
    clear hPn hDn hSn
    refine lv_if_ne (tgt := 47) hx hb dX12_byteOf_34 (by decide) (fun c_5 => ?_) (fun c_5 => ?_)
    · have tc_5 : ¬ r_4.toInt = 0 := v_ne c_5
      refine lv_iload_n hx hb dX12_byteOf_47 rfl (lv_at hl 2 rfl) ?_
      refine lv_if_lt (tgt := 68) hx hb dX12_byteOf_48 (by decide) (fun c_6 => ?_) (fun c_6 => ?_)
      · have tc_6 : i.toInt < 0 := v_lt c_6
        refine lv_iconst (v := (-1)) hx hb dX12_byteOf_68 (by decide) ?_
        have hP9 := hP.sub (ws' := [(oM, .inr (12, [.ref mT, .int zt, .ref mS, .ref mX, .int zp, .int zf, .ref mL, .ref mB, .ref mD, .ref m1, .ref m2, .int zh, .ref mR, .int zr, .ref x1, .ref x2, .ref x3, .int zc, .ref mH, .int zy, .int za, .int zb, .int zs, .int zq, .int (-1), .int 0, .ref mY, .int zn_4, .ref mE, .int zm, .int zl_4, .ref mW, .int zk, .ref mO, .int zd, .ref y1, .ref y2, .ref y3, .ref y4, .ref mZ])), (mY, .inl (cI, 2600, .inl eY_4)), (mB, .inl (cS, 131072, .inl eB)), (mS, .inl (cI, 21, .inl eS)), (mX, .inl (cI, 6300, .inl eX))]) [1, 2, 3, 0, 4] rfl
        have hD9 := hD.sub (ws' := [(oM, .inr (12, [.ref mT, .int zt, .ref mS, .ref mX, .int zp, .int zf, .ref mL, .ref mB, .ref mD, .ref m1, .ref m2, .int zh, .ref mR, .int zr, .ref x1, .ref x2, .ref x3, .int zc, .ref mH, .int zy, .int za, .int zb, .int zs, .int zq, .int (-1), .int 0, .ref mY, .int zn_4, .ref mE, .int zm, .int zl_4, .ref mW, .int zk, .ref mO, .int zd, .ref y1, .ref y2, .ref y3, .ref y4, .ref mZ])), (mY, .inl (cI, 2600, .inl eY_4)), (mB, .inl (cS, 131072, .inl eB)), (mS, .inl (cI, 21, .inl eS)), (mX, .inl (cI, 6300, .inl eX))]) [1, 2, 3, 0, 4] (by decide +kernel) rfl
        rw [hQQ]
        exact W.iret (v := (-1)) hx hb hr (fun t ht hW => ⟨⟨(-1), (-1), rfl, rfl, ⟨0, (-1), zn_4, eY_4, zl_4, by rw [ht]; exact hP9, hD9, hf4_0, hf4_1⟩⟩, hS.F ht⟩) hS.2.2 dX12_byteOf_69
      · have tc_6 : 0 ≤ i.toInt := v_nlt c_6
        refine lv_iload_n hx hb dX12_byteOf_51 rfl (lv_at hl 2 rfl) ?_
        refine lv_aload_n hx hb dX12_byteOf_52 rfl (lv_at hl 0 rfl) ?_
        refine va_get (D := (dC, dI)) (ci := 12) (v := .int zn_4) (C := RX12) (T := TX12) (N := 40) hx hb hts in_X12 hown hK hP 1 rfl rfl 27 (by decide) (hts (.fieldLink RX12 91 "TextMenderModel" "byteMany" "I") (List.mem_of_getElem? (i := 6) rfl)) (fun _ h9 => h9) rfl dX12_byteOf_53 ?_
        refine lv_icmp_ge (tgt := 68) hx hb dX12_byteOf_56 (by decide) (fun c_7 => ?_) (fun c_7 => ?_)
        · have tc_7 : zn_4.toInt ≤ i.toInt := v_le c_7
          have rw7_0 := v_rng i
          refine lv_iconst (v := (-1)) hx hb dX12_byteOf_68 (by decide) ?_
          have hP9 := hP.sub (ws' := [(oM, .inr (12, [.ref mT, .int zt, .ref mS, .ref mX, .int zp, .int zf, .ref mL, .ref mB, .ref mD, .ref m1, .ref m2, .int zh, .ref mR, .int zr, .ref x1, .ref x2, .ref x3, .int zc, .ref mH, .int zy, .int za, .int zb, .int zs, .int zq, .int (-1), .int 0, .ref mY, .int zn_4, .ref mE, .int zm, .int zl_4, .ref mW, .int zk, .ref mO, .int zd, .ref y1, .ref y2, .ref y3, .ref y4, .ref mZ])), (mY, .inl (cI, 2600, .inl eY_4)), (mB, .inl (cS, 131072, .inl eB)), (mS, .inl (cI, 21, .inl eS)), (mX, .inl (cI, 6300, .inl eX))]) [1, 2, 3, 0, 4] rfl
          have hD9 := hD.sub (ws' := [(oM, .inr (12, [.ref mT, .int zt, .ref mS, .ref mX, .int zp, .int zf, .ref mL, .ref mB, .ref mD, .ref m1, .ref m2, .int zh, .ref mR, .int zr, .ref x1, .ref x2, .ref x3, .int zc, .ref mH, .int zy, .int za, .int zb, .int zs, .int zq, .int (-1), .int 0, .ref mY, .int zn_4, .ref mE, .int zm, .int zl_4, .ref mW, .int zk, .ref mO, .int zd, .ref y1, .ref y2, .ref y3, .ref y4, .ref mZ])), (mY, .inl (cI, 2600, .inl eY_4)), (mB, .inl (cS, 131072, .inl eB)), (mS, .inl (cI, 21, .inl eS)), (mX, .inl (cI, 6300, .inl eX))]) [1, 2, 3, 0, 4] (by decide +kernel) rfl
          rw [hQQ]
          exact W.iret (v := (-1)) hx hb hr (fun t ht hW => ⟨⟨(-1), (-1), rfl, rfl, ⟨0, (-1), zn_4, eY_4, zl_4, by rw [ht]; exact hP9, hD9, hf4_0, hf4_1⟩⟩, hS.F ht⟩) hS.2.2 dX12_byteOf_69
        · have tc_7 : i.toInt < zn_4.toInt := v_nle c_7
          have rw7_0 := v_rng i
          refine lv_aload_n hx hb dX12_byteOf_59 rfl (lv_at hl 0 rfl) ?_
          refine va_get (D := (dC, dI)) (ci := 12) (v := .ref mY) (C := RX12) (T := TX12) (N := 40) hx hb hts in_X12 hown hK hP 1 rfl rfl 26 (by decide) (hts (.fieldLink RX12 58 "TextMenderModel" "bytes" "[I") (List.mem_of_getElem? (i := 7) rfl)) (fun _ h9 => h9) rfl dX12_byteOf_60 ?_
          refine lv_iload_n hx hb dX12_byteOf_63 rfl (lv_at hl 2 rfl) ?_
          refine va_iald hx hb hK hP 2 0 rfl rfl (v_in (by omega)) dX12_byteOf_64 ?_
          refine lv_topi (fun x_8 ex_8 => ?_)
          have tx_8 : 0 ≤ x_8.toInt ∧ x_8.toInt ≤ 255 := rg_at hf4_1 ex_8
          refine lv_goto (tgt := 69) hx hb dX12_byteOf_65 (by decide) ?_
          have hP9 := hP.sub (ws' := [(oM, .inr (12, [.ref mT, .int zt, .ref mS, .ref mX, .int zp, .int zf, .ref mL, .ref mB, .ref mD, .ref m1, .ref m2, .int zh, .ref mR, .int zr, .ref x1, .ref x2, .ref x3, .int zc, .ref mH, .int zy, .int za, .int zb, .int zs, .int zq, .int (-1), .int 0, .ref mY, .int zn_4, .ref mE, .int zm, .int zl_4, .ref mW, .int zk, .ref mO, .int zd, .ref y1, .ref y2, .ref y3, .ref y4, .ref mZ])), (mY, .inl (cI, 2600, .inl eY_4)), (mB, .inl (cS, 131072, .inl eB)), (mS, .inl (cI, 21, .inl eS)), (mX, .inl (cI, 6300, .inl eX))]) [1, 2, 3, 0, 4] rfl
          have hD9 := hD.sub (ws' := [(oM, .inr (12, [.ref mT, .int zt, .ref mS, .ref mX, .int zp, .int zf, .ref mL, .ref mB, .ref mD, .ref m1, .ref m2, .int zh, .ref mR, .int zr, .ref x1, .ref x2, .ref x3, .int zc, .ref mH, .int zy, .int za, .int zb, .int zs, .int zq, .int (-1), .int 0, .ref mY, .int zn_4, .ref mE, .int zm, .int zl_4, .ref mW, .int zk, .ref mO, .int zd, .ref y1, .ref y2, .ref y3, .ref y4, .ref mZ])), (mY, .inl (cI, 2600, .inl eY_4)), (mB, .inl (cS, 131072, .inl eB)), (mS, .inl (cI, 21, .inl eS)), (mX, .inl (cI, 6300, .inl eX))]) [1, 2, 3, 0, 4] (by decide +kernel) rfl
          rw [hQQ]
          exact W.iret (v := x_8) hx hb hr (fun t ht hW => ⟨⟨x_8, x_8, rfl, rfl, ⟨0, (-1), zn_4, eY_4, zl_4, by rw [ht]; exact hP9, hD9, hf4_0, hf4_1⟩⟩, hS.F ht⟩) hS.2.2 dX12_byteOf_69
    · have tc_5 : r_4.toInt = 0 := v_eq c_5
      refine lv_aload_n hx hb dX12_byteOf_37 rfl (lv_at hl 0 rfl) ?_
      refine lv_aload_n hx hb dX12_byteOf_38 rfl (lv_at hl 0 rfl) ?_
      refine va_get (D := (dC, dI)) (ci := 12) (v := .int zl_4) (C := RX12) (T := TX12) (N := 40) hx hb hts in_X12 hown hK hP 1 rfl rfl 30 (by decide) (hts (.fieldLink RX12 102 "TextMenderModel" "faultAt" "I") (List.mem_of_getElem? (i := 5) rfl)) (fun _ h9 => h9) rfl dX12_byteOf_39 ?_
      refine va_put (D := (dC, dI)) (ci := 12) (v := .int zl_4) (ty := .int) (C := RX12) (T := TX12) (N := 40) hx hb hts in_X12 tyX12 tyX12_ok nmX12 hown hK hP hD hS 1 rfl rfl 24 (by decide) (hts (.fieldLink RX12 55 "TextMenderModel" "where" "I") (List.mem_of_getElem? (i := 2) rfl)) (fun _ h9 => h9) rfl (by decide +kernel) rfl rfl (Nat.le_of_ble_eq_true rfl) dX12_byteOf_42 (fun H locs hPn hDn hSn => ?_)
      clear hP hD hS
      have hP : va_P (dC, dI) vwCl [(mS, .inl (cI, 21, .inl eS)), (oM, .inr (12, [.ref mT, .int zt, .ref mS, .ref mX, .int zp, .int zf, .ref mL, .ref mB, .ref mD, .ref m1, .ref m2, .int zh, .ref mR, .int zr, .ref x1, .ref x2, .ref x3, .int zc, .ref mH, .int zy, .int za, .int zb, .int zs, .int zq, .int zl_4, .int 0, .ref mY, .int zn_4, .ref mE, .int zm, .int zl_4, .ref mW, .int zk, .ref mO, .int zd, .ref y1, .ref y2, .ref y3, .ref y4, .ref mZ])), (mY, .inl (cI, 2600, .inl eY_4)), (mB, .inl (cS, 131072, .inl eB)), (mX, .inl (cI, 6300, .inl eX))] H := hPn
      have hD : va_D A [(mS, .inl (cI, 21, .inl eS)), (oM, .inr (12, [.ref mT, .int zt, .ref mS, .ref mX, .int zp, .int zf, .ref mL, .ref mB, .ref mD, .ref m1, .ref m2, .int zh, .ref mR, .int zr, .ref x1, .ref x2, .ref x3, .int zc, .ref mH, .int zy, .int za, .int zb, .int zs, .int zq, .int zl_4, .int 0, .ref mY, .int zn_4, .ref mE, .int zm, .int zl_4, .ref mW, .int zk, .ref mO, .int zd, .ref y1, .ref y2, .ref y3, .ref y4, .ref mZ])), (mY, .inl (cI, 2600, .inl eY_4)), (mB, .inl (cS, 131072, .inl eB)), (mX, .inl (cI, 6300, .inl eX))] := hDn
      have hS := hSn
      clear hPn hDn hSn
      refine lv_iconst (v := (-1)) hx hb dX12_byteOf_45 (by decide) ?_
      have hP9 := hP.sub (ws' := [(oM, .inr (12, [.ref mT, .int zt, .ref mS, .ref mX, .int zp, .int zf, .ref mL, .ref mB, .ref mD, .ref m1, .ref m2, .int zh, .ref mR, .int zr, .ref x1, .ref x2, .ref x3, .int zc, .ref mH, .int zy, .int za, .int zb, .int zs, .int zq, .int zl_4, .int 0, .ref mY, .int zn_4, .ref mE, .int zm, .int zl_4, .ref mW, .int zk, .ref mO, .int zd, .ref y1, .ref y2, .ref y3, .ref y4, .ref mZ])), (mY, .inl (cI, 2600, .inl eY_4)), (mB, .inl (cS, 131072, .inl eB)), (mS, .inl (cI, 21, .inl eS)), (mX, .inl (cI, 6300, .inl eX))]) [1, 2, 3, 0, 4] rfl
      have hD9 := hD.sub (ws' := [(oM, .inr (12, [.ref mT, .int zt, .ref mS, .ref mX, .int zp, .int zf, .ref mL, .ref mB, .ref mD, .ref m1, .ref m2, .int zh, .ref mR, .int zr, .ref x1, .ref x2, .ref x3, .int zc, .ref mH, .int zy, .int za, .int zb, .int zs, .int zq, .int zl_4, .int 0, .ref mY, .int zn_4, .ref mE, .int zm, .int zl_4, .ref mW, .int zk, .ref mO, .int zd, .ref y1, .ref y2, .ref y3, .ref y4, .ref mZ])), (mY, .inl (cI, 2600, .inl eY_4)), (mB, .inl (cS, 131072, .inl eB)), (mS, .inl (cI, 21, .inl eS)), (mX, .inl (cI, 6300, .inl eX))]) [1, 2, 3, 0, 4] (by decide +kernel) rfl
      rw [hQQ]
      exact W.iret (v := (-1)) hx hb hr (fun t ht hW => ⟨⟨(-1), (-1), rfl, rfl, ⟨0, zl_4, zn_4, eY_4, zl_4, by rw [ht]; exact hP9, hD9, hf4_0, hf4_1⟩⟩, hS.F ht⟩) hS.2.2 dX12_byteOf_46
  · have tc_2 : r_1.toInt = 0 := v_eq c_2
    refine lv_iconst (v := (-1)) hx hb dX12_byteOf_17 (by decide) ?_
    have hP9 := hP.sub (ws' := [(oM, .inr (12, [.ref mT, .int zt, .ref mS, .ref mX, .int zp, .int zf, .ref mL, .ref mB, .ref mD, .ref m1, .ref m2, .int zh, .ref mR, .int zr, .ref x1, .ref x2, .ref x3, .int zc, .ref mH, .int zy, .int za, .int zb, .int zs, .int zq, .int (-1), .int 0, .ref mY, .int zn, .ref mE, .int zm, .int zl, .ref mW, .int zk, .ref mO, .int zd, .ref y1, .ref y2, .ref y3, .ref y4, .ref mZ])), (mY, .inl (cI, 2600, .inl eY)), (mB, .inl (cS, 131072, .inl eB)), (mS, .inl (cI, 21, .inl eS)), (mX, .inl (cI, 6300, .inl eX))]) [0, 1, 2, 3, 4] rfl
    have hD9 := hD.sub (ws' := [(oM, .inr (12, [.ref mT, .int zt, .ref mS, .ref mX, .int zp, .int zf, .ref mL, .ref mB, .ref mD, .ref m1, .ref m2, .int zh, .ref mR, .int zr, .ref x1, .ref x2, .ref x3, .int zc, .ref mH, .int zy, .int za, .int zb, .int zs, .int zq, .int (-1), .int 0, .ref mY, .int zn, .ref mE, .int zm, .int zl, .ref mW, .int zk, .ref mO, .int zd, .ref y1, .ref y2, .ref y3, .ref y4, .ref mZ])), (mY, .inl (cI, 2600, .inl eY)), (mB, .inl (cS, 131072, .inl eB)), (mS, .inl (cI, 21, .inl eS)), (mX, .inl (cI, 6300, .inl eX))]) [0, 1, 2, 3, 4] (by decide +kernel) rfl
    rw [hQQ]
    exact W.iret (v := (-1)) hx hb hr (fun t ht hW => ⟨⟨(-1), (-1), rfl, rfl, ⟨0, (-1), zn, eY, zl, by rw [ht]; exact hP9, hD9, g_zn, g_eY⟩⟩, hS.F ht⟩) hS.2.2 dX12_byteOf_18

set_option maxHeartbeats 40000000 in
set_option maxRecDepth 100000 in
theorem m_X12_canCome (l : Launch) (dC : Nat → ClassId) (dI : Nat → Nat → Nat) (cI cS : ClassId) (sz : Nat) (oM : Nat) (mT : Nat) (mS : Nat) (mX : Nat) (mL : Nat) (mB : Nat) (mD : Nat) (m1 : Nat) (m2 : Nat) (mR : Nat) (x1 : Nat) (x2 : Nat) (x3 : Nat) (mH : Nat) (mY : Nat) (mE : Nat) (mW : Nat) (mO : Nat) (y1 : Nat) (y2 : Nat) (y3 : Nat) (y4 : Nat) (mZ : Nat) (zt : Int32) (zp : Int32) (zf : Int32) (zh : Int32) (zr : Int32) (zc : Int32) (zy : Int32) (za : Int32) (zb : Int32) (zs : Int32) (zq : Int32) (zw : Int32) (ze : Int32) (zn : Int32) (zm : Int32) (zl : Int32) (zk : Int32) (zd : Int32) (eL : Nat → Int32) (cd : Int32) (v : Int32) (g_zt : 0 ≤ zt.toInt ∧ zt.toInt ≤ 900) (g_zp : 0 ≤ zp.toInt ∧ zp.toInt ≤ 20) (g_zf : 0 ≤ zf.toInt ∧ zf.toInt ≤ 19) (g_zh : 0 ≤ zh.toInt ∧ zh.toInt ≤ 6) (g_zr : 0 ≤ zr.toInt ∧ zr.toInt ≤ 258) (g_zc : 0 ≤ zc.toInt ∧ zc.toInt ≤ 300) (g_zy : 0 ≤ zy.toInt ∧ zy.toInt ≤ 65536) (g_za : 0 ≤ za.toInt ∧ za.toInt ≤ 5) (g_zb : 0 ≤ zb.toInt ∧ zb.toInt ≤ 5) (g_zs : 0 ≤ zs.toInt ∧ zs.toInt ≤ 2000000) (g_zq : -1 ≤ zq.toInt ∧ zq.toInt ≤ 2000000) (g_zn : 0 ≤ zn.toInt ∧ zn.toInt ≤ 2600) (g_zm : 0 ≤ zm.toInt ∧ zm.toInt ≤ 2600) (g_zk : 0 ≤ zk.toInt ∧ zk.toInt ≤ 300) (g_eL : rg (-1) 65535 eL) (g_cd : 0 ≤ cd.toInt ∧ cd.toInt ≤ 5) (g_v : 0 ≤ v.toInt ∧ v.toInt ≤ 255) : Met l yX12_canCome wsX12_canCome ({ frames := 0, cells := 0, slots := 0, locals := 0 } : Room) (va_Pc [.ref oM, .int cd, .int v] (fun U => U.heap.size = sz ∧ va_P (dC, dI) vwCl [(oM, .inr (12, [.ref mT, .int zt, .ref mS, .ref mX, .int zp, .int zf, .ref mL, .ref mB, .ref mD, .ref m1, .ref m2, .int zh, .ref mR, .int zr, .ref x1, .ref x2, .ref x3, .int zc, .ref mH, .int zy, .int za, .int zb, .int zs, .int zq, .int zw, .int ze, .ref mY, .int zn, .ref mE, .int zm, .int zl, .ref mW, .int zk, .ref mO, .int zd, .ref y1, .ref y2, .ref y3, .ref y4, .ref mZ])), (mL, .inl (cI, 512, .inl eL))] U.heap ∧ va_K (dC, dI) vwCl [(cI, .int), (cS, .short)] U ∧ va_D (fun _ => True) [(oM, .inr (12, [.ref mT, .int zt, .ref mS, .ref mX, .int zp, .int zf, .ref mL, .ref mB, .ref mD, .ref m1, .ref m2, .int zh, .ref mR, .int zr, .ref x1, .ref x2, .ref x3, .int zc, .ref mH, .int zy, .int za, .int zb, .int zs, .int zq, .int zw, .int ze, .ref mY, .int zn, .ref mE, .int zm, .int zl, .ref mW, .int zk, .ref mO, .int zd, .ref y1, .ref y2, .ref y3, .ref y4, .ref mZ])), (mL, .inl (cI, 512, .inl eL))])) (va_Qi (fun (r : Int32) (u : Int32) => r = u) (fun (r : Int32) t => va_P (dC, dI) vwCl [(oM, .inr (12, [.ref mT, .int zt, .ref mS, .ref mX, .int zp, .int zf, .ref mL, .ref mB, .ref mD, .ref m1, .ref m2, .int zh, .ref mR, .int zr, .ref x1, .ref x2, .ref x3, .int zc, .ref mH, .int zy, .int za, .int zb, .int zs, .int zq, .int zw, .int ze, .ref mY, .int zn, .ref mE, .int zm, .int zl, .ref mW, .int zk, .ref mO, .int zd, .ref y1, .ref y2, .ref y3, .ref y4, .ref mZ])), (mL, .inl (cI, 512, .inl eL))] t.heap ∧ va_D (va_A [(oM, .inr (12, [.ref mT, .int zt, .ref mS, .ref mX, .int zp, .int zf, .ref mL, .ref mB, .ref mD, .ref m1, .ref m2, .int zh, .ref mR, .int zr, .ref x1, .ref x2, .ref x3, .int zc, .ref mH, .int zy, .int za, .int zb, .int zs, .int zq, .int zw, .int ze, .ref mY, .int zn, .ref mE, .int zm, .int zl, .ref mW, .int zk, .ref mO, .int zd, .ref y1, .ref y2, .ref y3, .ref y4, .ref mZ])), (mL, .inl (cI, 512, .inl eL))] sz) [(oM, .inr (12, [.ref mT, .int zt, .ref mS, .ref mX, .int zp, .int zf, .ref mL, .ref mB, .ref mD, .ref m1, .ref m2, .int zh, .ref mR, .int zr, .ref x1, .ref x2, .ref x3, .int zc, .ref mH, .int zy, .int za, .int zb, .int zs, .int zq, .int zw, .int ze, .ref mY, .int zn, .ref mE, .int zm, .int zl, .ref mW, .int zk, .ref mO, .int zd, .ref y1, .ref y2, .ref y3, .ref y4, .ref mZ])), (mL, .inl (cI, 512, .inl eL))] ∧ (0 ≤ r.toInt ∧ r.toInt ≤ 1)) (va_A [(oM, .inr (12, [.ref mT, .int zt, .ref mS, .ref mX, .int zp, .int zf, .ref mL, .ref mB, .ref mD, .ref m1, .ref m2, .int zh, .ref mR, .int zr, .ref x1, .ref x2, .ref x3, .int zc, .ref mH, .int zy, .int za, .int zb, .int zs, .int zq, .int zw, .int ze, .ref mY, .int zn, .ref mE, .int zm, .int zl, .ref mW, .int zk, .ref mO, .int zd, .ref y1, .ref y2, .ref y3, .ref y4, .ref mZ])), (mL, .inl (cI, 512, .inl eL))] sz)) 0 0 (va_A [(oM, .inr (12, [.ref mT, .int zt, .ref mS, .ref mX, .int zp, .int zf, .ref mL, .ref mB, .ref mD, .ref m1, .ref m2, .int zh, .ref mR, .int zr, .ref x1, .ref x2, .ref x3, .int zc, .ref mH, .int zy, .int za, .int zb, .int zs, .int zq, .int zw, .int ze, .ref mY, .int zn, .ref mE, .int zm, .int zl, .ref mW, .int zk, .ref mO, .int zd, .ref y1, .ref y2, .ref y3, .ref y4, .ref mZ])), (mL, .inl (cI, 512, .inl eL))] sz) := by
  refine Met.ofW (cc := cX12_canCome) (maxL := 3) (ret := (some .boolean)) (by decide) rfl ?_
  intro p e s m args below meth c s₁ B hml hv
  obtain ⟨rfl, hsz, hP, hK, hD0⟩ := hv
  have hx := B.exec
  have hb := B.bytes
  have hr := B.returns
  have hts := atoms_spec (ws := wsX12_canCome) B.pre
  have hown : s.vm.findClass RX12 = some m.cls := findClass_of_methodNamed B.named
  have hlocks := B.notSynchronized
  have in_X12 : ∀ w ∈ wsX120, w ∈ wsX12_canCome := fun _ h => List.mem_cons_of_mem _ (List.mem_append_right _ (h))
  subst hsz
  have hD := hD0.self (sz := s.heap.size)
  generalize hAe : va_A [(oM, .inr (12, [.ref mT, .int zt, .ref mS, .ref mX, .int zp, .int zf, .ref mL, .ref mB, .ref mD, .ref m1, .ref m2, .int zh, .ref mR, .int zr, .ref x1, .ref x2, .ref x3, .int zc, .ref mH, .int zy, .int za, .int zb, .int zs, .int zq, .int zw, .int ze, .ref mY, .int zn, .ref mE, .int zm, .int zl, .ref mW, .int zk, .ref mO, .int zd, .ref y1, .ref y2, .ref y3, .ref y4, .ref mZ])), (mL, .inl (cI, 512, .inl eL))] s.heap.size = A at hD ⊢
  have hA : ∀ q : Nat, s.heap.size ≤ q → A q := fun q h => by rw [← hAe]; exact Or.inr h
  have hS : va_S A s.heap s.heap [] := va_S.rf
  have hP : va_P (dC, dI) vwCl [(oM, .inr (12, [.ref mT, .int zt, .ref mS, .ref mX, .int zp, .int zf, .ref mL, .ref mB, .ref mD, .ref m1, .ref m2, .int zh, .ref mR, .int zr, .ref x1, .ref x2, .ref x3, .int zc, .ref mH, .int zy, .int za, .int zb, .int zs, .int zq, .int zw, .int ze, .ref mY, .int zn, .ref mE, .int zm, .int zl, .ref mW, .int zk, .ref mO, .int zd, .ref y1, .ref y2, .ref y3, .ref y4, .ref mZ])), (mL, .inl (cI, 512, .inl eL))] s.heap := hP
  have hl := lv_entry ([.ref oM, .int cd, .int v]) (n := 3) (Nat.le_of_ble_eq_true rfl)
  rw [lg_entry_eq]
  generalize (lg_sl ([.ref oM, .int cd, .int v]) ++ List.replicate (3 - (lg_sl ([.ref oM, .int cd, .int v])).length) Slot.unset).toArray = ls at hl ⊢
  have hl : lv_has ls 3 [(0, .ref oM), (1, .int cd), (2, .int v)] := hl
  obtain ⟨QQ, hQQ⟩ : ∃ QQ : Array Value → State → Outcome → State → Prop, QQ = va_Qi (fun (r : Int32) (u : Int32) => r = u) (fun (r : Int32) t => va_P (dC, dI) vwCl [(oM, .inr (12, [.ref mT, .int zt, .ref mS, .ref mX, .int zp, .int zf, .ref mL, .ref mB, .ref mD, .ref m1, .ref m2, .int zh, .ref mR, .int zr, .ref x1, .ref x2, .ref x3, .int zc, .ref mH, .int zy, .int za, .int zb, .int zs, .int zq, .int zw, .int ze, .ref mY, .int zn, .ref mE, .int zm, .int zl, .ref mW, .int zk, .ref mO, .int zd, .ref y1, .ref y2, .ref y3, .ref y4, .ref mZ])), (mL, .inl (cI, 512, .inl eL))] t.heap ∧ va_D A [(oM, .inr (12, [.ref mT, .int zt, .ref mS, .ref mX, .int zp, .int zf, .ref mL, .ref mB, .ref mD, .ref m1, .ref m2, .int zh, .ref mR, .int zr, .ref x1, .ref x2, .ref x3, .int zc, .ref mH, .int zy, .int za, .int zb, .int zs, .int zq, .int zw, .int ze, .ref mY, .int zn, .ref mE, .int zm, .int zl, .ref mW, .int zk, .ref mO, .int zd, .ref y1, .ref y2, .ref y3, .ref y4, .ref mZ])), (mL, .inl (cI, 512, .inl eL))] ∧ (0 ≤ r.toInt ∧ r.toInt ≤ 1)) A := ⟨_, rfl⟩
  rw [← hQQ]
  refine lv_iload_n hx hb dX12_canCome_0 rfl (lv_at hl 1 rfl) ?_
  refine lv_if_eq (tgt := 9) hx hb dX12_canCome_1 (by decide) (fun c_1 => ?_) (fun c_1 => ?_)
  · have tc_1 : cd.toInt = 0 := v_eq c_1
    refine lv_iload_n hx hb dX12_canCome_9 rfl (lv_at hl 2 rfl) ?_
    refine lv_sipush (v := 128) hx hb dX12_canCome_10 (by decide) ?_
    refine lv_icmp_ge (tgt := 20) hx hb dX12_canCome_13 (by decide) (fun c_2 => ?_) (fun c_2 => ?_)
    · have tc_2 : 128 ≤ v.toInt := v_le c_2
      refine lv_iconst (v := 0) hx hb dX12_canCome_20 (by decide) ?_
      have hP9 := hP.sub (ws' := [(oM, .inr (12, [.ref mT, .int zt, .ref mS, .ref mX, .int zp, .int zf, .ref mL, .ref mB, .ref mD, .ref m1, .ref m2, .int zh, .ref mR, .int zr, .ref x1, .ref x2, .ref x3, .int zc, .ref mH, .int zy, .int za, .int zb, .int zs, .int zq, .int zw, .int ze, .ref mY, .int zn, .ref mE, .int zm, .int zl, .ref mW, .int zk, .ref mO, .int zd, .ref y1, .ref y2, .ref y3, .ref y4, .ref mZ])), (mL, .inl (cI, 512, .inl eL))]) [0, 1] rfl
      have hD9 := hD.sub (ws' := [(oM, .inr (12, [.ref mT, .int zt, .ref mS, .ref mX, .int zp, .int zf, .ref mL, .ref mB, .ref mD, .ref m1, .ref m2, .int zh, .ref mR, .int zr, .ref x1, .ref x2, .ref x3, .int zc, .ref mH, .int zy, .int za, .int zb, .int zs, .int zq, .int zw, .int ze, .ref mY, .int zn, .ref mE, .int zm, .int zl, .ref mW, .int zk, .ref mO, .int zd, .ref y1, .ref y2, .ref y3, .ref y4, .ref mZ])), (mL, .inl (cI, 512, .inl eL))]) [0, 1] (by decide +kernel) rfl
      rw [hQQ]
      exact W.zret (v := 0) (ty := .boolean) hx hb hr (rfl) (fun t ht hW => ⟨⟨0, 0, rfl, rfl, ⟨by rw [ht]; exact hP9, hD9, by decide⟩⟩, hS.F ht⟩) hS.2.2 dX12_canCome_21
    · have tc_2 : v.toInt < 128 := v_nle c_2
      refine lv_iconst (v := 1) hx hb dX12_canCome_16 (by decide) ?_
      refine lv_goto (tgt := 21) hx hb dX12_canCome_17 (by decide) ?_
      have hP9 := hP.sub (ws' := [(oM, .inr (12, [.ref mT, .int zt, .ref mS, .ref mX, .int zp, .int zf, .ref mL, .ref mB, .ref mD, .ref m1, .ref m2, .int zh, .ref mR, .int zr, .ref x1, .ref x2, .ref x3, .int zc, .ref mH, .int zy, .int za, .int zb, .int zs, .int zq, .int zw, .int ze, .ref mY, .int zn, .ref mE, .int zm, .int zl, .ref mW, .int zk, .ref mO, .int zd, .ref y1, .ref y2, .ref y3, .ref y4, .ref mZ])), (mL, .inl (cI, 512, .inl eL))]) [0, 1] rfl
      have hD9 := hD.sub (ws' := [(oM, .inr (12, [.ref mT, .int zt, .ref mS, .ref mX, .int zp, .int zf, .ref mL, .ref mB, .ref mD, .ref m1, .ref m2, .int zh, .ref mR, .int zr, .ref x1, .ref x2, .ref x3, .int zc, .ref mH, .int zy, .int za, .int zb, .int zs, .int zq, .int zw, .int ze, .ref mY, .int zn, .ref mE, .int zm, .int zl, .ref mW, .int zk, .ref mO, .int zd, .ref y1, .ref y2, .ref y3, .ref y4, .ref mZ])), (mL, .inl (cI, 512, .inl eL))]) [0, 1] (by decide +kernel) rfl
      rw [hQQ]
      exact W.zret (v := 1) (ty := .boolean) hx hb hr (rfl) (fun t ht hW => ⟨⟨1, 1, rfl, rfl, ⟨by rw [ht]; exact hP9, hD9, by decide⟩⟩, hS.F ht⟩) hS.2.2 dX12_canCome_21
  · have tc_1 : ¬ cd.toInt = 0 := v_ne c_1
    refine lv_iload_n hx hb dX12_canCome_4 rfl (lv_at hl 1 rfl) ?_
    refine lv_iconst (v := 3) hx hb dX12_canCome_5 (by decide) ?_
    refine lv_icmp_ne (tgt := 22) hx hb dX12_canCome_6 (by decide) (fun c_3 => ?_) (fun c_3 => ?_)
    · have tc_3 : ¬ cd.toInt = 3 := v_ne c_3
      refine lv_iload_n hx hb dX12_canCome_22 rfl (lv_at hl 1 rfl) ?_
      refine lv_iconst (v := 1) hx hb dX12_canCome_23 (by decide) ?_
      refine lv_icmp_ne (tgt := 29) hx hb dX12_canCome_24 (by decide) (fun c_4 => ?_) (fun c_4 => ?_)
      · have tc_4 : ¬ cd.toInt = 1 := v_ne c_4
        refine lv_iload_n hx hb dX12_canCome_29 rfl (lv_at hl 1 rfl) ?_
        refine lv_iconst (v := 2) hx hb dX12_canCome_30 (by decide) ?_
        refine lv_icmp_ne (tgt := 61) hx hb dX12_canCome_31 (by decide) (fun c_5 => ?_) (fun c_5 => ?_)
        · have tc_5 : ¬ cd.toInt = 2 := v_ne c_5
          refine lv_aload_n hx hb dX12_canCome_61 rfl (lv_at hl 0 rfl) ?_
          refine va_get (D := (dC, dI)) (ci := 12) (v := .ref mL) (C := RX12) (T := TX12) (N := 40) hx hb hts in_X12 hown hK hP 0 rfl rfl 6 (by decide) (hts (.fieldLink RX12 19 "TextMenderModel" "letterOf" "[I") (List.mem_of_getElem? (i := 1) rfl)) (fun _ h9 => h9) rfl dX12_canCome_62 ?_
          refine lv_sipush (v := 256) hx hb dX12_canCome_65 (by decide) ?_
          refine lv_iload_n hx hb dX12_canCome_68 rfl (lv_at hl 1 rfl) ?_
          refine lv_iconst (v := 4) hx hb dX12_canCome_69 (by decide) ?_
          refine lv_isub hx hb dX12_canCome_70 ?_
          refine lv_topi (fun x_6 ex_6 => ?_)
          have tx_6 : x_6.toInt = cd.toInt - 4 := v_sub ex_6 (by show -2147483648 ≤ cd.toInt - 4; omega) (by show cd.toInt - 4 < 2147483648; omega)
          refine lv_imul hx hb dX12_canCome_71 ?_
          refine lv_topi (fun x_7 ex_7 => ?_)
          have tx_7 : x_7.toInt = 256 * x_6.toInt := v_mul ex_7 (by show -2147483648 ≤ 256 * x_6.toInt; omega) (by show 256 * x_6.toInt < 2147483648; omega)
          refine lv_iload_n hx hb dX12_canCome_72 rfl (lv_at hl 2 rfl) ?_
          refine lv_iadd hx hb dX12_canCome_73 ?_
          refine lv_topi (fun x_8 ex_8 => ?_)
          have tx_8 : x_8.toInt = x_7.toInt + v.toInt := v_add ex_8 (by show -2147483648 ≤ x_7.toInt + v.toInt; omega) (by show x_7.toInt + v.toInt < 2147483648; omega)
          refine va_iald hx hb hK hP 1 0 rfl rfl (v_in (by omega)) dX12_canCome_74 ?_
          refine lv_topi (fun x_9 ex_9 => ?_)
          have tx_9 : -1 ≤ x_9.toInt ∧ x_9.toInt ≤ 65535 := rg_at g_eL ex_9
          refine lv_iconst (v := (-1)) hx hb dX12_canCome_75 (by decide) ?_
          refine lv_icmp_eq (tgt := 83) hx hb dX12_canCome_76 (by decide) (fun c_10 => ?_) (fun c_10 => ?_)
          · have tc_10 : x_9.toInt = (-1) := v_eq c_10
            refine lv_iconst (v := 0) hx hb dX12_canCome_83 (by decide) ?_
            have hP9 := hP.sub (ws' := [(oM, .inr (12, [.ref mT, .int zt, .ref mS, .ref mX, .int zp, .int zf, .ref mL, .ref mB, .ref mD, .ref m1, .ref m2, .int zh, .ref mR, .int zr, .ref x1, .ref x2, .ref x3, .int zc, .ref mH, .int zy, .int za, .int zb, .int zs, .int zq, .int zw, .int ze, .ref mY, .int zn, .ref mE, .int zm, .int zl, .ref mW, .int zk, .ref mO, .int zd, .ref y1, .ref y2, .ref y3, .ref y4, .ref mZ])), (mL, .inl (cI, 512, .inl eL))]) [0, 1] rfl
            have hD9 := hD.sub (ws' := [(oM, .inr (12, [.ref mT, .int zt, .ref mS, .ref mX, .int zp, .int zf, .ref mL, .ref mB, .ref mD, .ref m1, .ref m2, .int zh, .ref mR, .int zr, .ref x1, .ref x2, .ref x3, .int zc, .ref mH, .int zy, .int za, .int zb, .int zs, .int zq, .int zw, .int ze, .ref mY, .int zn, .ref mE, .int zm, .int zl, .ref mW, .int zk, .ref mO, .int zd, .ref y1, .ref y2, .ref y3, .ref y4, .ref mZ])), (mL, .inl (cI, 512, .inl eL))]) [0, 1] (by decide +kernel) rfl
            rw [hQQ]
            exact W.zret (v := 0) (ty := .boolean) hx hb hr (rfl) (fun t ht hW => ⟨⟨0, 0, rfl, rfl, ⟨by rw [ht]; exact hP9, hD9, by decide⟩⟩, hS.F ht⟩) hS.2.2 dX12_canCome_84
          · have tc_10 : ¬ x_9.toInt = (-1) := v_ne c_10
            refine lv_iconst (v := 1) hx hb dX12_canCome_79 (by decide) ?_
            refine lv_goto (tgt := 84) hx hb dX12_canCome_80 (by decide) ?_
            have hP9 := hP.sub (ws' := [(oM, .inr (12, [.ref mT, .int zt, .ref mS, .ref mX, .int zp, .int zf, .ref mL, .ref mB, .ref mD, .ref m1, .ref m2, .int zh, .ref mR, .int zr, .ref x1, .ref x2, .ref x3, .int zc, .ref mH, .int zy, .int za, .int zb, .int zs, .int zq, .int zw, .int ze, .ref mY, .int zn, .ref mE, .int zm, .int zl, .ref mW, .int zk, .ref mO, .int zd, .ref y1, .ref y2, .ref y3, .ref y4, .ref mZ])), (mL, .inl (cI, 512, .inl eL))]) [0, 1] rfl
            have hD9 := hD.sub (ws' := [(oM, .inr (12, [.ref mT, .int zt, .ref mS, .ref mX, .int zp, .int zf, .ref mL, .ref mB, .ref mD, .ref m1, .ref m2, .int zh, .ref mR, .int zr, .ref x1, .ref x2, .ref x3, .int zc, .ref mH, .int zy, .int za, .int zb, .int zs, .int zq, .int zw, .int ze, .ref mY, .int zn, .ref mE, .int zm, .int zl, .ref mW, .int zk, .ref mO, .int zd, .ref y1, .ref y2, .ref y3, .ref y4, .ref mZ])), (mL, .inl (cI, 512, .inl eL))]) [0, 1] (by decide +kernel) rfl
            rw [hQQ]
            exact W.zret (v := 1) (ty := .boolean) hx hb hr (rfl) (fun t ht hW => ⟨⟨1, 1, rfl, rfl, ⟨by rw [ht]; exact hP9, hD9, by decide⟩⟩, hS.F ht⟩) hS.2.2 dX12_canCome_84
        · have tc_5 : cd.toInt = 2 := v_eq c_5
          refine lv_iload_n hx hb dX12_canCome_34 rfl (lv_at hl 2 rfl) ?_
          refine lv_sipush (v := 192) hx hb dX12_canCome_35 (by decide) ?_
          refine lv_icmp_lt (tgt := 55) hx hb dX12_canCome_38 (by decide) (fun c_11 => ?_) (fun c_11 => ?_)
          · have tc_11 : v.toInt < 192 := v_lt c_11
            refine lv_iconst (v := 1) hx hb dX12_canCome_55 (by decide) ?_
            refine lv_goto (tgt := 60) hx hb dX12_canCome_56 (by decide) ?_
            have hP9 := hP.sub (ws' := [(oM, .inr (12, [.ref mT, .int zt, .ref mS, .ref mX, .int zp, .int zf, .ref mL, .ref mB, .ref mD, .ref m1, .ref m2, .int zh, .ref mR, .int zr, .ref x1, .ref x2, .ref x3, .int zc, .ref mH, .int zy, .int za, .int zb, .int zs, .int zq, .int zw, .int ze, .ref mY, .int zn, .ref mE, .int zm, .int zl, .ref mW, .int zk, .ref mO, .int zd, .ref y1, .ref y2, .ref y3, .ref y4, .ref mZ])), (mL, .inl (cI, 512, .inl eL))]) [0, 1] rfl
            have hD9 := hD.sub (ws' := [(oM, .inr (12, [.ref mT, .int zt, .ref mS, .ref mX, .int zp, .int zf, .ref mL, .ref mB, .ref mD, .ref m1, .ref m2, .int zh, .ref mR, .int zr, .ref x1, .ref x2, .ref x3, .int zc, .ref mH, .int zy, .int za, .int zb, .int zs, .int zq, .int zw, .int ze, .ref mY, .int zn, .ref mE, .int zm, .int zl, .ref mW, .int zk, .ref mO, .int zd, .ref y1, .ref y2, .ref y3, .ref y4, .ref mZ])), (mL, .inl (cI, 512, .inl eL))]) [0, 1] (by decide +kernel) rfl
            rw [hQQ]
            exact W.zret (v := 1) (ty := .boolean) hx hb hr (rfl) (fun t ht hW => ⟨⟨1, 1, rfl, rfl, ⟨by rw [ht]; exact hP9, hD9, by decide⟩⟩, hS.F ht⟩) hS.2.2 dX12_canCome_60
          · have tc_11 : 192 ≤ v.toInt := v_nlt c_11
            refine lv_iload_n hx hb dX12_canCome_41 rfl (lv_at hl 2 rfl) ?_
            refine lv_sipush (v := 193) hx hb dX12_canCome_42 (by decide) ?_
            refine lv_icmp_le (tgt := 59) hx hb dX12_canCome_45 (by decide) (fun c_12 => ?_) (fun c_12 => ?_)
            · have tc_12 : v.toInt ≤ 193 := v_le c_12
              refine lv_iconst (v := 0) hx hb dX12_canCome_59 (by decide) ?_
              have hP9 := hP.sub (ws' := [(oM, .inr (12, [.ref mT, .int zt, .ref mS, .ref mX, .int zp, .int zf, .ref mL, .ref mB, .ref mD, .ref m1, .ref m2, .int zh, .ref mR, .int zr, .ref x1, .ref x2, .ref x3, .int zc, .ref mH, .int zy, .int za, .int zb, .int zs, .int zq, .int zw, .int ze, .ref mY, .int zn, .ref mE, .int zm, .int zl, .ref mW, .int zk, .ref mO, .int zd, .ref y1, .ref y2, .ref y3, .ref y4, .ref mZ])), (mL, .inl (cI, 512, .inl eL))]) [0, 1] rfl
              have hD9 := hD.sub (ws' := [(oM, .inr (12, [.ref mT, .int zt, .ref mS, .ref mX, .int zp, .int zf, .ref mL, .ref mB, .ref mD, .ref m1, .ref m2, .int zh, .ref mR, .int zr, .ref x1, .ref x2, .ref x3, .int zc, .ref mH, .int zy, .int za, .int zb, .int zs, .int zq, .int zw, .int ze, .ref mY, .int zn, .ref mE, .int zm, .int zl, .ref mW, .int zk, .ref mO, .int zd, .ref y1, .ref y2, .ref y3, .ref y4, .ref mZ])), (mL, .inl (cI, 512, .inl eL))]) [0, 1] (by decide +kernel) rfl
              rw [hQQ]
              exact W.zret (v := 0) (ty := .boolean) hx hb hr (rfl) (fun t ht hW => ⟨⟨0, 0, rfl, rfl, ⟨by rw [ht]; exact hP9, hD9, by decide⟩⟩, hS.F ht⟩) hS.2.2 dX12_canCome_60
            · have tc_12 : 193 < v.toInt := v_nle c_12
              refine lv_iload_n hx hb dX12_canCome_48 rfl (lv_at hl 2 rfl) ?_
              refine lv_sipush (v := 240) hx hb dX12_canCome_49 (by decide) ?_
              refine lv_icmp_ge (tgt := 59) hx hb dX12_canCome_52 (by decide) (fun c_13 => ?_) (fun c_13 => ?_)
              · have tc_13 : 240 ≤ v.toInt := v_le c_13
                refine lv_iconst (v := 0) hx hb dX12_canCome_59 (by decide) ?_
                have hP9 := hP.sub (ws' := [(oM, .inr (12, [.ref mT, .int zt, .ref mS, .ref mX, .int zp, .int zf, .ref mL, .ref mB, .ref mD, .ref m1, .ref m2, .int zh, .ref mR, .int zr, .ref x1, .ref x2, .ref x3, .int zc, .ref mH, .int zy, .int za, .int zb, .int zs, .int zq, .int zw, .int ze, .ref mY, .int zn, .ref mE, .int zm, .int zl, .ref mW, .int zk, .ref mO, .int zd, .ref y1, .ref y2, .ref y3, .ref y4, .ref mZ])), (mL, .inl (cI, 512, .inl eL))]) [0, 1] rfl
                have hD9 := hD.sub (ws' := [(oM, .inr (12, [.ref mT, .int zt, .ref mS, .ref mX, .int zp, .int zf, .ref mL, .ref mB, .ref mD, .ref m1, .ref m2, .int zh, .ref mR, .int zr, .ref x1, .ref x2, .ref x3, .int zc, .ref mH, .int zy, .int za, .int zb, .int zs, .int zq, .int zw, .int ze, .ref mY, .int zn, .ref mE, .int zm, .int zl, .ref mW, .int zk, .ref mO, .int zd, .ref y1, .ref y2, .ref y3, .ref y4, .ref mZ])), (mL, .inl (cI, 512, .inl eL))]) [0, 1] (by decide +kernel) rfl
                rw [hQQ]
                exact W.zret (v := 0) (ty := .boolean) hx hb hr (rfl) (fun t ht hW => ⟨⟨0, 0, rfl, rfl, ⟨by rw [ht]; exact hP9, hD9, by decide⟩⟩, hS.F ht⟩) hS.2.2 dX12_canCome_60
              · have tc_13 : v.toInt < 240 := v_nle c_13
                refine lv_iconst (v := 1) hx hb dX12_canCome_55 (by decide) ?_
                refine lv_goto (tgt := 60) hx hb dX12_canCome_56 (by decide) ?_
                have hP9 := hP.sub (ws' := [(oM, .inr (12, [.ref mT, .int zt, .ref mS, .ref mX, .int zp, .int zf, .ref mL, .ref mB, .ref mD, .ref m1, .ref m2, .int zh, .ref mR, .int zr, .ref x1, .ref x2, .ref x3, .int zc, .ref mH, .int zy, .int za, .int zb, .int zs, .int zq, .int zw, .int ze, .ref mY, .int zn, .ref mE, .int zm, .int zl, .ref mW, .int zk, .ref mO, .int zd, .ref y1, .ref y2, .ref y3, .ref y4, .ref mZ])), (mL, .inl (cI, 512, .inl eL))]) [0, 1] rfl
                have hD9 := hD.sub (ws' := [(oM, .inr (12, [.ref mT, .int zt, .ref mS, .ref mX, .int zp, .int zf, .ref mL, .ref mB, .ref mD, .ref m1, .ref m2, .int zh, .ref mR, .int zr, .ref x1, .ref x2, .ref x3, .int zc, .ref mH, .int zy, .int za, .int zb, .int zs, .int zq, .int zw, .int ze, .ref mY, .int zn, .ref mE, .int zm, .int zl, .ref mW, .int zk, .ref mO, .int zd, .ref y1, .ref y2, .ref y3, .ref y4, .ref mZ])), (mL, .inl (cI, 512, .inl eL))]) [0, 1] (by decide +kernel) rfl
                rw [hQQ]
                exact W.zret (v := 1) (ty := .boolean) hx hb hr (rfl) (fun t ht hW => ⟨⟨1, 1, rfl, rfl, ⟨by rw [ht]; exact hP9, hD9, by decide⟩⟩, hS.F ht⟩) hS.2.2 dX12_canCome_60
      · have tc_4 : cd.toInt = 1 := v_eq c_4
        refine lv_iconst (v := 1) hx hb dX12_canCome_27 (by decide) ?_
        have hP9 := hP.sub (ws' := [(oM, .inr (12, [.ref mT, .int zt, .ref mS, .ref mX, .int zp, .int zf, .ref mL, .ref mB, .ref mD, .ref m1, .ref m2, .int zh, .ref mR, .int zr, .ref x1, .ref x2, .ref x3, .int zc, .ref mH, .int zy, .int za, .int zb, .int zs, .int zq, .int zw, .int ze, .ref mY, .int zn, .ref mE, .int zm, .int zl, .ref mW, .int zk, .ref mO, .int zd, .ref y1, .ref y2, .ref y3, .ref y4, .ref mZ])), (mL, .inl (cI, 512, .inl eL))]) [0, 1] rfl
        have hD9 := hD.sub (ws' := [(oM, .inr (12, [.ref mT, .int zt, .ref mS, .ref mX, .int zp, .int zf, .ref mL, .ref mB, .ref mD, .ref m1, .ref m2, .int zh, .ref mR, .int zr, .ref x1, .ref x2, .ref x3, .int zc, .ref mH, .int zy, .int za, .int zb, .int zs, .int zq, .int zw, .int ze, .ref mY, .int zn, .ref mE, .int zm, .int zl, .ref mW, .int zk, .ref mO, .int zd, .ref y1, .ref y2, .ref y3, .ref y4, .ref mZ])), (mL, .inl (cI, 512, .inl eL))]) [0, 1] (by decide +kernel) rfl
        rw [hQQ]
        exact W.zret (v := 1) (ty := .boolean) hx hb hr (rfl) (fun t ht hW => ⟨⟨1, 1, rfl, rfl, ⟨by rw [ht]; exact hP9, hD9, by decide⟩⟩, hS.F ht⟩) hS.2.2 dX12_canCome_28
    · have tc_3 : cd.toInt = 3 := v_eq c_3
      refine lv_iload_n hx hb dX12_canCome_9 rfl (lv_at hl 2 rfl) ?_
      refine lv_sipush (v := 128) hx hb dX12_canCome_10 (by decide) ?_
      refine lv_icmp_ge (tgt := 20) hx hb dX12_canCome_13 (by decide) (fun c_14 => ?_) (fun c_14 => ?_)
      · have tc_14 : 128 ≤ v.toInt := v_le c_14
        refine lv_iconst (v := 0) hx hb dX12_canCome_20 (by decide) ?_
        have hP9 := hP.sub (ws' := [(oM, .inr (12, [.ref mT, .int zt, .ref mS, .ref mX, .int zp, .int zf, .ref mL, .ref mB, .ref mD, .ref m1, .ref m2, .int zh, .ref mR, .int zr, .ref x1, .ref x2, .ref x3, .int zc, .ref mH, .int zy, .int za, .int zb, .int zs, .int zq, .int zw, .int ze, .ref mY, .int zn, .ref mE, .int zm, .int zl, .ref mW, .int zk, .ref mO, .int zd, .ref y1, .ref y2, .ref y3, .ref y4, .ref mZ])), (mL, .inl (cI, 512, .inl eL))]) [0, 1] rfl
        have hD9 := hD.sub (ws' := [(oM, .inr (12, [.ref mT, .int zt, .ref mS, .ref mX, .int zp, .int zf, .ref mL, .ref mB, .ref mD, .ref m1, .ref m2, .int zh, .ref mR, .int zr, .ref x1, .ref x2, .ref x3, .int zc, .ref mH, .int zy, .int za, .int zb, .int zs, .int zq, .int zw, .int ze, .ref mY, .int zn, .ref mE, .int zm, .int zl, .ref mW, .int zk, .ref mO, .int zd, .ref y1, .ref y2, .ref y3, .ref y4, .ref mZ])), (mL, .inl (cI, 512, .inl eL))]) [0, 1] (by decide +kernel) rfl
        rw [hQQ]
        exact W.zret (v := 0) (ty := .boolean) hx hb hr (rfl) (fun t ht hW => ⟨⟨0, 0, rfl, rfl, ⟨by rw [ht]; exact hP9, hD9, by decide⟩⟩, hS.F ht⟩) hS.2.2 dX12_canCome_21
      · have tc_14 : v.toInt < 128 := v_nle c_14
        refine lv_iconst (v := 1) hx hb dX12_canCome_16 (by decide) ?_
        refine lv_goto (tgt := 21) hx hb dX12_canCome_17 (by decide) ?_
        have hP9 := hP.sub (ws' := [(oM, .inr (12, [.ref mT, .int zt, .ref mS, .ref mX, .int zp, .int zf, .ref mL, .ref mB, .ref mD, .ref m1, .ref m2, .int zh, .ref mR, .int zr, .ref x1, .ref x2, .ref x3, .int zc, .ref mH, .int zy, .int za, .int zb, .int zs, .int zq, .int zw, .int ze, .ref mY, .int zn, .ref mE, .int zm, .int zl, .ref mW, .int zk, .ref mO, .int zd, .ref y1, .ref y2, .ref y3, .ref y4, .ref mZ])), (mL, .inl (cI, 512, .inl eL))]) [0, 1] rfl
        have hD9 := hD.sub (ws' := [(oM, .inr (12, [.ref mT, .int zt, .ref mS, .ref mX, .int zp, .int zf, .ref mL, .ref mB, .ref mD, .ref m1, .ref m2, .int zh, .ref mR, .int zr, .ref x1, .ref x2, .ref x3, .int zc, .ref mH, .int zy, .int za, .int zb, .int zs, .int zq, .int zw, .int ze, .ref mY, .int zn, .ref mE, .int zm, .int zl, .ref mW, .int zk, .ref mO, .int zd, .ref y1, .ref y2, .ref y3, .ref y4, .ref mZ])), (mL, .inl (cI, 512, .inl eL))]) [0, 1] (by decide +kernel) rfl
        rw [hQQ]
        exact W.zret (v := 1) (ty := .boolean) hx hb hr (rfl) (fun t ht hW => ⟨⟨1, 1, rfl, rfl, ⟨by rw [ht]; exact hP9, hD9, by decide⟩⟩, hS.F ht⟩) hS.2.2 dX12_canCome_21

set_option maxHeartbeats 40000000 in
set_option maxRecDepth 100000 in
theorem y_safe (l : Launch) (dC : Nat → ClassId) (dI : Nat → Nat → Nat) (cI cS : ClassId) (sz : Nat) (oM : Nat) (mT : Nat) (mS : Nat) (mX : Nat) (mL : Nat) (mB : Nat) (mD : Nat) (m1 : Nat) (m2 : Nat) (mR : Nat) (x1 : Nat) (x2 : Nat) (x3 : Nat) (mH : Nat) (mY : Nat) (mE : Nat) (mW : Nat) (mO : Nat) (y1 : Nat) (y2 : Nat) (y3 : Nat) (y4 : Nat) (mZ : Nat) (zt : Int32) (zp : Int32) (zf : Int32) (zh : Int32) (zr : Int32) (zc : Int32) (zy : Int32) (za : Int32) (zb : Int32) (zs : Int32) (zq : Int32) (zw : Int32) (ze : Int32) (zn : Int32) (zm : Int32) (zl : Int32) (zk : Int32) (zd : Int32) (eL : Nat → Int32) (a : Int32) (b : Int32) (g_zt : 0 ≤ zt.toInt ∧ zt.toInt ≤ 900) (g_zp : 0 ≤ zp.toInt ∧ zp.toInt ≤ 20) (g_zf : 0 ≤ zf.toInt ∧ zf.toInt ≤ 19) (g_zh : 0 ≤ zh.toInt ∧ zh.toInt ≤ 6) (g_zr : 0 ≤ zr.toInt ∧ zr.toInt ≤ 258) (g_zc : 0 ≤ zc.toInt ∧ zc.toInt ≤ 300) (g_zy : 0 ≤ zy.toInt ∧ zy.toInt ≤ 65536) (g_za : 0 ≤ za.toInt ∧ za.toInt ≤ 5) (g_zb : 0 ≤ zb.toInt ∧ zb.toInt ≤ 5) (g_zs : 0 ≤ zs.toInt ∧ zs.toInt ≤ 2000000) (g_zq : -1 ≤ zq.toInt ∧ zq.toInt ≤ 2000000) (g_zn : 0 ≤ zn.toInt ∧ zn.toInt ≤ 2600) (g_zm : 0 ≤ zm.toInt ∧ zm.toInt ≤ 2600) (g_zk : 0 ≤ zk.toInt ∧ zk.toInt ≤ 300) (g_eL : rg (-1) 65535 eL) (hzs : zs.toInt ≤ 1000000) : Met l yX12_safe wsX12_safe ({ frames := 1, cells := 0, slots := 0, locals := 22 } : Room) (va_Pc [.ref oM, .int a, .int b] (fun U => U.heap.size = sz ∧ va_P (dC, dI) vwCl [(oM, .inr (12, [.ref mT, .int zt, .ref mS, .ref mX, .int zp, .int zf, .ref mL, .ref mB, .ref mD, .ref m1, .ref m2, .int zh, .ref mR, .int zr, .ref x1, .ref x2, .ref x3, .int zc, .ref mH, .int zy, .int za, .int zb, .int zs, .int zq, .int zw, .int ze, .ref mY, .int zn, .ref mE, .int zm, .int zl, .ref mW, .int zk, .ref mO, .int zd, .ref y1, .ref y2, .ref y3, .ref y4, .ref mZ])), (mL, .inl (cI, 512, .inl eL))] U.heap ∧ va_K (dC, dI) vwCl [(cI, .int), (cS, .short)] U ∧ va_D (fun _ => True) [(oM, .inr (12, [.ref mT, .int zt, .ref mS, .ref mX, .int zp, .int zf, .ref mL, .ref mB, .ref mD, .ref m1, .ref m2, .int zh, .ref mR, .int zr, .ref x1, .ref x2, .ref x3, .int zc, .ref mH, .int zy, .int za, .int zb, .int zs, .int zq, .int zw, .int ze, .ref mY, .int zn, .ref mE, .int zm, .int zl, .ref mW, .int zk, .ref mO, .int zd, .ref y1, .ref y2, .ref y3, .ref y4, .ref mZ])), (mL, .inl (cI, 512, .inl eL))])) (va_Qi (fun (r : Int32) (u : Int32) => r = u) (fun (r : Int32) t => ∃ (ze' : Int32) (zw' : Int32), va_P (dC, dI) vwCl [(oM, .inr (12, [.ref mT, .int zt, .ref mS, .ref mX, .int zp, .int zf, .ref mL, .ref mB, .ref mD, .ref m1, .ref m2, .int zh, .ref mR, .int zr, .ref x1, .ref x2, .ref x3, .int zc, .ref mH, .int zy, .int za, .int zb, .int zs, .int zq, .int zw', .int ze', .ref mY, .int zn, .ref mE, .int zm, .int zl, .ref mW, .int zk, .ref mO, .int zd, .ref y1, .ref y2, .ref y3, .ref y4, .ref mZ])), (mL, .inl (cI, 512, .inl eL))] t.heap ∧ va_D (va_A [(oM, .inr (12, [.ref mT, .int zt, .ref mS, .ref mX, .int zp, .int zf, .ref mL, .ref mB, .ref mD, .ref m1, .ref m2, .int zh, .ref mR, .int zr, .ref x1, .ref x2, .ref x3, .int zc, .ref mH, .int zy, .int za, .int zb, .int zs, .int zq, .int zw, .int ze, .ref mY, .int zn, .ref mE, .int zm, .int zl, .ref mW, .int zk, .ref mO, .int zd, .ref y1, .ref y2, .ref y3, .ref y4, .ref mZ])), (mL, .inl (cI, 512, .inl eL))] sz) [(oM, .inr (12, [.ref mT, .int zt, .ref mS, .ref mX, .int zp, .int zf, .ref mL, .ref mB, .ref mD, .ref m1, .ref m2, .int zh, .ref mR, .int zr, .ref x1, .ref x2, .ref x3, .int zc, .ref mH, .int zy, .int za, .int zb, .int zs, .int zq, .int zw', .int ze', .ref mY, .int zn, .ref mE, .int zm, .int zl, .ref mW, .int zk, .ref mO, .int zd, .ref y1, .ref y2, .ref y3, .ref y4, .ref mZ])), (mL, .inl (cI, 512, .inl eL))]) (va_A [(oM, .inr (12, [.ref mT, .int zt, .ref mS, .ref mX, .int zp, .int zf, .ref mL, .ref mB, .ref mD, .ref m1, .ref m2, .int zh, .ref mR, .int zr, .ref x1, .ref x2, .ref x3, .int zc, .ref mH, .int zy, .int za, .int zb, .int zs, .int zq, .int zw, .int ze, .ref mY, .int zn, .ref mE, .int zm, .int zl, .ref mW, .int zk, .ref mO, .int zd, .ref y1, .ref y2, .ref y3, .ref y4, .ref mZ])), (mL, .inl (cI, 512, .inl eL))] sz)) 0 0 (va_A [(oM, .inr (12, [.ref mT, .int zt, .ref mS, .ref mX, .int zp, .int zf, .ref mL, .ref mB, .ref mD, .ref m1, .ref m2, .int zh, .ref mR, .int zr, .ref x1, .ref x2, .ref x3, .int zc, .ref mH, .int zy, .int za, .int zb, .int zs, .int zq, .int zw, .int ze, .ref mY, .int zn, .ref mE, .int zm, .int zl, .ref mW, .int zk, .ref mO, .int zd, .ref y1, .ref y2, .ref y3, .ref y4, .ref mZ])), (mL, .inl (cI, 512, .inl eL))] sz) := by
  refine Met.ofW (cc := cX12_safe) (maxL := 5) (ret := (some .int)) (by decide) rfl ?_
  intro p e s m args below meth c s₁ B hml hv
  obtain ⟨rfl, hsz, hP, hK, hD0⟩ := hv
  have hx := B.exec
  have hb := B.bytes
  have hr := B.returns
  have hts := atoms_spec (ws := wsX12_safe) B.pre
  have hown : s.vm.findClass RX12 = some m.cls := findClass_of_methodNamed B.named
  have hlocks := B.notSynchronized
  have in_X12 : ∀ w ∈ wsX120, w ∈ wsX12_safe := fun _ h => List.mem_cons_of_mem _ (List.mem_append_right _ (h))
  subst hsz
  have hD := hD0.self (sz := s.heap.size)
  generalize hAe : va_A [(oM, .inr (12, [.ref mT, .int zt, .ref mS, .ref mX, .int zp, .int zf, .ref mL, .ref mB, .ref mD, .ref m1, .ref m2, .int zh, .ref mR, .int zr, .ref x1, .ref x2, .ref x3, .int zc, .ref mH, .int zy, .int za, .int zb, .int zs, .int zq, .int zw, .int ze, .ref mY, .int zn, .ref mE, .int zm, .int zl, .ref mW, .int zk, .ref mO, .int zd, .ref y1, .ref y2, .ref y3, .ref y4, .ref mZ])), (mL, .inl (cI, 512, .inl eL))] s.heap.size = A at hD ⊢
  have hA : ∀ q : Nat, s.heap.size ≤ q → A q := fun q h => by rw [← hAe]; exact Or.inr h
  have hS : va_S A s.heap s.heap [] := va_S.rf
  have hP : va_P (dC, dI) vwCl [(oM, .inr (12, [.ref mT, .int zt, .ref mS, .ref mX, .int zp, .int zf, .ref mL, .ref mB, .ref mD, .ref m1, .ref m2, .int zh, .ref mR, .int zr, .ref x1, .ref x2, .ref x3, .int zc, .ref mH, .int zy, .int za, .int zb, .int zs, .int zq, .int zw, .int ze, .ref mY, .int zn, .ref mE, .int zm, .int zl, .ref mW, .int zk, .ref mO, .int zd, .ref y1, .ref y2, .ref y3, .ref y4, .ref mZ])), (mL, .inl (cI, 512, .inl eL))] s.heap := hP
  have hl := lv_entry ([.ref oM, .int a, .int b]) (n := 5) (Nat.le_of_ble_eq_true rfl)
  rw [lg_entry_eq]
  generalize (lg_sl ([.ref oM, .int a, .int b]) ++ List.replicate (5 - (lg_sl ([.ref oM, .int a, .int b])).length) Slot.unset).toArray = ls at hl ⊢
  have hl : lv_has ls 5 [(0, .ref oM), (1, .int a), (2, .int b)] := hl
  obtain ⟨QQ, hQQ⟩ : ∃ QQ : Array Value → State → Outcome → State → Prop, QQ = va_Qi (fun (r : Int32) (u : Int32) => r = u) (fun (r : Int32) t => ∃ (ze' : Int32) (zw' : Int32), va_P (dC, dI) vwCl [(oM, .inr (12, [.ref mT, .int zt, .ref mS, .ref mX, .int zp, .int zf, .ref mL, .ref mB, .ref mD, .ref m1, .ref m2, .int zh, .ref mR, .int zr, .ref x1, .ref x2, .ref x3, .int zc, .ref mH, .int zy, .int za, .int zb, .int zs, .int zq, .int zw', .int ze', .ref mY, .int zn, .ref mE, .int zm, .int zl, .ref mW, .int zk, .ref mO, .int zd, .ref y1, .ref y2, .ref y3, .ref y4, .ref mZ])), (mL, .inl (cI, 512, .inl eL))] t.heap ∧ va_D A [(oM, .inr (12, [.ref mT, .int zt, .ref mS, .ref mX, .int zp, .int zf, .ref mL, .ref mB, .ref mD, .ref m1, .ref m2, .int zh, .ref mR, .int zr, .ref x1, .ref x2, .ref x3, .int zc, .ref mH, .int zy, .int za, .int zb, .int zs, .int zq, .int zw', .int ze', .ref mY, .int zn, .ref mE, .int zm, .int zl, .ref mW, .int zk, .ref mO, .int zd, .ref y1, .ref y2, .ref y3, .ref y4, .ref mZ])), (mL, .inl (cI, 512, .inl eL))]) A := ⟨_, rfl⟩
  rw [← hQQ]
  refine lv_aload_n hx hb dX12_safe_0 rfl (lv_at hl 0 rfl) ?_
  refine lv_iconst (v := 0) hx hb dX12_safe_1 (by decide) ?_
  refine va_put (D := (dC, dI)) (ci := 12) (v := .int 0) (ty := .int) (C := RX12) (T := TX12) (N := 40) hx hb hts in_X12 tyX12 tyX12_ok nmX12 hown hK hP hD hS 0 rfl rfl 25 (by decide) (hts (.fieldLink RX12 85 "TextMenderModel" "thrown" "I") (List.mem_of_getElem? (i := 1) rfl)) (fun _ h9 => h9) rfl (by decide +kernel) rfl rfl (Nat.le_of_ble_eq_true rfl) dX12_safe_2 (fun H locs hPn hDn hSn => ?_)
  clear hP hD hS
  have hP : va_P (dC, dI) vwCl [(oM, .inr (12, [.ref mT, .int zt, .ref mS, .ref mX, .int zp, .int zf, .ref mL, .ref mB, .ref mD, .ref m1, .ref m2, .int zh, .ref mR, .int zr, .ref x1, .ref x2, .ref x3, .int zc, .ref mH, .int zy, .int za, .int zb, .int zs, .int zq, .int zw, .int 0, .ref mY, .int zn, .ref mE, .int zm, .int zl, .ref mW, .int zk, .ref mO, .int zd, .ref y1, .ref y2, .ref y3, .ref y4, .ref mZ])), (mL, .inl (cI, 512, .inl eL))] H := hPn
  have hD : va_D A [(oM, .inr (12, [.ref mT, .int zt, .ref mS, .ref mX, .int zp, .int zf, .ref mL, .ref mB, .ref mD, .ref m1, .ref m2, .int zh, .ref mR, .int zr, .ref x1, .ref x2, .ref x3, .int zc, .ref mH, .int zy, .int za, .int zb, .int zs, .int zq, .int zw, .int 0, .ref mY, .int zn, .ref mE, .int zm, .int zl, .ref mW, .int zk, .ref mO, .int zd, .ref y1, .ref y2, .ref y3, .ref y4, .ref mZ])), (mL, .inl (cI, 512, .inl eL))] := hDn
  have hS := hSn
  clear hPn hDn hSn
  refine lv_aload_n hx hb dX12_safe_5 rfl (lv_at hl 0 rfl) ?_
  refine lv_iconst (v := (-1)) hx hb dX12_safe_6 (by decide) ?_
  refine va_put (D := (dC, dI)) (ci := 12) (v := .int (-1)) (ty := .int) (C := RX12) (T := TX12) (N := 40) hx hb hts in_X12 tyX12 tyX12_ok nmX12 hown hK hP hD hS 0 rfl rfl 24 (by decide) (hts (.fieldLink RX12 55 "TextMenderModel" "where" "I") (List.mem_of_getElem? (i := 2) rfl)) (fun _ h9 => h9) rfl (by decide +kernel) rfl rfl (Nat.le_of_ble_eq_true rfl) dX12_safe_7 (fun H locs hPn hDn hSn => ?_)
  clear hP hD hS
  have hP : va_P (dC, dI) vwCl [(oM, .inr (12, [.ref mT, .int zt, .ref mS, .ref mX, .int zp, .int zf, .ref mL, .ref mB, .ref mD, .ref m1, .ref m2, .int zh, .ref mR, .int zr, .ref x1, .ref x2, .ref x3, .int zc, .ref mH, .int zy, .int za, .int zb, .int zs, .int zq, .int (-1), .int 0, .ref mY, .int zn, .ref mE, .int zm, .int zl, .ref mW, .int zk, .ref mO, .int zd, .ref y1, .ref y2, .ref y3, .ref y4, .ref mZ])), (mL, .inl (cI, 512, .inl eL))] H := hPn
  have hD : va_D A [(oM, .inr (12, [.ref mT, .int zt, .ref mS, .ref mX, .int zp, .int zf, .ref mL, .ref mB, .ref mD, .ref m1, .ref m2, .int zh, .ref mR, .int zr, .ref x1, .ref x2, .ref x3, .int zc, .ref mH, .int zy, .int za, .int zb, .int zs, .int zq, .int (-1), .int 0, .ref mY, .int zn, .ref mE, .int zm, .int zl, .ref mW, .int zk, .ref mO, .int zd, .ref y1, .ref y2, .ref y3, .ref y4, .ref mZ])), (mL, .inl (cI, 512, .inl eL))] := hDn
  have hS := hSn
  clear hPn hDn hSn
  refine lv_iload_n hx hb dX12_safe_10 rfl (lv_at hl 1 rfl) ?_
  have hPc := hP.sub (ws' := []) [] rfl
  have hDc := hD.sub (ws' := []) [] (by decide +kernel) rfl
  have hFc := va_free (wc := []) hD hS hA [] rfl
  refine va_calli (va_runS (As := [.int a]) (rest := []) ⟨hx, hb, hml, hown, hts⟩ (m_X12_isCode l dC dI cI cS H.size a ) (va_cwS 1 hts gX12_safe_X12_isCode rfl rfl rfl (by decide +kernel) ⟨Nat.le_of_ble_eq_true rfl, Nat.le_of_ble_eq_true rfl⟩) ⟨fun a U g mk q => by obtain ⟨q0, q1, qP, qK, qD⟩ := q; exact ⟨q0, q1, qP, va_K.moved (u := U) (U := U.calling g mk a) (Vm.Alike.refl U.vm) qK, qD⟩, fun U hU hW => ⟨rfl, by rw [hU], by rw [hU]; exact hPc, va_K.moved hW.alike hK, hDc.weaken (fun _ _ _ _ => trivial)⟩⟩ rfl rfl hl.1 rfl (lv_room (Nat.le_of_ble_eq_true rfl)) dX12_safe_11 ⟨Nat.le_of_ble_eq_true rfl, Nat.le_of_ble_eq_true rfl⟩) hS (fun q _ h => hFc q h) hFc (fun r_1 u t H1 locs ht hvm hw hB hz1 hk1 hSn => ?_)
  subst hw
  obtain ⟨hP1, hD1, hf1_0, hf1_1⟩ := hB
  rw [ht] at hP1
  obtain ⟨hPn, hDn⟩ := va_join (wr := [(oM, .inr (12, [.ref mT, .int zt, .ref mS, .ref mX, .int zp, .int zf, .ref mL, .ref mB, .ref mD, .ref m1, .ref m2, .int zh, .ref mR, .int zr, .ref x1, .ref x2, .ref x3, .int zc, .ref mH, .int zy, .int za, .int zb, .int zs, .int zq, .int (-1), .int 0, .ref mY, .int zn, .ref mE, .int zm, .int zl, .ref mW, .int zk, .ref mO, .int zd, .ref y1, .ref y2, .ref y3, .ref y4, .ref mZ])), (mL, .inl (cI, 512, .inl eL))]) (w1 := []) hP hD [] [0, 1] rfl rfl (by decide +kernel) (by decide +kernel) hk1 hFc hP1 hD1
  clear hP hD hS hPc hDc hFc hk1 hz1 hvm ht hP1 hD1
  generalize H1 = H at hPn hSn ⊢
  have hP : va_P (dC, dI) vwCl [(oM, .inr (12, [.ref mT, .int zt, .ref mS, .ref mX, .int zp, .int zf, .ref mL, .ref mB, .ref mD, .ref m1, .ref m2, .int zh, .ref mR, .int zr, .ref x1, .ref x2, .ref x3, .int zc, .ref mH, .int zy, .int za, .int zb, .int zs, .int zq, .int (-1), .int 0, .ref mY, .int zn, .ref mE, .int zm, .int zl, .ref mW, .int zk, .ref mO, .int zd, .ref y1, .ref y2, .ref y3, .ref y4, .ref mZ])), (mL, .inl (cI, 512, .inl eL))] H := hPn
  have hD : va_D A [(oM, .inr (12, [.ref mT, .int zt, .ref mS, .ref mX, .int zp, .int zf, .ref mL, .ref mB, .ref mD, .ref m1, .ref m2, .int zh, .ref mR, .int zr, .ref x1, .ref x2, .ref x3, .int zc, .ref mH, .int zy, .int za, .int zb, .int zs, .int zq, .int (-1), .int 0, .ref mY, .int zn, .ref mE, .int zm, .int zl, .ref mW, .int zk, .ref mO, .int zd, .ref y1, .ref y2, .ref y3, .ref y4, .ref mZ])), (mL, .inl (cI, 512, .inl eL))] := hDn
  have hS := hSn
  clear hPn hDn hSn
  refine lv_if_eq (tgt := 24) hx hb dX12_safe_14 (by decide) (fun c_2 => ?_) (fun c_2 => ?_)
  · have tc_2 : r_1.toInt = 0 := v_eq c_2
    refine lv_iconst (v := (-1)) hx hb dX12_safe_24 (by decide) ?_
    have hP9 := hP.sub (ws' := [(oM, .inr (12, [.ref mT, .int zt, .ref mS, .ref mX, .int zp, .int zf, .ref mL, .ref mB, .ref mD, .ref m1, .ref m2, .int zh, .ref mR, .int zr, .ref x1, .ref x2, .ref x3, .int zc, .ref mH, .int zy, .int za, .int zb, .int zs, .int zq, .int (-1), .int 0, .ref mY, .int zn, .ref mE, .int zm, .int zl, .ref mW, .int zk, .ref mO, .int zd, .ref y1, .ref y2, .ref y3, .ref y4, .ref mZ])), (mL, .inl (cI, 512, .inl eL))]) [0, 1] rfl
    have hD9 := hD.sub (ws' := [(oM, .inr (12, [.ref mT, .int zt, .ref mS, .ref mX, .int zp, .int zf, .ref mL, .ref mB, .ref mD, .ref m1, .ref m2, .int zh, .ref mR, .int zr, .ref x1, .ref x2, .ref x3, .int zc, .ref mH, .int zy, .int za, .int zb, .int zs, .int zq, .int (-1), .int 0, .ref mY, .int zn, .ref mE, .int zm, .int zl, .ref mW, .int zk, .ref mO, .int zd, .ref y1, .ref y2, .ref y3, .ref y4, .ref mZ])), (mL, .inl (cI, 512, .inl eL))]) [0, 1] (by decide +kernel) rfl
    rw [hQQ]
    exact W.iret (v := (-1)) hx hb hr (fun t ht hW => ⟨⟨(-1), (-1), rfl, rfl, ⟨0, (-1), by rw [ht]; exact hP9, hD9⟩⟩, hS.F ht⟩) hS.2.2 dX12_safe_25
  · have tc_2 : ¬ r_1.toInt = 0 := v_ne c_2
    refine lv_iload_n hx hb dX12_safe_17 rfl (lv_at hl 2 rfl) ?_
    have hPc := hP.sub (ws' := []) [] rfl
    have hDc := hD.sub (ws' := []) [] (by decide +kernel) rfl
    have hFc := va_free (wc := []) hD hS hA [] rfl
    refine va_calli (va_runS (As := [.int b]) (rest := []) ⟨hx, hb, hml, hown, hts⟩ (m_X12_isCode l dC dI cI cS H.size b ) (va_cwS 1 hts gX12_safe_X12_isCode rfl rfl rfl (by decide +kernel) ⟨Nat.le_of_ble_eq_true rfl, Nat.le_of_ble_eq_true rfl⟩) ⟨fun a U g mk q => by obtain ⟨q0, q1, qP, qK, qD⟩ := q; exact ⟨q0, q1, qP, va_K.moved (u := U) (U := U.calling g mk a) (Vm.Alike.refl U.vm) qK, qD⟩, fun U hU hW => ⟨rfl, by rw [hU], by rw [hU]; exact hPc, va_K.moved hW.alike hK, hDc.weaken (fun _ _ _ _ => trivial)⟩⟩ rfl rfl hl.1 rfl (lv_room (Nat.le_of_ble_eq_true rfl)) dX12_safe_18 ⟨Nat.le_of_ble_eq_true rfl, Nat.le_of_ble_eq_true rfl⟩) hS (fun q _ h => hFc q h) hFc (fun r_3 u t H1 locs ht hvm hw hB hz1 hk1 hSn => ?_)
    subst hw
    obtain ⟨hP1, hD1, hf3_0, hf3_1⟩ := hB
    rw [ht] at hP1
    obtain ⟨hPn, hDn⟩ := va_join (wr := [(oM, .inr (12, [.ref mT, .int zt, .ref mS, .ref mX, .int zp, .int zf, .ref mL, .ref mB, .ref mD, .ref m1, .ref m2, .int zh, .ref mR, .int zr, .ref x1, .ref x2, .ref x3, .int zc, .ref mH, .int zy, .int za, .int zb, .int zs, .int zq, .int (-1), .int 0, .ref mY, .int zn, .ref mE, .int zm, .int zl, .ref mW, .int zk, .ref mO, .int zd, .ref y1, .ref y2, .ref y3, .ref y4, .ref mZ])), (mL, .inl (cI, 512, .inl eL))]) (w1 := []) hP hD [] [0, 1] rfl rfl (by decide +kernel) (by decide +kernel) hk1 hFc hP1 hD1
    clear hP hD hS hPc hDc hFc hk1 hz1 hvm ht hP1 hD1
    generalize H1 = H at hPn hSn ⊢
    have hP : va_P (dC, dI) vwCl [(oM, .inr (12, [.ref mT, .int zt, .ref mS, .ref mX, .int zp, .int zf, .ref mL, .ref mB, .ref mD, .ref m1, .ref m2, .int zh, .ref mR, .int zr, .ref x1, .ref x2, .ref x3, .int zc, .ref mH, .int zy, .int za, .int zb, .int zs, .int zq, .int (-1), .int 0, .ref mY, .int zn, .ref mE, .int zm, .int zl, .ref mW, .int zk, .ref mO, .int zd, .ref y1, .ref y2, .ref y3, .ref y4, .ref mZ])), (mL, .inl (cI, 512, .inl eL))] H := hPn
    have hD : va_D A [(oM, .inr (12, [.ref mT, .int zt, .ref mS, .ref mX, .int zp, .int zf, .ref mL, .ref mB, .ref mD, .ref m1, .ref m2, .int zh, .ref mR, .int zr, .ref x1, .ref x2, .ref x3, .int zc, .ref mH, .int zy, .int za, .int zb, .int zs, .int zq, .int (-1), .int 0, .ref mY, .int zn, .ref mE, .int zm, .int zl, .ref mW, .int zk, .ref mO, .int zd, .ref y1, .ref y2, .ref y3, .ref y4, .ref mZ])), (mL, .inl (cI, 512, .inl eL))] := hDn
    have hS := hSn
    clear hPn hDn hSn
    refine lv_if_ne (tgt := 26) hx hb dX12_safe_21 (by decide) (fun c_4 => ?_) (fun c_4 => ?_)
    · have tc_4 : ¬ r_3.toInt = 0 := v_ne c_4
      refine lv_iload_n hx hb dX12_safe_26 rfl (lv_at hl 1 rfl) ?_
      refine lv_iload_n hx hb dX12_safe_27 rfl (lv_at hl 2 rfl) ?_
      refine lv_icmp_ne (tgt := 33) hx hb dX12_safe_28 (by decide) (fun c_5 => ?_) (fun c_5 => ?_)
      · have tc_5 : ¬ a.toInt = b.toInt := v_ne c_5
        refine lv_iconst (v := 0) hx hb dX12_safe_33 (by decide) ?_
        refine lv_istore_n (lv' := [(3, .int 0), (0, .ref oM), (1, .int a), (2, .int b)]) hx hb dX12_safe_34 rfl hl (by decide) rfl (fun ls hl => ?_)
        have LOOP_35 : ∀ (k_35 : Nat) (v : Int32) (H : Heap) (locs : List Loc) (ls : Array Slot), MSd (256 - v.toInt : Int) k_35 → (0 ≤ v.toInt ∧ v.toInt ≤ 256) → va_P (dC, dI) vwCl [(oM, .inr (12, [.ref mT, .int zt, .ref mS, .ref mX, .int zp, .int zf, .ref mL, .ref mB, .ref mD, .ref m1, .ref m2, .int zh, .ref mR, .int zr, .ref x1, .ref x2, .ref x3, .int zc, .ref mH, .int zy, .int za, .int zb, .int zs, .int zq, .int (-1), .int 0, .ref mY, .int zn, .ref mE, .int zm, .int zl, .ref mW, .int zk, .ref mO, .int zd, .ref y1, .ref y2, .ref y3, .ref y4, .ref mZ])), (mL, .inl (cI, 512, .inl eL))] H → va_D A [(oM, .inr (12, [.ref mT, .int zt, .ref mS, .ref mX, .int zp, .int zf, .ref mL, .ref mB, .ref mD, .ref m1, .ref m2, .int zh, .ref mR, .int zr, .ref x1, .ref x2, .ref x3, .int zc, .ref mH, .int zy, .int za, .int zb, .int zs, .int zq, .int (-1), .int 0, .ref mY, .int zn, .ref mE, .int zm, .int zl, .ref mW, .int zk, .ref mO, .int zd, .ref y1, .ref y2, .ref y3, .ref y4, .ref mZ])), (mL, .inl (cI, 512, .inl eL))] → va_S A s.heap H locs → lv_has ls 5 [(3, .int v), (0, .ref oM), (1, .int a), (2, .int b)] → W p l e (headSpec wsX12_safe ({ frames := 1, cells := 0, slots := 0, locals := 22 } : Room)).room s m ([.ref oM, .int a, .int b] : List Value).toArray below meth c H locs 0 0 (MQ below QQ ([.ref oM, .int a, .int b] : List Value).toArray s 0 0 A) (F0 m 35 ls []) := by
          clear hP hD hS hl
          intro k_35
          induction k_35 with
          | zero =>
            intro v H locs ls hm_35 g_v hP hD hS hl
            exact ms_0 hm_35
          | succ k_35 ih_35 =>
            intro v H locs ls hm_35 g_v hP hD hS hl
            refine lv_iload_n hx hb dX12_safe_35 rfl (lv_at hl 0 rfl) ?_
            refine lv_sipush (v := 256) hx hb dX12_safe_36 (by decide) ?_
            refine lv_icmp_ge (tgt := 136) hx hb dX12_safe_39 (by decide) (fun c_6 => ?_) (fun c_6 => ?_)
            · have tc_6 : 256 ≤ v.toInt := v_le c_6
              refine lv_iconst (v := 1) hx hb dX12_safe_136 (by decide) ?_
              have hP9 := hP.sub (ws' := [(oM, .inr (12, [.ref mT, .int zt, .ref mS, .ref mX, .int zp, .int zf, .ref mL, .ref mB, .ref mD, .ref m1, .ref m2, .int zh, .ref mR, .int zr, .ref x1, .ref x2, .ref x3, .int zc, .ref mH, .int zy, .int za, .int zb, .int zs, .int zq, .int (-1), .int 0, .ref mY, .int zn, .ref mE, .int zm, .int zl, .ref mW, .int zk, .ref mO, .int zd, .ref y1, .ref y2, .ref y3, .ref y4, .ref mZ])), (mL, .inl (cI, 512, .inl eL))]) [0, 1] rfl
              have hD9 := hD.sub (ws' := [(oM, .inr (12, [.ref mT, .int zt, .ref mS, .ref mX, .int zp, .int zf, .ref mL, .ref mB, .ref mD, .ref m1, .ref m2, .int zh, .ref mR, .int zr, .ref x1, .ref x2, .ref x3, .int zc, .ref mH, .int zy, .int za, .int zb, .int zs, .int zq, .int (-1), .int 0, .ref mY, .int zn, .ref mE, .int zm, .int zl, .ref mW, .int zk, .ref mO, .int zd, .ref y1, .ref y2, .ref y3, .ref y4, .ref mZ])), (mL, .inl (cI, 512, .inl eL))]) [0, 1] (by decide +kernel) rfl
              rw [hQQ]
              exact W.iret (v := 1) hx hb hr (fun t ht hW => ⟨⟨1, 1, rfl, rfl, ⟨0, (-1), by rw [ht]; exact hP9, hD9⟩⟩, hS.F ht⟩) hS.2.2 dX12_safe_137
            · have tc_6 : v.toInt < 256 := v_nle c_6
              refine lv_aload_n hx hb dX12_safe_42 rfl (lv_at hl 1 rfl) ?_
              refine lv_iload_n hx hb dX12_safe_43 rfl (lv_at hl 2 rfl) ?_
              refine lv_iload_n hx hb dX12_safe_44 rfl (lv_at hl 0 rfl) ?_
              have hPc := hP.sub (ws' := [(oM, .inr (12, [.ref mT, .int zt, .ref mS, .ref mX, .int zp, .int zf, .ref mL, .ref mB, .ref mD, .ref m1, .ref m2, .int zh, .ref mR, .int zr, .ref x1, .ref x2, .ref x3, .int zc, .ref mH, .int zy, .int za, .int zb, .int zs, .int zq, .int (-1), .int 0, .ref mY, .int zn, .ref mE, .int zm, .int zl, .ref mW, .int zk, .ref mO, .int zd, .ref y1, .ref y2, .ref y3, .ref y4, .ref mZ])), (mL, .inl (cI, 512, .inl eL))]) [0, 1] rfl
              have hDc := hD.sub (ws' := [(oM, .inr (12, [.ref mT, .int zt, .ref mS, .ref mX, .int zp, .int zf, .ref mL, .ref mB, .ref mD, .ref m1, .ref m2, .int zh, .ref mR, .int zr, .ref x1, .ref x2, .ref x3, .int zc, .ref mH, .int zy, .int za, .int zb, .int zs, .int zq, .int (-1), .int 0, .ref mY, .int zn, .ref mE, .int zm, .int zl, .ref mW, .int zk, .ref mO, .int zd, .ref y1, .ref y2, .ref y3, .ref y4, .ref mZ])), (mL, .inl (cI, 512, .inl eL))]) [0, 1] (by decide +kernel) rfl
              have hFc := va_free (wc := [(oM, .inr (12, [.ref mT, .int zt, .ref mS, .ref mX, .int zp, .int zf, .ref mL, .ref mB, .ref mD, .ref m1, .ref m2, .int zh, .ref mR, .int zr, .ref x1, .ref x2, .ref x3, .int zc, .ref mH, .int zy, .int za, .int zb, .int zs, .int zq, .int (-1), .int 0, .ref mY, .int zn, .ref mE, .int zm, .int zl, .ref mW, .int zk, .ref mO, .int zd, .ref y1, .ref y2, .ref y3, .ref y4, .ref mZ])), (mL, .inl (cI, 512, .inl eL))]) hD hS hA [0, 1] rfl
              refine va_calli (va_runV (As := [.int a, .int v]) (rest := []) ⟨hx, hb, hml, hown, hts⟩ (m_X12_canCome l dC dI cI cS H.size oM mT mS mX mL mB mD m1 m2 mR x1 x2 x3 mH mY mE mW mO y1 y2 y3 y4 mZ zt zp zf zh zr zc zy za zb zs zq (-1) 0 zn zm zl zk zd eL a v (g_zt) (g_zp) (g_zf) (g_zh) (g_zr) (g_zc) (g_zy) (g_za) (g_zb) (g_zs) (g_zq) (g_zn) (g_zm) (g_zk) (g_eL) (by omega) (by omega)) (cwV 2 hts gX12_safe_X12_canCome rfl rfl rfl (by decide +kernel) ⟨Nat.le_of_ble_eq_true rfl, Nat.le_of_ble_eq_true rfl⟩) ⟨fun a U g mk q => by obtain ⟨q0, q1, qP, qK, qD⟩ := q; exact ⟨q0, q1, qP, va_K.moved (u := U) (U := U.calling g mk a) (Vm.Alike.refl U.vm) qK, qD⟩, va_recv hK hPc (ci := 12) (q0 := 0) rfl rfl, fun U hU hW => ⟨rfl, by rw [hU], by rw [hU]; exact hPc, va_K.moved hW.alike hK, hDc.weaken (fun _ _ _ _ => trivial)⟩⟩ rfl rfl hl.1 rfl (lv_room (Nat.le_of_ble_eq_true rfl)) dX12_safe_45 ⟨Nat.le_of_ble_eq_true rfl, Nat.le_of_ble_eq_true rfl⟩) hS (fun q _ h => hFc q h) hFc (fun r_7 u t H1 locs ht hvm hw hB hz1 hk1 hSn => ?_)
              subst hw
              obtain ⟨hP1, hD1, hf7_0⟩ := hB
              rw [ht] at hP1
              obtain ⟨hPn, hDn⟩ := va_join (wr := []) (w1 := [(oM, .inr (12, [.ref mT, .int zt, .ref mS, .ref mX, .int zp, .int zf, .ref mL, .ref mB, .ref mD, .ref m1, .ref m2, .int zh, .ref mR, .int zr, .ref x1, .ref x2, .ref x3, .int zc, .ref mH, .int zy, .int za, .int zb, .int zs, .int zq, .int (-1), .int 0, .ref mY, .int zn, .ref mE, .int zm, .int zl, .ref mW, .int zk, .ref mO, .int zd, .ref y1, .ref y2, .ref y3, .ref y4, .ref mZ])), (mL, .inl (cI, 512, .inl eL))]) hP hD [0, 1] [] rfl rfl (by decide +kernel) (by decide +kernel) hk1 hFc hP1 hD1
              clear hP hD hS hPc hDc hFc hk1 hz1 hvm ht hP1 hD1
              generalize H1 = H at hPn hSn ⊢
              have hP : va_P (dC, dI) vwCl [(oM, .inr (12, [.ref mT, .int zt, .ref mS, .ref mX, .int zp, .int zf, .ref mL, .ref mB, .ref mD, .ref m1, .ref m2, .int zh, .ref mR, .int zr, .ref x1, .ref x2, .ref x3, .int zc, .ref mH, .int zy, .int za, .int zb, .int zs, .int zq, .int (-1), .int 0, .ref mY, .int zn, .ref mE, .int zm, .int zl, .ref mW, .int zk, .ref mO, .int zd, .ref y1, .ref y2, .ref y3, .ref y4, .ref mZ])), (mL, .inl (cI, 512, .inl eL))] H := hPn
              have hD : va_D A [(oM, .inr (12, [.ref mT, .int zt, .ref mS, .ref mX, .int zp, .int zf, .ref mL, .ref mB, .ref mD, .ref m1, .ref m2, .int zh, .ref mR, .int zr, .ref x1, .ref x2, .ref x3, .int zc, .ref mH, .int zy, .int za, .int zb, .int zs, .int zq, .int (-1), .int 0, .ref mY, .int zn, .ref mE, .int zm, .int zl, .ref mW, .int zk, .ref mO, .int zd, .ref y1, .ref y2, .ref y3, .ref y4, .ref mZ])), (mL, .inl (cI, 512, .inl eL))] := hDn
              have hS := hSn
              clear hPn hDn hSn
              refine lv_if_ne (tgt := 54) hx hb dX12_safe_48 (by decide) (fun c_8 => ?_) (fun c_8 => ?_)
              · have tc_8 : ¬ r_7.toInt = 0 := v_ne c_8
                refine lv_iload_n hx hb dX12_safe_54 rfl (lv_at hl 3 rfl) ?_
                refine lv_iconst (v := 1) hx hb dX12_safe_55 (by decide) ?_
                refine lv_icmp_eq (tgt := 116) hx hb dX12_safe_56 (by decide) (fun c_9 => ?_) (fun c_9 => ?_)
                · have tc_9 : b.toInt = 1 := v_eq c_9
                  refine lv_iconst (v := 1) hx hb dX12_safe_116 (by decide) ?_
                  refine lv_goto (tgt := 121) hx hb dX12_safe_117 (by decide) ?_
                  refine lv_istore (lv' := [(4, .int 1), (3, .int v), (0, .ref oM), (1, .int a), (2, .int b)]) hx hb dX12_safe_121 hl (by decide) rfl (fun ls hl => ?_)
                  refine lv_iload hx hb dX12_safe_123 (lv_at hl 0 rfl) ?_
                  refine lv_if_ne (tgt := 130) hx hb dX12_safe_125 (by decide) (fun c_10 => ?_) (fun c_10 => absurd c_10 (by decide))
                  obtain ⟨x_11, ex_11⟩ : ∃ y : Int32, y = v + 1 := ⟨_, rfl⟩
                  have tx_11 : x_11.toInt = v.toInt + 1 := v_add ex_11 (by show -2147483648 ≤ v.toInt + 1; omega) (by show v.toInt + 1 < 2147483648; omega)
                  refine lv_iinc (v := x_11) (lv' := [(3, .int x_11), (4, .int 1), (0, .ref oM), (1, .int a), (2, .int b)]) hx hb dX12_safe_130 hl (k := 1) rfl (by rw [ex_11]; rfl) (by decide) rfl (fun ls hl => ?_)
                  refine lv_goto (tgt := 35) hx hb dX12_safe_133 (by decide) ?_
                  exact ih_35 x_11 _ _ _ (ms_lt hm_35 (by show ((256 - x_11.toInt : Int)) < 256 - v.toInt; omega) (by show (0 : Int) < 256 - v.toInt; omega)) (by show 0 ≤ x_11.toInt ∧ x_11.toInt ≤ 256; omega) hP hD hS (lv_sub hl [0, 2, 3, 4] rfl)
                · have tc_9 : ¬ b.toInt = 1 := v_ne c_9
                  refine lv_iload_n hx hb dX12_safe_59 rfl (lv_at hl 3 rfl) ?_
                  refine lv_if_eq (tgt := 68) hx hb dX12_safe_60 (by decide) (fun c_12 => ?_) (fun c_12 => ?_)
                  · have tc_12 : b.toInt = 0 := v_eq c_12
                    refine lv_iload_n hx hb dX12_safe_68 rfl (lv_at hl 0 rfl) ?_
                    refine lv_sipush (v := 128) hx hb dX12_safe_69 (by decide) ?_
                    refine lv_icmp_lt (tgt := 116) hx hb dX12_safe_72 (by decide) (fun c_13 => ?_) (fun c_13 => ?_)
                    · have tc_13 : v.toInt < 128 := v_lt c_13
                      refine lv_iconst (v := 1) hx hb dX12_safe_116 (by decide) ?_
                      refine lv_goto (tgt := 121) hx hb dX12_safe_117 (by decide) ?_
                      refine lv_istore (lv' := [(4, .int 1), (3, .int v), (0, .ref oM), (1, .int a), (2, .int b)]) hx hb dX12_safe_121 hl (by decide) rfl (fun ls hl => ?_)
                      refine lv_iload hx hb dX12_safe_123 (lv_at hl 0 rfl) ?_
                      refine lv_if_ne (tgt := 130) hx hb dX12_safe_125 (by decide) (fun c_14 => ?_) (fun c_14 => absurd c_14 (by decide))
                      obtain ⟨x_15, ex_15⟩ : ∃ y : Int32, y = v + 1 := ⟨_, rfl⟩
                      have tx_15 : x_15.toInt = v.toInt + 1 := v_add ex_15 (by show -2147483648 ≤ v.toInt + 1; omega) (by show v.toInt + 1 < 2147483648; omega)
                      refine lv_iinc (v := x_15) (lv' := [(3, .int x_15), (4, .int 1), (0, .ref oM), (1, .int a), (2, .int b)]) hx hb dX12_safe_130 hl (k := 1) rfl (by rw [ex_15]; rfl) (by decide) rfl (fun ls hl => ?_)
                      refine lv_goto (tgt := 35) hx hb dX12_safe_133 (by decide) ?_
                      exact ih_35 x_15 _ _ _ (ms_lt hm_35 (by show ((256 - x_15.toInt : Int)) < 256 - v.toInt; omega) (by show (0 : Int) < 256 - v.toInt; omega)) (by show 0 ≤ x_15.toInt ∧ x_15.toInt ≤ 256; omega) hP hD hS (lv_sub hl [0, 2, 3, 4] rfl)
                    · have tc_13 : 128 ≤ v.toInt := v_nlt c_13
                      refine lv_iload_n hx hb dX12_safe_75 rfl (lv_at hl 3 rfl) ?_
                      refine lv_iconst (v := 3) hx hb dX12_safe_76 (by decide) ?_
                      refine lv_icmp_ne (tgt := 93) hx hb dX12_safe_77 (by decide) (fun c_16 => ?_) (fun c_16 => by exfalso; have tc_16 : b.toInt = 3 := v_eq c_16; omega)
                      have tc_16 : ¬ b.toInt = 3 := v_ne c_16
                      refine lv_iload_n hx hb dX12_safe_93 rfl (lv_at hl 3 rfl) ?_
                      refine lv_iconst (v := 3) hx hb dX12_safe_94 (by decide) ?_
                      refine lv_icmp_le (tgt := 120) hx hb dX12_safe_95 (by decide) (fun c_17 => ?_) (fun c_17 => by exfalso; have tc_17 : 3 < b.toInt := v_nle c_17; omega)
                      have tc_17 : b.toInt ≤ 3 := v_le c_17
                      refine lv_iconst (v := 0) hx hb dX12_safe_120 (by decide) ?_
                      refine lv_istore (lv' := [(4, .int 0), (3, .int v), (0, .ref oM), (1, .int a), (2, .int b)]) hx hb dX12_safe_121 hl (by decide) rfl (fun ls hl => ?_)
                      refine lv_iload hx hb dX12_safe_123 (lv_at hl 0 rfl) ?_
                      refine lv_if_ne (tgt := 130) hx hb dX12_safe_125 (by decide) (fun c_18 => absurd c_18 (by decide)) (fun c_18 => ?_)
                      refine lv_iconst (v := 0) hx hb dX12_safe_128 (by decide) ?_
                      have hP9 := hP.sub (ws' := [(oM, .inr (12, [.ref mT, .int zt, .ref mS, .ref mX, .int zp, .int zf, .ref mL, .ref mB, .ref mD, .ref m1, .ref m2, .int zh, .ref mR, .int zr, .ref x1, .ref x2, .ref x3, .int zc, .ref mH, .int zy, .int za, .int zb, .int zs, .int zq, .int (-1), .int 0, .ref mY, .int zn, .ref mE, .int zm, .int zl, .ref mW, .int zk, .ref mO, .int zd, .ref y1, .ref y2, .ref y3, .ref y4, .ref mZ])), (mL, .inl (cI, 512, .inl eL))]) [0, 1] rfl
                      have hD9 := hD.sub (ws' := [(oM, .inr (12, [.ref mT, .int zt, .ref mS, .ref mX, .int zp, .int zf, .ref mL, .ref mB, .ref mD, .ref m1, .ref m2, .int zh, .ref mR, .int zr, .ref x1, .ref x2, .ref x3, .int zc, .ref mH, .int zy, .int za, .int zb, .int zs, .int zq, .int (-1), .int 0, .ref mY, .int zn, .ref mE, .int zm, .int zl, .ref mW, .int zk, .ref mO, .int zd, .ref y1, .ref y2, .ref y3, .ref y4, .ref mZ])), (mL, .inl (cI, 512, .inl eL))]) [0, 1] (by decide +kernel) rfl
                      rw [hQQ]
                      exact W.iret (v := 0) hx hb hr (fun t ht hW => ⟨⟨0, 0, rfl, rfl, ⟨0, (-1), by rw [ht]; exact hP9, hD9⟩⟩, hS.F ht⟩) hS.2.2 dX12_safe_129
                  · have tc_12 : ¬ b.toInt = 0 := v_ne c_12
                    refine lv_iload_n hx hb dX12_safe_63 rfl (lv_at hl 3 rfl) ?_
                    refine lv_iconst (v := 2) hx hb dX12_safe_64 (by decide) ?_
                    refine lv_icmp_ne (tgt := 75) hx hb dX12_safe_65 (by decide) (fun c_19 => ?_) (fun c_19 => ?_)
                    · have tc_19 : ¬ b.toInt = 2 := v_ne c_19
                      refine lv_iload_n hx hb dX12_safe_75 rfl (lv_at hl 3 rfl) ?_
                      refine lv_iconst (v := 3) hx hb dX12_safe_76 (by decide) ?_
                      refine lv_icmp_ne (tgt := 93) hx hb dX12_safe_77 (by decide) (fun c_20 => ?_) (fun c_20 => ?_)
                      · have tc_20 : ¬ b.toInt = 3 := v_ne c_20
                        refine lv_iload_n hx hb dX12_safe_93 rfl (lv_at hl 3 rfl) ?_
                        refine lv_iconst (v := 3) hx hb dX12_safe_94 (by decide) ?_
                        refine lv_icmp_le (tgt := 120) hx hb dX12_safe_95 (by decide) (fun c_21 => ?_) (fun c_21 => ?_)
                        · have tc_21 : b.toInt ≤ 3 := v_le c_21
                          refine lv_iconst (v := 0) hx hb dX12_safe_120 (by decide) ?_
                          refine lv_istore (lv' := [(4, .int 0), (3, .int v), (0, .ref oM), (1, .int a), (2, .int b)]) hx hb dX12_safe_121 hl (by decide) rfl (fun ls hl => ?_)
                          refine lv_iload hx hb dX12_safe_123 (lv_at hl 0 rfl) ?_
                          refine lv_if_ne (tgt := 130) hx hb dX12_safe_125 (by decide) (fun c_22 => absurd c_22 (by decide)) (fun c_22 => ?_)
                          refine lv_iconst (v := 0) hx hb dX12_safe_128 (by decide) ?_
                          have hP9 := hP.sub (ws' := [(oM, .inr (12, [.ref mT, .int zt, .ref mS, .ref mX, .int zp, .int zf, .ref mL, .ref mB, .ref mD, .ref m1, .ref m2, .int zh, .ref mR, .int zr, .ref x1, .ref x2, .ref x3, .int zc, .ref mH, .int zy, .int za, .int zb, .int zs, .int zq, .int (-1), .int 0, .ref mY, .int zn, .ref mE, .int zm, .int zl, .ref mW, .int zk, .ref mO, .int zd, .ref y1, .ref y2, .ref y3, .ref y4, .ref mZ])), (mL, .inl (cI, 512, .inl eL))]) [0, 1] rfl
                          have hD9 := hD.sub (ws' := [(oM, .inr (12, [.ref mT, .int zt, .ref mS, .ref mX, .int zp, .int zf, .ref mL, .ref mB, .ref mD, .ref m1, .ref m2, .int zh, .ref mR, .int zr, .ref x1, .ref x2, .ref x3, .int zc, .ref mH, .int zy, .int za, .int zb, .int zs, .int zq, .int (-1), .int 0, .ref mY, .int zn, .ref mE, .int zm, .int zl, .ref mW, .int zk, .ref mO, .int zd, .ref y1, .ref y2, .ref y3, .ref y4, .ref mZ])), (mL, .inl (cI, 512, .inl eL))]) [0, 1] (by decide +kernel) rfl
                          rw [hQQ]
                          exact W.iret (v := 0) hx hb hr (fun t ht hW => ⟨⟨0, 0, rfl, rfl, ⟨0, (-1), by rw [ht]; exact hP9, hD9⟩⟩, hS.F ht⟩) hS.2.2 dX12_safe_129
                        · have tc_21 : 3 < b.toInt := v_nle c_21
                          refine lv_aload_n hx hb dX12_safe_98 rfl (lv_at hl 1 rfl) ?_
                          refine va_get (D := (dC, dI)) (ci := 12) (v := .ref mL) (C := RX12) (T := TX12) (N := 40) hx hb hts in_X12 hown hK hP 0 rfl rfl 6 (by decide) (hts (.fieldLink RX12 19 "TextMenderModel" "letterOf" "[I") (List.mem_of_getElem? (i := 3) rfl)) (fun _ h9 => h9) rfl dX12_safe_99 ?_
                          refine lv_sipush (v := 256) hx hb dX12_safe_102 (by decide) ?_
                          refine lv_iload_n hx hb dX12_safe_105 rfl (lv_at hl 3 rfl) ?_
                          refine lv_iconst (v := 4) hx hb dX12_safe_106 (by decide) ?_
                          refine lv_isub hx hb dX12_safe_107 ?_
                          refine lv_topi (fun x_23 ex_23 => ?_)
                          have tx_23 : x_23.toInt = b.toInt - 4 := v_sub ex_23 (by show -2147483648 ≤ b.toInt - 4; omega) (by show b.toInt - 4 < 2147483648; omega)
                          refine lv_imul hx hb dX12_safe_108 ?_
                          refine lv_topi (fun x_24 ex_24 => ?_)
                          have tx_24 : x_24.toInt = 256 * x_23.toInt := v_mul ex_24 (by show -2147483648 ≤ 256 * x_23.toInt; omega) (by show 256 * x_23.toInt < 2147483648; omega)
                          refine lv_iload_n hx hb dX12_safe_109 rfl (lv_at hl 0 rfl) ?_
                          refine lv_iadd hx hb dX12_safe_110 ?_
                          refine lv_topi (fun x_25 ex_25 => ?_)
                          have tx_25 : x_25.toInt = x_24.toInt + v.toInt := v_add ex_25 (by show -2147483648 ≤ x_24.toInt + v.toInt; omega) (by show x_24.toInt + v.toInt < 2147483648; omega)
                          refine va_iald hx hb hK hP 1 0 rfl rfl (v_in (by omega)) dX12_safe_111 ?_
                          refine lv_topi (fun x_26 ex_26 => ?_)
                          have tx_26 : -1 ≤ x_26.toInt ∧ x_26.toInt ≤ 65535 := rg_at g_eL ex_26
                          refine lv_iconst (v := (-1)) hx hb dX12_safe_112 (by decide) ?_
                          refine lv_icmp_eq (tgt := 120) hx hb dX12_safe_113 (by decide) (fun c_27 => ?_) (fun c_27 => ?_)
                          · have tc_27 : x_26.toInt = (-1) := v_eq c_27
                            refine lv_iconst (v := 0) hx hb dX12_safe_120 (by decide) ?_
                            refine lv_istore (lv' := [(4, .int 0), (3, .int v), (0, .ref oM), (1, .int a), (2, .int b)]) hx hb dX12_safe_121 hl (by decide) rfl (fun ls hl => ?_)
                            refine lv_iload hx hb dX12_safe_123 (lv_at hl 0 rfl) ?_
                            refine lv_if_ne (tgt := 130) hx hb dX12_safe_125 (by decide) (fun c_28 => absurd c_28 (by decide)) (fun c_28 => ?_)
                            refine lv_iconst (v := 0) hx hb dX12_safe_128 (by decide) ?_
                            have hP9 := hP.sub (ws' := [(oM, .inr (12, [.ref mT, .int zt, .ref mS, .ref mX, .int zp, .int zf, .ref mL, .ref mB, .ref mD, .ref m1, .ref m2, .int zh, .ref mR, .int zr, .ref x1, .ref x2, .ref x3, .int zc, .ref mH, .int zy, .int za, .int zb, .int zs, .int zq, .int (-1), .int 0, .ref mY, .int zn, .ref mE, .int zm, .int zl, .ref mW, .int zk, .ref mO, .int zd, .ref y1, .ref y2, .ref y3, .ref y4, .ref mZ])), (mL, .inl (cI, 512, .inl eL))]) [0, 1] rfl
                            have hD9 := hD.sub (ws' := [(oM, .inr (12, [.ref mT, .int zt, .ref mS, .ref mX, .int zp, .int zf, .ref mL, .ref mB, .ref mD, .ref m1, .ref m2, .int zh, .ref mR, .int zr, .ref x1, .ref x2, .ref x3, .int zc, .ref mH, .int zy, .int za, .int zb, .int zs, .int zq, .int (-1), .int 0, .ref mY, .int zn, .ref mE, .int zm, .int zl, .ref mW, .int zk, .ref mO, .int zd, .ref y1, .ref y2, .ref y3, .ref y4, .ref mZ])), (mL, .inl (cI, 512, .inl eL))]) [0, 1] (by decide +kernel) rfl
                            rw [hQQ]
                            exact W.iret (v := 0) hx hb hr (fun t ht hW => ⟨⟨0, 0, rfl, rfl, ⟨0, (-1), by rw [ht]; exact hP9, hD9⟩⟩, hS.F ht⟩) hS.2.2 dX12_safe_129
                          · have tc_27 : ¬ x_26.toInt = (-1) := v_ne c_27
                            refine lv_iconst (v := 1) hx hb dX12_safe_116 (by decide) ?_
                            refine lv_goto (tgt := 121) hx hb dX12_safe_117 (by decide) ?_
                            refine lv_istore (lv' := [(4, .int 1), (3, .int v), (0, .ref oM), (1, .int a), (2, .int b)]) hx hb dX12_safe_121 hl (by decide) rfl (fun ls hl => ?_)
                            refine lv_iload hx hb dX12_safe_123 (lv_at hl 0 rfl) ?_
                            refine lv_if_ne (tgt := 130) hx hb dX12_safe_125 (by decide) (fun c_29 => ?_) (fun c_29 => absurd c_29 (by decide))
                            obtain ⟨x_30, ex_30⟩ : ∃ y : Int32, y = v + 1 := ⟨_, rfl⟩
                            have tx_30 : x_30.toInt = v.toInt + 1 := v_add ex_30 (by show -2147483648 ≤ v.toInt + 1; omega) (by show v.toInt + 1 < 2147483648; omega)
                            refine lv_iinc (v := x_30) (lv' := [(3, .int x_30), (4, .int 1), (0, .ref oM), (1, .int a), (2, .int b)]) hx hb dX12_safe_130 hl (k := 1) rfl (by rw [ex_30]; rfl) (by decide) rfl (fun ls hl => ?_)
                            refine lv_goto (tgt := 35) hx hb dX12_safe_133 (by decide) ?_
                            exact ih_35 x_30 _ _ _ (ms_lt hm_35 (by show ((256 - x_30.toInt : Int)) < 256 - v.toInt; omega) (by show (0 : Int) < 256 - v.toInt; omega)) (by show 0 ≤ x_30.toInt ∧ x_30.toInt ≤ 256; omega) hP hD hS (lv_sub hl [0, 2, 3, 4] rfl)
                      · have tc_20 : b.toInt = 3 := v_eq c_20
                        refine lv_iload_n hx hb dX12_safe_80 rfl (lv_at hl 0 rfl) ?_
                        refine lv_sipush (v := 128) hx hb dX12_safe_81 (by decide) ?_
                        refine lv_icmp_ge (tgt := 93) hx hb dX12_safe_84 (by decide) (fun c_31 => ?_) (fun c_31 => ?_)
                        · have tc_31 : 128 ≤ v.toInt := v_le c_31
                          refine lv_iload_n hx hb dX12_safe_93 rfl (lv_at hl 3 rfl) ?_
                          refine lv_iconst (v := 3) hx hb dX12_safe_94 (by decide) ?_
                          refine lv_icmp_le (tgt := 120) hx hb dX12_safe_95 (by decide) (fun c_32 => ?_) (fun c_32 => by exfalso; have tc_32 : 3 < b.toInt := v_nle c_32; omega)
                          have tc_32 : b.toInt ≤ 3 := v_le c_32
                          refine lv_iconst (v := 0) hx hb dX12_safe_120 (by decide) ?_
                          refine lv_istore (lv' := [(4, .int 0), (3, .int v), (0, .ref oM), (1, .int a), (2, .int b)]) hx hb dX12_safe_121 hl (by decide) rfl (fun ls hl => ?_)
                          refine lv_iload hx hb dX12_safe_123 (lv_at hl 0 rfl) ?_
                          refine lv_if_ne (tgt := 130) hx hb dX12_safe_125 (by decide) (fun c_33 => absurd c_33 (by decide)) (fun c_33 => ?_)
                          refine lv_iconst (v := 0) hx hb dX12_safe_128 (by decide) ?_
                          have hP9 := hP.sub (ws' := [(oM, .inr (12, [.ref mT, .int zt, .ref mS, .ref mX, .int zp, .int zf, .ref mL, .ref mB, .ref mD, .ref m1, .ref m2, .int zh, .ref mR, .int zr, .ref x1, .ref x2, .ref x3, .int zc, .ref mH, .int zy, .int za, .int zb, .int zs, .int zq, .int (-1), .int 0, .ref mY, .int zn, .ref mE, .int zm, .int zl, .ref mW, .int zk, .ref mO, .int zd, .ref y1, .ref y2, .ref y3, .ref y4, .ref mZ])), (mL, .inl (cI, 512, .inl eL))]) [0, 1] rfl
                          have hD9 := hD.sub (ws' := [(oM, .inr (12, [.ref mT, .int zt, .ref mS, .ref mX, .int zp, .int zf, .ref mL, .ref mB, .ref mD, .ref m1, .ref m2, .int zh, .ref mR, .int zr, .ref x1, .ref x2, .ref x3, .int zc, .ref mH, .int zy, .int za, .int zb, .int zs, .int zq, .int (-1), .int 0, .ref mY, .int zn, .ref mE, .int zm, .int zl, .ref mW, .int zk, .ref mO, .int zd, .ref y1, .ref y2, .ref y3, .ref y4, .ref mZ])), (mL, .inl (cI, 512, .inl eL))]) [0, 1] (by decide +kernel) rfl
                          rw [hQQ]
                          exact W.iret (v := 0) hx hb hr (fun t ht hW => ⟨⟨0, 0, rfl, rfl, ⟨0, (-1), by rw [ht]; exact hP9, hD9⟩⟩, hS.F ht⟩) hS.2.2 dX12_safe_129
                        · have tc_31 : v.toInt < 128 := v_nle c_31
                          refine lv_iload_n hx hb dX12_safe_87 rfl (lv_at hl 0 rfl) ?_
                          refine lv_bipush (v := 38) hx hb dX12_safe_88 (by decide) ?_
                          refine lv_icmp_ne (tgt := 116) hx hb dX12_safe_90 (by decide) (fun c_34 => ?_) (fun c_34 => ?_)
                          · have tc_34 : ¬ v.toInt = 38 := v_ne c_34
                            refine lv_iconst (v := 1) hx hb dX12_safe_116 (by decide) ?_
                            refine lv_goto (tgt := 121) hx hb dX12_safe_117 (by decide) ?_
                            refine lv_istore (lv' := [(4, .int 1), (3, .int v), (0, .ref oM), (1, .int a), (2, .int b)]) hx hb dX12_safe_121 hl (by decide) rfl (fun ls hl => ?_)
                            refine lv_iload hx hb dX12_safe_123 (lv_at hl 0 rfl) ?_
                            refine lv_if_ne (tgt := 130) hx hb dX12_safe_125 (by decide) (fun c_35 => ?_) (fun c_35 => absurd c_35 (by decide))
                            obtain ⟨x_36, ex_36⟩ : ∃ y : Int32, y = v + 1 := ⟨_, rfl⟩
                            have tx_36 : x_36.toInt = v.toInt + 1 := v_add ex_36 (by show -2147483648 ≤ v.toInt + 1; omega) (by show v.toInt + 1 < 2147483648; omega)
                            refine lv_iinc (v := x_36) (lv' := [(3, .int x_36), (4, .int 1), (0, .ref oM), (1, .int a), (2, .int b)]) hx hb dX12_safe_130 hl (k := 1) rfl (by rw [ex_36]; rfl) (by decide) rfl (fun ls hl => ?_)
                            refine lv_goto (tgt := 35) hx hb dX12_safe_133 (by decide) ?_
                            exact ih_35 x_36 _ _ _ (ms_lt hm_35 (by show ((256 - x_36.toInt : Int)) < 256 - v.toInt; omega) (by show (0 : Int) < 256 - v.toInt; omega)) (by show 0 ≤ x_36.toInt ∧ x_36.toInt ≤ 256; omega) hP hD hS (lv_sub hl [0, 2, 3, 4] rfl)
                          · have tc_34 : v.toInt = 38 := v_eq c_34
                            refine lv_iload_n hx hb dX12_safe_93 rfl (lv_at hl 3 rfl) ?_
                            refine lv_iconst (v := 3) hx hb dX12_safe_94 (by decide) ?_
                            refine lv_icmp_le (tgt := 120) hx hb dX12_safe_95 (by decide) (fun c_37 => ?_) (fun c_37 => by exfalso; have tc_37 : 3 < b.toInt := v_nle c_37; omega)
                            have tc_37 : b.toInt ≤ 3 := v_le c_37
                            refine lv_iconst (v := 0) hx hb dX12_safe_120 (by decide) ?_
                            refine lv_istore (lv' := [(4, .int 0), (3, .int v), (0, .ref oM), (1, .int a), (2, .int b)]) hx hb dX12_safe_121 hl (by decide) rfl (fun ls hl => ?_)
                            refine lv_iload hx hb dX12_safe_123 (lv_at hl 0 rfl) ?_
                            refine lv_if_ne (tgt := 130) hx hb dX12_safe_125 (by decide) (fun c_38 => absurd c_38 (by decide)) (fun c_38 => ?_)
                            refine lv_iconst (v := 0) hx hb dX12_safe_128 (by decide) ?_
                            have hP9 := hP.sub (ws' := [(oM, .inr (12, [.ref mT, .int zt, .ref mS, .ref mX, .int zp, .int zf, .ref mL, .ref mB, .ref mD, .ref m1, .ref m2, .int zh, .ref mR, .int zr, .ref x1, .ref x2, .ref x3, .int zc, .ref mH, .int zy, .int za, .int zb, .int zs, .int zq, .int (-1), .int 0, .ref mY, .int zn, .ref mE, .int zm, .int zl, .ref mW, .int zk, .ref mO, .int zd, .ref y1, .ref y2, .ref y3, .ref y4, .ref mZ])), (mL, .inl (cI, 512, .inl eL))]) [0, 1] rfl
                            have hD9 := hD.sub (ws' := [(oM, .inr (12, [.ref mT, .int zt, .ref mS, .ref mX, .int zp, .int zf, .ref mL, .ref mB, .ref mD, .ref m1, .ref m2, .int zh, .ref mR, .int zr, .ref x1, .ref x2, .ref x3, .int zc, .ref mH, .int zy, .int za, .int zb, .int zs, .int zq, .int (-1), .int 0, .ref mY, .int zn, .ref mE, .int zm, .int zl, .ref mW, .int zk, .ref mO, .int zd, .ref y1, .ref y2, .ref y3, .ref y4, .ref mZ])), (mL, .inl (cI, 512, .inl eL))]) [0, 1] (by decide +kernel) rfl
                            rw [hQQ]
                            exact W.iret (v := 0) hx hb hr (fun t ht hW => ⟨⟨0, 0, rfl, rfl, ⟨0, (-1), by rw [ht]; exact hP9, hD9⟩⟩, hS.F ht⟩) hS.2.2 dX12_safe_129
                    · have tc_19 : b.toInt = 2 := v_eq c_19
                      refine lv_iload_n hx hb dX12_safe_68 rfl (lv_at hl 0 rfl) ?_
                      refine lv_sipush (v := 128) hx hb dX12_safe_69 (by decide) ?_
                      refine lv_icmp_lt (tgt := 116) hx hb dX12_safe_72 (by decide) (fun c_39 => ?_) (fun c_39 => ?_)
                      · have tc_39 : v.toInt < 128 := v_lt c_39
                        refine lv_iconst (v := 1) hx hb dX12_safe_116 (by decide) ?_
                        refine lv_goto (tgt := 121) hx hb dX12_safe_117 (by decide) ?_
                        refine lv_istore (lv' := [(4, .int 1), (3, .int v), (0, .ref oM), (1, .int a), (2, .int b)]) hx hb dX12_safe_121 hl (by decide) rfl (fun ls hl => ?_)
                        refine lv_iload hx hb dX12_safe_123 (lv_at hl 0 rfl) ?_
                        refine lv_if_ne (tgt := 130) hx hb dX12_safe_125 (by decide) (fun c_40 => ?_) (fun c_40 => absurd c_40 (by decide))
                        obtain ⟨x_41, ex_41⟩ : ∃ y : Int32, y = v + 1 := ⟨_, rfl⟩
                        have tx_41 : x_41.toInt = v.toInt + 1 := v_add ex_41 (by show -2147483648 ≤ v.toInt + 1; omega) (by show v.toInt + 1 < 2147483648; omega)
                        refine lv_iinc (v := x_41) (lv' := [(3, .int x_41), (4, .int 1), (0, .ref oM), (1, .int a), (2, .int b)]) hx hb dX12_safe_130 hl (k := 1) rfl (by rw [ex_41]; rfl) (by decide) rfl (fun ls hl => ?_)
                        refine lv_goto (tgt := 35) hx hb dX12_safe_133 (by decide) ?_
                        exact ih_35 x_41 _ _ _ (ms_lt hm_35 (by show ((256 - x_41.toInt : Int)) < 256 - v.toInt; omega) (by show (0 : Int) < 256 - v.toInt; omega)) (by show 0 ≤ x_41.toInt ∧ x_41.toInt ≤ 256; omega) hP hD hS (lv_sub hl [0, 2, 3, 4] rfl)
                      · have tc_39 : 128 ≤ v.toInt := v_nlt c_39
                        refine lv_iload_n hx hb dX12_safe_75 rfl (lv_at hl 3 rfl) ?_
                        refine lv_iconst (v := 3) hx hb dX12_safe_76 (by decide) ?_
                        refine lv_icmp_ne (tgt := 93) hx hb dX12_safe_77 (by decide) (fun c_42 => ?_) (fun c_42 => by exfalso; have tc_42 : b.toInt = 3 := v_eq c_42; omega)
                        have tc_42 : ¬ b.toInt = 3 := v_ne c_42
                        refine lv_iload_n hx hb dX12_safe_93 rfl (lv_at hl 3 rfl) ?_
                        refine lv_iconst (v := 3) hx hb dX12_safe_94 (by decide) ?_
                        refine lv_icmp_le (tgt := 120) hx hb dX12_safe_95 (by decide) (fun c_43 => ?_) (fun c_43 => by exfalso; have tc_43 : 3 < b.toInt := v_nle c_43; omega)
                        have tc_43 : b.toInt ≤ 3 := v_le c_43
                        refine lv_iconst (v := 0) hx hb dX12_safe_120 (by decide) ?_
                        refine lv_istore (lv' := [(4, .int 0), (3, .int v), (0, .ref oM), (1, .int a), (2, .int b)]) hx hb dX12_safe_121 hl (by decide) rfl (fun ls hl => ?_)
                        refine lv_iload hx hb dX12_safe_123 (lv_at hl 0 rfl) ?_
                        refine lv_if_ne (tgt := 130) hx hb dX12_safe_125 (by decide) (fun c_44 => absurd c_44 (by decide)) (fun c_44 => ?_)
                        refine lv_iconst (v := 0) hx hb dX12_safe_128 (by decide) ?_
                        have hP9 := hP.sub (ws' := [(oM, .inr (12, [.ref mT, .int zt, .ref mS, .ref mX, .int zp, .int zf, .ref mL, .ref mB, .ref mD, .ref m1, .ref m2, .int zh, .ref mR, .int zr, .ref x1, .ref x2, .ref x3, .int zc, .ref mH, .int zy, .int za, .int zb, .int zs, .int zq, .int (-1), .int 0, .ref mY, .int zn, .ref mE, .int zm, .int zl, .ref mW, .int zk, .ref mO, .int zd, .ref y1, .ref y2, .ref y3, .ref y4, .ref mZ])), (mL, .inl (cI, 512, .inl eL))]) [0, 1] rfl
                        have hD9 := hD.sub (ws' := [(oM, .inr (12, [.ref mT, .int zt, .ref mS, .ref mX, .int zp, .int zf, .ref mL, .ref mB, .ref mD, .ref m1, .ref m2, .int zh, .ref mR, .int zr, .ref x1, .ref x2, .ref x3, .int zc, .ref mH, .int zy, .int za, .int zb, .int zs, .int zq, .int (-1), .int 0, .ref mY, .int zn, .ref mE, .int zm, .int zl, .ref mW, .int zk, .ref mO, .int zd, .ref y1, .ref y2, .ref y3, .ref y4, .ref mZ])), (mL, .inl (cI, 512, .inl eL))]) [0, 1] (by decide +kernel) rfl
                        rw [hQQ]
                        exact W.iret (v := 0) hx hb hr (fun t ht hW => ⟨⟨0, 0, rfl, rfl, ⟨0, (-1), by rw [ht]; exact hP9, hD9⟩⟩, hS.F ht⟩) hS.2.2 dX12_safe_129
              · have tc_8 : r_7.toInt = 0 := v_eq c_8
                refine lv_goto (tgt := 130) hx hb dX12_safe_51 (by decide) ?_
                obtain ⟨x_45, ex_45⟩ : ∃ y : Int32, y = v + 1 := ⟨_, rfl⟩
                have tx_45 : x_45.toInt = v.toInt + 1 := v_add ex_45 (by show -2147483648 ≤ v.toInt + 1; omega) (by show v.toInt + 1 < 2147483648; omega)
                refine lv_iinc (v := x_45) (lv' := [(3, .int x_45), (0, .ref oM), (1, .int a), (2, .int b)]) hx hb dX12_safe_130 hl (k := 0) rfl (by rw [ex_45]; rfl) (by decide) rfl (fun ls hl => ?_)
                refine lv_goto (tgt := 35) hx hb dX12_safe_133 (by decide) ?_
                exact ih_35 x_45 _ _ _ (ms_lt hm_35 (by show ((256 - x_45.toInt : Int)) < 256 - v.toInt; omega) (by show (0 : Int) < 256 - v.toInt; omega)) (by show 0 ≤ x_45.toInt ∧ x_45.toInt ≤ 256; omega) hP hD hS (lv_sub hl [0, 1, 2, 3] rfl)
        exact LOOP_35 _ 0 _ _ _ (ms_s _) (by decide) hP hD hS (lv_sub hl [0, 1, 2, 3] rfl)
      · have tc_5 : a.toInt = b.toInt := v_eq c_5
        refine lv_iconst (v := 1) hx hb dX12_safe_31 (by decide) ?_
        have hP9 := hP.sub (ws' := [(oM, .inr (12, [.ref mT, .int zt, .ref mS, .ref mX, .int zp, .int zf, .ref mL, .ref mB, .ref mD, .ref m1, .ref m2, .int zh, .ref mR, .int zr, .ref x1, .ref x2, .ref x3, .int zc, .ref mH, .int zy, .int za, .int zb, .int zs, .int zq, .int (-1), .int 0, .ref mY, .int zn, .ref mE, .int zm, .int zl, .ref mW, .int zk, .ref mO, .int zd, .ref y1, .ref y2, .ref y3, .ref y4, .ref mZ])), (mL, .inl (cI, 512, .inl eL))]) [0, 1] rfl
        have hD9 := hD.sub (ws' := [(oM, .inr (12, [.ref mT, .int zt, .ref mS, .ref mX, .int zp, .int zf, .ref mL, .ref mB, .ref mD, .ref m1, .ref m2, .int zh, .ref mR, .int zr, .ref x1, .ref x2, .ref x3, .int zc, .ref mH, .int zy, .int za, .int zb, .int zs, .int zq, .int (-1), .int 0, .ref mY, .int zn, .ref mE, .int zm, .int zl, .ref mW, .int zk, .ref mO, .int zd, .ref y1, .ref y2, .ref y3, .ref y4, .ref mZ])), (mL, .inl (cI, 512, .inl eL))]) [0, 1] (by decide +kernel) rfl
        rw [hQQ]
        exact W.iret (v := 1) hx hb hr (fun t ht hW => ⟨⟨1, 1, rfl, rfl, ⟨0, (-1), by rw [ht]; exact hP9, hD9⟩⟩, hS.F ht⟩) hS.2.2 dX12_safe_32
    · have tc_4 : r_3.toInt = 0 := v_eq c_4
      refine lv_iconst (v := (-1)) hx hb dX12_safe_24 (by decide) ?_
      have hP9 := hP.sub (ws' := [(oM, .inr (12, [.ref mT, .int zt, .ref mS, .ref mX, .int zp, .int zf, .ref mL, .ref mB, .ref mD, .ref m1, .ref m2, .int zh, .ref mR, .int zr, .ref x1, .ref x2, .ref x3, .int zc, .ref mH, .int zy, .int za, .int zb, .int zs, .int zq, .int (-1), .int 0, .ref mY, .int zn, .ref mE, .int zm, .int zl, .ref mW, .int zk, .ref mO, .int zd, .ref y1, .ref y2, .ref y3, .ref y4, .ref mZ])), (mL, .inl (cI, 512, .inl eL))]) [0, 1] rfl
      have hD9 := hD.sub (ws' := [(oM, .inr (12, [.ref mT, .int zt, .ref mS, .ref mX, .int zp, .int zf, .ref mL, .ref mB, .ref mD, .ref m1, .ref m2, .int zh, .ref mR, .int zr, .ref x1, .ref x2, .ref x3, .int zc, .ref mH, .int zy, .int za, .int zb, .int zs, .int zq, .int (-1), .int 0, .ref mY, .int zn, .ref mE, .int zm, .int zl, .ref mW, .int zk, .ref mO, .int zd, .ref y1, .ref y2, .ref y3, .ref y4, .ref mZ])), (mL, .inl (cI, 512, .inl eL))]) [0, 1] (by decide +kernel) rfl
      rw [hQQ]
      exact W.iret (v := (-1)) hx hb hr (fun t ht hW => ⟨⟨(-1), (-1), rfl, rfl, ⟨0, (-1), by rw [ht]; exact hP9, hD9⟩⟩, hS.F ht⟩) hS.2.2 dX12_safe_25

set_option maxHeartbeats 40000000 in
set_option maxRecDepth 100000 in
theorem m_X12_makes (l : Launch) (dC : Nat → ClassId) (dI : Nat → Nat → Nat) (cI cS : ClassId) (sz : Nat) (oM : Nat) (mT : Nat) (mS : Nat) (mX : Nat) (mL : Nat) (mB : Nat) (mD : Nat) (m1 : Nat) (m2 : Nat) (mR : Nat) (x1 : Nat) (x2 : Nat) (x3 : Nat) (mH : Nat) (mY : Nat) (mE : Nat) (mW : Nat) (mO : Nat) (y1 : Nat) (y2 : Nat) (y3 : Nat) (y4 : Nat) (mZ : Nat) (zt : Int32) (zp : Int32) (zf : Int32) (zh : Int32) (zr : Int32) (zc : Int32) (zy : Int32) (za : Int32) (zb : Int32) (zs : Int32) (zq : Int32) (zw : Int32) (ze : Int32) (zn : Int32) (zm : Int32) (zl : Int32) (zk : Int32) (zd : Int32) (eY : Nat → Int32) (eB : Nat → Int32) (eL : Nat → Int32) (eE : Nat → Int32) (eW : Nat → Int32) (eO : Nat → Int32) (eS : Nat → Int32) (eX : Nat → Int32) (e1 : Nat → Int32) (e2 : Nat → Int32) (co : Int32) (my : Int32) (g_zt : 0 ≤ zt.toInt ∧ zt.toInt ≤ 900) (g_zp : 0 ≤ zp.toInt ∧ zp.toInt ≤ 20) (g_zf : 0 ≤ zf.toInt ∧ zf.toInt ≤ 19) (g_zh : 0 ≤ zh.toInt ∧ zh.toInt ≤ 6) (g_zr : 0 ≤ zr.toInt ∧ zr.toInt ≤ 258) (g_zc : 0 ≤ zc.toInt ∧ zc.toInt ≤ 300) (g_zy : 0 ≤ zy.toInt ∧ zy.toInt ≤ 65536) (g_za : 0 ≤ za.toInt ∧ za.toInt ≤ 5) (g_zb : 0 ≤ zb.toInt ∧ zb.toInt ≤ 5) (g_zs : 0 ≤ zs.toInt ∧ zs.toInt ≤ 2000000) (g_zq : -1 ≤ zq.toInt ∧ zq.toInt ≤ 2000000) (g_zn : 0 ≤ zn.toInt ∧ zn.toInt ≤ 2600) (g_zm : 0 ≤ zm.toInt ∧ zm.toInt ≤ 2600) (g_zk : 0 ≤ zk.toInt ∧ zk.toInt ≤ 300) (g_eY : rg 0 255 eY) (g_eB : rg (-1) 255 eB) (g_eL : rg (-1) 65535 eL) (g_eE : rg 0 65535 eE) (g_eW : rg 0 65535 eW) (g_eO : rg 0 65535 eO) (g_eS : rg 0 300 eS) (g_eX : rg 0 65535 eX) (g_e1 : rg 0 5 e1) (g_e2 : rg 0 5 e2) (g_co : 0 ≤ co.toInt ∧ co.toInt ≤ 1000) (g_my : 0 ≤ my.toInt ∧ my.toInt ≤ 3) (hzh : 1 ≤ zh.toInt) : Met l yX12_makes wsX12_makes ({ frames := 5, cells := 0, slots := 0, locals := 120 } : Room) (va_Pc [.ref oM, .int co, .int my] (fun U => U.heap.size = sz ∧ va_P (dC, dI) vwCl [(oM, .inr (12, [.ref mT, .int zt, .ref mS, .ref mX, .int zp, .int zf, .ref mL, .ref mB, .ref mD, .ref m1, .ref m2, .int zh, .ref mR, .int zr, .ref x1, .ref x2, .ref x3, .int zc, .ref mH, .int zy, .int za, .int zb, .int zs, .int zq, .int zw, .int ze, .ref mY, .int zn, .ref mE, .int zm, .int zl, .ref mW, .int zk, .ref mO, .int zd, .ref y1, .ref y2, .ref y3, .ref y4, .ref mZ])), (mY, .inl (cI, 2600, .inl eY)), (mB, .inl (cS, 131072, .inl eB)), (mL, .inl (cI, 512, .inl eL)), (mE, .inl (cI, 2600, .inl eE)), (mW, .inl (cI, 300, .inl eW)), (mO, .inl (cI, 300, .inl eO)), (mS, .inl (cI, 21, .inl eS)), (mX, .inl (cI, 6300, .inl eX)), (m1, .inl (cI, 6, .inl e1)), (m2, .inl (cI, 6, .inl e2))] U.heap ∧ va_K (dC, dI) vwCl [(cI, .int), (cS, .short)] U ∧ va_D (fun _ => True) [(oM, .inr (12, [.ref mT, .int zt, .ref mS, .ref mX, .int zp, .int zf, .ref mL, .ref mB, .ref mD, .ref m1, .ref m2, .int zh, .ref mR, .int zr, .ref x1, .ref x2, .ref x3, .int zc, .ref mH, .int zy, .int za, .int zb, .int zs, .int zq, .int zw, .int ze, .ref mY, .int zn, .ref mE, .int zm, .int zl, .ref mW, .int zk, .ref mO, .int zd, .ref y1, .ref y2, .ref y3, .ref y4, .ref mZ])), (mY, .inl (cI, 2600, .inl eY)), (mB, .inl (cS, 131072, .inl eB)), (mL, .inl (cI, 512, .inl eL)), (mE, .inl (cI, 2600, .inl eE)), (mW, .inl (cI, 300, .inl eW)), (mO, .inl (cI, 300, .inl eO)), (mS, .inl (cI, 21, .inl eS)), (mX, .inl (cI, 6300, .inl eX)), (m1, .inl (cI, 6, .inl e1)), (m2, .inl (cI, 6, .inl e2))])) (va_Qi (fun (r : Int32) (u : Int32) => r = u) (fun (r : Int32) t => ∃ (zn' : Int32) (eY' : Nat → Int32) (zd' : Int32) (zm' : Int32) (zl' : Int32) (eE' : Nat → Int32) (zk' : Int32) (eW' : Nat → Int32) (eO' : Nat → Int32), va_P (dC, dI) vwCl [(oM, .inr (12, [.ref mT, .int zt, .ref mS, .ref mX, .int zp, .int zf, .ref mL, .ref mB, .ref mD, .ref m1, .ref m2, .int zh, .ref mR, .int zr, .ref x1, .ref x2, .ref x3, .int zc, .ref mH, .int zy, .int za, .int zb, .int zs, .int zq, .int zw, .int ze, .ref mY, .int zn', .ref mE, .int zm', .int zl', .ref mW, .int zk', .ref mO, .int zd', .ref y1, .ref y2, .ref y3, .ref y4, .ref mZ])), (mY, .inl (cI, 2600, .inl eY')), (mB, .inl (cS, 131072, .inl eB)), (mL, .inl (cI, 512, .inl eL)), (mE, .inl (cI, 2600, .inl eE')), (mW, .inl (cI, 300, .inl eW')), (mO, .inl (cI, 300, .inl eO')), (mS, .inl (cI, 21, .inl eS)), (mX, .inl (cI, 6300, .inl eX)), (m1, .inl (cI, 6, .inl e1)), (m2, .inl (cI, 6, .inl e2))] t.heap ∧ va_D (va_A [(oM, .inr (12, [.ref mT, .int zt, .ref mS, .ref mX, .int zp, .int zf, .ref mL, .ref mB, .ref mD, .ref m1, .ref m2, .int zh, .ref mR, .int zr, .ref x1, .ref x2, .ref x3, .int zc, .ref mH, .int zy, .int za, .int zb, .int zs, .int zq, .int zw, .int ze, .ref mY, .int zn, .ref mE, .int zm, .int zl, .ref mW, .int zk, .ref mO, .int zd, .ref y1, .ref y2, .ref y3, .ref y4, .ref mZ])), (mY, .inl (cI, 2600, .inl eY)), (mB, .inl (cS, 131072, .inl eB)), (mL, .inl (cI, 512, .inl eL)), (mE, .inl (cI, 2600, .inl eE)), (mW, .inl (cI, 300, .inl eW)), (mO, .inl (cI, 300, .inl eO)), (mS, .inl (cI, 21, .inl eS)), (mX, .inl (cI, 6300, .inl eX)), (m1, .inl (cI, 6, .inl e1)), (m2, .inl (cI, 6, .inl e2))] sz) [(oM, .inr (12, [.ref mT, .int zt, .ref mS, .ref mX, .int zp, .int zf, .ref mL, .ref mB, .ref mD, .ref m1, .ref m2, .int zh, .ref mR, .int zr, .ref x1, .ref x2, .ref x3, .int zc, .ref mH, .int zy, .int za, .int zb, .int zs, .int zq, .int zw, .int ze, .ref mY, .int zn', .ref mE, .int zm', .int zl', .ref mW, .int zk', .ref mO, .int zd', .ref y1, .ref y2, .ref y3, .ref y4, .ref mZ])), (mY, .inl (cI, 2600, .inl eY')), (mB, .inl (cS, 131072, .inl eB)), (mL, .inl (cI, 512, .inl eL)), (mE, .inl (cI, 2600, .inl eE')), (mW, .inl (cI, 300, .inl eW')), (mO, .inl (cI, 300, .inl eO')), (mS, .inl (cI, 21, .inl eS)), (mX, .inl (cI, 6300, .inl eX)), (m1, .inl (cI, 6, .inl e1)), (m2, .inl (cI, 6, .inl e2))] ∧ (0 ≤ zn'.toInt ∧ zn'.toInt ≤ 2600) ∧ (rg 0 255 eY') ∧ (0 ≤ zm'.toInt ∧ zm'.toInt ≤ 2600) ∧ (rg 0 65535 eE') ∧ (0 ≤ zk'.toInt ∧ zk'.toInt ≤ 300) ∧ (rg 0 65535 eW') ∧ (rg 0 65535 eO') ∧ (0 ≤ r.toInt ∧ r.toInt ≤ 1)) (va_A [(oM, .inr (12, [.ref mT, .int zt, .ref mS, .ref mX, .int zp, .int zf, .ref mL, .ref mB, .ref mD, .ref m1, .ref m2, .int zh, .ref mR, .int zr, .ref x1, .ref x2, .ref x3, .int zc, .ref mH, .int zy, .int za, .int zb, .int zs, .int zq, .int zw, .int ze, .ref mY, .int zn, .ref mE, .int zm, .int zl, .ref mW, .int zk, .ref mO, .int zd, .ref y1, .ref y2, .ref y3, .ref y4, .ref mZ])), (mY, .inl (cI, 2600, .inl eY)), (mB, .inl (cS, 131072, .inl eB)), (mL, .inl (cI, 512, .inl eL)), (mE, .inl (cI, 2600, .inl eE)), (mW, .inl (cI, 300, .inl eW)), (mO, .inl (cI, 300, .inl eO)), (mS, .inl (cI, 21, .inl eS)), (mX, .inl (cI, 6300, .inl eX)), (m1, .inl (cI, 6, .inl e1)), (m2, .inl (cI, 6, .inl e2))] sz)) 0 0 (va_A [(oM, .inr (12, [.ref mT, .int zt, .ref mS, .ref mX, .int zp, .int zf, .ref mL, .ref mB, .ref mD, .ref m1, .ref m2, .int zh, .ref mR, .int zr, .ref x1, .ref x2, .ref x3, .int zc, .ref mH, .int zy, .int za, .int zb, .int zs, .int zq, .int zw, .int ze, .ref mY, .int zn, .ref mE, .int zm, .int zl, .ref mW, .int zk, .ref mO, .int zd, .ref y1, .ref y2, .ref y3, .ref y4, .ref mZ])), (mY, .inl (cI, 2600, .inl eY)), (mB, .inl (cS, 131072, .inl eB)), (mL, .inl (cI, 512, .inl eL)), (mE, .inl (cI, 2600, .inl eE)), (mW, .inl (cI, 300, .inl eW)), (mO, .inl (cI, 300, .inl eO)), (mS, .inl (cI, 21, .inl eS)), (mX, .inl (cI, 6300, .inl eX)), (m1, .inl (cI, 6, .inl e1)), (m2, .inl (cI, 6, .inl e2))] sz) := by
  refine Met.ofW (cc := cX12_makes) (maxL := 6) (ret := (some .boolean)) (by decide) rfl ?_
  intro p e s m args below meth c s₁ B hml hv
  obtain ⟨rfl, hsz, hP, hK, hD0⟩ := hv
  have hx := B.exec
  have hb := B.bytes
  have hr := B.returns
  have hts := atoms_spec (ws := wsX12_makes) B.pre
  have hown : s.vm.findClass RX12 = some m.cls := findClass_of_methodNamed B.named
  have hlocks := B.notSynchronized
  have in_X12 : ∀ w ∈ wsX120, w ∈ wsX12_makes := fun _ h => List.mem_cons_of_mem _ (List.mem_append_right _ (h))
  subst hsz
  have hD := hD0.self (sz := s.heap.size)
  generalize hAe : va_A [(oM, .inr (12, [.ref mT, .int zt, .ref mS, .ref mX, .int zp, .int zf, .ref mL, .ref mB, .ref mD, .ref m1, .ref m2, .int zh, .ref mR, .int zr, .ref x1, .ref x2, .ref x3, .int zc, .ref mH, .int zy, .int za, .int zb, .int zs, .int zq, .int zw, .int ze, .ref mY, .int zn, .ref mE, .int zm, .int zl, .ref mW, .int zk, .ref mO, .int zd, .ref y1, .ref y2, .ref y3, .ref y4, .ref mZ])), (mY, .inl (cI, 2600, .inl eY)), (mB, .inl (cS, 131072, .inl eB)), (mL, .inl (cI, 512, .inl eL)), (mE, .inl (cI, 2600, .inl eE)), (mW, .inl (cI, 300, .inl eW)), (mO, .inl (cI, 300, .inl eO)), (mS, .inl (cI, 21, .inl eS)), (mX, .inl (cI, 6300, .inl eX)), (m1, .inl (cI, 6, .inl e1)), (m2, .inl (cI, 6, .inl e2))] s.heap.size = A at hD ⊢
  have hA : ∀ q : Nat, s.heap.size ≤ q → A q := fun q h => by rw [← hAe]; exact Or.inr h
  have hS : va_S A s.heap s.heap [] := va_S.rf
  have hP : va_P (dC, dI) vwCl [(oM, .inr (12, [.ref mT, .int zt, .ref mS, .ref mX, .int zp, .int zf, .ref mL, .ref mB, .ref mD, .ref m1, .ref m2, .int zh, .ref mR, .int zr, .ref x1, .ref x2, .ref x3, .int zc, .ref mH, .int zy, .int za, .int zb, .int zs, .int zq, .int zw, .int ze, .ref mY, .int zn, .ref mE, .int zm, .int zl, .ref mW, .int zk, .ref mO, .int zd, .ref y1, .ref y2, .ref y3, .ref y4, .ref mZ])), (mY, .inl (cI, 2600, .inl eY)), (mB, .inl (cS, 131072, .inl eB)), (mL, .inl (cI, 512, .inl eL)), (mE, .inl (cI, 2600, .inl eE)), (mW, .inl (cI, 300, .inl eW)), (mO, .inl (cI, 300, .inl eO)), (mS, .inl (cI, 21, .inl eS)), (mX, .inl (cI, 6300, .inl eX)), (m1, .inl (cI, 6, .inl e1)), (m2, .inl (cI, 6, .inl e2))] s.heap := hP
  have hl := lv_entry ([.ref oM, .int co, .int my]) (n := 6) (Nat.le_of_ble_eq_true rfl)
  rw [lg_entry_eq]
  generalize (lg_sl ([.ref oM, .int co, .int my]) ++ List.replicate (6 - (lg_sl ([.ref oM, .int co, .int my])).length) Slot.unset).toArray = ls at hl ⊢
  have hl : lv_has ls 6 [(0, .ref oM), (1, .int co), (2, .int my)] := hl
  obtain ⟨QQ, hQQ⟩ : ∃ QQ : Array Value → State → Outcome → State → Prop, QQ = va_Qi (fun (r : Int32) (u : Int32) => r = u) (fun (r : Int32) t => ∃ (zn' : Int32) (eY' : Nat → Int32) (zd' : Int32) (zm' : Int32) (zl' : Int32) (eE' : Nat → Int32) (zk' : Int32) (eW' : Nat → Int32) (eO' : Nat → Int32), va_P (dC, dI) vwCl [(oM, .inr (12, [.ref mT, .int zt, .ref mS, .ref mX, .int zp, .int zf, .ref mL, .ref mB, .ref mD, .ref m1, .ref m2, .int zh, .ref mR, .int zr, .ref x1, .ref x2, .ref x3, .int zc, .ref mH, .int zy, .int za, .int zb, .int zs, .int zq, .int zw, .int ze, .ref mY, .int zn', .ref mE, .int zm', .int zl', .ref mW, .int zk', .ref mO, .int zd', .ref y1, .ref y2, .ref y3, .ref y4, .ref mZ])), (mY, .inl (cI, 2600, .inl eY')), (mB, .inl (cS, 131072, .inl eB)), (mL, .inl (cI, 512, .inl eL)), (mE, .inl (cI, 2600, .inl eE')), (mW, .inl (cI, 300, .inl eW')), (mO, .inl (cI, 300, .inl eO')), (mS, .inl (cI, 21, .inl eS)), (mX, .inl (cI, 6300, .inl eX)), (m1, .inl (cI, 6, .inl e1)), (m2, .inl (cI, 6, .inl e2))] t.heap ∧ va_D A [(oM, .inr (12, [.ref mT, .int zt, .ref mS, .ref mX, .int zp, .int zf, .ref mL, .ref mB, .ref mD, .ref m1, .ref m2, .int zh, .ref mR, .int zr, .ref x1, .ref x2, .ref x3, .int zc, .ref mH, .int zy, .int za, .int zb, .int zs, .int zq, .int zw, .int ze, .ref mY, .int zn', .ref mE, .int zm', .int zl', .ref mW, .int zk', .ref mO, .int zd', .ref y1, .ref y2, .ref y3, .ref y4, .ref mZ])), (mY, .inl (cI, 2600, .inl eY')), (mB, .inl (cS, 131072, .inl eB)), (mL, .inl (cI, 512, .inl eL)), (mE, .inl (cI, 2600, .inl eE')), (mW, .inl (cI, 300, .inl eW')), (mO, .inl (cI, 300, .inl eO')), (mS, .inl (cI, 21, .inl eS)), (mX, .inl (cI, 6300, .inl eX)), (m1, .inl (cI, 6, .inl e1)), (m2, .inl (cI, 6, .inl e2))] ∧ (0 ≤ zn'.toInt ∧ zn'.toInt ≤ 2600) ∧ (rg 0 255 eY') ∧ (0 ≤ zm'.toInt ∧ zm'.toInt ≤ 2600) ∧ (rg 0 65535 eE') ∧ (0 ≤ zk'.toInt ∧ zk'.toInt ≤ 300) ∧ (rg 0 65535 eW') ∧ (rg 0 65535 eO') ∧ (0 ≤ r.toInt ∧ r.toInt ≤ 1)) A := ⟨_, rfl⟩
  rw [← hQQ]
  refine lv_aload_n hx hb dX12_makes_0 rfl (lv_at hl 0 rfl) ?_
  have hPc := hP.sub (ws' := [(oM, .inr (12, [.ref mT, .int zt, .ref mS, .ref mX, .int zp, .int zf, .ref mL, .ref mB, .ref mD, .ref m1, .ref m2, .int zh, .ref mR, .int zr, .ref x1, .ref x2, .ref x3, .int zc, .ref mH, .int zy, .int za, .int zb, .int zs, .int zq, .int zw, .int ze, .ref mY, .int zn, .ref mE, .int zm, .int zl, .ref mW, .int zk, .ref mO, .int zd, .ref y1, .ref y2, .ref y3, .ref y4, .ref mZ])), (mS, .inl (cI, 21, .inl eS)), (mX, .inl (cI, 6300, .inl eX)), (mW, .inl (cI, 300, .inl eW))]) [0, 7, 8, 5] rfl
  have hDc := hD.sub (ws' := [(oM, .inr (12, [.ref mT, .int zt, .ref mS, .ref mX, .int zp, .int zf, .ref mL, .ref mB, .ref mD, .ref m1, .ref m2, .int zh, .ref mR, .int zr, .ref x1, .ref x2, .ref x3, .int zc, .ref mH, .int zy, .int za, .int zb, .int zs, .int zq, .int zw, .int ze, .ref mY, .int zn, .ref mE, .int zm, .int zl, .ref mW, .int zk, .ref mO, .int zd, .ref y1, .ref y2, .ref y3, .ref y4, .ref mZ])), (mS, .inl (cI, 21, .inl eS)), (mX, .inl (cI, 6300, .inl eX)), (mW, .inl (cI, 300, .inl eW))]) [0, 7, 8, 5] (by decide +kernel) rfl
  have hFc := va_free (wc := [(oM, .inr (12, [.ref mT, .int zt, .ref mS, .ref mX, .int zp, .int zf, .ref mL, .ref mB, .ref mD, .ref m1, .ref m2, .int zh, .ref mR, .int zr, .ref x1, .ref x2, .ref x3, .int zc, .ref mH, .int zy, .int za, .int zb, .int zs, .int zq, .int zw, .int ze, .ref mY, .int zn, .ref mE, .int zm, .int zl, .ref mW, .int zk, .ref mO, .int zd, .ref y1, .ref y2, .ref y3, .ref y4, .ref mZ])), (mS, .inl (cI, 21, .inl eS)), (mX, .inl (cI, 6300, .inl eX)), (mW, .inl (cI, 300, .inl eW))]) hD hS hA [0, 7, 8, 5] rfl
  refine va_callv (va_runV (As := []) (rest := []) ⟨hx, hb, hml, hown, hts⟩ (m_X12_takeText l dC dI cI cS s.heap.size oM mT mS mX mL mB mD m1 m2 mR x1 x2 x3 mH mY mE mW mO y1 y2 y3 y4 mZ zt zp zf zh zr zc zy za zb zs zq zw ze zn zm zl zk zd eS eX eW (g_zt) (g_zp) (g_zf) (g_zh) (g_zr) (g_zc) (g_zy) (g_za) (g_zb) (g_zs) (g_zq) (g_zn) (g_zm) (g_zk) (g_eS) (g_eX) (g_eW)) (cwV 0 hts gX12_makes_X12_takeText rfl rfl rfl (by decide +kernel) ⟨Nat.le_of_ble_eq_true rfl, Nat.le_of_ble_eq_true rfl⟩) ⟨fun a U g mk q => by obtain ⟨q0, q1, qP, qK, qD⟩ := q; exact ⟨q0, q1, qP, va_K.moved (u := U) (U := U.calling g mk a) (Vm.Alike.refl U.vm) qK, qD⟩, va_recv hK hPc (ci := 12) (q0 := 0) rfl rfl, fun U hU hW => ⟨rfl, by rw [hU], by rw [hU]; exact hPc, va_K.moved hW.alike hK, hDc.weaken (fun _ _ _ _ => trivial)⟩⟩ rfl rfl hl.1 rfl (lv_room (Nat.le_of_ble_eq_true rfl)) dX12_makes_1 ⟨Nat.le_of_ble_eq_true rfl, Nat.le_of_ble_eq_true rfl⟩) hS (fun q _ h => hFc q h) hFc (fun u t H1 locs ht hvm hw hB hz1 hk1 hSn => ?_)
  obtain ⟨zk_1, eW_1, hP1, hD1, hf1_0, hf1_1⟩ := hB
  rw [ht] at hP1
  obtain ⟨hPn, hDn⟩ := va_join (wr := [(mY, .inl (cI, 2600, .inl eY)), (mB, .inl (cS, 131072, .inl eB)), (mL, .inl (cI, 512, .inl eL)), (mE, .inl (cI, 2600, .inl eE)), (mO, .inl (cI, 300, .inl eO)), (m1, .inl (cI, 6, .inl e1)), (m2, .inl (cI, 6, .inl e2))]) (w1 := [(oM, .inr (12, [.ref mT, .int zt, .ref mS, .ref mX, .int zp, .int zf, .ref mL, .ref mB, .ref mD, .ref m1, .ref m2, .int zh, .ref mR, .int zr, .ref x1, .ref x2, .ref x3, .int zc, .ref mH, .int zy, .int za, .int zb, .int zs, .int zq, .int zw, .int ze, .ref mY, .int zn, .ref mE, .int zm, .int zl, .ref mW, .int zk_1, .ref mO, .int zd, .ref y1, .ref y2, .ref y3, .ref y4, .ref mZ])), (mS, .inl (cI, 21, .inl eS)), (mX, .inl (cI, 6300, .inl eX)), (mW, .inl (cI, 300, .inl eW_1))]) hP hD [0, 7, 8, 5] [1, 2, 3, 4, 6, 9, 10] rfl rfl (by decide +kernel) (by decide +kernel) hk1 hFc hP1 hD1
  clear hP hD hS hPc hDc hFc hk1 hz1 hvm ht hP1 hD1
  generalize H1 = H at hPn hSn ⊢
  have hP : va_P (dC, dI) vwCl [(mY, .inl (cI, 2600, .inl eY)), (mB, .inl (cS, 131072, .inl eB)), (mL, .inl (cI, 512, .inl eL)), (mE, .inl (cI, 2600, .inl eE)), (mO, .inl (cI, 300, .inl eO)), (m1, .inl (cI, 6, .inl e1)), (m2, .inl (cI, 6, .inl e2)), (oM, .inr (12, [.ref mT, .int zt, .ref mS, .ref mX, .int zp, .int zf, .ref mL, .ref mB, .ref mD, .ref m1, .ref m2, .int zh, .ref mR, .int zr, .ref x1, .ref x2, .ref x3, .int zc, .ref mH, .int zy, .int za, .int zb, .int zs, .int zq, .int zw, .int ze, .ref mY, .int zn, .ref mE, .int zm, .int zl, .ref mW, .int zk_1, .ref mO, .int zd, .ref y1, .ref y2, .ref y3, .ref y4, .ref mZ])), (mS, .inl (cI, 21, .inl eS)), (mX, .inl (cI, 6300, .inl eX)), (mW, .inl (cI, 300, .inl eW_1))] H := hPn
  have hD : va_D A [(mY, .inl (cI, 2600, .inl eY)), (mB, .inl (cS, 131072, .inl eB)), (mL, .inl (cI, 512, .inl eL)), (mE, .inl (cI, 2600, .inl eE)), (mO, .inl (cI, 300, .inl eO)), (m1, .inl (cI, 6, .inl e1)), (m2, .inl (cI, 6, .inl e2)), (oM, .inr (12, [.ref mT, .int zt, .ref mS, .ref mX, .int zp, .int zf, .ref mL, .ref mB, .ref mD, .ref m1, .ref m2, .int zh, .ref mR, .int zr, .ref x1, .ref x2, .ref x3, .int zc, .ref mH, .int zy, .int za, .int zb, .int zs, .int zq, .int zw, .int ze, .ref mY, .int zn, .ref mE, .int zm, .int zl, .ref mW, .int zk_1, .ref mO, .int zd, .ref y1, .ref y2, .ref y3, .ref y4, .ref mZ])), (mS, .inl (cI, 21, .inl eS)), (mX, .inl (cI, 6300, .inl eX)), (mW, .inl (cI, 300, .inl eW_1))] := hDn
  have hS := hSn
  clear hPn hDn hSn
  refine lv_iload_n hx hb dX12_makes_4 rfl (lv_at hl 1 rfl) ?_
  refine lv_istore_n (lv' := [(3, .int co), (0, .ref oM), (1, .int co), (2, .int my)]) hx hb dX12_makes_5 rfl hl (by decide) rfl (fun ls hl => ?_)
  refine lv_iconst (v := 0) hx hb dX12_makes_6 (by decide) ?_
  refine lv_istore (lv' := [(4, .int 0), (3, .int co), (0, .ref oM), (1, .int co), (2, .int my)]) hx hb dX12_makes_7 hl (by decide) rfl (fun ls hl => ?_)
  have LOOP_9 : ∀ (k_9 : Nat) (cc_ : Int32) (k : Int32) (zna : Int32) (zda : Int32) (zma : Int32) (zla : Int32) (zka : Int32) (eYa : Nat → Int32) (eEa : Nat → Int32) (eWa : Nat → Int32) (eOa : Nat → Int32) (H : Heap) (locs : List Loc) (ls : Array Slot), MSd (3 - k.toInt : Int) k_9 → (0 ≤ cc_.toInt ∧ cc_.toInt ≤ 1000) → (0 ≤ k.toInt ∧ k.toInt ≤ 3) → (0 ≤ zna.toInt ∧ zna.toInt ≤ 2600) → (0 ≤ zma.toInt ∧ zma.toInt ≤ 2600) → (0 ≤ zka.toInt ∧ zka.toInt ≤ 300) → (rg 0 255 eYa) → (rg 0 65535 eEa) → (rg 0 65535 eWa) → (rg 0 65535 eOa) → va_P (dC, dI) vwCl [(mY, .inl (cI, 2600, .inl eYa)), (mB, .inl (cS, 131072, .inl eB)), (mL, .inl (cI, 512, .inl eL)), (mE, .inl (cI, 2600, .inl eEa)), (mO, .inl (cI, 300, .inl eOa)), (m1, .inl (cI, 6, .inl e1)), (m2, .inl (cI, 6, .inl e2)), (oM, .inr (12, [.ref mT, .int zt, .ref mS, .ref mX, .int zp, .int zf, .ref mL, .ref mB, .ref mD, .ref m1, .ref m2, .int zh, .ref mR, .int zr, .ref x1, .ref x2, .ref x3, .int zc, .ref mH, .int zy, .int za, .int zb, .int zs, .int zq, .int zw, .int ze, .ref mY, .int zna, .ref mE, .int zma, .int zla, .ref mW, .int zka, .ref mO, .int zda, .ref y1, .ref y2, .ref y3, .ref y4, .ref mZ])), (mS, .inl (cI, 21, .inl eS)), (mX, .inl (cI, 6300, .inl eX)), (mW, .inl (cI, 300, .inl eWa))] H → va_D A [(mY, .inl (cI, 2600, .inl eYa)), (mB, .inl (cS, 131072, .inl eB)), (mL, .inl (cI, 512, .inl eL)), (mE, .inl (cI, 2600, .inl eEa)), (mO, .inl (cI, 300, .inl eOa)), (m1, .inl (cI, 6, .inl e1)), (m2, .inl (cI, 6, .inl e2)), (oM, .inr (12, [.ref mT, .int zt, .ref mS, .ref mX, .int zp, .int zf, .ref mL, .ref mB, .ref mD, .ref m1, .ref m2, .int zh, .ref mR, .int zr, .ref x1, .ref x2, .ref x3, .int zc, .ref mH, .int zy, .int za, .int zb, .int zs, .int zq, .int zw, .int ze, .ref mY, .int zna, .ref mE, .int zma, .int zla, .ref mW, .int zka, .ref mO, .int zda, .ref y1, .ref y2, .ref y3, .ref y4, .ref mZ])), (mS, .inl (cI, 21, .inl eS)), (mX, .inl (cI, 6300, .inl eX)), (mW, .inl (cI, 300, .inl eWa))] → va_S A s.heap H locs → lv_has ls 6 [(4, .int k), (3, .int cc_), (0, .ref oM), (1, .int co), (2, .int my)] → W p l e (headSpec wsX12_makes ({ frames := 5, cells := 0, slots := 0, locals := 120 } : Room)).room s m ([.ref oM, .int co, .int my] : List Value).toArray below meth c H locs 0 0 (MQ below QQ ([.ref oM, .int co, .int my] : List Value).toArray s 0 0 A) (F0 m 9 ls []) := by
    clear hP hD hS hl
    intro k_9
    induction k_9 with
    | zero =>
      intro cc_ k zna zda zma zla zka eYa eEa eWa eOa H locs ls hm_9 g_cc_ g_k g_zna g_zma g_zka g_eYa g_eEa g_eWa g_eOa hP hD hS hl
      exact ms_0 hm_9
    | succ k_9 ih_9 =>
      intro cc_ k zna zda zma zla zka eYa eEa eWa eOa H locs ls hm_9 g_cc_ g_k g_zna g_zma g_zka g_eYa g_eEa g_eWa g_eOa hP hD hS hl
      refine lv_iload hx hb dX12_makes_9 (lv_at hl 0 rfl) ?_
      refine lv_iload_n hx hb dX12_makes_11 rfl (lv_at hl 4 rfl) ?_
      refine lv_icmp_ge (tgt := 59) hx hb dX12_makes_12 (by decide) (fun c_2 => ?_) (fun c_2 => ?_)
      · have tc_2 : my.toInt ≤ k.toInt := v_le c_2
        refine lv_iconst (v := 1) hx hb dX12_makes_59 (by decide) ?_
        have hP9 := hP.sub (ws' := [(oM, .inr (12, [.ref mT, .int zt, .ref mS, .ref mX, .int zp, .int zf, .ref mL, .ref mB, .ref mD, .ref m1, .ref m2, .int zh, .ref mR, .int zr, .ref x1, .ref x2, .ref x3, .int zc, .ref mH, .int zy, .int za, .int zb, .int zs, .int zq, .int zw, .int ze, .ref mY, .int zna, .ref mE, .int zma, .int zla, .ref mW, .int zka, .ref mO, .int zda, .ref y1, .ref y2, .ref y3, .ref y4, .ref mZ])), (mY, .inl (cI, 2600, .inl eYa)), (mB, .inl (cS, 131072, .inl eB)), (mL, .inl (cI, 512, .inl eL)), (mE, .inl (cI, 2600, .inl eEa)), (mW, .inl (cI, 300, .inl eWa)), (mO, .inl (cI, 300, .inl eOa)), (mS, .inl (cI, 21, .inl eS)), (mX, .inl (cI, 6300, .inl eX)), (m1, .inl (cI, 6, .inl e1)), (m2, .inl (cI, 6, .inl e2))]) [7, 0, 1, 2, 3, 10, 4, 8, 9, 5, 6] rfl
        have hD9 := hD.sub (ws' := [(oM, .inr (12, [.ref mT, .int zt, .ref mS, .ref mX, .int zp, .int zf, .ref mL, .ref mB, .ref mD, .ref m1, .ref m2, .int zh, .ref mR, .int zr, .ref x1, .ref x2, .ref x3, .int zc, .ref mH, .int zy, .int za, .int zb, .int zs, .int zq, .int zw, .int ze, .ref mY, .int zna, .ref mE, .int zma, .int zla, .ref mW, .int zka, .ref mO, .int zda, .ref y1, .ref y2, .ref y3, .ref y4, .ref mZ])), (mY, .inl (cI, 2600, .inl eYa)), (mB, .inl (cS, 131072, .inl eB)), (mL, .inl (cI, 512, .inl eL)), (mE, .inl (cI, 2600, .inl eEa)), (mW, .inl (cI, 300, .inl eWa)), (mO, .inl (cI, 300, .inl eOa)), (mS, .inl (cI, 21, .inl eS)), (mX, .inl (cI, 6300, .inl eX)), (m1, .inl (cI, 6, .inl e1)), (m2, .inl (cI, 6, .inl e2))]) [7, 0, 1, 2, 3, 10, 4, 8, 9, 5, 6] (by decide +kernel) rfl
        rw [hQQ]
        exact W.zret (v := 1) (ty := .boolean) hx hb hr (rfl) (fun t ht hW => ⟨⟨1, 1, rfl, rfl, ⟨zna, eYa, zda, zma, zla, eEa, zka, eWa, eOa, by rw [ht]; exact hP9, hD9, g_zna, g_eYa, g_zma, g_eEa, g_zka, g_eWa, g_eOa, by decide⟩⟩, hS.F ht⟩) hS.2.2 dX12_makes_60
      · have tc_2 : k.toInt < my.toInt := v_nle c_2
        refine lv_iload_n hx hb dX12_makes_15 rfl (lv_at hl 1 rfl) ?_
        refine lv_aload_n hx hb dX12_makes_16 rfl (lv_at hl 2 rfl) ?_
        refine va_get (D := (dC, dI)) (ci := 12) (v := .int zh) (C := RX12) (T := TX12) (N := 40) hx hb hts in_X12 hown hK hP 7 rfl rfl 11 (by decide) (hts (.fieldLink RX12 161 "TextMenderModel" "harms" "I") (List.mem_of_getElem? (i := 1) rfl)) (fun _ h9 => h9) rfl dX12_makes_17 ?_
        refine lv_irem hx hb dX12_makes_20 (v_nz (by omega)) ?_
        refine lv_topi (fun x_3 ex_3 => ?_)
        have tx_3 : 0 ≤ x_3.toInt ∧ x_3.toInt < zh.toInt := v_remr ex_3 (by show 0 ≤ cc_.toInt; omega) (by show 1 ≤ zh.toInt; omega)
        refine lv_istore (lv' := [(5, .int x_3), (4, .int k), (3, .int cc_), (0, .ref oM), (1, .int co), (2, .int my)]) hx hb dX12_makes_21 hl (by decide) rfl (fun ls hl => ?_)
        refine lv_iload_n hx hb dX12_makes_23 rfl (lv_at hl 2 rfl) ?_
        refine lv_aload_n hx hb dX12_makes_24 rfl (lv_at hl 3 rfl) ?_
        refine va_get (D := (dC, dI)) (ci := 12) (v := .int zh) (C := RX12) (T := TX12) (N := 40) hx hb hts in_X12 hown hK hP 7 rfl rfl 11 (by decide) (hts (.fieldLink RX12 161 "TextMenderModel" "harms" "I") (List.mem_of_getElem? (i := 1) rfl)) (fun _ h9 => h9) rfl dX12_makes_25 ?_
        refine lv_idiv hx hb dX12_makes_28 (v_nz (by omega)) ?_
        refine lv_topi (fun x_4 ex_4 => ?_)
        have tx_4 : 0 ≤ x_4.toInt ∧ x_4.toInt ≤ cc_.toInt := v_divr ex_4 (by show 0 ≤ cc_.toInt; omega) (by show 1 ≤ zh.toInt; omega)
        refine lv_istore_n (lv' := [(3, .int x_4), (5, .int x_3), (4, .int k), (0, .ref oM), (1, .int co), (2, .int my)]) hx hb dX12_makes_29 rfl hl (by decide) rfl (fun ls hl => ?_)
        refine lv_aload_n hx hb dX12_makes_30 rfl (lv_at hl 3 rfl) ?_
        refine lv_aload_n hx hb dX12_makes_31 rfl (lv_at hl 3 rfl) ?_
        refine va_get (D := (dC, dI)) (ci := 12) (v := .ref m1) (C := RX12) (T := TX12) (N := 40) hx hb hts in_X12 hown hK hP 7 rfl rfl 9 (by decide) (hts (.fieldLink RX12 30 "TextMenderModel" "harmA" "[I") (List.mem_of_getElem? (i := 2) rfl)) (fun _ h9 => h9) rfl dX12_makes_32 ?_
        refine lv_iload hx hb dX12_makes_35 (lv_at hl 1 rfl) ?_
        refine va_iald hx hb hK hP 5 0 rfl rfl (v_in (by omega)) dX12_makes_37 ?_
        refine lv_topi (fun x_5 ex_5 => ?_)
        have tx_5 : 0 ≤ x_5.toInt ∧ x_5.toInt ≤ 5 := rg_at g_e1 ex_5
        refine lv_aload_n hx hb dX12_makes_38 rfl (lv_at hl 3 rfl) ?_
        refine va_get (D := (dC, dI)) (ci := 12) (v := .ref m2) (C := RX12) (T := TX12) (N := 40) hx hb hts in_X12 hown hK hP 7 rfl rfl 10 (by decide) (hts (.fieldLink RX12 33 "TextMenderModel" "harmB" "[I") (List.mem_of_getElem? (i := 3) rfl)) (fun _ h9 => h9) rfl dX12_makes_39 ?_
        refine lv_iload hx hb dX12_makes_42 (lv_at hl 1 rfl) ?_
        refine va_iald hx hb hK hP 6 0 rfl rfl (v_in (by omega)) dX12_makes_44 ?_
        refine lv_topi (fun x_6 ex_6 => ?_)
        have tx_6 : 0 ≤ x_6.toInt ∧ x_6.toInt ≤ 5 := rg_at g_e2 ex_6
        have hPc := hP.sub (ws' := [(oM, .inr (12, [.ref mT, .int zt, .ref mS, .ref mX, .int zp, .int zf, .ref mL, .ref mB, .ref mD, .ref m1, .ref m2, .int zh, .ref mR, .int zr, .ref x1, .ref x2, .ref x3, .int zc, .ref mH, .int zy, .int za, .int zb, .int zs, .int zq, .int zw, .int ze, .ref mY, .int zna, .ref mE, .int zma, .int zla, .ref mW, .int zka, .ref mO, .int zda, .ref y1, .ref y2, .ref y3, .ref y4, .ref mZ])), (mY, .inl (cI, 2600, .inl eYa)), (mB, .inl (cS, 131072, .inl eB)), (mL, .inl (cI, 512, .inl eL)), (mE, .inl (cI, 2600, .inl eEa)), (mW, .inl (cI, 300, .inl eWa)), (mO, .inl (cI, 300, .inl eOa))]) [7, 0, 1, 2, 3, 10, 4] rfl
        have hDc := hD.sub (ws' := [(oM, .inr (12, [.ref mT, .int zt, .ref mS, .ref mX, .int zp, .int zf, .ref mL, .ref mB, .ref mD, .ref m1, .ref m2, .int zh, .ref mR, .int zr, .ref x1, .ref x2, .ref x3, .int zc, .ref mH, .int zy, .int za, .int zb, .int zs, .int zq, .int zw, .int ze, .ref mY, .int zna, .ref mE, .int zma, .int zla, .ref mW, .int zka, .ref mO, .int zda, .ref y1, .ref y2, .ref y3, .ref y4, .ref mZ])), (mY, .inl (cI, 2600, .inl eYa)), (mB, .inl (cS, 131072, .inl eB)), (mL, .inl (cI, 512, .inl eL)), (mE, .inl (cI, 2600, .inl eEa)), (mW, .inl (cI, 300, .inl eWa)), (mO, .inl (cI, 300, .inl eOa))]) [7, 0, 1, 2, 3, 10, 4] (by decide +kernel) rfl
        have hFc := va_free (wc := [(oM, .inr (12, [.ref mT, .int zt, .ref mS, .ref mX, .int zp, .int zf, .ref mL, .ref mB, .ref mD, .ref m1, .ref m2, .int zh, .ref mR, .int zr, .ref x1, .ref x2, .ref x3, .int zc, .ref mH, .int zy, .int za, .int zb, .int zs, .int zq, .int zw, .int ze, .ref mY, .int zna, .ref mE, .int zma, .int zla, .ref mW, .int zka, .ref mO, .int zda, .ref y1, .ref y2, .ref y3, .ref y4, .ref mZ])), (mY, .inl (cI, 2600, .inl eYa)), (mB, .inl (cS, 131072, .inl eB)), (mL, .inl (cI, 512, .inl eL)), (mE, .inl (cI, 2600, .inl eEa)), (mW, .inl (cI, 300, .inl eWa)), (mO, .inl (cI, 300, .inl eOa))]) hD hS hA [7, 0, 1, 2, 3, 10, 4] rfl
        refine va_calli (va_runV (As := [.int x_5, .int x_6]) (rest := []) ⟨hx, hb, hml, hown, hts⟩ (m_X12_undoes l dC dI cI cS H.size oM mT mS mX mL mB mD m1 m2 mR x1 x2 x3 mH mY mE mW mO y1 y2 y3 y4 mZ zt zp zf zh zr zc zy za zb zs zq zw ze zna zma zla zka zda eYa eB eL eEa eWa eOa x_5 x_6 (g_zt) (g_zp) (g_zf) (g_zh) (g_zr) (g_zc) (g_zy) (g_za) (g_zb) (g_zs) (g_zq) (g_zna) (g_zma) (g_zka) (g_eYa) (g_eB) (g_eL) (g_eEa) (g_eWa) (g_eOa) (by omega) (by omega)) (cwV 2 hts gX12_makes_X12_undoes rfl rfl rfl (by decide +kernel) ⟨Nat.le_of_ble_eq_true rfl, Nat.le_of_ble_eq_true rfl⟩) ⟨fun a U g mk q => by obtain ⟨q0, q1, qP, qK, qD⟩ := q; exact ⟨q0, q1, qP, va_K.moved (u := U) (U := U.calling g mk a) (Vm.Alike.refl U.vm) qK, qD⟩, va_recv hK hPc (ci := 12) (q0 := 0) rfl rfl, fun U hU hW => ⟨rfl, by rw [hU], by rw [hU]; exact hPc, va_K.moved hW.alike hK, hDc.weaken (fun _ _ _ _ => trivial)⟩⟩ rfl rfl hl.1 rfl (lv_room (Nat.le_of_ble_eq_true rfl)) dX12_makes_45 ⟨Nat.le_of_ble_eq_true rfl, Nat.le_of_ble_eq_true rfl⟩) hS (fun q _ h => hFc q h) hFc (fun r_7 u t H1 locs ht hvm hw hB hz1 hk1 hSn => ?_)
        subst hw
        obtain ⟨zn_7, eY_7, zd_7, zm_7, zl_7, eE_7, zk_7, eW_7, eO_7, hP1, hD1, hf7_0, hf7_1, hf7_2, hf7_3, hf7_4, hf7_5, hf7_6, hf7_7⟩ := hB
        rw [ht] at hP1
        obtain ⟨hPn, hDn⟩ := va_join (wr := [(m1, .inl (cI, 6, .inl e1)), (m2, .inl (cI, 6, .inl e2)), (mS, .inl (cI, 21, .inl eS)), (mX, .inl (cI, 6300, .inl eX))]) (w1 := [(oM, .inr (12, [.ref mT, .int zt, .ref mS, .ref mX, .int zp, .int zf, .ref mL, .ref mB, .ref mD, .ref m1, .ref m2, .int zh, .ref mR, .int zr, .ref x1, .ref x2, .ref x3, .int zc, .ref mH, .int zy, .int za, .int zb, .int zs, .int zq, .int zw, .int ze, .ref mY, .int zn_7, .ref mE, .int zm_7, .int zl_7, .ref mW, .int zk_7, .ref mO, .int zd_7, .ref y1, .ref y2, .ref y3, .ref y4, .ref mZ])), (mY, .inl (cI, 2600, .inl eY_7)), (mB, .inl (cS, 131072, .inl eB)), (mL, .inl (cI, 512, .inl eL)), (mE, .inl (cI, 2600, .inl eE_7)), (mW, .inl (cI, 300, .inl eW_7)), (mO, .inl (cI, 300, .inl eO_7))]) hP hD [7, 0, 1, 2, 3, 10, 4] [5, 6, 8, 9] rfl rfl (by decide +kernel) (by decide +kernel) hk1 hFc hP1 hD1
        clear hP hD hS hPc hDc hFc hk1 hz1 hvm ht hP1 hD1
        generalize H1 = H at hPn hSn ⊢
        have hP : va_P (dC, dI) vwCl [(m1, .inl (cI, 6, .inl e1)), (m2, .inl (cI, 6, .inl e2)), (mS, .inl (cI, 21, .inl eS)), (mX, .inl (cI, 6300, .inl eX)), (oM, .inr (12, [.ref mT, .int zt, .ref mS, .ref mX, .int zp, .int zf, .ref mL, .ref mB, .ref mD, .ref m1, .ref m2, .int zh, .ref mR, .int zr, .ref x1, .ref x2, .ref x3, .int zc, .ref mH, .int zy, .int za, .int zb, .int zs, .int zq, .int zw, .int ze, .ref mY, .int zn_7, .ref mE, .int zm_7, .int zl_7, .ref mW, .int zk_7, .ref mO, .int zd_7, .ref y1, .ref y2, .ref y3, .ref y4, .ref mZ])), (mY, .inl (cI, 2600, .inl eY_7)), (mB, .inl (cS, 131072, .inl eB)), (mL, .inl (cI, 512, .inl eL)), (mE, .inl (cI, 2600, .inl eE_7)), (mW, .inl (cI, 300, .inl eW_7)), (mO, .inl (cI, 300, .inl eO_7))] H := hPn
        have hD : va_D A [(m1, .inl (cI, 6, .inl e1)), (m2, .inl (cI, 6, .inl e2)), (mS, .inl (cI, 21, .inl eS)), (mX, .inl (cI, 6300, .inl eX)), (oM, .inr (12, [.ref mT, .int zt, .ref mS, .ref mX, .int zp, .int zf, .ref mL, .ref mB, .ref mD, .ref m1, .ref m2, .int zh, .ref mR, .int zr, .ref x1, .ref x2, .ref x3, .int zc, .ref mH, .int zy, .int za, .int zb, .int zs, .int zq, .int zw, .int ze, .ref mY, .int zn_7, .ref mE, .int zm_7, .int zl_7, .ref mW, .int zk_7, .ref mO, .int zd_7, .ref y1, .ref y2, .ref y3, .ref y4, .ref mZ])), (mY, .inl (cI, 2600, .inl eY_7)), (mB, .inl (cS, 131072, .inl eB)), (mL, .inl (cI, 512, .inl eL)), (mE, .inl (cI, 2600, .inl eE_7)), (mW, .inl (cI, 300, .inl eW_7)), (mO, .inl (cI, 300, .inl eO_7))] := hDn
        have hS := hSn
        clear hPn hDn hSn
        refine lv_if_ne (tgt := 53) hx hb dX12_makes_48 (by decide) (fun c_8 => ?_) (fun c_8 => ?_)
        · have tc_8 : ¬ r_7.toInt = 0 := v_ne c_8
          obtain ⟨x_9, ex_9⟩ : ∃ y : Int32, y = k + 1 := ⟨_, rfl⟩
          have tx_9 : x_9.toInt = k.toInt + 1 := v_add ex_9 (by show -2147483648 ≤ k.toInt + 1; omega) (by show k.toInt + 1 < 2147483648; omega)
          refine lv_iinc (v := x_9) (lv' := [(4, .int x_9), (3, .int x_4), (5, .int x_3), (0, .ref oM), (1, .int co), (2, .int my)]) hx hb dX12_makes_53 hl (k := 2) rfl (by rw [ex_9]; rfl) (by decide) rfl (fun ls hl => ?_)
          refine lv_goto (tgt := 9) hx hb dX12_makes_56 (by decide) ?_
          exact ih_9 x_4 x_9 zn_7 zd_7 zm_7 zl_7 zk_7 eY_7 eE_7 eW_7 eO_7 _ _ _ (ms_lt hm_9 (by show ((3 - x_9.toInt : Int)) < 3 - k.toInt; omega) (by show (0 : Int) < 3 - k.toInt; omega)) (by show 0 ≤ x_4.toInt ∧ x_4.toInt ≤ 1000; omega) (by show 0 ≤ x_9.toInt ∧ x_9.toInt ≤ 3; omega) (hf7_0) (hf7_2) (hf7_4) (hf7_1) (hf7_3) (hf7_5) (hf7_6) (hP.sub [5, 6, 7, 8, 10, 0, 1, 4, 2, 3, 9] rfl) (hD.sub [5, 6, 7, 8, 10, 0, 1, 4, 2, 3, 9] (by decide +kernel) rfl) hS (lv_sub hl [0, 1, 3, 4, 5] rfl)
        · have tc_8 : r_7.toInt = 0 := v_eq c_8
          refine lv_iconst (v := 0) hx hb dX12_makes_51 (by decide) ?_
          have hP9 := hP.sub (ws' := [(oM, .inr (12, [.ref mT, .int zt, .ref mS, .ref mX, .int zp, .int zf, .ref mL, .ref mB, .ref mD, .ref m1, .ref m2, .int zh, .ref mR, .int zr, .ref x1, .ref x2, .ref x3, .int zc, .ref mH, .int zy, .int za, .int zb, .int zs, .int zq, .int zw, .int ze, .ref mY, .int zn_7, .ref mE, .int zm_7, .int zl_7, .ref mW, .int zk_7, .ref mO, .int zd_7, .ref y1, .ref y2, .ref y3, .ref y4, .ref mZ])), (mY, .inl (cI, 2600, .inl eY_7)), (mB, .inl (cS, 131072, .inl eB)), (mL, .inl (cI, 512, .inl eL)), (mE, .inl (cI, 2600, .inl eE_7)), (mW, .inl (cI, 300, .inl eW_7)), (mO, .inl (cI, 300, .inl eO_7)), (mS, .inl (cI, 21, .inl eS)), (mX, .inl (cI, 6300, .inl eX)), (m1, .inl (cI, 6, .inl e1)), (m2, .inl (cI, 6, .inl e2))]) [4, 5, 6, 7, 8, 9, 10, 2, 3, 0, 1] rfl
          have hD9 := hD.sub (ws' := [(oM, .inr (12, [.ref mT, .int zt, .ref mS, .ref mX, .int zp, .int zf, .ref mL, .ref mB, .ref mD, .ref m1, .ref m2, .int zh, .ref mR, .int zr, .ref x1, .ref x2, .ref x3, .int zc, .ref mH, .int zy, .int za, .int zb, .int zs, .int zq, .int zw, .int ze, .ref mY, .int zn_7, .ref mE, .int zm_7, .int zl_7, .ref mW, .int zk_7, .ref mO, .int zd_7, .ref y1, .ref y2, .ref y3, .ref y4, .ref mZ])), (mY, .inl (cI, 2600, .inl eY_7)), (mB, .inl (cS, 131072, .inl eB)), (mL, .inl (cI, 512, .inl eL)), (mE, .inl (cI, 2600, .inl eE_7)), (mW, .inl (cI, 300, .inl eW_7)), (mO, .inl (cI, 300, .inl eO_7)), (mS, .inl (cI, 21, .inl eS)), (mX, .inl (cI, 6300, .inl eX)), (m1, .inl (cI, 6, .inl e1)), (m2, .inl (cI, 6, .inl e2))]) [4, 5, 6, 7, 8, 9, 10, 2, 3, 0, 1] (by decide +kernel) rfl
          rw [hQQ]
          exact W.zret (v := 0) (ty := .boolean) hx hb hr (rfl) (fun t ht hW => ⟨⟨0, 0, rfl, rfl, ⟨zn_7, eY_7, zd_7, zm_7, zl_7, eE_7, zk_7, eW_7, eO_7, by rw [ht]; exact hP9, hD9, hf7_0, hf7_1, hf7_2, hf7_3, hf7_4, hf7_5, hf7_6, by decide⟩⟩, hS.F ht⟩) hS.2.2 dX12_makes_52
  exact LOOP_9 _ co 0 zn zd zm zl zk_1 eY eE eW_1 eO _ _ _ (ms_s _) (g_co) (by decide) (g_zn) (g_zm) (hf1_0) (g_eY) (g_eE) (hf1_1) (g_eO) hP hD hS (lv_sub hl [0, 1, 2, 3, 4] rfl)

set_option maxHeartbeats 40000000 in
set_option maxRecDepth 100000 in
theorem m_X12_power (l : Launch) (dC : Nat → ClassId) (dI : Nat → Nat → Nat) (cI cS : ClassId) (sz : Nat) (v : Int32) (n : Int32) (g_v : 1 ≤ v.toInt ∧ v.toInt ≤ 6) (g_n : 0 ≤ n.toInt ∧ n.toInt ≤ 3) : Met l yX12_power wsX12_power ({ frames := 0, cells := 0, slots := 0, locals := 0 } : Room) (va_Pc [.int v, .int n] (fun U => U.heap.size = sz ∧ va_P (dC, dI) vwCl [] U.heap ∧ va_K (dC, dI) vwCl [(cI, .int), (cS, .short)] U ∧ va_D (fun _ => True) [])) (va_Qi (fun (r : Int32) (u : Int32) => r = u) (fun (r : Int32) t => va_P (dC, dI) vwCl [] t.heap ∧ va_D (va_A [] sz) [] ∧ (1 ≤ r.toInt ∧ r.toInt ≤ 216) ∧ ((n.toInt = 0 ∧ r.toInt = 1) ∨ (n.toInt = 1 ∧ 1 ≤ r.toInt ∧ r.toInt ≤ 6) ∨ (n.toInt = 2 ∧ 1 ≤ r.toInt ∧ r.toInt ≤ 36) ∨ (n.toInt = 3 ∧ 1 ≤ r.toInt ∧ r.toInt ≤ 216))) (va_A [] sz)) 0 0 (va_A [] sz) := by
  refine Met.ofW (cc := cX12_power) (maxL := 4) (ret := (some .int)) (by decide) rfl ?_
  intro p e s m args below meth c s₁ B hml hv
  obtain ⟨rfl, hsz, hP, hK, hD0⟩ := hv
  have hx := B.exec
  have hb := B.bytes
  have hr := B.returns
  have hts := atoms_spec (ws := wsX12_power) B.pre
  have hown : s.vm.findClass RX12 = some m.cls := findClass_of_methodNamed B.named
  have hlocks := B.notSynchronized
  subst hsz
  have hD := hD0.self (sz := s.heap.size)
  generalize hAe : va_A [] s.heap.size = A at hD ⊢
  have hA : ∀ q : Nat, s.heap.size ≤ q → A q := fun q h => by rw [← hAe]; exact Or.inr h
  have hS : va_S A s.heap s.heap [] := va_S.rf
  have hP : va_P (dC, dI) vwCl [] s.heap := hP
  have hl := lv_entry ([.int v, .int n]) (n := 4) (Nat.le_of_ble_eq_true rfl)
  rw [lg_entry_eq]
  generalize (lg_sl ([.int v, .int n]) ++ List.replicate (4 - (lg_sl ([.int v, .int n])).length) Slot.unset).toArray = ls at hl ⊢
  have hl : lv_has ls 4 [(0, .int v), (1, .int n)] := hl
  obtain ⟨QQ, hQQ⟩ : ∃ QQ : Array Value → State → Outcome → State → Prop, QQ = va_Qi (fun (r : Int32) (u : Int32) => r = u) (fun (r : Int32) t => va_P (dC, dI) vwCl [] t.heap ∧ va_D A [] ∧ (1 ≤ r.toInt ∧ r.toInt ≤ 216) ∧ ((n.toInt = 0 ∧ r.toInt = 1) ∨ (n.toInt = 1 ∧ 1 ≤ r.toInt ∧ r.toInt ≤ 6) ∨ (n.toInt = 2 ∧ 1 ≤ r.toInt ∧ r.toInt ≤ 36) ∨ (n.toInt = 3 ∧ 1 ≤ r.toInt ∧ r.toInt ≤ 216))) A := ⟨_, rfl⟩
  rw [← hQQ]
  refine lv_iconst (v := 1) hx hb dX12_power_0 (by decide) ?_
  refine lv_istore_n (lv' := [(2, .int 1), (0, .int v), (1, .int n)]) hx hb dX12_power_1 rfl hl (by decide) rfl (fun ls hl => ?_)
  refine lv_iconst (v := 0) hx hb dX12_power_2 (by decide) ?_
  refine lv_istore_n (lv' := [(3, .int 0), (2, .int 1), (0, .int v), (1, .int n)]) hx hb dX12_power_3 rfl hl (by decide) rfl (fun ls hl => ?_)
  have LOOP_4 : ∀ (k_4 : Nat) (p_ : Int32) (k : Int32) (H : Heap) (locs : List Loc) (ls : Array Slot), MSd (3 - k.toInt : Int) k_4 → (1 ≤ p_.toInt ∧ p_.toInt ≤ 216) → (0 ≤ k.toInt ∧ k.toInt ≤ n.toInt) → ((k.toInt = 0 ∧ p_.toInt = 1) ∨ (k.toInt = 1 ∧ p_.toInt ≤ 6) ∨ (k.toInt = 2 ∧ p_.toInt ≤ 36) ∨ (k.toInt = 3 ∧ p_.toInt ≤ 216)) → va_P (dC, dI) vwCl [] H → va_D A [] → va_S A s.heap H locs → lv_has ls 4 [(3, .int k), (2, .int p_), (0, .int v), (1, .int n)] → W p l e (headSpec wsX12_power ({ frames := 0, cells := 0, slots := 0, locals := 0 } : Room)).room s m ([.int v, .int n] : List Value).toArray below meth c H locs 0 0 (MQ below QQ ([.int v, .int n] : List Value).toArray s 0 0 A) (F0 m 4 ls []) := by
    clear hP hD hS hl
    intro k_4
    induction k_4 with
    | zero =>
      intro p_ k H locs ls hm_4 g_p_ g_k hpk hP hD hS hl
      exact ms_0 hm_4
    | succ k_4 ih_4 =>
      intro p_ k H locs ls hm_4 g_p_ g_k hpk hP hD hS hl
      refine lv_iload_n hx hb dX12_power_4 rfl (lv_at hl 0 rfl) ?_
      refine lv_iload_n hx hb dX12_power_5 rfl (lv_at hl 3 rfl) ?_
      refine lv_icmp_ge (tgt := 19) hx hb dX12_power_6 (by decide) (fun c_1 => ?_) (fun c_1 => ?_)
      · have tc_1 : n.toInt ≤ k.toInt := v_le c_1
        refine lv_iload_n hx hb dX12_power_19 rfl (lv_at hl 1 rfl) ?_
        have hP9 := hP.sub (ws' := []) [] rfl
        have hD9 := hD.sub (ws' := []) [] (by decide +kernel) rfl
        rw [hQQ]
        exact W.iret (v := p_) hx hb hr (fun t ht hW => ⟨⟨p_, p_, rfl, rfl, ⟨by rw [ht]; exact hP9, hD9, g_p_, by show (n.toInt = 0 ∧ p_.toInt = 1) ∨ (n.toInt = 1 ∧ 1 ≤ p_.toInt ∧ p_.toInt ≤ 6) ∨ (n.toInt = 2 ∧ 1 ≤ p_.toInt ∧ p_.toInt ≤ 36) ∨ (n.toInt = 3 ∧ 1 ≤ p_.toInt ∧ p_.toInt ≤ 216); omega⟩⟩, hS.F ht⟩) hS.2.2 dX12_power_20
      · have tc_1 : k.toInt < n.toInt := v_nle c_1
        refine lv_iload_n hx hb dX12_power_9 rfl (lv_at hl 1 rfl) ?_
        refine lv_iload_n hx hb dX12_power_10 rfl (lv_at hl 2 rfl) ?_
        refine lv_imul hx hb dX12_power_11 ?_
        refine lv_topi (fun x_2 ex_2 => ?_)
        have tm_x_2 := v_mulb ex_2 (by omega) (by omega) (by omega) (by omega)
        refine lv_istore_n (lv' := [(2, .int x_2), (3, .int k), (0, .int v), (1, .int n)]) hx hb dX12_power_12 rfl hl (by decide) rfl (fun ls hl => ?_)
        obtain ⟨x_3, ex_3⟩ : ∃ y : Int32, y = k + 1 := ⟨_, rfl⟩
        have tx_3 : x_3.toInt = k.toInt + 1 := v_add ex_3 (by show -2147483648 ≤ k.toInt + 1; omega) (by show k.toInt + 1 < 2147483648; omega)
        refine lv_iinc (v := x_3) (lv' := [(3, .int x_3), (2, .int x_2), (0, .int v), (1, .int n)]) hx hb dX12_power_13 hl (k := 1) rfl (by rw [ex_3]; rfl) (by decide) rfl (fun ls hl => ?_)
        refine lv_goto (tgt := 4) hx hb dX12_power_16 (by decide) ?_
        exact ih_4 x_2 x_3 _ _ _ (ms_lt hm_4 (by show ((3 - x_3.toInt : Int)) < 3 - k.toInt; omega) (by show (0 : Int) < 3 - k.toInt; omega)) (by show 1 ≤ x_2.toInt ∧ x_2.toInt ≤ 216; omega) (by show 0 ≤ x_3.toInt ∧ x_3.toInt ≤ n.toInt; omega) (by show (x_3.toInt = 0 ∧ x_2.toInt = 1) ∨ (x_3.toInt = 1 ∧ x_2.toInt ≤ 6) ∨ (x_3.toInt = 2 ∧ x_2.toInt ≤ 36) ∨ (x_3.toInt = 3 ∧ x_2.toInt ≤ 216); omega) hP hD hS (lv_sub hl [0, 1, 2, 3] rfl)
  exact LOOP_4 _ 1 0 _ _ _ (ms_s _) (by decide) (by show 0 ≤ (0 : Int) ∧ (0 : Int) ≤ n.toInt; omega) (by show (0 = 0 ∧ 1 = 1) ∨ (0 = 1 ∧ 1 ≤ 6) ∨ (0 = 2 ∧ 1 ≤ 36) ∨ (0 = 3 ∧ 1 ≤ 216); omega) hP hD hS (lv_sub hl [0, 1, 2, 3] rfl)

set_option maxHeartbeats 40000000 in
set_option maxRecDepth 100000 in
theorem m_X12_sortOf (l : Launch) (dC : Nat → ClassId) (dI : Nat → Nat → Nat) (cI cS : ClassId) (sz : Nat) (x : Int32)  : Met l yX12_sortOf wsX12_sortOf ({ frames := 0, cells := 0, slots := 0, locals := 0 } : Room) (va_Pc [.int x] (fun U => U.heap.size = sz ∧ va_P (dC, dI) vwCl [] U.heap ∧ va_K (dC, dI) vwCl [(cI, .int), (cS, .short)] U ∧ va_D (fun _ => True) [])) (va_Qi (fun (r : Int32) (u : Int32) => r = u) (fun (r : Int32) t => va_P (dC, dI) vwCl [] t.heap ∧ va_D (va_A [] sz) [] ∧ (0 ≤ r.toInt ∧ r.toInt ≤ 7)) (va_A [] sz)) 0 0 (va_A [] sz) := by
  refine Met.ofW (cc := cX12_sortOf) (maxL := 1) (ret := (some .int)) (by decide) rfl ?_
  intro p e s m args below meth c s₁ B hml hv
  obtain ⟨rfl, hsz, hP, hK, hD0⟩ := hv
  have hx := B.exec
  have hb := B.bytes
  have hr := B.returns
  have hts := atoms_spec (ws := wsX12_sortOf) B.pre
  have hown : s.vm.findClass RX12 = some m.cls := findClass_of_methodNamed B.named
  have hlocks := B.notSynchronized
  subst hsz
  have hD := hD0.self (sz := s.heap.size)
  generalize hAe : va_A [] s.heap.size = A at hD ⊢
  have hA : ∀ q : Nat, s.heap.size ≤ q → A q := fun q h => by rw [← hAe]; exact Or.inr h
  have hS : va_S A s.heap s.heap [] := va_S.rf
  have hP : va_P (dC, dI) vwCl [] s.heap := hP
  have hl := lv_entry ([.int x]) (n := 1) (Nat.le_of_ble_eq_true rfl)
  rw [lg_entry_eq]
  generalize (lg_sl ([.int x]) ++ List.replicate (1 - (lg_sl ([.int x])).length) Slot.unset).toArray = ls at hl ⊢
  have hl : lv_has ls 1 [(0, .int x)] := hl
  obtain ⟨QQ, hQQ⟩ : ∃ QQ : Array Value → State → Outcome → State → Prop, QQ = va_Qi (fun (r : Int32) (u : Int32) => r = u) (fun (r : Int32) t => va_P (dC, dI) vwCl [] t.heap ∧ va_D A [] ∧ (0 ≤ r.toInt ∧ r.toInt ≤ 7)) A := ⟨_, rfl⟩
  rw [← hQQ]
  refine lv_iload_n hx hb dX12_sortOf_0 rfl (lv_at hl 0 rfl) ?_
  refine lv_bipush (v := 97) hx hb dX12_sortOf_1 (by decide) ?_
  refine lv_icmp_lt (tgt := 14) hx hb dX12_sortOf_3 (by decide) (fun c_1 => ?_) (fun c_1 => ?_)
  · have tc_1 : x.toInt < 97 := v_lt c_1
    refine lv_iload_n hx hb dX12_sortOf_14 rfl (lv_at hl 0 rfl) ?_
    refine lv_bipush (v := 65) hx hb dX12_sortOf_15 (by decide) ?_
    refine lv_icmp_lt (tgt := 28) hx hb dX12_sortOf_17 (by decide) (fun c_2 => ?_) (fun c_2 => ?_)
    · have tc_2 : x.toInt < 65 := v_lt c_2
      refine lv_iload_n hx hb dX12_sortOf_28 rfl (lv_at hl 0 rfl) ?_
      refine lv_bipush (v := 48) hx hb dX12_sortOf_29 (by decide) ?_
      refine lv_icmp_lt (tgt := 42) hx hb dX12_sortOf_31 (by decide) (fun c_3 => ?_) (fun c_3 => ?_)
      · have tc_3 : x.toInt < 48 := v_lt c_3
        refine lv_iload_n hx hb dX12_sortOf_42 rfl (lv_at hl 0 rfl) ?_
        refine lv_bipush (v := 32) hx hb dX12_sortOf_43 (by decide) ?_
        refine lv_icmp_ne (tgt := 50) hx hb dX12_sortOf_45 (by decide) (fun c_4 => ?_) (fun c_4 => ?_)
        · have tc_4 : ¬ x.toInt = 32 := v_ne c_4
          refine lv_iload_n hx hb dX12_sortOf_50 rfl (lv_at hl 0 rfl) ?_
          refine lv_bipush (v := 33) hx hb dX12_sortOf_51 (by decide) ?_
          refine lv_icmp_lt (tgt := 64) hx hb dX12_sortOf_53 (by decide) (fun c_5 => ?_) (fun c_5 => ?_)
          · have tc_5 : x.toInt < 33 := v_lt c_5
            refine lv_iload_n hx hb dX12_sortOf_64 rfl (lv_at hl 0 rfl) ?_
            refine lv_sipush (v := 192) hx hb dX12_sortOf_65 (by decide) ?_
            refine lv_icmp_lt (tgt := 95) hx hb dX12_sortOf_68 (by decide) (fun c_6 => ?_) (fun c_6 => by exfalso; have tc_6 : 192 ≤ x.toInt := v_nlt c_6; omega)
            have tc_6 : x.toInt < 192 := v_lt c_6
            refine lv_iload_n hx hb dX12_sortOf_95 rfl (lv_at hl 0 rfl) ?_
            refine lv_sipush (v := 880) hx hb dX12_sortOf_96 (by decide) ?_
            refine lv_icmp_lt (tgt := 114) hx hb dX12_sortOf_99 (by decide) (fun c_7 => ?_) (fun c_7 => by exfalso; have tc_7 : 880 ≤ x.toInt := v_nlt c_7; omega)
            have tc_7 : x.toInt < 880 := v_lt c_7
            refine lv_iconst (v := 0) hx hb dX12_sortOf_114 (by decide) ?_
            have hP9 := hP.sub (ws' := []) [] rfl
            have hD9 := hD.sub (ws' := []) [] (by decide +kernel) rfl
            rw [hQQ]
            exact W.iret (v := 0) hx hb hr (fun t ht hW => ⟨⟨0, 0, rfl, rfl, ⟨by rw [ht]; exact hP9, hD9, by decide⟩⟩, hS.F ht⟩) hS.2.2 dX12_sortOf_115
          · have tc_5 : 33 ≤ x.toInt := v_nlt c_5
            refine lv_iload_n hx hb dX12_sortOf_56 rfl (lv_at hl 0 rfl) ?_
            refine lv_bipush (v := 126) hx hb dX12_sortOf_57 (by decide) ?_
            refine lv_icmp_gt (tgt := 64) hx hb dX12_sortOf_59 (by decide) (fun c_8 => by exfalso; have tc_8 : 126 < x.toInt := v_lt c_8; omega) (fun c_8 => ?_)
            have tc_8 : x.toInt ≤ 126 := v_nlt c_8
            refine lv_iconst (v := 5) hx hb dX12_sortOf_62 (by decide) ?_
            have hP9 := hP.sub (ws' := []) [] rfl
            have hD9 := hD.sub (ws' := []) [] (by decide +kernel) rfl
            rw [hQQ]
            exact W.iret (v := 5) hx hb hr (fun t ht hW => ⟨⟨5, 5, rfl, rfl, ⟨by rw [ht]; exact hP9, hD9, by decide⟩⟩, hS.F ht⟩) hS.2.2 dX12_sortOf_63
        · have tc_4 : x.toInt = 32 := v_eq c_4
          refine lv_iconst (v := 4) hx hb dX12_sortOf_48 (by decide) ?_
          have hP9 := hP.sub (ws' := []) [] rfl
          have hD9 := hD.sub (ws' := []) [] (by decide +kernel) rfl
          rw [hQQ]
          exact W.iret (v := 4) hx hb hr (fun t ht hW => ⟨⟨4, 4, rfl, rfl, ⟨by rw [ht]; exact hP9, hD9, by decide⟩⟩, hS.F ht⟩) hS.2.2 dX12_sortOf_49
      · have tc_3 : 48 ≤ x.toInt := v_nlt c_3
        refine lv_iload_n hx hb dX12_sortOf_34 rfl (lv_at hl 0 rfl) ?_
        refine lv_bipush (v := 57) hx hb dX12_sortOf_35 (by decide) ?_
        refine lv_icmp_gt (tgt := 42) hx hb dX12_sortOf_37 (by decide) (fun c_9 => ?_) (fun c_9 => ?_)
        · have tc_9 : 57 < x.toInt := v_lt c_9
          refine lv_iload_n hx hb dX12_sortOf_42 rfl (lv_at hl 0 rfl) ?_
          refine lv_bipush (v := 32) hx hb dX12_sortOf_43 (by decide) ?_
          refine lv_icmp_ne (tgt := 50) hx hb dX12_sortOf_45 (by decide) (fun c_10 => ?_) (fun c_10 => by exfalso; have tc_10 : x.toInt = 32 := v_eq c_10; omega)
          have tc_10 : ¬ x.toInt = 32 := v_ne c_10
          refine lv_iload_n hx hb dX12_sortOf_50 rfl (lv_at hl 0 rfl) ?_
          refine lv_bipush (v := 33) hx hb dX12_sortOf_51 (by decide) ?_
          refine lv_icmp_lt (tgt := 64) hx hb dX12_sortOf_53 (by decide) (fun c_11 => by exfalso; have tc_11 : x.toInt < 33 := v_lt c_11; omega) (fun c_11 => ?_)
          have tc_11 : 33 ≤ x.toInt := v_nlt c_11
          refine lv_iload_n hx hb dX12_sortOf_56 rfl (lv_at hl 0 rfl) ?_
          refine lv_bipush (v := 126) hx hb dX12_sortOf_57 (by decide) ?_
          refine lv_icmp_gt (tgt := 64) hx hb dX12_sortOf_59 (by decide) (fun c_12 => by exfalso; have tc_12 : 126 < x.toInt := v_lt c_12; omega) (fun c_12 => ?_)
          have tc_12 : x.toInt ≤ 126 := v_nlt c_12
          refine lv_iconst (v := 5) hx hb dX12_sortOf_62 (by decide) ?_
          have hP9 := hP.sub (ws' := []) [] rfl
          have hD9 := hD.sub (ws' := []) [] (by decide +kernel) rfl
          rw [hQQ]
          exact W.iret (v := 5) hx hb hr (fun t ht hW => ⟨⟨5, 5, rfl, rfl, ⟨by rw [ht]; exact hP9, hD9, by decide⟩⟩, hS.F ht⟩) hS.2.2 dX12_sortOf_63
        · have tc_9 : x.toInt ≤ 57 := v_nlt c_9
          refine lv_iconst (v := 3) hx hb dX12_sortOf_40 (by decide) ?_
          have hP9 := hP.sub (ws' := []) [] rfl
          have hD9 := hD.sub (ws' := []) [] (by decide +kernel) rfl
          rw [hQQ]
          exact W.iret (v := 3) hx hb hr (fun t ht hW => ⟨⟨3, 3, rfl, rfl, ⟨by rw [ht]; exact hP9, hD9, by decide⟩⟩, hS.F ht⟩) hS.2.2 dX12_sortOf_41
    · have tc_2 : 65 ≤ x.toInt := v_nlt c_2
      refine lv_iload_n hx hb dX12_sortOf_20 rfl (lv_at hl 0 rfl) ?_
      refine lv_bipush (v := 90) hx hb dX12_sortOf_21 (by decide) ?_
      refine lv_icmp_gt (tgt := 28) hx hb dX12_sortOf_23 (by decide) (fun c_13 => ?_) (fun c_13 => ?_)
      · have tc_13 : 90 < x.toInt := v_lt c_13
        refine lv_iload_n hx hb dX12_sortOf_28 rfl (lv_at hl 0 rfl) ?_
        refine lv_bipush (v := 48) hx hb dX12_sortOf_29 (by decide) ?_
        refine lv_icmp_lt (tgt := 42) hx hb dX12_sortOf_31 (by decide) (fun c_14 => by exfalso; have tc_14 : x.toInt < 48 := v_lt c_14; omega) (fun c_14 => ?_)
        have tc_14 : 48 ≤ x.toInt := v_nlt c_14
        refine lv_iload_n hx hb dX12_sortOf_34 rfl (lv_at hl 0 rfl) ?_
        refine lv_bipush (v := 57) hx hb dX12_sortOf_35 (by decide) ?_
        refine lv_icmp_gt (tgt := 42) hx hb dX12_sortOf_37 (by decide) (fun c_15 => ?_) (fun c_15 => by exfalso; have tc_15 : x.toInt ≤ 57 := v_nlt c_15; omega)
        have tc_15 : 57 < x.toInt := v_lt c_15
        refine lv_iload_n hx hb dX12_sortOf_42 rfl (lv_at hl 0 rfl) ?_
        refine lv_bipush (v := 32) hx hb dX12_sortOf_43 (by decide) ?_
        refine lv_icmp_ne (tgt := 50) hx hb dX12_sortOf_45 (by decide) (fun c_16 => ?_) (fun c_16 => by exfalso; have tc_16 : x.toInt = 32 := v_eq c_16; omega)
        have tc_16 : ¬ x.toInt = 32 := v_ne c_16
        refine lv_iload_n hx hb dX12_sortOf_50 rfl (lv_at hl 0 rfl) ?_
        refine lv_bipush (v := 33) hx hb dX12_sortOf_51 (by decide) ?_
        refine lv_icmp_lt (tgt := 64) hx hb dX12_sortOf_53 (by decide) (fun c_17 => by exfalso; have tc_17 : x.toInt < 33 := v_lt c_17; omega) (fun c_17 => ?_)
        have tc_17 : 33 ≤ x.toInt := v_nlt c_17
        refine lv_iload_n hx hb dX12_sortOf_56 rfl (lv_at hl 0 rfl) ?_
        refine lv_bipush (v := 126) hx hb dX12_sortOf_57 (by decide) ?_
        refine lv_icmp_gt (tgt := 64) hx hb dX12_sortOf_59 (by decide) (fun c_18 => by exfalso; have tc_18 : 126 < x.toInt := v_lt c_18; omega) (fun c_18 => ?_)
        have tc_18 : x.toInt ≤ 126 := v_nlt c_18
        refine lv_iconst (v := 5) hx hb dX12_sortOf_62 (by decide) ?_
        have hP9 := hP.sub (ws' := []) [] rfl
        have hD9 := hD.sub (ws' := []) [] (by decide +kernel) rfl
        rw [hQQ]
        exact W.iret (v := 5) hx hb hr (fun t ht hW => ⟨⟨5, 5, rfl, rfl, ⟨by rw [ht]; exact hP9, hD9, by decide⟩⟩, hS.F ht⟩) hS.2.2 dX12_sortOf_63
      · have tc_13 : x.toInt ≤ 90 := v_nlt c_13
        refine lv_iconst (v := 2) hx hb dX12_sortOf_26 (by decide) ?_
        have hP9 := hP.sub (ws' := []) [] rfl
        have hD9 := hD.sub (ws' := []) [] (by decide +kernel) rfl
        rw [hQQ]
        exact W.iret (v := 2) hx hb hr (fun t ht hW => ⟨⟨2, 2, rfl, rfl, ⟨by rw [ht]; exact hP9, hD9, by decide⟩⟩, hS.F ht⟩) hS.2.2 dX12_sortOf_27
  · have tc_1 : 97 ≤ x.toInt := v_nlt c_1
    refine lv_iload_n hx hb dX12_sortOf_6 rfl (lv_at hl 0 rfl) ?_
    refine lv_bipush (v := 122) hx hb dX12_sortOf_7 (by decide) ?_
    refine lv_icmp_gt (tgt := 14) hx hb dX12_sortOf_9 (by decide) (fun c_19 => ?_) (fun c_19 => ?_)
    · have tc_19 : 122 < x.toInt := v_lt c_19
      refine lv_iload_n hx hb dX12_sortOf_14 rfl (lv_at hl 0 rfl) ?_
      refine lv_bipush (v := 65) hx hb dX12_sortOf_15 (by decide) ?_
      refine lv_icmp_lt (tgt := 28) hx hb dX12_sortOf_17 (by decide) (fun c_20 => by exfalso; have tc_20 : x.toInt < 65 := v_lt c_20; omega) (fun c_20 => ?_)
      have tc_20 : 65 ≤ x.toInt := v_nlt c_20
      refine lv_iload_n hx hb dX12_sortOf_20 rfl (lv_at hl 0 rfl) ?_
      refine lv_bipush (v := 90) hx hb dX12_sortOf_21 (by decide) ?_
      refine lv_icmp_gt (tgt := 28) hx hb dX12_sortOf_23 (by decide) (fun c_21 => ?_) (fun c_21 => by exfalso; have tc_21 : x.toInt ≤ 90 := v_nlt c_21; omega)
      have tc_21 : 90 < x.toInt := v_lt c_21
      refine lv_iload_n hx hb dX12_sortOf_28 rfl (lv_at hl 0 rfl) ?_
      refine lv_bipush (v := 48) hx hb dX12_sortOf_29 (by decide) ?_
      refine lv_icmp_lt (tgt := 42) hx hb dX12_sortOf_31 (by decide) (fun c_22 => by exfalso; have tc_22 : x.toInt < 48 := v_lt c_22; omega) (fun c_22 => ?_)
      have tc_22 : 48 ≤ x.toInt := v_nlt c_22
      refine lv_iload_n hx hb dX12_sortOf_34 rfl (lv_at hl 0 rfl) ?_
      refine lv_bipush (v := 57) hx hb dX12_sortOf_35 (by decide) ?_
      refine lv_icmp_gt (tgt := 42) hx hb dX12_sortOf_37 (by decide) (fun c_23 => ?_) (fun c_23 => by exfalso; have tc_23 : x.toInt ≤ 57 := v_nlt c_23; omega)
      have tc_23 : 57 < x.toInt := v_lt c_23
      refine lv_iload_n hx hb dX12_sortOf_42 rfl (lv_at hl 0 rfl) ?_
      refine lv_bipush (v := 32) hx hb dX12_sortOf_43 (by decide) ?_
      refine lv_icmp_ne (tgt := 50) hx hb dX12_sortOf_45 (by decide) (fun c_24 => ?_) (fun c_24 => by exfalso; have tc_24 : x.toInt = 32 := v_eq c_24; omega)
      have tc_24 : ¬ x.toInt = 32 := v_ne c_24
      refine lv_iload_n hx hb dX12_sortOf_50 rfl (lv_at hl 0 rfl) ?_
      refine lv_bipush (v := 33) hx hb dX12_sortOf_51 (by decide) ?_
      refine lv_icmp_lt (tgt := 64) hx hb dX12_sortOf_53 (by decide) (fun c_25 => by exfalso; have tc_25 : x.toInt < 33 := v_lt c_25; omega) (fun c_25 => ?_)
      have tc_25 : 33 ≤ x.toInt := v_nlt c_25
      refine lv_iload_n hx hb dX12_sortOf_56 rfl (lv_at hl 0 rfl) ?_
      refine lv_bipush (v := 126) hx hb dX12_sortOf_57 (by decide) ?_
      refine lv_icmp_gt (tgt := 64) hx hb dX12_sortOf_59 (by decide) (fun c_26 => ?_) (fun c_26 => ?_)
      · have tc_26 : 126 < x.toInt := v_lt c_26
        refine lv_iload_n hx hb dX12_sortOf_64 rfl (lv_at hl 0 rfl) ?_
        refine lv_sipush (v := 192) hx hb dX12_sortOf_65 (by decide) ?_
        refine lv_icmp_lt (tgt := 95) hx hb dX12_sortOf_68 (by decide) (fun c_27 => ?_) (fun c_27 => ?_)
        · have tc_27 : x.toInt < 192 := v_lt c_27
          refine lv_iload_n hx hb dX12_sortOf_95 rfl (lv_at hl 0 rfl) ?_
          refine lv_sipush (v := 880) hx hb dX12_sortOf_96 (by decide) ?_
          refine lv_icmp_lt (tgt := 114) hx hb dX12_sortOf_99 (by decide) (fun c_28 => ?_) (fun c_28 => by exfalso; have tc_28 : 880 ≤ x.toInt := v_nlt c_28; omega)
          have tc_28 : x.toInt < 880 := v_lt c_28
          refine lv_iconst (v := 0) hx hb dX12_sortOf_114 (by decide) ?_
          have hP9 := hP.sub (ws' := []) [] rfl
          have hD9 := hD.sub (ws' := []) [] (by decide +kernel) rfl
          rw [hQQ]
          exact W.iret (v := 0) hx hb hr (fun t ht hW => ⟨⟨0, 0, rfl, rfl, ⟨by rw [ht]; exact hP9, hD9, by decide⟩⟩, hS.F ht⟩) hS.2.2 dX12_sortOf_115
        · have tc_27 : 192 ≤ x.toInt := v_nlt c_27
          refine lv_iload_n hx hb dX12_sortOf_71 rfl (lv_at hl 0 rfl) ?_
          refine lv_sipush (v := 591) hx hb dX12_sortOf_72 (by decide) ?_
          refine lv_icmp_gt (tgt := 95) hx hb dX12_sortOf_75 (by decide) (fun c_29 => ?_) (fun c_29 => ?_)
          · have tc_29 : 591 < x.toInt := v_lt c_29
            refine lv_iload_n hx hb dX12_sortOf_95 rfl (lv_at hl 0 rfl) ?_
            refine lv_sipush (v := 880) hx hb dX12_sortOf_96 (by decide) ?_
            refine lv_icmp_lt (tgt := 114) hx hb dX12_sortOf_99 (by decide) (fun c_30 => ?_) (fun c_30 => ?_)
            · have tc_30 : x.toInt < 880 := v_lt c_30
              refine lv_iconst (v := 0) hx hb dX12_sortOf_114 (by decide) ?_
              have hP9 := hP.sub (ws' := []) [] rfl
              have hD9 := hD.sub (ws' := []) [] (by decide +kernel) rfl
              rw [hQQ]
              exact W.iret (v := 0) hx hb hr (fun t ht hW => ⟨⟨0, 0, rfl, rfl, ⟨by rw [ht]; exact hP9, hD9, by decide⟩⟩, hS.F ht⟩) hS.2.2 dX12_sortOf_115
            · have tc_30 : 880 ≤ x.toInt := v_nlt c_30
              refine lv_iload_n hx hb dX12_sortOf_102 rfl (lv_at hl 0 rfl) ?_
              refine lv_sipush (v := 1327) hx hb dX12_sortOf_103 (by decide) ?_
              refine lv_icmp_gt (tgt := 114) hx hb dX12_sortOf_106 (by decide) (fun c_31 => ?_) (fun c_31 => ?_)
              · have tc_31 : 1327 < x.toInt := v_lt c_31
                refine lv_iconst (v := 0) hx hb dX12_sortOf_114 (by decide) ?_
                have hP9 := hP.sub (ws' := []) [] rfl
                have hD9 := hD.sub (ws' := []) [] (by decide +kernel) rfl
                rw [hQQ]
                exact W.iret (v := 0) hx hb hr (fun t ht hW => ⟨⟨0, 0, rfl, rfl, ⟨by rw [ht]; exact hP9, hD9, by decide⟩⟩, hS.F ht⟩) hS.2.2 dX12_sortOf_115
              · have tc_31 : x.toInt ≤ 1327 := v_nlt c_31
                refine lv_bipush (v := 7) hx hb dX12_sortOf_109 (by decide) ?_
                refine lv_goto (tgt := 115) hx hb dX12_sortOf_111 (by decide) ?_
                have hP9 := hP.sub (ws' := []) [] rfl
                have hD9 := hD.sub (ws' := []) [] (by decide +kernel) rfl
                rw [hQQ]
                exact W.iret (v := 7) hx hb hr (fun t ht hW => ⟨⟨7, 7, rfl, rfl, ⟨by rw [ht]; exact hP9, hD9, by decide⟩⟩, hS.F ht⟩) hS.2.2 dX12_sortOf_115
          · have tc_29 : x.toInt ≤ 591 := v_nlt c_29
            refine lv_iload_n hx hb dX12_sortOf_78 rfl (lv_at hl 0 rfl) ?_
            refine lv_sipush (v := 215) hx hb dX12_sortOf_79 (by decide) ?_
            refine lv_icmp_eq (tgt := 95) hx hb dX12_sortOf_82 (by decide) (fun c_32 => ?_) (fun c_32 => ?_)
            · have tc_32 : x.toInt = 215 := v_eq c_32
              refine lv_iload_n hx hb dX12_sortOf_95 rfl (lv_at hl 0 rfl) ?_
              refine lv_sipush (v := 880) hx hb dX12_sortOf_96 (by decide) ?_
              refine lv_icmp_lt (tgt := 114) hx hb dX12_sortOf_99 (by decide) (fun c_33 => ?_) (fun c_33 => by exfalso; have tc_33 : 880 ≤ x.toInt := v_nlt c_33; omega)
              have tc_33 : x.toInt < 880 := v_lt c_33
              refine lv_iconst (v := 0) hx hb dX12_sortOf_114 (by decide) ?_
              have hP9 := hP.sub (ws' := []) [] rfl
              have hD9 := hD.sub (ws' := []) [] (by decide +kernel) rfl
              rw [hQQ]
              exact W.iret (v := 0) hx hb hr (fun t ht hW => ⟨⟨0, 0, rfl, rfl, ⟨by rw [ht]; exact hP9, hD9, by decide⟩⟩, hS.F ht⟩) hS.2.2 dX12_sortOf_115
            · have tc_32 : ¬ x.toInt = 215 := v_ne c_32
              refine lv_iload_n hx hb dX12_sortOf_85 rfl (lv_at hl 0 rfl) ?_
              refine lv_sipush (v := 247) hx hb dX12_sortOf_86 (by decide) ?_
              refine lv_icmp_eq (tgt := 95) hx hb dX12_sortOf_89 (by decide) (fun c_34 => ?_) (fun c_34 => ?_)
              · have tc_34 : x.toInt = 247 := v_eq c_34
                refine lv_iload_n hx hb dX12_sortOf_95 rfl (lv_at hl 0 rfl) ?_
                refine lv_sipush (v := 880) hx hb dX12_sortOf_96 (by decide) ?_
                refine lv_icmp_lt (tgt := 114) hx hb dX12_sortOf_99 (by decide) (fun c_35 => ?_) (fun c_35 => by exfalso; have tc_35 : 880 ≤ x.toInt := v_nlt c_35; omega)
                have tc_35 : x.toInt < 880 := v_lt c_35
                refine lv_iconst (v := 0) hx hb dX12_sortOf_114 (by decide) ?_
                have hP9 := hP.sub (ws' := []) [] rfl
                have hD9 := hD.sub (ws' := []) [] (by decide +kernel) rfl
                rw [hQQ]
                exact W.iret (v := 0) hx hb hr (fun t ht hW => ⟨⟨0, 0, rfl, rfl, ⟨by rw [ht]; exact hP9, hD9, by decide⟩⟩, hS.F ht⟩) hS.2.2 dX12_sortOf_115
              · have tc_34 : ¬ x.toInt = 247 := v_ne c_34
                refine lv_bipush (v := 6) hx hb dX12_sortOf_92 (by decide) ?_
                have hP9 := hP.sub (ws' := []) [] rfl
                have hD9 := hD.sub (ws' := []) [] (by decide +kernel) rfl
                rw [hQQ]
                exact W.iret (v := 6) hx hb hr (fun t ht hW => ⟨⟨6, 6, rfl, rfl, ⟨by rw [ht]; exact hP9, hD9, by decide⟩⟩, hS.F ht⟩) hS.2.2 dX12_sortOf_94
      · have tc_26 : x.toInt ≤ 126 := v_nlt c_26
        refine lv_iconst (v := 5) hx hb dX12_sortOf_62 (by decide) ?_
        have hP9 := hP.sub (ws' := []) [] rfl
        have hD9 := hD.sub (ws' := []) [] (by decide +kernel) rfl
        rw [hQQ]
        exact W.iret (v := 5) hx hb hr (fun t ht hW => ⟨⟨5, 5, rfl, rfl, ⟨by rw [ht]; exact hP9, hD9, by decide⟩⟩, hS.F ht⟩) hS.2.2 dX12_sortOf_63
    · have tc_19 : x.toInt ≤ 122 := v_nlt c_19
      refine lv_iconst (v := 1) hx hb dX12_sortOf_12 (by decide) ?_
      have hP9 := hP.sub (ws' := []) [] rfl
      have hD9 := hD.sub (ws' := []) [] (by decide +kernel) rfl
      rw [hQQ]
      exact W.iret (v := 1) hx hb hr (fun t ht hW => ⟨⟨1, 1, rfl, rfl, ⟨by rw [ht]; exact hP9, hD9, by decide⟩⟩, hS.F ht⟩) hS.2.2 dX12_sortOf_13

set_option maxHeartbeats 40000000 in
set_option maxRecDepth 100000 in
theorem m_X12_costOf (l : Launch) (dC : Nat → ClassId) (dI : Nat → Nat → Nat) (cI cS : ClassId) (sz : Nat) (oM : Nat) (mT : Nat) (mS : Nat) (mX : Nat) (mL : Nat) (mB : Nat) (mD : Nat) (m1 : Nat) (m2 : Nat) (mR : Nat) (x1 : Nat) (x2 : Nat) (x3 : Nat) (mH : Nat) (mY : Nat) (mE : Nat) (mW : Nat) (mO : Nat) (y1 : Nat) (y2 : Nat) (y3 : Nat) (y4 : Nat) (mZ : Nat) (zt : Int32) (zp : Int32) (zf : Int32) (zh : Int32) (zr : Int32) (zc : Int32) (zy : Int32) (za : Int32) (zb : Int32) (zs : Int32) (zq : Int32) (zw : Int32) (ze : Int32) (zn : Int32) (zm : Int32) (zl : Int32) (zk : Int32) (zd : Int32) (ec1 : Nat → Int32) (ec2 : Nat → Int32) (ec3 : Nat → Int32) (x : Int32) (y : Int32) (g_zt : 0 ≤ zt.toInt ∧ zt.toInt ≤ 900) (g_zp : 0 ≤ zp.toInt ∧ zp.toInt ≤ 20) (g_zf : 0 ≤ zf.toInt ∧ zf.toInt ≤ 19) (g_zh : 0 ≤ zh.toInt ∧ zh.toInt ≤ 6) (g_zr : 0 ≤ zr.toInt ∧ zr.toInt ≤ 258) (g_zc : 0 ≤ zc.toInt ∧ zc.toInt ≤ 300) (g_zy : 0 ≤ zy.toInt ∧ zy.toInt ≤ 65536) (g_za : 0 ≤ za.toInt ∧ za.toInt ≤ 5) (g_zb : 0 ≤ zb.toInt ∧ zb.toInt ≤ 5) (g_zs : 0 ≤ zs.toInt ∧ zs.toInt ≤ 2000000) (g_zq : -1 ≤ zq.toInt ∧ zq.toInt ≤ 2000000) (g_zn : 0 ≤ zn.toInt ∧ zn.toInt ≤ 2600) (g_zm : 0 ≤ zm.toInt ∧ zm.toInt ≤ 2600) (g_zk : 0 ≤ zk.toInt ∧ zk.toInt ≤ 300) : Met l yX12_costOf wsX12_costOf ({ frames := 1, cells := 0, slots := 0, locals := 20 } : Room) (va_Pc [.ref oM, .int x, .int y] (fun U => U.heap.size = sz ∧ va_P (dC, dI) vwCl [(oM, .inr (12, [.ref mT, .int zt, .ref mS, .ref mX, .int zp, .int zf, .ref mL, .ref mB, .ref mD, .ref m1, .ref m2, .int zh, .ref mR, .int zr, .ref x1, .ref x2, .ref x3, .int zc, .ref mH, .int zy, .int za, .int zb, .int zs, .int zq, .int zw, .int ze, .ref mY, .int zn, .ref mE, .int zm, .int zl, .ref mW, .int zk, .ref mO, .int zd, .ref y1, .ref y2, .ref y3, .ref y4, .ref mZ])), (x1, .inl (cI, 300, .inl ec1)), (x2, .inl (cI, 300, .inl ec2)), (x3, .inl (cI, 300, .inl ec3))] U.heap ∧ va_K (dC, dI) vwCl [(cI, .int), (cS, .short)] U ∧ va_D (fun _ => True) [(oM, .inr (12, [.ref mT, .int zt, .ref mS, .ref mX, .int zp, .int zf, .ref mL, .ref mB, .ref mD, .ref m1, .ref m2, .int zh, .ref mR, .int zr, .ref x1, .ref x2, .ref x3, .int zc, .ref mH, .int zy, .int za, .int zb, .int zs, .int zq, .int zw, .int ze, .ref mY, .int zn, .ref mE, .int zm, .int zl, .ref mW, .int zk, .ref mO, .int zd, .ref y1, .ref y2, .ref y3, .ref y4, .ref mZ])), (x1, .inl (cI, 300, .inl ec1)), (x2, .inl (cI, 300, .inl ec2)), (x3, .inl (cI, 300, .inl ec3))])) (va_Qi (fun (r : Int32) (u : Int32) => r = u) (fun (r : Int32) t => va_P (dC, dI) vwCl [(oM, .inr (12, [.ref mT, .int zt, .ref mS, .ref mX, .int zp, .int zf, .ref mL, .ref mB, .ref mD, .ref m1, .ref m2, .int zh, .ref mR, .int zr, .ref x1, .ref x2, .ref x3, .int zc, .ref mH, .int zy, .int za, .int zb, .int zs, .int zq, .int zw, .int ze, .ref mY, .int zn, .ref mE, .int zm, .int zl, .ref mW, .int zk, .ref mO, .int zd, .ref y1, .ref y2, .ref y3, .ref y4, .ref mZ])), (x1, .inl (cI, 300, .inl ec1)), (x2, .inl (cI, 300, .inl ec2)), (x3, .inl (cI, 300, .inl ec3))] t.heap ∧ va_D (va_A [(oM, .inr (12, [.ref mT, .int zt, .ref mS, .ref mX, .int zp, .int zf, .ref mL, .ref mB, .ref mD, .ref m1, .ref m2, .int zh, .ref mR, .int zr, .ref x1, .ref x2, .ref x3, .int zc, .ref mH, .int zy, .int za, .int zb, .int zs, .int zq, .int zw, .int ze, .ref mY, .int zn, .ref mE, .int zm, .int zl, .ref mW, .int zk, .ref mO, .int zd, .ref y1, .ref y2, .ref y3, .ref y4, .ref mZ])), (x1, .inl (cI, 300, .inl ec1)), (x2, .inl (cI, 300, .inl ec2)), (x3, .inl (cI, 300, .inl ec3))] sz) [(oM, .inr (12, [.ref mT, .int zt, .ref mS, .ref mX, .int zp, .int zf, .ref mL, .ref mB, .ref mD, .ref m1, .ref m2, .int zh, .ref mR, .int zr, .ref x1, .ref x2, .ref x3, .int zc, .ref mH, .int zy, .int za, .int zb, .int zs, .int zq, .int zw, .int ze, .ref mY, .int zn, .ref mE, .int zm, .int zl, .ref mW, .int zk, .ref mO, .int zd, .ref y1, .ref y2, .ref y3, .ref y4, .ref mZ])), (x1, .inl (cI, 300, .inl ec1)), (x2, .inl (cI, 300, .inl ec2)), (x3, .inl (cI, 300, .inl ec3))]) (va_A [(oM, .inr (12, [.ref mT, .int zt, .ref mS, .ref mX, .int zp, .int zf, .ref mL, .ref mB, .ref mD, .ref m1, .ref m2, .int zh, .ref mR, .int zr, .ref x1, .ref x2, .ref x3, .int zc, .ref mH, .int zy, .int za, .int zb, .int zs, .int zq, .int zw, .int ze, .ref mY, .int zn, .ref mE, .int zm, .int zl, .ref mW, .int zk, .ref mO, .int zd, .ref y1, .ref y2, .ref y3, .ref y4, .ref mZ])), (x1, .inl (cI, 300, .inl ec1)), (x2, .inl (cI, 300, .inl ec2)), (x3, .inl (cI, 300, .inl ec3))] sz)) 0 0 (va_A [(oM, .inr (12, [.ref mT, .int zt, .ref mS, .ref mX, .int zp, .int zf, .ref mL, .ref mB, .ref mD, .ref m1, .ref m2, .int zh, .ref mR, .int zr, .ref x1, .ref x2, .ref x3, .int zc, .ref mH, .int zy, .int za, .int zb, .int zs, .int zq, .int zw, .int ze, .ref mY, .int zn, .ref mE, .int zm, .int zl, .ref mW, .int zk, .ref mO, .int zd, .ref y1, .ref y2, .ref y3, .ref y4, .ref mZ])), (x1, .inl (cI, 300, .inl ec1)), (x2, .inl (cI, 300, .inl ec2)), (x3, .inl (cI, 300, .inl ec3))] sz) := by
  refine Met.ofW (cc := cX12_costOf) (maxL := 5) (ret := (some .int)) (by decide) rfl ?_
  intro p e s m args below meth c s₁ B hml hv
  obtain ⟨rfl, hsz, hP, hK, hD0⟩ := hv
  have hx := B.exec
  have hb := B.bytes
  have hr := B.returns
  have hts := atoms_spec (ws := wsX12_costOf) B.pre
  have hown : s.vm.findClass RX12 = some m.cls := findClass_of_methodNamed B.named
  have hlocks := B.notSynchronized
  have in_X12 : ∀ w ∈ wsX120, w ∈ wsX12_costOf := fun _ h => List.mem_cons_of_mem _ (List.mem_append_right _ (h))
  subst hsz
  have hD := hD0.self (sz := s.heap.size)
  generalize hAe : va_A [(oM, .inr (12, [.ref mT, .int zt, .ref mS, .ref mX, .int zp, .int zf, .ref mL, .ref mB, .ref mD, .ref m1, .ref m2, .int zh, .ref mR, .int zr, .ref x1, .ref x2, .ref x3, .int zc, .ref mH, .int zy, .int za, .int zb, .int zs, .int zq, .int zw, .int ze, .ref mY, .int zn, .ref mE, .int zm, .int zl, .ref mW, .int zk, .ref mO, .int zd, .ref y1, .ref y2, .ref y3, .ref y4, .ref mZ])), (x1, .inl (cI, 300, .inl ec1)), (x2, .inl (cI, 300, .inl ec2)), (x3, .inl (cI, 300, .inl ec3))] s.heap.size = A at hD ⊢
  have hA : ∀ q : Nat, s.heap.size ≤ q → A q := fun q h => by rw [← hAe]; exact Or.inr h
  have hS : va_S A s.heap s.heap [] := va_S.rf
  have hP : va_P (dC, dI) vwCl [(oM, .inr (12, [.ref mT, .int zt, .ref mS, .ref mX, .int zp, .int zf, .ref mL, .ref mB, .ref mD, .ref m1, .ref m2, .int zh, .ref mR, .int zr, .ref x1, .ref x2, .ref x3, .int zc, .ref mH, .int zy, .int za, .int zb, .int zs, .int zq, .int zw, .int ze, .ref mY, .int zn, .ref mE, .int zm, .int zl, .ref mW, .int zk, .ref mO, .int zd, .ref y1, .ref y2, .ref y3, .ref y4, .ref mZ])), (x1, .inl (cI, 300, .inl ec1)), (x2, .inl (cI, 300, .inl ec2)), (x3, .inl (cI, 300, .inl ec3))] s.heap := hP
  have hl := lv_entry ([.ref oM, .int x, .int y]) (n := 5) (Nat.le_of_ble_eq_true rfl)
  rw [lg_entry_eq]
  generalize (lg_sl ([.ref oM, .int x, .int y]) ++ List.replicate (5 - (lg_sl ([.ref oM, .int x, .int y])).length) Slot.unset).toArray = ls at hl ⊢
  have hl : lv_has ls 5 [(0, .ref oM), (1, .int x), (2, .int y)] := hl
  obtain ⟨QQ, hQQ⟩ : ∃ QQ : Array Value → State → Outcome → State → Prop, QQ = va_Qi (fun (r : Int32) (u : Int32) => r = u) (fun (r : Int32) t => va_P (dC, dI) vwCl [(oM, .inr (12, [.ref mT, .int zt, .ref mS, .ref mX, .int zp, .int zf, .ref mL, .ref mB, .ref mD, .ref m1, .ref m2, .int zh, .ref mR, .int zr, .ref x1, .ref x2, .ref x3, .int zc, .ref mH, .int zy, .int za, .int zb, .int zs, .int zq, .int zw, .int ze, .ref mY, .int zn, .ref mE, .int zm, .int zl, .ref mW, .int zk, .ref mO, .int zd, .ref y1, .ref y2, .ref y3, .ref y4, .ref mZ])), (x1, .inl (cI, 300, .inl ec1)), (x2, .inl (cI, 300, .inl ec2)), (x3, .inl (cI, 300, .inl ec3))] t.heap ∧ va_D A [(oM, .inr (12, [.ref mT, .int zt, .ref mS, .ref mX, .int zp, .int zf, .ref mL, .ref mB, .ref mD, .ref m1, .ref m2, .int zh, .ref mR, .int zr, .ref x1, .ref x2, .ref x3, .int zc, .ref mH, .int zy, .int za, .int zb, .int zs, .int zq, .int zw, .int ze, .ref mY, .int zn, .ref mE, .int zm, .int zl, .ref mW, .int zk, .ref mO, .int zd, .ref y1, .ref y2, .ref y3, .ref y4, .ref mZ])), (x1, .inl (cI, 300, .inl ec1)), (x2, .inl (cI, 300, .inl ec2)), (x3, .inl (cI, 300, .inl ec3))]) A := ⟨_, rfl⟩
  rw [← hQQ]
  refine lv_iconst (v := 0) hx hb dX12_costOf_0 (by decide) ?_
  refine lv_istore_n (lv' := [(3, .int 0), (0, .ref oM), (1, .int x), (2, .int y)]) hx hb dX12_costOf_1 rfl hl (by decide) rfl (fun ls hl => ?_)
  have LOOP_2 : ∀ (k_2 : Nat) (k : Int32) (H : Heap) (locs : List Loc) (ls : Array Slot), MSd (300 - k.toInt : Int) k_2 → (0 ≤ k.toInt ∧ k.toInt ≤ 300) → va_P (dC, dI) vwCl [(oM, .inr (12, [.ref mT, .int zt, .ref mS, .ref mX, .int zp, .int zf, .ref mL, .ref mB, .ref mD, .ref m1, .ref m2, .int zh, .ref mR, .int zr, .ref x1, .ref x2, .ref x3, .int zc, .ref mH, .int zy, .int za, .int zb, .int zs, .int zq, .int zw, .int ze, .ref mY, .int zn, .ref mE, .int zm, .int zl, .ref mW, .int zk, .ref mO, .int zd, .ref y1, .ref y2, .ref y3, .ref y4, .ref mZ])), (x1, .inl (cI, 300, .inl ec1)), (x2, .inl (cI, 300, .inl ec2)), (x3, .inl (cI, 300, .inl ec3))] H → va_D A [(oM, .inr (12, [.ref mT, .int zt, .ref mS, .ref mX, .int zp, .int zf, .ref mL, .ref mB, .ref mD, .ref m1, .ref m2, .int zh, .ref mR, .int zr, .ref x1, .ref x2, .ref x3, .int zc, .ref mH, .int zy, .int za, .int zb, .int zs, .int zq, .int zw, .int ze, .ref mY, .int zn, .ref mE, .int zm, .int zl, .ref mW, .int zk, .ref mO, .int zd, .ref y1, .ref y2, .ref y3, .ref y4, .ref mZ])), (x1, .inl (cI, 300, .inl ec1)), (x2, .inl (cI, 300, .inl ec2)), (x3, .inl (cI, 300, .inl ec3))] → va_S A s.heap H locs → lv_has ls 5 [(3, .int k), (0, .ref oM), (1, .int x), (2, .int y)] → W p l e (headSpec wsX12_costOf ({ frames := 1, cells := 0, slots := 0, locals := 20 } : Room)).room s m ([.ref oM, .int x, .int y] : List Value).toArray below meth c H locs 0 0 (MQ below QQ ([.ref oM, .int x, .int y] : List Value).toArray s 0 0 A) (F0 m 2 ls []) := by
    clear hP hD hS hl
    intro k_2
    induction k_2 with
    | zero =>
      intro k H locs ls hm_2 g_k hP hD hS hl
      exact ms_0 hm_2
    | succ k_2 ih_2 =>
      intro k H locs ls hm_2 g_k hP hD hS hl
      refine lv_iload_n hx hb dX12_costOf_2 rfl (lv_at hl 0 rfl) ?_
      refine lv_aload_n hx hb dX12_costOf_3 rfl (lv_at hl 1 rfl) ?_
      refine va_get (D := (dC, dI)) (ci := 12) (v := .int zc) (C := RX12) (T := TX12) (N := 40) hx hb hts in_X12 hown hK hP 0 rfl rfl 17 (by decide) (hts (.fieldLink RX12 168 "TextMenderModel" "costs" "I") (List.mem_of_getElem? (i := 1) rfl)) (fun _ h9 => h9) rfl dX12_costOf_4 ?_
      refine lv_icmp_ge (tgt := 43) hx hb dX12_costOf_7 (by decide) (fun c_1 => ?_) (fun c_1 => ?_)
      · have tc_1 : zc.toInt ≤ k.toInt := v_le c_1
        refine lv_iload_n hx hb dX12_costOf_43 rfl (lv_at hl 2 rfl) ?_
        have hPc := hP.sub (ws' := []) [] rfl
        have hDc := hD.sub (ws' := []) [] (by decide +kernel) rfl
        have hFc := va_free (wc := []) hD hS hA [] rfl
        refine va_calli (va_runS (As := [.int x]) (rest := []) ⟨hx, hb, hml, hown, hts⟩ (m_X12_sortOf l dC dI cI cS H.size x ) (va_cwS 1 hts gX12_costOf_X12_sortOf rfl rfl rfl (by decide +kernel) ⟨Nat.le_of_ble_eq_true rfl, Nat.le_of_ble_eq_true rfl⟩) ⟨fun a U g mk q => by obtain ⟨q0, q1, qP, qK, qD⟩ := q; exact ⟨q0, q1, qP, va_K.moved (u := U) (U := U.calling g mk a) (Vm.Alike.refl U.vm) qK, qD⟩, fun U hU hW => ⟨rfl, by rw [hU], by rw [hU]; exact hPc, va_K.moved hW.alike hK, hDc.weaken (fun _ _ _ _ => trivial)⟩⟩ rfl rfl hl.1 rfl (lv_room (Nat.le_of_ble_eq_true rfl)) dX12_costOf_44 ⟨Nat.le_of_ble_eq_true rfl, Nat.le_of_ble_eq_true rfl⟩) hS (fun q _ h => hFc q h) hFc (fun r_2 u t H1 locs ht hvm hw hB hz1 hk1 hSn => ?_)
        subst hw
        obtain ⟨hP1, hD1, hf2_0⟩ := hB
        rw [ht] at hP1
        obtain ⟨hPn, hDn⟩ := va_join (wr := [(oM, .inr (12, [.ref mT, .int zt, .ref mS, .ref mX, .int zp, .int zf, .ref mL, .ref mB, .ref mD, .ref m1, .ref m2, .int zh, .ref mR, .int zr, .ref x1, .ref x2, .ref x3, .int zc, .ref mH, .int zy, .int za, .int zb, .int zs, .int zq, .int zw, .int ze, .ref mY, .int zn, .ref mE, .int zm, .int zl, .ref mW, .int zk, .ref mO, .int zd, .ref y1, .ref y2, .ref y3, .ref y4, .ref mZ])), (x1, .inl (cI, 300, .inl ec1)), (x2, .inl (cI, 300, .inl ec2)), (x3, .inl (cI, 300, .inl ec3))]) (w1 := []) hP hD [] [0, 1, 2, 3] rfl rfl (by decide +kernel) (by decide +kernel) hk1 hFc hP1 hD1
        clear hP hD hS hPc hDc hFc hk1 hz1 hvm ht hP1 hD1
        generalize H1 = H at hPn hSn ⊢
        have hP : va_P (dC, dI) vwCl [(oM, .inr (12, [.ref mT, .int zt, .ref mS, .ref mX, .int zp, .int zf, .ref mL, .ref mB, .ref mD, .ref m1, .ref m2, .int zh, .ref mR, .int zr, .ref x1, .ref x2, .ref x3, .int zc, .ref mH, .int zy, .int za, .int zb, .int zs, .int zq, .int zw, .int ze, .ref mY, .int zn, .ref mE, .int zm, .int zl, .ref mW, .int zk, .ref mO, .int zd, .ref y1, .ref y2, .ref y3, .ref y4, .ref mZ])), (x1, .inl (cI, 300, .inl ec1)), (x2, .inl (cI, 300, .inl ec2)), (x3, .inl (cI, 300, .inl ec3))] H := hPn
        have hD : va_D A [(oM, .inr (12, [.ref mT, .int zt, .ref mS, .ref mX, .int zp, .int zf, .ref mL, .ref mB, .ref mD, .ref m1, .ref m2, .int zh, .ref mR, .int zr, .ref x1, .ref x2, .ref x3, .int zc, .ref mH, .int zy, .int za, .int zb, .int zs, .int zq, .int zw, .int ze, .ref mY, .int zn, .ref mE, .int zm, .int zl, .ref mW, .int zk, .ref mO, .int zd, .ref y1, .ref y2, .ref y3, .ref y4, .ref mZ])), (x1, .inl (cI, 300, .inl ec1)), (x2, .inl (cI, 300, .inl ec2)), (x3, .inl (cI, 300, .inl ec3))] := hDn
        have hS := hSn
        clear hPn hDn hSn
        refine lv_istore_n (lv' := [(3, .int r_2), (0, .ref oM), (1, .int x), (2, .int y)]) hx hb dX12_costOf_47 rfl hl (by decide) rfl (fun ls hl => ?_)
        refine lv_iload_n hx hb dX12_costOf_48 rfl (lv_at hl 3 rfl) ?_
        have hPc := hP.sub (ws' := []) [] rfl
        have hDc := hD.sub (ws' := []) [] (by decide +kernel) rfl
        have hFc := va_free (wc := []) hD hS hA [] rfl
        refine va_calli (va_runS (As := [.int y]) (rest := []) ⟨hx, hb, hml, hown, hts⟩ (m_X12_sortOf l dC dI cI cS H.size y ) (va_cwS 1 hts gX12_costOf_X12_sortOf rfl rfl rfl (by decide +kernel) ⟨Nat.le_of_ble_eq_true rfl, Nat.le_of_ble_eq_true rfl⟩) ⟨fun a U g mk q => by obtain ⟨q0, q1, qP, qK, qD⟩ := q; exact ⟨q0, q1, qP, va_K.moved (u := U) (U := U.calling g mk a) (Vm.Alike.refl U.vm) qK, qD⟩, fun U hU hW => ⟨rfl, by rw [hU], by rw [hU]; exact hPc, va_K.moved hW.alike hK, hDc.weaken (fun _ _ _ _ => trivial)⟩⟩ rfl rfl hl.1 rfl (lv_room (Nat.le_of_ble_eq_true rfl)) dX12_costOf_49 ⟨Nat.le_of_ble_eq_true rfl, Nat.le_of_ble_eq_true rfl⟩) hS (fun q _ h => hFc q h) hFc (fun r_3 u t H1 locs ht hvm hw hB hz1 hk1 hSn => ?_)
        subst hw
        obtain ⟨hP1, hD1, hf3_0⟩ := hB
        rw [ht] at hP1
        obtain ⟨hPn, hDn⟩ := va_join (wr := [(oM, .inr (12, [.ref mT, .int zt, .ref mS, .ref mX, .int zp, .int zf, .ref mL, .ref mB, .ref mD, .ref m1, .ref m2, .int zh, .ref mR, .int zr, .ref x1, .ref x2, .ref x3, .int zc, .ref mH, .int zy, .int za, .int zb, .int zs, .int zq, .int zw, .int ze, .ref mY, .int zn, .ref mE, .int zm, .int zl, .ref mW, .int zk, .ref mO, .int zd, .ref y1, .ref y2, .ref y3, .ref y4, .ref mZ])), (x1, .inl (cI, 300, .inl ec1)), (x2, .inl (cI, 300, .inl ec2)), (x3, .inl (cI, 300, .inl ec3))]) (w1 := []) hP hD [] [0, 1, 2, 3] rfl rfl (by decide +kernel) (by decide +kernel) hk1 hFc hP1 hD1
        clear hP hD hS hPc hDc hFc hk1 hz1 hvm ht hP1 hD1
        generalize H1 = H at hPn hSn ⊢
        have hP : va_P (dC, dI) vwCl [(oM, .inr (12, [.ref mT, .int zt, .ref mS, .ref mX, .int zp, .int zf, .ref mL, .ref mB, .ref mD, .ref m1, .ref m2, .int zh, .ref mR, .int zr, .ref x1, .ref x2, .ref x3, .int zc, .ref mH, .int zy, .int za, .int zb, .int zs, .int zq, .int zw, .int ze, .ref mY, .int zn, .ref mE, .int zm, .int zl, .ref mW, .int zk, .ref mO, .int zd, .ref y1, .ref y2, .ref y3, .ref y4, .ref mZ])), (x1, .inl (cI, 300, .inl ec1)), (x2, .inl (cI, 300, .inl ec2)), (x3, .inl (cI, 300, .inl ec3))] H := hPn
        have hD : va_D A [(oM, .inr (12, [.ref mT, .int zt, .ref mS, .ref mX, .int zp, .int zf, .ref mL, .ref mB, .ref mD, .ref m1, .ref m2, .int zh, .ref mR, .int zr, .ref x1, .ref x2, .ref x3, .int zc, .ref mH, .int zy, .int za, .int zb, .int zs, .int zq, .int zw, .int ze, .ref mY, .int zn, .ref mE, .int zm, .int zl, .ref mW, .int zk, .ref mO, .int zd, .ref y1, .ref y2, .ref y3, .ref y4, .ref mZ])), (x1, .inl (cI, 300, .inl ec1)), (x2, .inl (cI, 300, .inl ec2)), (x3, .inl (cI, 300, .inl ec3))] := hDn
        have hS := hSn
        clear hPn hDn hSn
        refine lv_istore (lv' := [(4, .int r_3), (3, .int r_2), (0, .ref oM), (1, .int x), (2, .int y)]) hx hb dX12_costOf_52 hl (by decide) rfl (fun ls hl => ?_)
        refine lv_iload_n hx hb dX12_costOf_54 rfl (lv_at hl 1 rfl) ?_
        refine lv_iload hx hb dX12_costOf_55 (lv_at hl 0 rfl) ?_
        refine lv_icmp_ne (tgt := 64) hx hb dX12_costOf_57 (by decide) (fun c_4 => ?_) (fun c_4 => ?_)
        · have tc_4 : ¬ r_2.toInt = r_3.toInt := v_ne c_4
          refine lv_bipush (v := 9) hx hb dX12_costOf_64 (by decide) ?_
          refine lv_iload_n hx hb dX12_costOf_66 rfl (lv_at hl 1 rfl) ?_
          refine lv_if_ne (tgt := 75) hx hb dX12_costOf_67 (by decide) (fun c_5 => ?_) (fun c_5 => ?_)
          · have tc_5 : ¬ r_2.toInt = 0 := v_ne c_5
            refine lv_iconst (v := 0) hx hb dX12_costOf_75 (by decide) ?_
            refine lv_iadd hx hb dX12_costOf_76 ?_
            refine k_i (y := 9) (by decide) ?_
            refine lv_iload hx hb dX12_costOf_77 (lv_at hl 0 rfl) ?_
            refine lv_if_ne (tgt := 87) hx hb dX12_costOf_79 (by decide) (fun c_6 => ?_) (fun c_6 => ?_)
            · have tc_6 : ¬ r_3.toInt = 0 := v_ne c_6
              refine lv_iconst (v := 0) hx hb dX12_costOf_87 (by decide) ?_
              refine lv_iadd hx hb dX12_costOf_88 ?_
              refine k_i (y := 9) (by decide) ?_
              have hP9 := hP.sub (ws' := [(oM, .inr (12, [.ref mT, .int zt, .ref mS, .ref mX, .int zp, .int zf, .ref mL, .ref mB, .ref mD, .ref m1, .ref m2, .int zh, .ref mR, .int zr, .ref x1, .ref x2, .ref x3, .int zc, .ref mH, .int zy, .int za, .int zb, .int zs, .int zq, .int zw, .int ze, .ref mY, .int zn, .ref mE, .int zm, .int zl, .ref mW, .int zk, .ref mO, .int zd, .ref y1, .ref y2, .ref y3, .ref y4, .ref mZ])), (x1, .inl (cI, 300, .inl ec1)), (x2, .inl (cI, 300, .inl ec2)), (x3, .inl (cI, 300, .inl ec3))]) [0, 1, 2, 3] rfl
              have hD9 := hD.sub (ws' := [(oM, .inr (12, [.ref mT, .int zt, .ref mS, .ref mX, .int zp, .int zf, .ref mL, .ref mB, .ref mD, .ref m1, .ref m2, .int zh, .ref mR, .int zr, .ref x1, .ref x2, .ref x3, .int zc, .ref mH, .int zy, .int za, .int zb, .int zs, .int zq, .int zw, .int ze, .ref mY, .int zn, .ref mE, .int zm, .int zl, .ref mW, .int zk, .ref mO, .int zd, .ref y1, .ref y2, .ref y3, .ref y4, .ref mZ])), (x1, .inl (cI, 300, .inl ec1)), (x2, .inl (cI, 300, .inl ec2)), (x3, .inl (cI, 300, .inl ec3))]) [0, 1, 2, 3] (by decide +kernel) rfl
              rw [hQQ]
              exact W.iret (v := 9) hx hb hr (fun t ht hW => ⟨⟨9, 9, rfl, rfl, ⟨by rw [ht]; exact hP9, hD9⟩⟩, hS.F ht⟩) hS.2.2 dX12_costOf_89
            · have tc_6 : r_3.toInt = 0 := v_eq c_6
              refine lv_bipush (v := 30) hx hb dX12_costOf_82 (by decide) ?_
              refine lv_goto (tgt := 88) hx hb dX12_costOf_84 (by decide) ?_
              refine lv_iadd hx hb dX12_costOf_88 ?_
              refine k_i (y := 39) (by decide) ?_
              have hP9 := hP.sub (ws' := [(oM, .inr (12, [.ref mT, .int zt, .ref mS, .ref mX, .int zp, .int zf, .ref mL, .ref mB, .ref mD, .ref m1, .ref m2, .int zh, .ref mR, .int zr, .ref x1, .ref x2, .ref x3, .int zc, .ref mH, .int zy, .int za, .int zb, .int zs, .int zq, .int zw, .int ze, .ref mY, .int zn, .ref mE, .int zm, .int zl, .ref mW, .int zk, .ref mO, .int zd, .ref y1, .ref y2, .ref y3, .ref y4, .ref mZ])), (x1, .inl (cI, 300, .inl ec1)), (x2, .inl (cI, 300, .inl ec2)), (x3, .inl (cI, 300, .inl ec3))]) [0, 1, 2, 3] rfl
              have hD9 := hD.sub (ws' := [(oM, .inr (12, [.ref mT, .int zt, .ref mS, .ref mX, .int zp, .int zf, .ref mL, .ref mB, .ref mD, .ref m1, .ref m2, .int zh, .ref mR, .int zr, .ref x1, .ref x2, .ref x3, .int zc, .ref mH, .int zy, .int za, .int zb, .int zs, .int zq, .int zw, .int ze, .ref mY, .int zn, .ref mE, .int zm, .int zl, .ref mW, .int zk, .ref mO, .int zd, .ref y1, .ref y2, .ref y3, .ref y4, .ref mZ])), (x1, .inl (cI, 300, .inl ec1)), (x2, .inl (cI, 300, .inl ec2)), (x3, .inl (cI, 300, .inl ec3))]) [0, 1, 2, 3] (by decide +kernel) rfl
              rw [hQQ]
              exact W.iret (v := 39) hx hb hr (fun t ht hW => ⟨⟨39, 39, rfl, rfl, ⟨by rw [ht]; exact hP9, hD9⟩⟩, hS.F ht⟩) hS.2.2 dX12_costOf_89
          · have tc_5 : r_2.toInt = 0 := v_eq c_5
            refine lv_bipush (v := 30) hx hb dX12_costOf_70 (by decide) ?_
            refine lv_goto (tgt := 76) hx hb dX12_costOf_72 (by decide) ?_
            refine lv_iadd hx hb dX12_costOf_76 ?_
            refine k_i (y := 39) (by decide) ?_
            refine lv_iload hx hb dX12_costOf_77 (lv_at hl 0 rfl) ?_
            refine lv_if_ne (tgt := 87) hx hb dX12_costOf_79 (by decide) (fun c_7 => ?_) (fun c_7 => ?_)
            · have tc_7 : ¬ r_3.toInt = 0 := v_ne c_7
              refine lv_iconst (v := 0) hx hb dX12_costOf_87 (by decide) ?_
              refine lv_iadd hx hb dX12_costOf_88 ?_
              refine k_i (y := 39) (by decide) ?_
              have hP9 := hP.sub (ws' := [(oM, .inr (12, [.ref mT, .int zt, .ref mS, .ref mX, .int zp, .int zf, .ref mL, .ref mB, .ref mD, .ref m1, .ref m2, .int zh, .ref mR, .int zr, .ref x1, .ref x2, .ref x3, .int zc, .ref mH, .int zy, .int za, .int zb, .int zs, .int zq, .int zw, .int ze, .ref mY, .int zn, .ref mE, .int zm, .int zl, .ref mW, .int zk, .ref mO, .int zd, .ref y1, .ref y2, .ref y3, .ref y4, .ref mZ])), (x1, .inl (cI, 300, .inl ec1)), (x2, .inl (cI, 300, .inl ec2)), (x3, .inl (cI, 300, .inl ec3))]) [0, 1, 2, 3] rfl
              have hD9 := hD.sub (ws' := [(oM, .inr (12, [.ref mT, .int zt, .ref mS, .ref mX, .int zp, .int zf, .ref mL, .ref mB, .ref mD, .ref m1, .ref m2, .int zh, .ref mR, .int zr, .ref x1, .ref x2, .ref x3, .int zc, .ref mH, .int zy, .int za, .int zb, .int zs, .int zq, .int zw, .int ze, .ref mY, .int zn, .ref mE, .int zm, .int zl, .ref mW, .int zk, .ref mO, .int zd, .ref y1, .ref y2, .ref y3, .ref y4, .ref mZ])), (x1, .inl (cI, 300, .inl ec1)), (x2, .inl (cI, 300, .inl ec2)), (x3, .inl (cI, 300, .inl ec3))]) [0, 1, 2, 3] (by decide +kernel) rfl
              rw [hQQ]
              exact W.iret (v := 39) hx hb hr (fun t ht hW => ⟨⟨39, 39, rfl, rfl, ⟨by rw [ht]; exact hP9, hD9⟩⟩, hS.F ht⟩) hS.2.2 dX12_costOf_89
            · have tc_7 : r_3.toInt = 0 := v_eq c_7
              refine lv_bipush (v := 30) hx hb dX12_costOf_82 (by decide) ?_
              refine lv_goto (tgt := 88) hx hb dX12_costOf_84 (by decide) ?_
              refine lv_iadd hx hb dX12_costOf_88 ?_
              refine k_i (y := 69) (by decide) ?_
              have hP9 := hP.sub (ws' := [(oM, .inr (12, [.ref mT, .int zt, .ref mS, .ref mX, .int zp, .int zf, .ref mL, .ref mB, .ref mD, .ref m1, .ref m2, .int zh, .ref mR, .int zr, .ref x1, .ref x2, .ref x3, .int zc, .ref mH, .int zy, .int za, .int zb, .int zs, .int zq, .int zw, .int ze, .ref mY, .int zn, .ref mE, .int zm, .int zl, .ref mW, .int zk, .ref mO, .int zd, .ref y1, .ref y2, .ref y3, .ref y4, .ref mZ])), (x1, .inl (cI, 300, .inl ec1)), (x2, .inl (cI, 300, .inl ec2)), (x3, .inl (cI, 300, .inl ec3))]) [0, 1, 2, 3] rfl
              have hD9 := hD.sub (ws' := [(oM, .inr (12, [.ref mT, .int zt, .ref mS, .ref mX, .int zp, .int zf, .ref mL, .ref mB, .ref mD, .ref m1, .ref m2, .int zh, .ref mR, .int zr, .ref x1, .ref x2, .ref x3, .int zc, .ref mH, .int zy, .int za, .int zb, .int zs, .int zq, .int zw, .int ze, .ref mY, .int zn, .ref mE, .int zm, .int zl, .ref mW, .int zk, .ref mO, .int zd, .ref y1, .ref y2, .ref y3, .ref y4, .ref mZ])), (x1, .inl (cI, 300, .inl ec1)), (x2, .inl (cI, 300, .inl ec2)), (x3, .inl (cI, 300, .inl ec3))]) [0, 1, 2, 3] (by decide +kernel) rfl
              rw [hQQ]
              exact W.iret (v := 69) hx hb hr (fun t ht hW => ⟨⟨69, 69, rfl, rfl, ⟨by rw [ht]; exact hP9, hD9⟩⟩, hS.F ht⟩) hS.2.2 dX12_costOf_89
        · have tc_4 : r_2.toInt = r_3.toInt := v_eq c_4
          refine lv_iconst (v := 4) hx hb dX12_costOf_60 (by decide) ?_
          refine lv_goto (tgt := 66) hx hb dX12_costOf_61 (by decide) ?_
          refine lv_iload_n hx hb dX12_costOf_66 rfl (lv_at hl 1 rfl) ?_
          refine lv_if_ne (tgt := 75) hx hb dX12_costOf_67 (by decide) (fun c_8 => ?_) (fun c_8 => ?_)
          · have tc_8 : ¬ r_2.toInt = 0 := v_ne c_8
            refine lv_iconst (v := 0) hx hb dX12_costOf_75 (by decide) ?_
            refine lv_iadd hx hb dX12_costOf_76 ?_
            refine k_i (y := 4) (by decide) ?_
            refine lv_iload hx hb dX12_costOf_77 (lv_at hl 0 rfl) ?_
            refine lv_if_ne (tgt := 87) hx hb dX12_costOf_79 (by decide) (fun c_9 => ?_) (fun c_9 => ?_)
            · have tc_9 : ¬ r_3.toInt = 0 := v_ne c_9
              refine lv_iconst (v := 0) hx hb dX12_costOf_87 (by decide) ?_
              refine lv_iadd hx hb dX12_costOf_88 ?_
              refine k_i (y := 4) (by decide) ?_
              have hP9 := hP.sub (ws' := [(oM, .inr (12, [.ref mT, .int zt, .ref mS, .ref mX, .int zp, .int zf, .ref mL, .ref mB, .ref mD, .ref m1, .ref m2, .int zh, .ref mR, .int zr, .ref x1, .ref x2, .ref x3, .int zc, .ref mH, .int zy, .int za, .int zb, .int zs, .int zq, .int zw, .int ze, .ref mY, .int zn, .ref mE, .int zm, .int zl, .ref mW, .int zk, .ref mO, .int zd, .ref y1, .ref y2, .ref y3, .ref y4, .ref mZ])), (x1, .inl (cI, 300, .inl ec1)), (x2, .inl (cI, 300, .inl ec2)), (x3, .inl (cI, 300, .inl ec3))]) [0, 1, 2, 3] rfl
              have hD9 := hD.sub (ws' := [(oM, .inr (12, [.ref mT, .int zt, .ref mS, .ref mX, .int zp, .int zf, .ref mL, .ref mB, .ref mD, .ref m1, .ref m2, .int zh, .ref mR, .int zr, .ref x1, .ref x2, .ref x3, .int zc, .ref mH, .int zy, .int za, .int zb, .int zs, .int zq, .int zw, .int ze, .ref mY, .int zn, .ref mE, .int zm, .int zl, .ref mW, .int zk, .ref mO, .int zd, .ref y1, .ref y2, .ref y3, .ref y4, .ref mZ])), (x1, .inl (cI, 300, .inl ec1)), (x2, .inl (cI, 300, .inl ec2)), (x3, .inl (cI, 300, .inl ec3))]) [0, 1, 2, 3] (by decide +kernel) rfl
              rw [hQQ]
              exact W.iret (v := 4) hx hb hr (fun t ht hW => ⟨⟨4, 4, rfl, rfl, ⟨by rw [ht]; exact hP9, hD9⟩⟩, hS.F ht⟩) hS.2.2 dX12_costOf_89
            · have tc_9 : r_3.toInt = 0 := v_eq c_9
              refine lv_bipush (v := 30) hx hb dX12_costOf_82 (by decide) ?_
              refine lv_goto (tgt := 88) hx hb dX12_costOf_84 (by decide) ?_
              refine lv_iadd hx hb dX12_costOf_88 ?_
              refine k_i (y := 34) (by decide) ?_
              have hP9 := hP.sub (ws' := [(oM, .inr (12, [.ref mT, .int zt, .ref mS, .ref mX, .int zp, .int zf, .ref mL, .ref mB, .ref mD, .ref m1, .ref m2, .int zh, .ref mR, .int zr, .ref x1, .ref x2, .ref x3, .int zc, .ref mH, .int zy, .int za, .int zb, .int zs, .int zq, .int zw, .int ze, .ref mY, .int zn, .ref mE, .int zm, .int zl, .ref mW, .int zk, .ref mO, .int zd, .ref y1, .ref y2, .ref y3, .ref y4, .ref mZ])), (x1, .inl (cI, 300, .inl ec1)), (x2, .inl (cI, 300, .inl ec2)), (x3, .inl (cI, 300, .inl ec3))]) [0, 1, 2, 3] rfl
              have hD9 := hD.sub (ws' := [(oM, .inr (12, [.ref mT, .int zt, .ref mS, .ref mX, .int zp, .int zf, .ref mL, .ref mB, .ref mD, .ref m1, .ref m2, .int zh, .ref mR, .int zr, .ref x1, .ref x2, .ref x3, .int zc, .ref mH, .int zy, .int za, .int zb, .int zs, .int zq, .int zw, .int ze, .ref mY, .int zn, .ref mE, .int zm, .int zl, .ref mW, .int zk, .ref mO, .int zd, .ref y1, .ref y2, .ref y3, .ref y4, .ref mZ])), (x1, .inl (cI, 300, .inl ec1)), (x2, .inl (cI, 300, .inl ec2)), (x3, .inl (cI, 300, .inl ec3))]) [0, 1, 2, 3] (by decide +kernel) rfl
              rw [hQQ]
              exact W.iret (v := 34) hx hb hr (fun t ht hW => ⟨⟨34, 34, rfl, rfl, ⟨by rw [ht]; exact hP9, hD9⟩⟩, hS.F ht⟩) hS.2.2 dX12_costOf_89
          · have tc_8 : r_2.toInt = 0 := v_eq c_8
            refine lv_bipush (v := 30) hx hb dX12_costOf_70 (by decide) ?_
            refine lv_goto (tgt := 76) hx hb dX12_costOf_72 (by decide) ?_
            refine lv_iadd hx hb dX12_costOf_76 ?_
            refine k_i (y := 34) (by decide) ?_
            refine lv_iload hx hb dX12_costOf_77 (lv_at hl 0 rfl) ?_
            refine lv_if_ne (tgt := 87) hx hb dX12_costOf_79 (by decide) (fun c_10 => ?_) (fun c_10 => ?_)
            · have tc_10 : ¬ r_3.toInt = 0 := v_ne c_10
              refine lv_iconst (v := 0) hx hb dX12_costOf_87 (by decide) ?_
              refine lv_iadd hx hb dX12_costOf_88 ?_
              refine k_i (y := 34) (by decide) ?_
              have hP9 := hP.sub (ws' := [(oM, .inr (12, [.ref mT, .int zt, .ref mS, .ref mX, .int zp, .int zf, .ref mL, .ref mB, .ref mD, .ref m1, .ref m2, .int zh, .ref mR, .int zr, .ref x1, .ref x2, .ref x3, .int zc, .ref mH, .int zy, .int za, .int zb, .int zs, .int zq, .int zw, .int ze, .ref mY, .int zn, .ref mE, .int zm, .int zl, .ref mW, .int zk, .ref mO, .int zd, .ref y1, .ref y2, .ref y3, .ref y4, .ref mZ])), (x1, .inl (cI, 300, .inl ec1)), (x2, .inl (cI, 300, .inl ec2)), (x3, .inl (cI, 300, .inl ec3))]) [0, 1, 2, 3] rfl
              have hD9 := hD.sub (ws' := [(oM, .inr (12, [.ref mT, .int zt, .ref mS, .ref mX, .int zp, .int zf, .ref mL, .ref mB, .ref mD, .ref m1, .ref m2, .int zh, .ref mR, .int zr, .ref x1, .ref x2, .ref x3, .int zc, .ref mH, .int zy, .int za, .int zb, .int zs, .int zq, .int zw, .int ze, .ref mY, .int zn, .ref mE, .int zm, .int zl, .ref mW, .int zk, .ref mO, .int zd, .ref y1, .ref y2, .ref y3, .ref y4, .ref mZ])), (x1, .inl (cI, 300, .inl ec1)), (x2, .inl (cI, 300, .inl ec2)), (x3, .inl (cI, 300, .inl ec3))]) [0, 1, 2, 3] (by decide +kernel) rfl
              rw [hQQ]
              exact W.iret (v := 34) hx hb hr (fun t ht hW => ⟨⟨34, 34, rfl, rfl, ⟨by rw [ht]; exact hP9, hD9⟩⟩, hS.F ht⟩) hS.2.2 dX12_costOf_89
            · have tc_10 : r_3.toInt = 0 := v_eq c_10
              refine lv_bipush (v := 30) hx hb dX12_costOf_82 (by decide) ?_
              refine lv_goto (tgt := 88) hx hb dX12_costOf_84 (by decide) ?_
              refine lv_iadd hx hb dX12_costOf_88 ?_
              refine k_i (y := 64) (by decide) ?_
              have hP9 := hP.sub (ws' := [(oM, .inr (12, [.ref mT, .int zt, .ref mS, .ref mX, .int zp, .int zf, .ref mL, .ref mB, .ref mD, .ref m1, .ref m2, .int zh, .ref mR, .int zr, .ref x1, .ref x2, .ref x3, .int zc, .ref mH, .int zy, .int za, .int zb, .int zs, .int zq, .int zw, .int ze, .ref mY, .int zn, .ref mE, .int zm, .int zl, .ref mW, .int zk, .ref mO, .int zd, .ref y1, .ref y2, .ref y3, .ref y4, .ref mZ])), (x1, .inl (cI, 300, .inl ec1)), (x2, .inl (cI, 300, .inl ec2)), (x3, .inl (cI, 300, .inl ec3))]) [0, 1, 2, 3] rfl
              have hD9 := hD.sub (ws' := [(oM, .inr (12, [.ref mT, .int zt, .ref mS, .ref mX, .int zp, .int zf, .ref mL, .ref mB, .ref mD, .ref m1, .ref m2, .int zh, .ref mR, .int zr, .ref x1, .ref x2, .ref x3, .int zc, .ref mH, .int zy, .int za, .int zb, .int zs, .int zq, .int zw, .int ze, .ref mY, .int zn, .ref mE, .int zm, .int zl, .ref mW, .int zk, .ref mO, .int zd, .ref y1, .ref y2, .ref y3, .ref y4, .ref mZ])), (x1, .inl (cI, 300, .inl ec1)), (x2, .inl (cI, 300, .inl ec2)), (x3, .inl (cI, 300, .inl ec3))]) [0, 1, 2, 3] (by decide +kernel) rfl
              rw [hQQ]
              exact W.iret (v := 64) hx hb hr (fun t ht hW => ⟨⟨64, 64, rfl, rfl, ⟨by rw [ht]; exact hP9, hD9⟩⟩, hS.F ht⟩) hS.2.2 dX12_costOf_89
      · have tc_1 : k.toInt < zc.toInt := v_nle c_1
        refine lv_aload_n hx hb dX12_costOf_10 rfl (lv_at hl 1 rfl) ?_
        refine va_get (D := (dC, dI)) (ci := 12) (v := .ref x1) (C := RX12) (T := TX12) (N := 40) hx hb hts in_X12 hown hK hP 0 rfl rfl 14 (by decide) (hts (.fieldLink RX12 39 "TextMenderModel" "costX" "[I") (List.mem_of_getElem? (i := 2) rfl)) (fun _ h9 => h9) rfl dX12_costOf_11 ?_
        refine lv_iload_n hx hb dX12_costOf_14 rfl (lv_at hl 0 rfl) ?_
        refine va_iald hx hb hK hP 1 0 rfl rfl (v_in (by omega)) dX12_costOf_15 ?_
        refine lv_topi (fun x_11 ex_11 => ?_)
        refine lv_iload_n hx hb dX12_costOf_16 rfl (lv_at hl 2 rfl) ?_
        refine lv_icmp_ne (tgt := 37) hx hb dX12_costOf_17 (by decide) (fun c_12 => ?_) (fun c_12 => ?_)
        · have tc_12 : ¬ x_11.toInt = x.toInt := v_ne c_12
          have rw12_0 := v_rng x_11
          have rw12_1 := v_rng x
          obtain ⟨x_13, ex_13⟩ : ∃ y : Int32, y = k + 1 := ⟨_, rfl⟩
          have tx_13 : x_13.toInt = k.toInt + 1 := v_add ex_13 (by show -2147483648 ≤ k.toInt + 1; omega) (by show k.toInt + 1 < 2147483648; omega)
          refine lv_iinc (v := x_13) (lv' := [(3, .int x_13), (0, .ref oM), (1, .int x), (2, .int y)]) hx hb dX12_costOf_37 hl (k := 0) rfl (by rw [ex_13]; rfl) (by decide) rfl (fun ls hl => ?_)
          refine lv_goto (tgt := 2) hx hb dX12_costOf_40 (by decide) ?_
          exact ih_2 x_13 _ _ _ (ms_lt hm_2 (by show ((300 - x_13.toInt : Int)) < 300 - k.toInt; omega) (by show (0 : Int) < 300 - k.toInt; omega)) (by show 0 ≤ x_13.toInt ∧ x_13.toInt ≤ 300; omega) hP hD hS (lv_sub hl [0, 1, 2, 3] rfl)
        · have tc_12 : x_11.toInt = x.toInt := v_eq c_12
          have rw12_0 := v_rng x_11
          have rw12_1 := v_rng x
          refine lv_aload_n hx hb dX12_costOf_20 rfl (lv_at hl 1 rfl) ?_
          refine va_get (D := (dC, dI)) (ci := 12) (v := .ref x2) (C := RX12) (T := TX12) (N := 40) hx hb hts in_X12 hown hK hP 0 rfl rfl 15 (by decide) (hts (.fieldLink RX12 42 "TextMenderModel" "costY" "[I") (List.mem_of_getElem? (i := 3) rfl)) (fun _ h9 => h9) rfl dX12_costOf_21 ?_
          refine lv_iload_n hx hb dX12_costOf_24 rfl (lv_at hl 0 rfl) ?_
          refine va_iald hx hb hK hP 2 0 rfl rfl (v_in (by omega)) dX12_costOf_25 ?_
          refine lv_topi (fun x_14 ex_14 => ?_)
          refine lv_iload_n hx hb dX12_costOf_26 rfl (lv_at hl 3 rfl) ?_
          refine lv_icmp_ne (tgt := 37) hx hb dX12_costOf_27 (by decide) (fun c_15 => ?_) (fun c_15 => ?_)
          · have tc_15 : ¬ x_14.toInt = y.toInt := v_ne c_15
            have rw15_0 := v_rng x_14
            have rw15_1 := v_rng y
            obtain ⟨x_16, ex_16⟩ : ∃ y : Int32, y = k + 1 := ⟨_, rfl⟩
            have tx_16 : x_16.toInt = k.toInt + 1 := v_add ex_16 (by show -2147483648 ≤ k.toInt + 1; omega) (by show k.toInt + 1 < 2147483648; omega)
            refine lv_iinc (v := x_16) (lv' := [(3, .int x_16), (0, .ref oM), (1, .int x), (2, .int y)]) hx hb dX12_costOf_37 hl (k := 0) rfl (by rw [ex_16]; rfl) (by decide) rfl (fun ls hl => ?_)
            refine lv_goto (tgt := 2) hx hb dX12_costOf_40 (by decide) ?_
            exact ih_2 x_16 _ _ _ (ms_lt hm_2 (by show ((300 - x_16.toInt : Int)) < 300 - k.toInt; omega) (by show (0 : Int) < 300 - k.toInt; omega)) (by show 0 ≤ x_16.toInt ∧ x_16.toInt ≤ 300; omega) hP hD hS (lv_sub hl [0, 1, 2, 3] rfl)
          · have tc_15 : x_14.toInt = y.toInt := v_eq c_15
            have rw15_0 := v_rng x_14
            have rw15_1 := v_rng y
            refine lv_aload_n hx hb dX12_costOf_30 rfl (lv_at hl 1 rfl) ?_
            refine va_get (D := (dC, dI)) (ci := 12) (v := .ref x3) (C := RX12) (T := TX12) (N := 40) hx hb hts in_X12 hown hK hP 0 rfl rfl 16 (by decide) (hts (.fieldLink RX12 45 "TextMenderModel" "costV" "[I") (List.mem_of_getElem? (i := 4) rfl)) (fun _ h9 => h9) rfl dX12_costOf_31 ?_
            refine lv_iload_n hx hb dX12_costOf_34 rfl (lv_at hl 0 rfl) ?_
            refine va_iald hx hb hK hP 3 0 rfl rfl (v_in (by omega)) dX12_costOf_35 ?_
            refine lv_topi (fun x_17 ex_17 => ?_)
            have hP9 := hP.sub (ws' := [(oM, .inr (12, [.ref mT, .int zt, .ref mS, .ref mX, .int zp, .int zf, .ref mL, .ref mB, .ref mD, .ref m1, .ref m2, .int zh, .ref mR, .int zr, .ref x1, .ref x2, .ref x3, .int zc, .ref mH, .int zy, .int za, .int zb, .int zs, .int zq, .int zw, .int ze, .ref mY, .int zn, .ref mE, .int zm, .int zl, .ref mW, .int zk, .ref mO, .int zd, .ref y1, .ref y2, .ref y3, .ref y4, .ref mZ])), (x1, .inl (cI, 300, .inl ec1)), (x2, .inl (cI, 300, .inl ec2)), (x3, .inl (cI, 300, .inl ec3))]) [0, 1, 2, 3] rfl
            have hD9 := hD.sub (ws' := [(oM, .inr (12, [.ref mT, .int zt, .ref mS, .ref mX, .int zp, .int zf, .ref mL, .ref mB, .ref mD, .ref m1, .ref m2, .int zh, .ref mR, .int zr, .ref x1, .ref x2, .ref x3, .int zc, .ref mH, .int zy, .int za, .int zb, .int zs, .int zq, .int zw, .int ze, .ref mY, .int zn, .ref mE, .int zm, .int zl, .ref mW, .int zk, .ref mO, .int zd, .ref y1, .ref y2, .ref y3, .ref y4, .ref mZ])), (x1, .inl (cI, 300, .inl ec1)), (x2, .inl (cI, 300, .inl ec2)), (x3, .inl (cI, 300, .inl ec3))]) [0, 1, 2, 3] (by decide +kernel) rfl
            rw [hQQ]
            exact W.iret (v := x_17) hx hb hr (fun t ht hW => ⟨⟨x_17, x_17, rfl, rfl, ⟨by rw [ht]; exact hP9, hD9⟩⟩, hS.F ht⟩) hS.2.2 dX12_costOf_36
  exact LOOP_2 _ 0 _ _ _ (ms_s _) (by decide) hP hD hS (lv_sub hl [0, 1, 2, 3] rfl)

set_option maxHeartbeats 40000000 in
set_option maxRecDepth 100000 in
theorem m_X12_costOf_ (l : Launch) (dC : Nat → ClassId) (dI : Nat → Nat → Nat) (cI cS : ClassId) (sz : Nat) (oM : Nat) (rw : Nat) (mT : Nat) (mS : Nat) (mX : Nat) (mL : Nat) (mB : Nat) (mD : Nat) (m1 : Nat) (m2 : Nat) (mR : Nat) (x1 : Nat) (x2 : Nat) (x3 : Nat) (mH : Nat) (mY : Nat) (mE : Nat) (mW : Nat) (mO : Nat) (y1 : Nat) (y2 : Nat) (y3 : Nat) (y4 : Nat) (mZ : Nat) (cw : Nat) (zt : Int32) (zp : Int32) (zf : Int32) (zh : Int32) (zr : Int32) (zc : Int32) (zy : Int32) (za : Int32) (zb : Int32) (zs : Int32) (zq : Int32) (zw : Int32) (ze : Int32) (zn : Int32) (zm : Int32) (zl : Int32) (zk : Int32) (zd : Int32) (ec1 : Nat → Int32) (ec2 : Nat → Int32) (ec3 : Nat → Int32) (fr : Nat → Int32) (fo : Int32) (to_ : Int32) (g_zt : 0 ≤ zt.toInt ∧ zt.toInt ≤ 900) (g_zp : 0 ≤ zp.toInt ∧ zp.toInt ≤ 20) (g_zf : 0 ≤ zf.toInt ∧ zf.toInt ≤ 19) (g_zh : 0 ≤ zh.toInt ∧ zh.toInt ≤ 6) (g_zr : 0 ≤ zr.toInt ∧ zr.toInt ≤ 258) (g_zc : 0 ≤ zc.toInt ∧ zc.toInt ≤ 300) (g_zy : 0 ≤ zy.toInt ∧ zy.toInt ≤ 65536) (g_za : 0 ≤ za.toInt ∧ za.toInt ≤ 5) (g_zb : 0 ≤ zb.toInt ∧ zb.toInt ≤ 5) (g_zs : 0 ≤ zs.toInt ∧ zs.toInt ≤ 2000000) (g_zq : -1 ≤ zq.toInt ∧ zq.toInt ≤ 2000000) (g_zn : 0 ≤ zn.toInt ∧ zn.toInt ≤ 2600) (g_zm : 0 ≤ zm.toInt ∧ zm.toInt ≤ 2600) (g_zk : 0 ≤ zk.toInt ∧ zk.toInt ≤ 300) (g_fo : 0 ≤ fo.toInt ∧ fo.toInt ≤ 300) (g_to_ : 0 ≤ to_.toInt ∧ to_.toInt ≤ 300) (hcw : to_.toInt ≤ (cw : Int)) (hcw2 : cw ≤ 6300) : Met l yX12_costOf_ wsX12_costOf_ ({ frames := 2, cells := 0, slots := 0, locals := 44 } : Room) (va_Pc [.ref oM, .ref rw, .int fo, .int to_] (fun U => U.heap.size = sz ∧ va_P (dC, dI) vwCl [(oM, .inr (12, [.ref mT, .int zt, .ref mS, .ref mX, .int zp, .int zf, .ref mL, .ref mB, .ref mD, .ref m1, .ref m2, .int zh, .ref mR, .int zr, .ref x1, .ref x2, .ref x3, .int zc, .ref mH, .int zy, .int za, .int zb, .int zs, .int zq, .int zw, .int ze, .ref mY, .int zn, .ref mE, .int zm, .int zl, .ref mW, .int zk, .ref mO, .int zd, .ref y1, .ref y2, .ref y3, .ref y4, .ref mZ])), (x1, .inl (cI, 300, .inl ec1)), (x2, .inl (cI, 300, .inl ec2)), (x3, .inl (cI, 300, .inl ec3)), (rw, .inl (cI, cw, .inl fr))] U.heap ∧ va_K (dC, dI) vwCl [(cI, .int), (cS, .short)] U ∧ va_D (fun _ => True) [(oM, .inr (12, [.ref mT, .int zt, .ref mS, .ref mX, .int zp, .int zf, .ref mL, .ref mB, .ref mD, .ref m1, .ref m2, .int zh, .ref mR, .int zr, .ref x1, .ref x2, .ref x3, .int zc, .ref mH, .int zy, .int za, .int zb, .int zs, .int zq, .int zw, .int ze, .ref mY, .int zn, .ref mE, .int zm, .int zl, .ref mW, .int zk, .ref mO, .int zd, .ref y1, .ref y2, .ref y3, .ref y4, .ref mZ])), (x1, .inl (cI, 300, .inl ec1)), (x2, .inl (cI, 300, .inl ec2)), (x3, .inl (cI, 300, .inl ec3)), (rw, .inl (cI, cw, .inl fr))])) (va_Qi (fun (r : Int32) (u : Int32) => r = u) (fun (r : Int32) t => va_P (dC, dI) vwCl [(oM, .inr (12, [.ref mT, .int zt, .ref mS, .ref mX, .int zp, .int zf, .ref mL, .ref mB, .ref mD, .ref m1, .ref m2, .int zh, .ref mR, .int zr, .ref x1, .ref x2, .ref x3, .int zc, .ref mH, .int zy, .int za, .int zb, .int zs, .int zq, .int zw, .int ze, .ref mY, .int zn, .ref mE, .int zm, .int zl, .ref mW, .int zk, .ref mO, .int zd, .ref y1, .ref y2, .ref y3, .ref y4, .ref mZ])), (x1, .inl (cI, 300, .inl ec1)), (x2, .inl (cI, 300, .inl ec2)), (x3, .inl (cI, 300, .inl ec3)), (rw, .inl (cI, cw, .inl fr))] t.heap ∧ va_D (va_A [(oM, .inr (12, [.ref mT, .int zt, .ref mS, .ref mX, .int zp, .int zf, .ref mL, .ref mB, .ref mD, .ref m1, .ref m2, .int zh, .ref mR, .int zr, .ref x1, .ref x2, .ref x3, .int zc, .ref mH, .int zy, .int za, .int zb, .int zs, .int zq, .int zw, .int ze, .ref mY, .int zn, .ref mE, .int zm, .int zl, .ref mW, .int zk, .ref mO, .int zd, .ref y1, .ref y2, .ref y3, .ref y4, .ref mZ])), (x1, .inl (cI, 300, .inl ec1)), (x2, .inl (cI, 300, .inl ec2)), (x3, .inl (cI, 300, .inl ec3)), (rw, .inl (cI, cw, .inl fr))] sz) [(oM, .inr (12, [.ref mT, .int zt, .ref mS, .ref mX, .int zp, .int zf, .ref mL, .ref mB, .ref mD, .ref m1, .ref m2, .int zh, .ref mR, .int zr, .ref x1, .ref x2, .ref x3, .int zc, .ref mH, .int zy, .int za, .int zb, .int zs, .int zq, .int zw, .int ze, .ref mY, .int zn, .ref mE, .int zm, .int zl, .ref mW, .int zk, .ref mO, .int zd, .ref y1, .ref y2, .ref y3, .ref y4, .ref mZ])), (x1, .inl (cI, 300, .inl ec1)), (x2, .inl (cI, 300, .inl ec2)), (x3, .inl (cI, 300, .inl ec3)), (rw, .inl (cI, cw, .inl fr))]) (va_A [(oM, .inr (12, [.ref mT, .int zt, .ref mS, .ref mX, .int zp, .int zf, .ref mL, .ref mB, .ref mD, .ref m1, .ref m2, .int zh, .ref mR, .int zr, .ref x1, .ref x2, .ref x3, .int zc, .ref mH, .int zy, .int za, .int zb, .int zs, .int zq, .int zw, .int ze, .ref mY, .int zn, .ref mE, .int zm, .int zl, .ref mW, .int zk, .ref mO, .int zd, .ref y1, .ref y2, .ref y3, .ref y4, .ref mZ])), (x1, .inl (cI, 300, .inl ec1)), (x2, .inl (cI, 300, .inl ec2)), (x3, .inl (cI, 300, .inl ec3)), (rw, .inl (cI, cw, .inl fr))] sz)) 0 0 (va_A [(oM, .inr (12, [.ref mT, .int zt, .ref mS, .ref mX, .int zp, .int zf, .ref mL, .ref mB, .ref mD, .ref m1, .ref m2, .int zh, .ref mR, .int zr, .ref x1, .ref x2, .ref x3, .int zc, .ref mH, .int zy, .int za, .int zb, .int zs, .int zq, .int zw, .int ze, .ref mY, .int zn, .ref mE, .int zm, .int zl, .ref mW, .int zk, .ref mO, .int zd, .ref y1, .ref y2, .ref y3, .ref y4, .ref mZ])), (x1, .inl (cI, 300, .inl ec1)), (x2, .inl (cI, 300, .inl ec2)), (x3, .inl (cI, 300, .inl ec3)), (rw, .inl (cI, cw, .inl fr))] sz) := by
  refine Met.ofW (cc := cX12_costOf_) (maxL := 7) (ret := (some .int)) (by decide) rfl ?_
  intro p e s m args below meth c s₁ B hml hv
  obtain ⟨rfl, hsz, hP, hK, hD0⟩ := hv
  have hx := B.exec
  have hb := B.bytes
  have hr := B.returns
  have hts := atoms_spec (ws := wsX12_costOf_) B.pre
  have hown : s.vm.findClass RX12 = some m.cls := findClass_of_methodNamed B.named
  have hlocks := B.notSynchronized
  subst hsz
  have hD := hD0.self (sz := s.heap.size)
  generalize hAe : va_A [(oM, .inr (12, [.ref mT, .int zt, .ref mS, .ref mX, .int zp, .int zf, .ref mL, .ref mB, .ref mD, .ref m1, .ref m2, .int zh, .ref mR, .int zr, .ref x1, .ref x2, .ref x3, .int zc, .ref mH, .int zy, .int za, .int zb, .int zs, .int zq, .int zw, .int ze, .ref mY, .int zn, .ref mE, .int zm, .int zl, .ref mW, .int zk, .ref mO, .int zd, .ref y1, .ref y2, .ref y3, .ref y4, .ref mZ])), (x1, .inl (cI, 300, .inl ec1)), (x2, .inl (cI, 300, .inl ec2)), (x3, .inl (cI, 300, .inl ec3)), (rw, .inl (cI, cw, .inl fr))] s.heap.size = A at hD ⊢
  have hA : ∀ q : Nat, s.heap.size ≤ q → A q := fun q h => by rw [← hAe]; exact Or.inr h
  have hS : va_S A s.heap s.heap [] := va_S.rf
  have hP : va_P (dC, dI) vwCl [(oM, .inr (12, [.ref mT, .int zt, .ref mS, .ref mX, .int zp, .int zf, .ref mL, .ref mB, .ref mD, .ref m1, .ref m2, .int zh, .ref mR, .int zr, .ref x1, .ref x2, .ref x3, .int zc, .ref mH, .int zy, .int za, .int zb, .int zs, .int zq, .int zw, .int ze, .ref mY, .int zn, .ref mE, .int zm, .int zl, .ref mW, .int zk, .ref mO, .int zd, .ref y1, .ref y2, .ref y3, .ref y4, .ref mZ])), (x1, .inl (cI, 300, .inl ec1)), (x2, .inl (cI, 300, .inl ec2)), (x3, .inl (cI, 300, .inl ec3)), (rw, .inl (cI, cw, .inl fr))] s.heap := hP
  have hl := lv_entry ([.ref oM, .ref rw, .int fo, .int to_]) (n := 7) (Nat.le_of_ble_eq_true rfl)
  rw [lg_entry_eq]
  generalize (lg_sl ([.ref oM, .ref rw, .int fo, .int to_]) ++ List.replicate (7 - (lg_sl ([.ref oM, .ref rw, .int fo, .int to_])).length) Slot.unset).toArray = ls at hl ⊢
  have hl : lv_has ls 7 [(0, .ref oM), (1, .ref rw), (2, .int fo), (3, .int to_)] := hl
  obtain ⟨QQ, hQQ⟩ : ∃ QQ : Array Value → State → Outcome → State → Prop, QQ = va_Qi (fun (r : Int32) (u : Int32) => r = u) (fun (r : Int32) t => va_P (dC, dI) vwCl [(oM, .inr (12, [.ref mT, .int zt, .ref mS, .ref mX, .int zp, .int zf, .ref mL, .ref mB, .ref mD, .ref m1, .ref m2, .int zh, .ref mR, .int zr, .ref x1, .ref x2, .ref x3, .int zc, .ref mH, .int zy, .int za, .int zb, .int zs, .int zq, .int zw, .int ze, .ref mY, .int zn, .ref mE, .int zm, .int zl, .ref mW, .int zk, .ref mO, .int zd, .ref y1, .ref y2, .ref y3, .ref y4, .ref mZ])), (x1, .inl (cI, 300, .inl ec1)), (x2, .inl (cI, 300, .inl ec2)), (x3, .inl (cI, 300, .inl ec3)), (rw, .inl (cI, cw, .inl fr))] t.heap ∧ va_D A [(oM, .inr (12, [.ref mT, .int zt, .ref mS, .ref mX, .int zp, .int zf, .ref mL, .ref mB, .ref mD, .ref m1, .ref m2, .int zh, .ref mR, .int zr, .ref x1, .ref x2, .ref x3, .int zc, .ref mH, .int zy, .int za, .int zb, .int zs, .int zq, .int zw, .int ze, .ref mY, .int zn, .ref mE, .int zm, .int zl, .ref mW, .int zk, .ref mO, .int zd, .ref y1, .ref y2, .ref y3, .ref y4, .ref mZ])), (x1, .inl (cI, 300, .inl ec1)), (x2, .inl (cI, 300, .inl ec2)), (x3, .inl (cI, 300, .inl ec3)), (rw, .inl (cI, cw, .inl fr))]) A := ⟨_, rfl⟩
  rw [← hQQ]
  refine lv_iconst (v := 0) hx hb dX12_costOf__0 (by decide) ?_
  refine lv_istore (lv' := [(4, .int 0), (0, .ref oM), (1, .ref rw), (2, .int fo), (3, .int to_)]) hx hb dX12_costOf__1 hl (by decide) rfl (fun ls hl => ?_)
  refine lv_bipush (v := 32) hx hb dX12_costOf__3 (by decide) ?_
  refine lv_istore (lv' := [(5, .int 32), (4, .int 0), (0, .ref oM), (1, .ref rw), (2, .int fo), (3, .int to_)]) hx hb dX12_costOf__5 hl (by decide) rfl (fun ls hl => ?_)
  refine lv_iload_n hx hb dX12_costOf__7 rfl (lv_at hl 4 rfl) ?_
  refine lv_istore (lv' := [(6, .int fo), (5, .int 32), (4, .int 0), (0, .ref oM), (1, .ref rw), (2, .int fo), (3, .int to_)]) hx hb dX12_costOf__8 hl (by decide) rfl (fun ls hl => ?_)
  have LOOP_10 : ∀ (k_10 : Nat) (su : Int32) (be : Int32) (k : Int32) (H : Heap) (locs : List Loc) (ls : Array Slot), MSd (300 - k.toInt : Int) k_10 → (0 ≤ k.toInt ∧ k.toInt ≤ 300) → va_P (dC, dI) vwCl [(oM, .inr (12, [.ref mT, .int zt, .ref mS, .ref mX, .int zp, .int zf, .ref mL, .ref mB, .ref mD, .ref m1, .ref m2, .int zh, .ref mR, .int zr, .ref x1, .ref x2, .ref x3, .int zc, .ref mH, .int zy, .int za, .int zb, .int zs, .int zq, .int zw, .int ze, .ref mY, .int zn, .ref mE, .int zm, .int zl, .ref mW, .int zk, .ref mO, .int zd, .ref y1, .ref y2, .ref y3, .ref y4, .ref mZ])), (x1, .inl (cI, 300, .inl ec1)), (x2, .inl (cI, 300, .inl ec2)), (x3, .inl (cI, 300, .inl ec3)), (rw, .inl (cI, cw, .inl fr))] H → va_D A [(oM, .inr (12, [.ref mT, .int zt, .ref mS, .ref mX, .int zp, .int zf, .ref mL, .ref mB, .ref mD, .ref m1, .ref m2, .int zh, .ref mR, .int zr, .ref x1, .ref x2, .ref x3, .int zc, .ref mH, .int zy, .int za, .int zb, .int zs, .int zq, .int zw, .int ze, .ref mY, .int zn, .ref mE, .int zm, .int zl, .ref mW, .int zk, .ref mO, .int zd, .ref y1, .ref y2, .ref y3, .ref y4, .ref mZ])), (x1, .inl (cI, 300, .inl ec1)), (x2, .inl (cI, 300, .inl ec2)), (x3, .inl (cI, 300, .inl ec3)), (rw, .inl (cI, cw, .inl fr))] → va_S A s.heap H locs → lv_has ls 7 [(6, .int k), (5, .int be), (4, .int su), (0, .ref oM), (1, .ref rw), (2, .int fo), (3, .int to_)] → W p l e (headSpec wsX12_costOf_ ({ frames := 2, cells := 0, slots := 0, locals := 44 } : Room)).room s m ([.ref oM, .ref rw, .int fo, .int to_] : List Value).toArray below meth c H locs 0 0 (MQ below QQ ([.ref oM, .ref rw, .int fo, .int to_] : List Value).toArray s 0 0 A) (F0 m 10 ls []) := by
    clear hP hD hS hl
    intro k_10
    induction k_10 with
    | zero =>
      intro su be k H locs ls hm_10 g_k hP hD hS hl
      exact ms_0 hm_10
    | succ k_10 ih_10 =>
      intro su be k H locs ls hm_10 g_k hP hD hS hl
      refine lv_iload hx hb dX12_costOf__10 (lv_at hl 0 rfl) ?_
      refine lv_iload_n hx hb dX12_costOf__12 rfl (lv_at hl 6 rfl) ?_
      refine lv_icmp_ge (tgt := 43) hx hb dX12_costOf__13 (by decide) (fun c_1 => ?_) (fun c_1 => ?_)
      · have tc_1 : to_.toInt ≤ k.toInt := v_le c_1
        refine lv_iload hx hb dX12_costOf__43 (lv_at hl 2 rfl) ?_
        refine lv_aload_n hx hb dX12_costOf__45 rfl (lv_at hl 3 rfl) ?_
        refine lv_iload hx hb dX12_costOf__46 (lv_at hl 1 rfl) ?_
        refine lv_bipush (v := 32) hx hb dX12_costOf__48 (by decide) ?_
        have hPc := hP.sub (ws' := [(oM, .inr (12, [.ref mT, .int zt, .ref mS, .ref mX, .int zp, .int zf, .ref mL, .ref mB, .ref mD, .ref m1, .ref m2, .int zh, .ref mR, .int zr, .ref x1, .ref x2, .ref x3, .int zc, .ref mH, .int zy, .int za, .int zb, .int zs, .int zq, .int zw, .int ze, .ref mY, .int zn, .ref mE, .int zm, .int zl, .ref mW, .int zk, .ref mO, .int zd, .ref y1, .ref y2, .ref y3, .ref y4, .ref mZ])), (x1, .inl (cI, 300, .inl ec1)), (x2, .inl (cI, 300, .inl ec2)), (x3, .inl (cI, 300, .inl ec3))]) [0, 1, 2, 3] rfl
        have hDc := hD.sub (ws' := [(oM, .inr (12, [.ref mT, .int zt, .ref mS, .ref mX, .int zp, .int zf, .ref mL, .ref mB, .ref mD, .ref m1, .ref m2, .int zh, .ref mR, .int zr, .ref x1, .ref x2, .ref x3, .int zc, .ref mH, .int zy, .int za, .int zb, .int zs, .int zq, .int zw, .int ze, .ref mY, .int zn, .ref mE, .int zm, .int zl, .ref mW, .int zk, .ref mO, .int zd, .ref y1, .ref y2, .ref y3, .ref y4, .ref mZ])), (x1, .inl (cI, 300, .inl ec1)), (x2, .inl (cI, 300, .inl ec2)), (x3, .inl (cI, 300, .inl ec3))]) [0, 1, 2, 3] (by decide +kernel) rfl
        have hFc := va_free (wc := [(oM, .inr (12, [.ref mT, .int zt, .ref mS, .ref mX, .int zp, .int zf, .ref mL, .ref mB, .ref mD, .ref m1, .ref m2, .int zh, .ref mR, .int zr, .ref x1, .ref x2, .ref x3, .int zc, .ref mH, .int zy, .int za, .int zb, .int zs, .int zq, .int zw, .int ze, .ref mY, .int zn, .ref mE, .int zm, .int zl, .ref mW, .int zk, .ref mO, .int zd, .ref y1, .ref y2, .ref y3, .ref y4, .ref mZ])), (x1, .inl (cI, 300, .inl ec1)), (x2, .inl (cI, 300, .inl ec2)), (x3, .inl (cI, 300, .inl ec3))]) hD hS hA [0, 1, 2, 3] rfl
        refine va_calli (va_runV (As := [.int be, .int 32]) (rest := [.int su]) ⟨hx, hb, hml, hown, hts⟩ (m_X12_costOf l dC dI cI cS H.size oM mT mS mX mL mB mD m1 m2 mR x1 x2 x3 mH mY mE mW mO y1 y2 y3 y4 mZ zt zp zf zh zr zc zy za zb zs zq zw ze zn zm zl zk zd ec1 ec2 ec3 be 32 (g_zt) (g_zp) (g_zf) (g_zh) (g_zr) (g_zc) (g_zy) (g_za) (g_zb) (g_zs) (g_zq) (g_zn) (g_zm) (g_zk)) (cwV 2 hts gX12_costOf__X12_costOf rfl rfl rfl (by decide +kernel) ⟨Nat.le_of_ble_eq_true rfl, Nat.le_of_ble_eq_true rfl⟩) ⟨fun a U g mk q => by obtain ⟨q0, q1, qP, qK, qD⟩ := q; exact ⟨q0, q1, qP, va_K.moved (u := U) (U := U.calling g mk a) (Vm.Alike.refl U.vm) qK, qD⟩, va_recv hK hPc (ci := 12) (q0 := 0) rfl rfl, fun U hU hW => ⟨rfl, by rw [hU], by rw [hU]; exact hPc, va_K.moved hW.alike hK, hDc.weaken (fun _ _ _ _ => trivial)⟩⟩ rfl rfl hl.1 rfl (lv_room (Nat.le_of_ble_eq_true rfl)) dX12_costOf__50 ⟨Nat.le_of_ble_eq_true rfl, Nat.le_of_ble_eq_true rfl⟩) hS (fun q _ h => hFc q h) hFc (fun r_2 u t H1 locs ht hvm hw hB hz1 hk1 hSn => ?_)
        subst hw
        obtain ⟨hP1, hD1⟩ := hB
        rw [ht] at hP1
        obtain ⟨hPn, hDn⟩ := va_join (wr := [(rw, .inl (cI, cw, .inl fr))]) (w1 := [(oM, .inr (12, [.ref mT, .int zt, .ref mS, .ref mX, .int zp, .int zf, .ref mL, .ref mB, .ref mD, .ref m1, .ref m2, .int zh, .ref mR, .int zr, .ref x1, .ref x2, .ref x3, .int zc, .ref mH, .int zy, .int za, .int zb, .int zs, .int zq, .int zw, .int ze, .ref mY, .int zn, .ref mE, .int zm, .int zl, .ref mW, .int zk, .ref mO, .int zd, .ref y1, .ref y2, .ref y3, .ref y4, .ref mZ])), (x1, .inl (cI, 300, .inl ec1)), (x2, .inl (cI, 300, .inl ec2)), (x3, .inl (cI, 300, .inl ec3))]) hP hD [0, 1, 2, 3] [4] rfl rfl (by decide +kernel) (by decide +kernel) hk1 hFc hP1 hD1
        clear hP hD hS hPc hDc hFc hk1 hz1 hvm ht hP1 hD1
        generalize H1 = H at hPn hSn ⊢
        have hP : va_P (dC, dI) vwCl [(rw, .inl (cI, cw, .inl fr)), (oM, .inr (12, [.ref mT, .int zt, .ref mS, .ref mX, .int zp, .int zf, .ref mL, .ref mB, .ref mD, .ref m1, .ref m2, .int zh, .ref mR, .int zr, .ref x1, .ref x2, .ref x3, .int zc, .ref mH, .int zy, .int za, .int zb, .int zs, .int zq, .int zw, .int ze, .ref mY, .int zn, .ref mE, .int zm, .int zl, .ref mW, .int zk, .ref mO, .int zd, .ref y1, .ref y2, .ref y3, .ref y4, .ref mZ])), (x1, .inl (cI, 300, .inl ec1)), (x2, .inl (cI, 300, .inl ec2)), (x3, .inl (cI, 300, .inl ec3))] H := hPn
        have hD : va_D A [(rw, .inl (cI, cw, .inl fr)), (oM, .inr (12, [.ref mT, .int zt, .ref mS, .ref mX, .int zp, .int zf, .ref mL, .ref mB, .ref mD, .ref m1, .ref m2, .int zh, .ref mR, .int zr, .ref x1, .ref x2, .ref x3, .int zc, .ref mH, .int zy, .int za, .int zb, .int zs, .int zq, .int zw, .int ze, .ref mY, .int zn, .ref mE, .int zm, .int zl, .ref mW, .int zk, .ref mO, .int zd, .ref y1, .ref y2, .ref y3, .ref y4, .ref mZ])), (x1, .inl (cI, 300, .inl ec1)), (x2, .inl (cI, 300, .inl ec2)), (x3, .inl (cI, 300, .inl ec3))] := hDn
        have hS := hSn
        clear hPn hDn hSn
        refine lv_iadd hx hb dX12_costOf__53 ?_
        refine lv_topi (fun x_3 ex_3 => ?_)
        have rv3_0 := v_rng su
        have rv3_1 := v_rng r_2
        have hP9 := hP.sub (ws' := [(oM, .inr (12, [.ref mT, .int zt, .ref mS, .ref mX, .int zp, .int zf, .ref mL, .ref mB, .ref mD, .ref m1, .ref m2, .int zh, .ref mR, .int zr, .ref x1, .ref x2, .ref x3, .int zc, .ref mH, .int zy, .int za, .int zb, .int zs, .int zq, .int zw, .int ze, .ref mY, .int zn, .ref mE, .int zm, .int zl, .ref mW, .int zk, .ref mO, .int zd, .ref y1, .ref y2, .ref y3, .ref y4, .ref mZ])), (x1, .inl (cI, 300, .inl ec1)), (x2, .inl (cI, 300, .inl ec2)), (x3, .inl (cI, 300, .inl ec3)), (rw, .inl (cI, cw, .inl fr))]) [1, 2, 3, 4, 0] rfl
        have hD9 := hD.sub (ws' := [(oM, .inr (12, [.ref mT, .int zt, .ref mS, .ref mX, .int zp, .int zf, .ref mL, .ref mB, .ref mD, .ref m1, .ref m2, .int zh, .ref mR, .int zr, .ref x1, .ref x2, .ref x3, .int zc, .ref mH, .int zy, .int za, .int zb, .int zs, .int zq, .int zw, .int ze, .ref mY, .int zn, .ref mE, .int zm, .int zl, .ref mW, .int zk, .ref mO, .int zd, .ref y1, .ref y2, .ref y3, .ref y4, .ref mZ])), (x1, .inl (cI, 300, .inl ec1)), (x2, .inl (cI, 300, .inl ec2)), (x3, .inl (cI, 300, .inl ec3)), (rw, .inl (cI, cw, .inl fr))]) [1, 2, 3, 4, 0] (by decide +kernel) rfl
        rw [hQQ]
        exact W.iret (v := x_3) hx hb hr (fun t ht hW => ⟨⟨x_3, x_3, rfl, rfl, ⟨by rw [ht]; exact hP9, hD9⟩⟩, hS.F ht⟩) hS.2.2 dX12_costOf__54
      · have tc_1 : k.toInt < to_.toInt := v_nle c_1
        refine lv_iload hx hb dX12_costOf__16 (lv_at hl 2 rfl) ?_
        refine lv_aload_n hx hb dX12_costOf__18 rfl (lv_at hl 3 rfl) ?_
        refine lv_iload hx hb dX12_costOf__19 (lv_at hl 1 rfl) ?_
        refine lv_aload_n hx hb dX12_costOf__21 rfl (lv_at hl 4 rfl) ?_
        refine lv_iload hx hb dX12_costOf__22 (lv_at hl 0 rfl) ?_
        refine va_iald hx hb hK hP 4 0 rfl rfl (v_in (by omega)) dX12_costOf__24 ?_
        refine lv_topi (fun x_4 ex_4 => ?_)
        have hPc := hP.sub (ws' := [(oM, .inr (12, [.ref mT, .int zt, .ref mS, .ref mX, .int zp, .int zf, .ref mL, .ref mB, .ref mD, .ref m1, .ref m2, .int zh, .ref mR, .int zr, .ref x1, .ref x2, .ref x3, .int zc, .ref mH, .int zy, .int za, .int zb, .int zs, .int zq, .int zw, .int ze, .ref mY, .int zn, .ref mE, .int zm, .int zl, .ref mW, .int zk, .ref mO, .int zd, .ref y1, .ref y2, .ref y3, .ref y4, .ref mZ])), (x1, .inl (cI, 300, .inl ec1)), (x2, .inl (cI, 300, .inl ec2)), (x3, .inl (cI, 300, .inl ec3))]) [0, 1, 2, 3] rfl
        have hDc := hD.sub (ws' := [(oM, .inr (12, [.ref mT, .int zt, .ref mS, .ref mX, .int zp, .int zf, .ref mL, .ref mB, .ref mD, .ref m1, .ref m2, .int zh, .ref mR, .int zr, .ref x1, .ref x2, .ref x3, .int zc, .ref mH, .int zy, .int za, .int zb, .int zs, .int zq, .int zw, .int ze, .ref mY, .int zn, .ref mE, .int zm, .int zl, .ref mW, .int zk, .ref mO, .int zd, .ref y1, .ref y2, .ref y3, .ref y4, .ref mZ])), (x1, .inl (cI, 300, .inl ec1)), (x2, .inl (cI, 300, .inl ec2)), (x3, .inl (cI, 300, .inl ec3))]) [0, 1, 2, 3] (by decide +kernel) rfl
        have hFc := va_free (wc := [(oM, .inr (12, [.ref mT, .int zt, .ref mS, .ref mX, .int zp, .int zf, .ref mL, .ref mB, .ref mD, .ref m1, .ref m2, .int zh, .ref mR, .int zr, .ref x1, .ref x2, .ref x3, .int zc, .ref mH, .int zy, .int za, .int zb, .int zs, .int zq, .int zw, .int ze, .ref mY, .int zn, .ref mE, .int zm, .int zl, .ref mW, .int zk, .ref mO, .int zd, .ref y1, .ref y2, .ref y3, .ref y4, .ref mZ])), (x1, .inl (cI, 300, .inl ec1)), (x2, .inl (cI, 300, .inl ec2)), (x3, .inl (cI, 300, .inl ec3))]) hD hS hA [0, 1, 2, 3] rfl
        refine va_calli (va_runV (As := [.int be, .int x_4]) (rest := [.int su]) ⟨hx, hb, hml, hown, hts⟩ (m_X12_costOf l dC dI cI cS H.size oM mT mS mX mL mB mD m1 m2 mR x1 x2 x3 mH mY mE mW mO y1 y2 y3 y4 mZ zt zp zf zh zr zc zy za zb zs zq zw ze zn zm zl zk zd ec1 ec2 ec3 be x_4 (g_zt) (g_zp) (g_zf) (g_zh) (g_zr) (g_zc) (g_zy) (g_za) (g_zb) (g_zs) (g_zq) (g_zn) (g_zm) (g_zk)) (cwV 2 hts gX12_costOf__X12_costOf rfl rfl rfl (by decide +kernel) ⟨Nat.le_of_ble_eq_true rfl, Nat.le_of_ble_eq_true rfl⟩) ⟨fun a U g mk q => by obtain ⟨q0, q1, qP, qK, qD⟩ := q; exact ⟨q0, q1, qP, va_K.moved (u := U) (U := U.calling g mk a) (Vm.Alike.refl U.vm) qK, qD⟩, va_recv hK hPc (ci := 12) (q0 := 0) rfl rfl, fun U hU hW => ⟨rfl, by rw [hU], by rw [hU]; exact hPc, va_K.moved hW.alike hK, hDc.weaken (fun _ _ _ _ => trivial)⟩⟩ rfl rfl hl.1 rfl (lv_room (Nat.le_of_ble_eq_true rfl)) dX12_costOf__25 ⟨Nat.le_of_ble_eq_true rfl, Nat.le_of_ble_eq_true rfl⟩) hS (fun q _ h => hFc q h) hFc (fun r_5 u t H1 locs ht hvm hw hB hz1 hk1 hSn => ?_)
        subst hw
        obtain ⟨hP1, hD1⟩ := hB
        rw [ht] at hP1
        obtain ⟨hPn, hDn⟩ := va_join (wr := [(rw, .inl (cI, cw, .inl fr))]) (w1 := [(oM, .inr (12, [.ref mT, .int zt, .ref mS, .ref mX, .int zp, .int zf, .ref mL, .ref mB, .ref mD, .ref m1, .ref m2, .int zh, .ref mR, .int zr, .ref x1, .ref x2, .ref x3, .int zc, .ref mH, .int zy, .int za, .int zb, .int zs, .int zq, .int zw, .int ze, .ref mY, .int zn, .ref mE, .int zm, .int zl, .ref mW, .int zk, .ref mO, .int zd, .ref y1, .ref y2, .ref y3, .ref y4, .ref mZ])), (x1, .inl (cI, 300, .inl ec1)), (x2, .inl (cI, 300, .inl ec2)), (x3, .inl (cI, 300, .inl ec3))]) hP hD [0, 1, 2, 3] [4] rfl rfl (by decide +kernel) (by decide +kernel) hk1 hFc hP1 hD1
        clear hP hD hS hPc hDc hFc hk1 hz1 hvm ht hP1 hD1
        generalize H1 = H at hPn hSn ⊢
        have hP : va_P (dC, dI) vwCl [(rw, .inl (cI, cw, .inl fr)), (oM, .inr (12, [.ref mT, .int zt, .ref mS, .ref mX, .int zp, .int zf, .ref mL, .ref mB, .ref mD, .ref m1, .ref m2, .int zh, .ref mR, .int zr, .ref x1, .ref x2, .ref x3, .int zc, .ref mH, .int zy, .int za, .int zb, .int zs, .int zq, .int zw, .int ze, .ref mY, .int zn, .ref mE, .int zm, .int zl, .ref mW, .int zk, .ref mO, .int zd, .ref y1, .ref y2, .ref y3, .ref y4, .ref mZ])), (x1, .inl (cI, 300, .inl ec1)), (x2, .inl (cI, 300, .inl ec2)), (x3, .inl (cI, 300, .inl ec3))] H := hPn
        have hD : va_D A [(rw, .inl (cI, cw, .inl fr)), (oM, .inr (12, [.ref mT, .int zt, .ref mS, .ref mX, .int zp, .int zf, .ref mL, .ref mB, .ref mD, .ref m1, .ref m2, .int zh, .ref mR, .int zr, .ref x1, .ref x2, .ref x3, .int zc, .ref mH, .int zy, .int za, .int zb, .int zs, .int zq, .int zw, .int ze, .ref mY, .int zn, .ref mE, .int zm, .int zl, .ref mW, .int zk, .ref mO, .int zd, .ref y1, .ref y2, .ref y3, .ref y4, .ref mZ])), (x1, .inl (cI, 300, .inl ec1)), (x2, .inl (cI, 300, .inl ec2)), (x3, .inl (cI, 300, .inl ec3))] := hDn
        have hS := hSn
        clear hPn hDn hSn
        refine lv_iadd hx hb dX12_costOf__28 ?_
        refine lv_topi (fun x_6 ex_6 => ?_)
        have rv6_0 := v_rng su
        have rv6_1 := v_rng r_5
        refine lv_istore (lv' := [(4, .int x_6), (6, .int k), (5, .int be), (0, .ref oM), (1, .ref rw), (2, .int fo), (3, .int to_)]) hx hb dX12_costOf__29 hl (by decide) rfl (fun ls hl => ?_)
        refine lv_aload_n hx hb dX12_costOf__31 rfl (lv_at hl 4 rfl) ?_
        refine lv_iload hx hb dX12_costOf__32 (lv_at hl 1 rfl) ?_
        refine va_iald hx hb hK hP 0 0 rfl rfl (v_in (by omega)) dX12_costOf__34 ?_
        refine k_i (y := x_4) ex_4.symm ?_
        refine lv_istore (lv' := [(5, .int x_4), (4, .int x_6), (6, .int k), (0, .ref oM), (1, .ref rw), (2, .int fo), (3, .int to_)]) hx hb dX12_costOf__35 hl (by decide) rfl (fun ls hl => ?_)
        obtain ⟨x_7, ex_7⟩ : ∃ y : Int32, y = k + 1 := ⟨_, rfl⟩
        have tx_7 : x_7.toInt = k.toInt + 1 := v_add ex_7 (by show -2147483648 ≤ k.toInt + 1; omega) (by show k.toInt + 1 < 2147483648; omega)
        refine lv_iinc (v := x_7) (lv' := [(6, .int x_7), (5, .int x_4), (4, .int x_6), (0, .ref oM), (1, .ref rw), (2, .int fo), (3, .int to_)]) hx hb dX12_costOf__37 hl (k := 2) rfl (by rw [ex_7]; rfl) (by decide) rfl (fun ls hl => ?_)
        refine lv_goto (tgt := 10) hx hb dX12_costOf__40 (by decide) ?_
        exact ih_10 x_6 x_4 x_7 _ _ _ (ms_lt hm_10 (by show ((300 - x_7.toInt : Int)) < 300 - k.toInt; omega) (by show (0 : Int) < 300 - k.toInt; omega)) (by show 0 ≤ x_7.toInt ∧ x_7.toInt ≤ 300; omega) (hP.sub [1, 2, 3, 4, 0] rfl) (hD.sub [1, 2, 3, 4, 0] (by decide +kernel) rfl) hS (lv_sub hl [0, 1, 2, 3, 4, 5, 6] rfl)
  exact LOOP_10 _ 0 32 fo _ _ _ (ms_s _) (g_fo) hP hD hS (lv_sub hl [0, 1, 2, 3, 4, 5, 6] rfl)

set_option maxHeartbeats 40000000 in
set_option maxRecDepth 100000 in
theorem y_worth (l : Launch) (dC : Nat → ClassId) (dI : Nat → Nat → Nat) (cI cS : ClassId) (sz : Nat) (oM : Nat) (mT : Nat) (mS : Nat) (mX : Nat) (mL : Nat) (mB : Nat) (mD : Nat) (m1 : Nat) (m2 : Nat) (mR : Nat) (x1 : Nat) (x2 : Nat) (x3 : Nat) (mH : Nat) (mY : Nat) (mE : Nat) (mW : Nat) (mO : Nat) (y1 : Nat) (y2 : Nat) (y3 : Nat) (y4 : Nat) (mZ : Nat) (zt : Int32) (zp : Int32) (zf : Int32) (zh : Int32) (zr : Int32) (zc : Int32) (zy : Int32) (za : Int32) (zb : Int32) (zs : Int32) (zq : Int32) (zw : Int32) (ze : Int32) (zn : Int32) (zm : Int32) (zl : Int32) (zk : Int32) (zd : Int32) (ec1 : Nat → Int32) (ec2 : Nat → Int32) (ec3 : Nat → Int32) (eS : Nat → Int32) (eX : Nat → Int32) (g_zt : 0 ≤ zt.toInt ∧ zt.toInt ≤ 900) (g_zp : 0 ≤ zp.toInt ∧ zp.toInt ≤ 20) (g_zf : 0 ≤ zf.toInt ∧ zf.toInt ≤ 19) (g_zh : 0 ≤ zh.toInt ∧ zh.toInt ≤ 6) (g_zr : 0 ≤ zr.toInt ∧ zr.toInt ≤ 258) (g_zc : 0 ≤ zc.toInt ∧ zc.toInt ≤ 300) (g_zy : 0 ≤ zy.toInt ∧ zy.toInt ≤ 65536) (g_za : 0 ≤ za.toInt ∧ za.toInt ≤ 5) (g_zb : 0 ≤ zb.toInt ∧ zb.toInt ≤ 5) (g_zs : 0 ≤ zs.toInt ∧ zs.toInt ≤ 2000000) (g_zq : -1 ≤ zq.toInt ∧ zq.toInt ≤ 2000000) (g_zn : 0 ≤ zn.toInt ∧ zn.toInt ≤ 2600) (g_zm : 0 ≤ zm.toInt ∧ zm.toInt ≤ 2600) (g_zk : 0 ≤ zk.toInt ∧ zk.toInt ≤ 300) (g_eS : rg 0 300 eS) (g_eX : rg 0 65535 eX) (hzs : zs.toInt ≤ 1000000) : Met l yX12_worth wsX12_worth ({ frames := 3, cells := 0, slots := 0, locals := 70 } : Room) (va_Pc [.ref oM] (fun U => U.heap.size = sz ∧ va_P (dC, dI) vwCl [(oM, .inr (12, [.ref mT, .int zt, .ref mS, .ref mX, .int zp, .int zf, .ref mL, .ref mB, .ref mD, .ref m1, .ref m2, .int zh, .ref mR, .int zr, .ref x1, .ref x2, .ref x3, .int zc, .ref mH, .int zy, .int za, .int zb, .int zs, .int zq, .int zw, .int ze, .ref mY, .int zn, .ref mE, .int zm, .int zl, .ref mW, .int zk, .ref mO, .int zd, .ref y1, .ref y2, .ref y3, .ref y4, .ref mZ])), (x1, .inl (cI, 300, .inl ec1)), (x2, .inl (cI, 300, .inl ec2)), (x3, .inl (cI, 300, .inl ec3)), (mS, .inl (cI, 21, .inl eS)), (mX, .inl (cI, 6300, .inl eX))] U.heap ∧ va_K (dC, dI) vwCl [(cI, .int), (cS, .short)] U ∧ va_D (fun _ => True) [(oM, .inr (12, [.ref mT, .int zt, .ref mS, .ref mX, .int zp, .int zf, .ref mL, .ref mB, .ref mD, .ref m1, .ref m2, .int zh, .ref mR, .int zr, .ref x1, .ref x2, .ref x3, .int zc, .ref mH, .int zy, .int za, .int zb, .int zs, .int zq, .int zw, .int ze, .ref mY, .int zn, .ref mE, .int zm, .int zl, .ref mW, .int zk, .ref mO, .int zd, .ref y1, .ref y2, .ref y3, .ref y4, .ref mZ])), (x1, .inl (cI, 300, .inl ec1)), (x2, .inl (cI, 300, .inl ec2)), (x3, .inl (cI, 300, .inl ec3)), (mS, .inl (cI, 21, .inl eS)), (mX, .inl (cI, 6300, .inl eX))])) (va_Qi (fun (r : Int32) (u : Int32) => r = u) (fun (r : Int32) t => ∃ (ze' : Int32), va_P (dC, dI) vwCl [(oM, .inr (12, [.ref mT, .int zt, .ref mS, .ref mX, .int zp, .int zf, .ref mL, .ref mB, .ref mD, .ref m1, .ref m2, .int zh, .ref mR, .int zr, .ref x1, .ref x2, .ref x3, .int zc, .ref mH, .int zy, .int za, .int zb, .int zs, .int zq, .int zw, .int ze', .ref mY, .int zn, .ref mE, .int zm, .int zl, .ref mW, .int zk, .ref mO, .int zd, .ref y1, .ref y2, .ref y3, .ref y4, .ref mZ])), (x1, .inl (cI, 300, .inl ec1)), (x2, .inl (cI, 300, .inl ec2)), (x3, .inl (cI, 300, .inl ec3)), (mS, .inl (cI, 21, .inl eS)), (mX, .inl (cI, 6300, .inl eX))] t.heap ∧ va_D (va_A [(oM, .inr (12, [.ref mT, .int zt, .ref mS, .ref mX, .int zp, .int zf, .ref mL, .ref mB, .ref mD, .ref m1, .ref m2, .int zh, .ref mR, .int zr, .ref x1, .ref x2, .ref x3, .int zc, .ref mH, .int zy, .int za, .int zb, .int zs, .int zq, .int zw, .int ze, .ref mY, .int zn, .ref mE, .int zm, .int zl, .ref mW, .int zk, .ref mO, .int zd, .ref y1, .ref y2, .ref y3, .ref y4, .ref mZ])), (x1, .inl (cI, 300, .inl ec1)), (x2, .inl (cI, 300, .inl ec2)), (x3, .inl (cI, 300, .inl ec3)), (mS, .inl (cI, 21, .inl eS)), (mX, .inl (cI, 6300, .inl eX))] sz) [(oM, .inr (12, [.ref mT, .int zt, .ref mS, .ref mX, .int zp, .int zf, .ref mL, .ref mB, .ref mD, .ref m1, .ref m2, .int zh, .ref mR, .int zr, .ref x1, .ref x2, .ref x3, .int zc, .ref mH, .int zy, .int za, .int zb, .int zs, .int zq, .int zw, .int ze', .ref mY, .int zn, .ref mE, .int zm, .int zl, .ref mW, .int zk, .ref mO, .int zd, .ref y1, .ref y2, .ref y3, .ref y4, .ref mZ])), (x1, .inl (cI, 300, .inl ec1)), (x2, .inl (cI, 300, .inl ec2)), (x3, .inl (cI, 300, .inl ec3)), (mS, .inl (cI, 21, .inl eS)), (mX, .inl (cI, 6300, .inl eX))]) (va_A [(oM, .inr (12, [.ref mT, .int zt, .ref mS, .ref mX, .int zp, .int zf, .ref mL, .ref mB, .ref mD, .ref m1, .ref m2, .int zh, .ref mR, .int zr, .ref x1, .ref x2, .ref x3, .int zc, .ref mH, .int zy, .int za, .int zb, .int zs, .int zq, .int zw, .int ze, .ref mY, .int zn, .ref mE, .int zm, .int zl, .ref mW, .int zk, .ref mO, .int zd, .ref y1, .ref y2, .ref y3, .ref y4, .ref mZ])), (x1, .inl (cI, 300, .inl ec1)), (x2, .inl (cI, 300, .inl ec2)), (x3, .inl (cI, 300, .inl ec3)), (mS, .inl (cI, 21, .inl eS)), (mX, .inl (cI, 6300, .inl eX))] sz)) 0 0 (va_A [(oM, .inr (12, [.ref mT, .int zt, .ref mS, .ref mX, .int zp, .int zf, .ref mL, .ref mB, .ref mD, .ref m1, .ref m2, .int zh, .ref mR, .int zr, .ref x1, .ref x2, .ref x3, .int zc, .ref mH, .int zy, .int za, .int zb, .int zs, .int zq, .int zw, .int ze, .ref mY, .int zn, .ref mE, .int zm, .int zl, .ref mW, .int zk, .ref mO, .int zd, .ref y1, .ref y2, .ref y3, .ref y4, .ref mZ])), (x1, .inl (cI, 300, .inl ec1)), (x2, .inl (cI, 300, .inl ec2)), (x3, .inl (cI, 300, .inl ec3)), (mS, .inl (cI, 21, .inl eS)), (mX, .inl (cI, 6300, .inl eX))] sz) := by
  refine Met.ofW (cc := cX12_worth) (maxL := 1) (ret := (some .int)) (by decide) rfl ?_
  intro p e s m args below meth c s₁ B hml hv
  obtain ⟨rfl, hsz, hP, hK, hD0⟩ := hv
  have hx := B.exec
  have hb := B.bytes
  have hr := B.returns
  have hts := atoms_spec (ws := wsX12_worth) B.pre
  have hown : s.vm.findClass RX12 = some m.cls := findClass_of_methodNamed B.named
  have hlocks := B.notSynchronized
  have in_X12 : ∀ w ∈ wsX120, w ∈ wsX12_worth := fun _ h => List.mem_cons_of_mem _ (List.mem_append_right _ (h))
  subst hsz
  have hD := hD0.self (sz := s.heap.size)
  generalize hAe : va_A [(oM, .inr (12, [.ref mT, .int zt, .ref mS, .ref mX, .int zp, .int zf, .ref mL, .ref mB, .ref mD, .ref m1, .ref m2, .int zh, .ref mR, .int zr, .ref x1, .ref x2, .ref x3, .int zc, .ref mH, .int zy, .int za, .int zb, .int zs, .int zq, .int zw, .int ze, .ref mY, .int zn, .ref mE, .int zm, .int zl, .ref mW, .int zk, .ref mO, .int zd, .ref y1, .ref y2, .ref y3, .ref y4, .ref mZ])), (x1, .inl (cI, 300, .inl ec1)), (x2, .inl (cI, 300, .inl ec2)), (x3, .inl (cI, 300, .inl ec3)), (mS, .inl (cI, 21, .inl eS)), (mX, .inl (cI, 6300, .inl eX))] s.heap.size = A at hD ⊢
  have hA : ∀ q : Nat, s.heap.size ≤ q → A q := fun q h => by rw [← hAe]; exact Or.inr h
  have hS : va_S A s.heap s.heap [] := va_S.rf
  have hP : va_P (dC, dI) vwCl [(oM, .inr (12, [.ref mT, .int zt, .ref mS, .ref mX, .int zp, .int zf, .ref mL, .ref mB, .ref mD, .ref m1, .ref m2, .int zh, .ref mR, .int zr, .ref x1, .ref x2, .ref x3, .int zc, .ref mH, .int zy, .int za, .int zb, .int zs, .int zq, .int zw, .int ze, .ref mY, .int zn, .ref mE, .int zm, .int zl, .ref mW, .int zk, .ref mO, .int zd, .ref y1, .ref y2, .ref y3, .ref y4, .ref mZ])), (x1, .inl (cI, 300, .inl ec1)), (x2, .inl (cI, 300, .inl ec2)), (x3, .inl (cI, 300, .inl ec3)), (mS, .inl (cI, 21, .inl eS)), (mX, .inl (cI, 6300, .inl eX))] s.heap := hP
  have hl := lv_entry ([.ref oM]) (n := 1) (Nat.le_of_ble_eq_true rfl)
  rw [lg_entry_eq]
  generalize (lg_sl ([.ref oM]) ++ List.replicate (1 - (lg_sl ([.ref oM])).length) Slot.unset).toArray = ls at hl ⊢
  have hl : lv_has ls 1 [(0, .ref oM)] := hl
  obtain ⟨QQ, hQQ⟩ : ∃ QQ : Array Value → State → Outcome → State → Prop, QQ = va_Qi (fun (r : Int32) (u : Int32) => r = u) (fun (r : Int32) t => ∃ (ze' : Int32), va_P (dC, dI) vwCl [(oM, .inr (12, [.ref mT, .int zt, .ref mS, .ref mX, .int zp, .int zf, .ref mL, .ref mB, .ref mD, .ref m1, .ref m2, .int zh, .ref mR, .int zr, .ref x1, .ref x2, .ref x3, .int zc, .ref mH, .int zy, .int za, .int zb, .int zs, .int zq, .int zw, .int ze', .ref mY, .int zn, .ref mE, .int zm, .int zl, .ref mW, .int zk, .ref mO, .int zd, .ref y1, .ref y2, .ref y3, .ref y4, .ref mZ])), (x1, .inl (cI, 300, .inl ec1)), (x2, .inl (cI, 300, .inl ec2)), (x3, .inl (cI, 300, .inl ec3)), (mS, .inl (cI, 21, .inl eS)), (mX, .inl (cI, 6300, .inl eX))] t.heap ∧ va_D A [(oM, .inr (12, [.ref mT, .int zt, .ref mS, .ref mX, .int zp, .int zf, .ref mL, .ref mB, .ref mD, .ref m1, .ref m2, .int zh, .ref mR, .int zr, .ref x1, .ref x2, .ref x3, .int zc, .ref mH, .int zy, .int za, .int zb, .int zs, .int zq, .int zw, .int ze', .ref mY, .int zn, .ref mE, .int zm, .int zl, .ref mW, .int zk, .ref mO, .int zd, .ref y1, .ref y2, .ref y3, .ref y4, .ref mZ])), (x1, .inl (cI, 300, .inl ec1)), (x2, .inl (cI, 300, .inl ec2)), (x3, .inl (cI, 300, .inl ec3)), (mS, .inl (cI, 21, .inl eS)), (mX, .inl (cI, 6300, .inl eX))]) A := ⟨_, rfl⟩
  rw [← hQQ]
  refine lv_aload_n hx hb dX12_worth_0 rfl (lv_at hl 0 rfl) ?_
  refine lv_iconst (v := 0) hx hb dX12_worth_1 (by decide) ?_
  refine va_put (D := (dC, dI)) (ci := 12) (v := .int 0) (ty := .int) (C := RX12) (T := TX12) (N := 40) hx hb hts in_X12 tyX12 tyX12_ok nmX12 hown hK hP hD hS 0 rfl rfl 25 (by decide) (hts (.fieldLink RX12 85 "TextMenderModel" "thrown" "I") (List.mem_of_getElem? (i := 1) rfl)) (fun _ h9 => h9) rfl (by decide +kernel) rfl rfl (Nat.le_of_ble_eq_true rfl) dX12_worth_2 (fun H locs hPn hDn hSn => ?_)
  clear hP hD hS
  have hP : va_P (dC, dI) vwCl [(oM, .inr (12, [.ref mT, .int zt, .ref mS, .ref mX, .int zp, .int zf, .ref mL, .ref mB, .ref mD, .ref m1, .ref m2, .int zh, .ref mR, .int zr, .ref x1, .ref x2, .ref x3, .int zc, .ref mH, .int zy, .int za, .int zb, .int zs, .int zq, .int zw, .int 0, .ref mY, .int zn, .ref mE, .int zm, .int zl, .ref mW, .int zk, .ref mO, .int zd, .ref y1, .ref y2, .ref y3, .ref y4, .ref mZ])), (x1, .inl (cI, 300, .inl ec1)), (x2, .inl (cI, 300, .inl ec2)), (x3, .inl (cI, 300, .inl ec3)), (mS, .inl (cI, 21, .inl eS)), (mX, .inl (cI, 6300, .inl eX))] H := hPn
  have hD : va_D A [(oM, .inr (12, [.ref mT, .int zt, .ref mS, .ref mX, .int zp, .int zf, .ref mL, .ref mB, .ref mD, .ref m1, .ref m2, .int zh, .ref mR, .int zr, .ref x1, .ref x2, .ref x3, .int zc, .ref mH, .int zy, .int za, .int zb, .int zs, .int zq, .int zw, .int 0, .ref mY, .int zn, .ref mE, .int zm, .int zl, .ref mW, .int zk, .ref mO, .int zd, .ref y1, .ref y2, .ref y3, .ref y4, .ref mZ])), (x1, .inl (cI, 300, .inl ec1)), (x2, .inl (cI, 300, .inl ec2)), (x3, .inl (cI, 300, .inl ec3)), (mS, .inl (cI, 21, .inl eS)), (mX, .inl (cI, 6300, .inl eX))] := hDn
  have hS := hSn
  clear hPn hDn hSn
  refine lv_aload_n hx hb dX12_worth_5 rfl (lv_at hl 0 rfl) ?_
  refine lv_aload_n hx hb dX12_worth_6 rfl (lv_at hl 0 rfl) ?_
  refine va_get (D := (dC, dI)) (ci := 12) (v := .ref mX) (C := RX12) (T := TX12) (N := 40) hx hb hts in_X12 hown hK hP 0 rfl rfl 3 (by decide) (hts (.fieldLink RX12 16 "TextMenderModel" "texts" "[I") (List.mem_of_getElem? (i := 2) rfl)) (fun _ h9 => h9) rfl dX12_worth_7 ?_
  refine lv_iconst (v := 0) hx hb dX12_worth_10 (by decide) ?_
  refine lv_aload_n hx hb dX12_worth_11 rfl (lv_at hl 0 rfl) ?_
  refine va_get (D := (dC, dI)) (ci := 12) (v := .ref mS) (C := RX12) (T := TX12) (N := 40) hx hb hts in_X12 hown hK hP 0 rfl rfl 2 (by decide) (hts (.fieldLink RX12 13 "TextMenderModel" "sizes" "[I") (List.mem_of_getElem? (i := 3) rfl)) (fun _ h9 => h9) rfl dX12_worth_12 ?_
  refine lv_iconst (v := 0) hx hb dX12_worth_15 (by decide) ?_
  refine va_iald hx hb hK hP 4 0 rfl rfl (by unfold vp_in; decide) dX12_worth_16 ?_
  refine lv_topi (fun x_1 ex_1 => ?_)
  have tx_1 : 0 ≤ x_1.toInt ∧ x_1.toInt ≤ 300 := rg_at g_eS ex_1
  have hPc := hP.sub (ws' := [(oM, .inr (12, [.ref mT, .int zt, .ref mS, .ref mX, .int zp, .int zf, .ref mL, .ref mB, .ref mD, .ref m1, .ref m2, .int zh, .ref mR, .int zr, .ref x1, .ref x2, .ref x3, .int zc, .ref mH, .int zy, .int za, .int zb, .int zs, .int zq, .int zw, .int 0, .ref mY, .int zn, .ref mE, .int zm, .int zl, .ref mW, .int zk, .ref mO, .int zd, .ref y1, .ref y2, .ref y3, .ref y4, .ref mZ])), (x1, .inl (cI, 300, .inl ec1)), (x2, .inl (cI, 300, .inl ec2)), (x3, .inl (cI, 300, .inl ec3)), (mX, .inl (cI, 6300, .inl eX))]) [0, 1, 2, 3, 5] rfl
  have hDc := hD.sub (ws' := [(oM, .inr (12, [.ref mT, .int zt, .ref mS, .ref mX, .int zp, .int zf, .ref mL, .ref mB, .ref mD, .ref m1, .ref m2, .int zh, .ref mR, .int zr, .ref x1, .ref x2, .ref x3, .int zc, .ref mH, .int zy, .int za, .int zb, .int zs, .int zq, .int zw, .int 0, .ref mY, .int zn, .ref mE, .int zm, .int zl, .ref mW, .int zk, .ref mO, .int zd, .ref y1, .ref y2, .ref y3, .ref y4, .ref mZ])), (x1, .inl (cI, 300, .inl ec1)), (x2, .inl (cI, 300, .inl ec2)), (x3, .inl (cI, 300, .inl ec3)), (mX, .inl (cI, 6300, .inl eX))]) [0, 1, 2, 3, 5] (by decide +kernel) rfl
  have hFc := va_free (wc := [(oM, .inr (12, [.ref mT, .int zt, .ref mS, .ref mX, .int zp, .int zf, .ref mL, .ref mB, .ref mD, .ref m1, .ref m2, .int zh, .ref mR, .int zr, .ref x1, .ref x2, .ref x3, .int zc, .ref mH, .int zy, .int za, .int zb, .int zs, .int zq, .int zw, .int 0, .ref mY, .int zn, .ref mE, .int zm, .int zl, .ref mW, .int zk, .ref mO, .int zd, .ref y1, .ref y2, .ref y3, .ref y4, .ref mZ])), (x1, .inl (cI, 300, .inl ec1)), (x2, .inl (cI, 300, .inl ec2)), (x3, .inl (cI, 300, .inl ec3)), (mX, .inl (cI, 6300, .inl eX))]) hD hS hA [0, 1, 2, 3, 5] rfl
  refine va_calli (va_runV (As := [.ref mX, .int 0, .int x_1]) (rest := []) ⟨hx, hb, hml, hown, hts⟩ (m_X12_costOf_ l dC dI cI cS H.size oM mX mT mS mX mL mB mD m1 m2 mR x1 x2 x3 mH mY mE mW mO y1 y2 y3 y4 mZ 6300 zt zp zf zh zr zc zy za zb zs zq zw 0 zn zm zl zk zd ec1 ec2 ec3 eX 0 x_1 (g_zt) (g_zp) (g_zf) (g_zh) (g_zr) (g_zc) (g_zy) (g_za) (g_zb) (g_zs) (g_zq) (g_zn) (g_zm) (g_zk) (by decide) (by omega) (by omega) (by omega)) (cwV 3 hts gX12_worth_X12_costOf_ rfl rfl rfl (by decide +kernel) ⟨Nat.le_of_ble_eq_true rfl, Nat.le_of_ble_eq_true rfl⟩) ⟨fun a U g mk q => by obtain ⟨q0, q1, qP, qK, qD⟩ := q; exact ⟨q0, q1, qP, va_K.moved (u := U) (U := U.calling g mk a) (Vm.Alike.refl U.vm) qK, qD⟩, va_recv hK hPc (ci := 12) (q0 := 0) rfl rfl, fun U hU hW => ⟨rfl, by rw [hU], by rw [hU]; exact hPc, va_K.moved hW.alike hK, hDc.weaken (fun _ _ _ _ => trivial)⟩⟩ rfl rfl hl.1 rfl (lv_room (Nat.le_of_ble_eq_true rfl)) dX12_worth_17 ⟨Nat.le_of_ble_eq_true rfl, Nat.le_of_ble_eq_true rfl⟩) hS (fun q _ h => hFc q h) hFc (fun r_2 u t H1 locs ht hvm hw hB hz1 hk1 hSn => ?_)
  subst hw
  obtain ⟨hP1, hD1⟩ := hB
  rw [ht] at hP1
  obtain ⟨hPn, hDn⟩ := va_join (wr := [(mS, .inl (cI, 21, .inl eS))]) (w1 := [(oM, .inr (12, [.ref mT, .int zt, .ref mS, .ref mX, .int zp, .int zf, .ref mL, .ref mB, .ref mD, .ref m1, .ref m2, .int zh, .ref mR, .int zr, .ref x1, .ref x2, .ref x3, .int zc, .ref mH, .int zy, .int za, .int zb, .int zs, .int zq, .int zw, .int 0, .ref mY, .int zn, .ref mE, .int zm, .int zl, .ref mW, .int zk, .ref mO, .int zd, .ref y1, .ref y2, .ref y3, .ref y4, .ref mZ])), (x1, .inl (cI, 300, .inl ec1)), (x2, .inl (cI, 300, .inl ec2)), (x3, .inl (cI, 300, .inl ec3)), (mX, .inl (cI, 6300, .inl eX))]) hP hD [0, 1, 2, 3, 5] [4] rfl rfl (by decide +kernel) (by decide +kernel) hk1 hFc hP1 hD1
  clear hP hD hS hPc hDc hFc hk1 hz1 hvm ht hP1 hD1
  generalize H1 = H at hPn hSn ⊢
  have hP : va_P (dC, dI) vwCl [(mS, .inl (cI, 21, .inl eS)), (oM, .inr (12, [.ref mT, .int zt, .ref mS, .ref mX, .int zp, .int zf, .ref mL, .ref mB, .ref mD, .ref m1, .ref m2, .int zh, .ref mR, .int zr, .ref x1, .ref x2, .ref x3, .int zc, .ref mH, .int zy, .int za, .int zb, .int zs, .int zq, .int zw, .int 0, .ref mY, .int zn, .ref mE, .int zm, .int zl, .ref mW, .int zk, .ref mO, .int zd, .ref y1, .ref y2, .ref y3, .ref y4, .ref mZ])), (x1, .inl (cI, 300, .inl ec1)), (x2, .inl (cI, 300, .inl ec2)), (x3, .inl (cI, 300, .inl ec3)), (mX, .inl (cI, 6300, .inl eX))] H := hPn
  have hD : va_D A [(mS, .inl (cI, 21, .inl eS)), (oM, .inr (12, [.ref mT, .int zt, .ref mS, .ref mX, .int zp, .int zf, .ref mL, .ref mB, .ref mD, .ref m1, .ref m2, .int zh, .ref mR, .int zr, .ref x1, .ref x2, .ref x3, .int zc, .ref mH, .int zy, .int za, .int zb, .int zs, .int zq, .int zw, .int 0, .ref mY, .int zn, .ref mE, .int zm, .int zl, .ref mW, .int zk, .ref mO, .int zd, .ref y1, .ref y2, .ref y3, .ref y4, .ref mZ])), (x1, .inl (cI, 300, .inl ec1)), (x2, .inl (cI, 300, .inl ec2)), (x3, .inl (cI, 300, .inl ec3)), (mX, .inl (cI, 6300, .inl eX))] := hDn
  have hS := hSn
  clear hPn hDn hSn
  have hP9 := hP.sub (ws' := [(oM, .inr (12, [.ref mT, .int zt, .ref mS, .ref mX, .int zp, .int zf, .ref mL, .ref mB, .ref mD, .ref m1, .ref m2, .int zh, .ref mR, .int zr, .ref x1, .ref x2, .ref x3, .int zc, .ref mH, .int zy, .int za, .int zb, .int zs, .int zq, .int zw, .int 0, .ref mY, .int zn, .ref mE, .int zm, .int zl, .ref mW, .int zk, .ref mO, .int zd, .ref y1, .ref y2, .ref y3, .ref y4, .ref mZ])), (x1, .inl (cI, 300, .inl ec1)), (x2, .inl (cI, 300, .inl ec2)), (x3, .inl (cI, 300, .inl ec3)), (mS, .inl (cI, 21, .inl eS)), (mX, .inl (cI, 6300, .inl eX))]) [1, 2, 3, 4, 0, 5] rfl
  have hD9 := hD.sub (ws' := [(oM, .inr (12, [.ref mT, .int zt, .ref mS, .ref mX, .int zp, .int zf, .ref mL, .ref mB, .ref mD, .ref m1, .ref m2, .int zh, .ref mR, .int zr, .ref x1, .ref x2, .ref x3, .int zc, .ref mH, .int zy, .int za, .int zb, .int zs, .int zq, .int zw, .int 0, .ref mY, .int zn, .ref mE, .int zm, .int zl, .ref mW, .int zk, .ref mO, .int zd, .ref y1, .ref y2, .ref y3, .ref y4, .ref mZ])), (x1, .inl (cI, 300, .inl ec1)), (x2, .inl (cI, 300, .inl ec2)), (x3, .inl (cI, 300, .inl ec3)), (mS, .inl (cI, 21, .inl eS)), (mX, .inl (cI, 6300, .inl eX))]) [1, 2, 3, 4, 0, 5] (by decide +kernel) rfl
  rw [hQQ]
  exact W.iret (v := r_2) hx hb hr (fun t ht hW => ⟨⟨r_2, r_2, rfl, rfl, ⟨0, by rw [ht]; exact hP9, hD9⟩⟩, hS.F ht⟩) hS.2.2 dX12_worth_20

end

/-! 56.a.rows -/
section
theorem dX12_rows_0 : decode cX12_rows 0 = .ok (.aload_n 0, 1) := by decide +kernel
theorem dX12_rows_1 : decode cX12_rows 1 = .ok (.iconst 0, 1) := by decide +kernel
theorem dX12_rows_2 : decode cX12_rows 2 = .ok (.putfield 85, 3) := by decide +kernel
theorem dX12_rows_5 : decode cX12_rows 5 = .ok (.aload_n 0, 1) := by decide +kernel
theorem dX12_rows_6 : decode cX12_rows 6 = .ok (.iconst (-1), 1) := by decide +kernel
theorem dX12_rows_7 : decode cX12_rows 7 = .ok (.putfield 55, 3) := by decide +kernel
theorem dX12_rows_10 : decode cX12_rows 10 = .ok (.iload_n 1, 1) := by decide +kernel
theorem dX12_rows_11 : decode cX12_rows 11 = .ok (.iconst 1, 1) := by decide +kernel
theorem dX12_rows_12 : decode cX12_rows 12 = .ok (.if_icmp .lt 8, 3) := by decide +kernel
theorem dX12_rows_20 : decode cX12_rows 20 = .ok (.iconst (-1), 1) := by decide +kernel
theorem dX12_rows_21 : decode cX12_rows 21 = .ok (.ireturn, 1) := by decide +kernel
theorem dX12_rows_15 : decode cX12_rows 15 = .ok (.iload_n 1, 1) := by decide +kernel
theorem dX12_rows_16 : decode cX12_rows 16 = .ok (.iconst 3, 1) := by decide +kernel
theorem dX12_rows_17 : decode cX12_rows 17 = .ok (.if_icmp .le 5, 3) := by decide +kernel
theorem dX12_rows_22 : decode cX12_rows 22 = .ok (.aload_n 0, 1) := by decide +kernel
theorem dX12_rows_23 : decode cX12_rows 23 = .ok (.iconst 0, 1) := by decide +kernel
theorem dX12_rows_24 : decode cX12_rows 24 = .ok (.putfield 180, 3) := by decide +kernel
theorem dX12_rows_27 : decode cX12_rows 27 = .ok (.iconst 1, 1) := by decide +kernel
theorem dX12_rows_28 : decode cX12_rows 28 = .ok (.istore_n 2, 1) := by decide +kernel
theorem dX12_rows_29 : decode cX12_rows 29 = .ok (.iload_n 2, 1) := by decide +kernel
theorem dX12_rows_30 : decode cX12_rows 30 = .ok (.iload_n 1, 1) := by decide +kernel
theorem dX12_rows_31 : decode cX12_rows 31 = .ok (.if_icmp .gt 177, 3) := by decide +kernel
theorem dX12_rows_208 : decode cX12_rows 208 = .ok (.aload_n 0, 1) := by decide +kernel
theorem dX12_rows_209 : decode cX12_rows 209 = .ok (.getfield 180, 3) := by decide +kernel
theorem dX12_rows_212 : decode cX12_rows 212 = .ok (.ireturn, 1) := by decide +kernel
theorem dX12_rows_34 : decode cX12_rows 34 = .ok (.aload_n 0, 1) := by decide +kernel
theorem dX12_rows_35 : decode cX12_rows 35 = .ok (.getfield 161, 3) := by decide +kernel
theorem dX12_rows_38 : decode cX12_rows 38 = .ok (.ifCond .ne 7, 3) := by decide +kernel
theorem dX12_rows_45 : decode cX12_rows 45 = .ok (.aload_n 0, 1) := by decide +kernel
theorem dX12_rows_46 : decode cX12_rows 46 = .ok (.getfield 161, 3) := by decide +kernel
theorem dX12_rows_49 : decode cX12_rows 49 = .ok (.iload_n 2, 1) := by decide +kernel
set_option maxRecDepth 20000 in
theorem ggX12_rows_X12_power : GoodIn wsX12_rows wsX12_power := goodIn_r _ [11] rfl (by decide +kernel)
set_option maxRecDepth 20000 in
theorem gX12_rows_X12_power : GoodIn wsX12_rows (va_wsS RX12 183 yX12_power wsX12_power) := goodIn_app (goodIn_r _ [8, 9, 10] rfl (by decide +kernel)) ggX12_rows_X12_power
theorem dX12_rows_50 : decode cX12_rows 50 = .ok (.invokestatic 183, 3) := by decide +kernel
theorem dX12_rows_53 : decode cX12_rows 53 = .ok (.istore_n 3, 1) := by decide +kernel
theorem dX12_rows_54 : decode cX12_rows 54 = .ok (.iconst 0, 1) := by decide +kernel
theorem dX12_rows_55 : decode cX12_rows 55 = .ok (.istore 4, 2) := by decide +kernel
theorem dX12_rows_57 : decode cX12_rows 57 = .ok (.iload 4, 2) := by decide +kernel
theorem dX12_rows_59 : decode cX12_rows 59 = .ok (.iload_n 3, 1) := by decide +kernel
theorem dX12_rows_60 : decode cX12_rows 60 = .ok (.if_icmp .ge 142, 3) := by decide +kernel
theorem dX12_rows_202 : decode cX12_rows 202 = .ok (.iinc 2 1, 3) := by decide +kernel
theorem dX12_rows_205 : decode cX12_rows 205 = .ok (.goto (-176), 3) := by decide +kernel
theorem dX12_rows_63 : decode cX12_rows 63 = .ok (.aload_n 0, 1) := by decide +kernel
theorem dX12_rows_64 : decode cX12_rows 64 = .ok (.iload 4, 2) := by decide +kernel
theorem dX12_rows_66 : decode cX12_rows 66 = .ok (.iload_n 2, 1) := by decide +kernel
set_option maxRecDepth 20000 in
theorem ggX12_rows_X12_makes : GoodIn wsX12_rows wsX12_makes := goodIn_r _ [15, 4, 16, 17, 18, 19, 20, 10, 21, 22, 7, 6, 23, 24, 25, 26, 27, 28, 29, 30, 31, 32, 33, 34, 35, 36, 37, 38, 39, 40, 41, 42, 43, 44, 45, 46, 47, 48, 49, 50, 51, 52, 53, 54, 55, 56, 57, 58, 59, 60, 61, 62, 63, 64, 65, 66, 67, 68, 69, 70, 71, 72, 73, 74, 90, 91, 92, 93, 94, 95, 96, 97, 98, 99, 100, 101, 102, 103, 104, 105, 106, 107, 108, 109, 110, 111, 112, 113, 114, 115, 116, 117, 118, 119, 120, 121, 122, 123, 124, 125, 126, 127, 128, 129] rfl (by decide +kernel)
set_option maxRecDepth 20000 in
theorem gX12_rows_X12_makes : GoodIn wsX12_rows (wsV RX12 186 RX12 yX12_makes wsX12_makes) := goodIn_app (goodIn_r _ [12, 13, 14, 10] rfl (by decide +kernel)) ggX12_rows_X12_makes
theorem dX12_rows_67 : decode cX12_rows 67 = .ok (.invokevirtual 186, 3) := by decide +kernel
theorem dX12_rows_70 : decode cX12_rows 70 = .ok (.ifCond .ne 6, 3) := by decide +kernel
theorem dX12_rows_76 : decode cX12_rows 76 = .ok (.bipush 6, 2) := by decide +kernel
theorem dX12_rows_78 : decode cX12_rows 78 = .ok (.aload_n 0, 1) := by decide +kernel
theorem dX12_rows_79 : decode cX12_rows 79 = .ok (.getfield 180, 3) := by decide +kernel
theorem dX12_rows_82 : decode cX12_rows 82 = .ok (.imul, 1) := by decide +kernel
theorem dX12_rows_83 : decode cX12_rows 83 = .ok (.istore 5, 2) := by decide +kernel
theorem dX12_rows_85 : decode cX12_rows 85 = .ok (.aload_n 0, 1) := by decide +kernel
theorem dX12_rows_86 : decode cX12_rows 86 = .ok (.getfield 36, 3) := by decide +kernel
theorem dX12_rows_89 : decode cX12_rows 89 = .ok (.iload 5, 2) := by decide +kernel
theorem dX12_rows_91 : decode cX12_rows 91 = .ok (.iload_n 2, 1) := by decide +kernel
theorem dX12_rows_92 : decode cX12_rows 92 = .ok (.iastore, 1) := by decide +kernel
theorem dX12_rows_93 : decode cX12_rows 93 = .ok (.iconst 0, 1) := by decide +kernel
theorem dX12_rows_94 : decode cX12_rows 94 = .ok (.istore 6, 2) := by decide +kernel
theorem dX12_rows_96 : decode cX12_rows 96 = .ok (.iload 6, 2) := by decide +kernel
theorem dX12_rows_98 : decode cX12_rows 98 = .ok (.iconst 3, 1) := by decide +kernel
theorem dX12_rows_99 : decode cX12_rows 99 = .ok (.if_icmp .ge 52, 3) := by decide +kernel
theorem dX12_rows_151 : decode cX12_rows 151 = .ok (.aload_n 0, 1) := by decide +kernel
theorem dX12_rows_152 : decode cX12_rows 152 = .ok (.getfield 36, 3) := by decide +kernel
theorem dX12_rows_155 : decode cX12_rows 155 = .ok (.iload 5, 2) := by decide +kernel
theorem dX12_rows_157 : decode cX12_rows 157 = .ok (.iconst 4, 1) := by decide +kernel
theorem dX12_rows_158 : decode cX12_rows 158 = .ok (.iadd, 1) := by decide +kernel
theorem dX12_rows_159 : decode cX12_rows 159 = .ok (.aload_n 0, 1) := by decide +kernel
theorem dX12_rows_160 : decode cX12_rows 160 = .ok (.aload_n 0, 1) := by decide +kernel
theorem dX12_rows_161 : decode cX12_rows 161 = .ok (.getfield 64, 3) := by decide +kernel
theorem dX12_rows_164 : decode cX12_rows 164 = .ok (.iconst 0, 1) := by decide +kernel
theorem dX12_rows_165 : decode cX12_rows 165 = .ok (.aload_n 0, 1) := by decide +kernel
theorem dX12_rows_166 : decode cX12_rows 166 = .ok (.getfield 135, 3) := by decide +kernel
set_option maxRecDepth 20000 in
theorem ggX12_rows_X12_costOf_ : GoodIn wsX12_rows wsX12_costOf_ := goodIn_r _ [78, 79, 80, 81, 10, 82, 83, 84, 85, 86, 87, 88, 89, 90, 91, 92, 93, 94, 95, 96, 97, 98, 99, 100, 101, 102, 103, 104, 105, 106, 107, 108, 109, 110, 111, 112, 113, 114, 115, 116, 117, 118, 119, 120, 121, 122, 123, 124, 125, 126, 127, 128, 129] rfl (by decide +kernel)
set_option maxRecDepth 20000 in
theorem gX12_rows_X12_costOf_ : GoodIn wsX12_rows (wsV RX12 189 RX12 yX12_costOf_ wsX12_costOf_) := goodIn_app (goodIn_r _ [75, 76, 77, 10] rfl (by decide +kernel)) ggX12_rows_X12_costOf_
theorem dX12_rows_169 : decode cX12_rows 169 = .ok (.invokevirtual 189, 3) := by decide +kernel
theorem dX12_rows_172 : decode cX12_rows 172 = .ok (.iastore, 1) := by decide +kernel
theorem dX12_rows_173 : decode cX12_rows 173 = .ok (.aload_n 0, 1) := by decide +kernel
theorem dX12_rows_174 : decode cX12_rows 174 = .ok (.getfield 36, 3) := by decide +kernel
theorem dX12_rows_177 : decode cX12_rows 177 = .ok (.iload 5, 2) := by decide +kernel
theorem dX12_rows_179 : decode cX12_rows 179 = .ok (.iconst 5, 1) := by decide +kernel
theorem dX12_rows_180 : decode cX12_rows 180 = .ok (.iadd, 1) := by decide +kernel
theorem dX12_rows_181 : decode cX12_rows 181 = .ok (.aload_n 0, 1) := by decide +kernel
theorem dX12_rows_182 : decode cX12_rows 182 = .ok (.getfield 135, 3) := by decide +kernel
theorem dX12_rows_185 : decode cX12_rows 185 = .ok (.iastore, 1) := by decide +kernel
theorem dX12_rows_186 : decode cX12_rows 186 = .ok (.aload_n 0, 1) := by decide +kernel
theorem dX12_rows_187 : decode cX12_rows 187 = .ok (.dup, 1) := by decide +kernel
theorem dX12_rows_188 : decode cX12_rows 188 = .ok (.getfield 180, 3) := by decide +kernel
theorem dX12_rows_191 : decode cX12_rows 191 = .ok (.iconst 1, 1) := by decide +kernel
theorem dX12_rows_192 : decode cX12_rows 192 = .ok (.iadd, 1) := by decide +kernel
theorem dX12_rows_193 : decode cX12_rows 193 = .ok (.putfield 180, 3) := by decide +kernel
theorem dX12_rows_196 : decode cX12_rows 196 = .ok (.iinc 4 1, 3) := by decide +kernel
theorem dX12_rows_199 : decode cX12_rows 199 = .ok (.goto (-142), 3) := by decide +kernel
theorem dX12_rows_102 : decode cX12_rows 102 = .ok (.aload_n 0, 1) := by decide +kernel
theorem dX12_rows_103 : decode cX12_rows 103 = .ok (.getfield 36, 3) := by decide +kernel
theorem dX12_rows_106 : decode cX12_rows 106 = .ok (.iload 5, 2) := by decide +kernel
theorem dX12_rows_108 : decode cX12_rows 108 = .ok (.iconst 1, 1) := by decide +kernel
theorem dX12_rows_109 : decode cX12_rows 109 = .ok (.iadd, 1) := by decide +kernel
theorem dX12_rows_110 : decode cX12_rows 110 = .ok (.iload 6, 2) := by decide +kernel
theorem dX12_rows_112 : decode cX12_rows 112 = .ok (.iadd, 1) := by decide +kernel
theorem dX12_rows_113 : decode cX12_rows 113 = .ok (.iload 6, 2) := by decide +kernel
theorem dX12_rows_115 : decode cX12_rows 115 = .ok (.iload_n 2, 1) := by decide +kernel
theorem dX12_rows_116 : decode cX12_rows 116 = .ok (.if_icmp .ge 27, 3) := by decide +kernel
theorem dX12_rows_143 : decode cX12_rows 143 = .ok (.iconst (-1), 1) := by decide +kernel
theorem dX12_rows_144 : decode cX12_rows 144 = .ok (.iastore, 1) := by decide +kernel
theorem dX12_rows_145 : decode cX12_rows 145 = .ok (.iinc 6 1, 3) := by decide +kernel
theorem dX12_rows_148 : decode cX12_rows 148 = .ok (.goto (-52), 3) := by decide +kernel
theorem dX12_rows_119 : decode cX12_rows 119 = .ok (.iload 4, 2) := by decide +kernel
theorem dX12_rows_121 : decode cX12_rows 121 = .ok (.aload_n 0, 1) := by decide +kernel
theorem dX12_rows_122 : decode cX12_rows 122 = .ok (.getfield 161, 3) := by decide +kernel
theorem dX12_rows_125 : decode cX12_rows 125 = .ok (.iload_n 2, 1) := by decide +kernel
theorem dX12_rows_126 : decode cX12_rows 126 = .ok (.iconst 1, 1) := by decide +kernel
theorem dX12_rows_127 : decode cX12_rows 127 = .ok (.isub, 1) := by decide +kernel
theorem dX12_rows_128 : decode cX12_rows 128 = .ok (.iload 6, 2) := by decide +kernel
theorem dX12_rows_130 : decode cX12_rows 130 = .ok (.isub, 1) := by decide +kernel
theorem dX12_rows_131 : decode cX12_rows 131 = .ok (.invokestatic 183, 3) := by decide +kernel
theorem dX12_rows_134 : decode cX12_rows 134 = .ok (.idiv, 1) := by decide +kernel
theorem dX12_rows_135 : decode cX12_rows 135 = .ok (.aload_n 0, 1) := by decide +kernel
theorem dX12_rows_136 : decode cX12_rows 136 = .ok (.getfield 161, 3) := by decide +kernel
theorem dX12_rows_139 : decode cX12_rows 139 = .ok (.irem, 1) := by decide +kernel
theorem dX12_rows_140 : decode cX12_rows 140 = .ok (.goto 4, 3) := by decide +kernel
theorem dX12_rows_73 : decode cX12_rows 73 = .ok (.goto 123, 3) := by decide +kernel
theorem dX12_rows_41 : decode cX12_rows 41 = .ok (.iconst 0, 1) := by decide +kernel
theorem dX12_rows_42 : decode cX12_rows 42 = .ok (.goto 11, 3) := by decide +kernel
theorem dX12_row_0 : decode cX12_row 0 = .ok (.aload_n 0, 1) := by decide +kernel
theorem dX12_row_1 : decode cX12_row 1 = .ok (.iconst 0, 1) := by decide +kernel
theorem dX12_row_2 : decode cX12_row 2 = .ok (.putfield 85, 3) := by decide +kernel
theorem dX12_row_5 : decode cX12_row 5 = .ok (.iload_n 1, 1) := by decide +kernel
theorem dX12_row_6 : decode cX12_row 6 = .ok (.ifCond .lt 35, 3) := by decide +kernel
theorem dX12_row_41 : decode cX12_row 41 = .ok (.iconst (-1), 1) := by decide +kernel
theorem dX12_row_42 : decode cX12_row 42 = .ok (.ireturn, 1) := by decide +kernel
theorem dX12_row_9 : decode cX12_row 9 = .ok (.iload_n 1, 1) := by decide +kernel
theorem dX12_row_10 : decode cX12_row 10 = .ok (.aload_n 0, 1) := by decide +kernel
theorem dX12_row_11 : decode cX12_row 11 = .ok (.getfield 180, 3) := by decide +kernel
theorem dX12_row_14 : decode cX12_row 14 = .ok (.if_icmp .ge 27, 3) := by decide +kernel
theorem dX12_row_17 : decode cX12_row 17 = .ok (.iload_n 2, 1) := by decide +kernel
theorem dX12_row_18 : decode cX12_row 18 = .ok (.ifCond .lt 23, 3) := by decide +kernel
theorem dX12_row_21 : decode cX12_row 21 = .ok (.iload_n 2, 1) := by decide +kernel
theorem dX12_row_22 : decode cX12_row 22 = .ok (.bipush 6, 2) := by decide +kernel
theorem dX12_row_24 : decode cX12_row 24 = .ok (.if_icmp .ge 17, 3) := by decide +kernel
theorem dX12_row_27 : decode cX12_row 27 = .ok (.aload_n 0, 1) := by decide +kernel
theorem dX12_row_28 : decode cX12_row 28 = .ok (.getfield 36, 3) := by decide +kernel
theorem dX12_row_31 : decode cX12_row 31 = .ok (.bipush 6, 2) := by decide +kernel
theorem dX12_row_33 : decode cX12_row 33 = .ok (.iload_n 1, 1) := by decide +kernel
theorem dX12_row_34 : decode cX12_row 34 = .ok (.imul, 1) := by decide +kernel
theorem dX12_row_35 : decode cX12_row 35 = .ok (.iload_n 2, 1) := by decide +kernel
theorem dX12_row_36 : decode cX12_row 36 = .ok (.iadd, 1) := by decide +kernel
theorem dX12_row_37 : decode cX12_row 37 = .ok (.iaload, 1) := by decide +kernel
theorem dX12_row_38 : decode cX12_row 38 = .ok (.goto 4, 3) := by decide +kernel
theorem dX12_isToldChoice_0 : decode cX12_isToldChoice 0 = .ok (.iload_n 1, 1) := by decide +kernel
theorem dX12_isToldChoice_1 : decode cX12_isToldChoice 1 = .ok (.ifCond .lt 22, 3) := by decide +kernel
theorem dX12_isToldChoice_23 : decode cX12_isToldChoice 23 = .ok (.iconst 0, 1) := by decide +kernel
theorem dX12_isToldChoice_24 : decode cX12_isToldChoice 24 = .ok (.ireturn, 1) := by decide +kernel
theorem dX12_isToldChoice_4 : decode cX12_isToldChoice 4 = .ok (.iload_n 1, 1) := by decide +kernel
theorem dX12_isToldChoice_5 : decode cX12_isToldChoice 5 = .ok (.aload_n 0, 1) := by decide +kernel
theorem dX12_isToldChoice_6 : decode cX12_isToldChoice 6 = .ok (.getfield 213, 3) := by decide +kernel
theorem dX12_isToldChoice_9 : decode cX12_isToldChoice 9 = .ok (.if_icmp .ge 14, 3) := by decide +kernel
theorem dX12_isToldChoice_12 : decode cX12_isToldChoice 12 = .ok (.iload_n 1, 1) := by decide +kernel
theorem dX12_isToldChoice_13 : decode cX12_isToldChoice 13 = .ok (.sipush 200, 3) := by decide +kernel
theorem dX12_isToldChoice_16 : decode cX12_isToldChoice 16 = .ok (.if_icmp .ge 7, 3) := by decide +kernel
theorem dX12_isToldChoice_19 : decode cX12_isToldChoice 19 = .ok (.iconst 1, 1) := by decide +kernel
theorem dX12_isToldChoice_20 : decode cX12_isToldChoice 20 = .ok (.goto 4, 3) := by decide +kernel
theorem dX12_choice_0 : decode cX12_choice 0 = .ok (.aload_n 0, 1) := by decide +kernel
theorem dX12_choice_1 : decode cX12_choice 1 = .ok (.iconst 0, 1) := by decide +kernel
theorem dX12_choice_2 : decode cX12_choice 2 = .ok (.putfield 85, 3) := by decide +kernel
theorem dX12_choice_5 : decode cX12_choice 5 = .ok (.aload_n 0, 1) := by decide +kernel
theorem dX12_choice_6 : decode cX12_choice 6 = .ok (.iload_n 1, 1) := by decide +kernel
set_option maxRecDepth 20000 in
theorem ggX12_choice_X12_isToldChoice : GoodIn wsX12_choice wsX12_isToldChoice := goodIn_r _ [7, 8, 9, 10, 11, 12, 13, 14, 15, 16, 17, 18, 19, 20, 21, 22, 23, 24, 25, 26, 27, 28, 29, 30, 31, 32, 33, 34, 35, 36, 37, 38, 39, 40, 41, 42, 43, 44, 45, 46, 47, 48] rfl (by decide +kernel)
set_option maxRecDepth 20000 in
theorem gX12_choice_X12_isToldChoice : GoodIn wsX12_choice (wsV RX12 222 RX12 yX12_isToldChoice wsX12_isToldChoice) := goodIn_app (goodIn_r _ [3, 4, 5, 6] rfl (by decide +kernel)) ggX12_choice_X12_isToldChoice
theorem dX12_choice_7 : decode cX12_choice 7 = .ok (.invokevirtual 222, 3) := by decide +kernel
theorem dX12_choice_10 : decode cX12_choice 10 = .ok (.ifCond .eq 25, 3) := by decide +kernel
theorem dX12_choice_35 : decode cX12_choice 35 = .ok (.iconst (-1), 1) := by decide +kernel
theorem dX12_choice_36 : decode cX12_choice 36 = .ok (.ireturn, 1) := by decide +kernel
theorem dX12_choice_13 : decode cX12_choice 13 = .ok (.iload_n 2, 1) := by decide +kernel
theorem dX12_choice_14 : decode cX12_choice 14 = .ok (.ifCond .lt 21, 3) := by decide +kernel
theorem dX12_choice_17 : decode cX12_choice 17 = .ok (.iload_n 2, 1) := by decide +kernel
theorem dX12_choice_18 : decode cX12_choice 18 = .ok (.iconst 4, 1) := by decide +kernel
theorem dX12_choice_19 : decode cX12_choice 19 = .ok (.if_icmp .ge 16, 3) := by decide +kernel
theorem dX12_choice_22 : decode cX12_choice 22 = .ok (.aload_n 0, 1) := by decide +kernel
theorem dX12_choice_23 : decode cX12_choice 23 = .ok (.getfield 48, 3) := by decide +kernel
theorem dX12_choice_26 : decode cX12_choice 26 = .ok (.iconst 4, 1) := by decide +kernel
theorem dX12_choice_27 : decode cX12_choice 27 = .ok (.iload_n 1, 1) := by decide +kernel
theorem dX12_choice_28 : decode cX12_choice 28 = .ok (.imul, 1) := by decide +kernel
theorem dX12_choice_29 : decode cX12_choice 29 = .ok (.iload_n 2, 1) := by decide +kernel
theorem dX12_choice_30 : decode cX12_choice 30 = .ok (.iadd, 1) := by decide +kernel
theorem dX12_choice_31 : decode cX12_choice 31 = .ok (.iaload, 1) := by decide +kernel
theorem dX12_choice_32 : decode cX12_choice 32 = .ok (.goto 4, 3) := by decide +kernel

end
