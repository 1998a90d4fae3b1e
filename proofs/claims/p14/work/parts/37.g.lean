/-! 59l.harm -/
section
set_option maxHeartbeats 40000000 in
set_option maxRecDepth 100000 in
theorem f_X12_harm (l : Launch) (dC : Nat → ClassId) (dI : Nat → Nat → Nat) (cI cS : ClassId) (sz : Nat) (oM : Nat) (mT : Nat) (mS : Nat) (mX : Nat) (mL : Nat) (mB : Nat) (mD : Nat) (m1 : Nat) (m2 : Nat) (mR : Nat) (x1 : Nat) (x2 : Nat) (x3 : Nat) (mH : Nat) (mY : Nat) (mE : Nat) (mW : Nat) (mO : Nat) (y1 : Nat) (y2 : Nat) (y3 : Nat) (y4 : Nat) (mZ : Nat) (zt : Int32) (zp : Int32) (zf : Int32) (zh : Int32) (zr : Int32) (zc : Int32) (zy : Int32) (za : Int32) (zb : Int32) (zs : Int32) (zq : Int32) (zw : Int32) (ze : Int32) (zn : Int32) (zm : Int32) (zl : Int32) (zk : Int32) (zd : Int32) (eY : Nat → Int32) (eB : Nat → Int32) (eL : Nat → Int32) (eE : Nat → Int32) (eS : Nat → Int32) (eX : Nat → Int32) (a : Int32) (b : Int32) (g_zt : 0 ≤ zt.toInt ∧ zt.toInt ≤ 900) (g_zp : 0 ≤ zp.toInt ∧ zp.toInt ≤ 20) (g_zf : 0 ≤ zf.toInt ∧ zf.toInt ≤ 19) (g_zh : 0 ≤ zh.toInt ∧ zh.toInt ≤ 6) (g_zr : 0 ≤ zr.toInt ∧ zr.toInt ≤ 258) (g_zc : 0 ≤ zc.toInt ∧ zc.toInt ≤ 300) (g_zy : 0 ≤ zy.toInt ∧ zy.toInt ≤ 65536) (g_za : 0 ≤ za.toInt ∧ za.toInt ≤ 5) (g_zb : 0 ≤ zb.toInt ∧ zb.toInt ≤ 5) (g_zs : 0 ≤ zs.toInt ∧ zs.toInt ≤ 2000000) (g_zq : -1 ≤ zq.toInt ∧ zq.toInt ≤ 2000000) (g_zn : 0 ≤ zn.toInt ∧ zn.toInt ≤ 2600) (g_zm : 0 ≤ zm.toInt ∧ zm.toInt ≤ 2600) (g_zk : 0 ≤ zk.toInt ∧ zk.toInt ≤ 300) (g_eY : rg 0 255 eY) (g_eB : rg (-1) 255 eB) (g_eL : rg (-1) 65535 eL) (g_eE : rg 0 65535 eE) (g_eS : rg 0 300 eS) (g_eX : rg 0 65535 eX) (hzs : zs.toInt ≤ 1000000) : Met l yX12_harm wsX12_harm ({ frames := 4, cells := 0, slots := 0, locals := 95 } : Room) (va_Pc [.ref oM, .int a, .int b] (fun U => U.heap.size = sz ∧ va_P (dC, dI) vwCl [(oM, .inr (12, [.ref mT, .int zt, .ref mS, .ref mX, .int zp, .int zf, .ref mL, .ref mB, .ref mD, .ref m1, .ref m2, .int zh, .ref mR, .int zr, .ref x1, .ref x2, .ref x3, .int zc, .ref mH, .int zy, .int za, .int zb, .int zs, .int zq, .int zw, .int ze, .ref mY, .int zn, .ref mE, .int zm, .int zl, .ref mW, .int zk, .ref mO, .int zd, .ref y1, .ref y2, .ref y3, .ref y4, .ref mZ])), (mY, .inl (cI, 2600, .inl eY)), (mB, .inl (cS, 131072, .inl eB)), (mL, .inl (cI, 512, .inl eL)), (mE, .inl (cI, 2600, .inl eE)), (mS, .inl (cI, 21, .inl eS)), (mX, .inl (cI, 6300, .inl eX))] U.heap ∧ va_K (dC, dI) vwCl [(cI, .int), (cS, .short)] U ∧ va_D (fun _ => True) [(oM, .inr (12, [.ref mT, .int zt, .ref mS, .ref mX, .int zp, .int zf, .ref mL, .ref mB, .ref mD, .ref m1, .ref m2, .int zh, .ref mR, .int zr, .ref x1, .ref x2, .ref x3, .int zc, .ref mH, .int zy, .int za, .int zb, .int zs, .int zq, .int zw, .int ze, .ref mY, .int zn, .ref mE, .int zm, .int zl, .ref mW, .int zk, .ref mO, .int zd, .ref y1, .ref y2, .ref y3, .ref y4, .ref mZ])), (mY, .inl (cI, 2600, .inl eY)), (mB, .inl (cS, 131072, .inl eB)), (mL, .inl (cI, 512, .inl eL)), (mE, .inl (cI, 2600, .inl eE)), (mS, .inl (cI, 21, .inl eS)), (mX, .inl (cI, 6300, .inl eX))])) (va_Qi (fun (r : Int32) (u : Int32) => r = u) (fun (r : Int32) t => ∃ (ze' : Int32) (zw' : Int32) (zn' : Int32) (eY' : Nat → Int32) (zd' : Int32) (zm' : Int32) (zl' : Int32) (eE' : Nat → Int32) (zp' : Int32) (zf' : Int32) (zs' : Int32) (eS' : Nat → Int32) (eX' : Nat → Int32), va_P (dC, dI) vwCl [(oM, .inr (12, [.ref mT, .int zt, .ref mS, .ref mX, .int zp', .int zf', .ref mL, .ref mB, .ref mD, .ref m1, .ref m2, .int zh, .ref mR, .int zr, .ref x1, .ref x2, .ref x3, .int zc, .ref mH, .int zy, .int za, .int zb, .int zs', .int zq, .int zw', .int ze', .ref mY, .int zn', .ref mE, .int zm', .int zl', .ref mW, .int zk, .ref mO, .int zd', .ref y1, .ref y2, .ref y3, .ref y4, .ref mZ])), (mY, .inl (cI, 2600, .inl eY')), (mB, .inl (cS, 131072, .inl eB)), (mL, .inl (cI, 512, .inl eL)), (mE, .inl (cI, 2600, .inl eE')), (mS, .inl (cI, 21, .inl eS')), (mX, .inl (cI, 6300, .inl eX'))] t.heap ∧ va_D (va_A [(oM, .inr (12, [.ref mT, .int zt, .ref mS, .ref mX, .int zp, .int zf, .ref mL, .ref mB, .ref mD, .ref m1, .ref m2, .int zh, .ref mR, .int zr, .ref x1, .ref x2, .ref x3, .int zc, .ref mH, .int zy, .int za, .int zb, .int zs, .int zq, .int zw, .int ze, .ref mY, .int zn, .ref mE, .int zm, .int zl, .ref mW, .int zk, .ref mO, .int zd, .ref y1, .ref y2, .ref y3, .ref y4, .ref mZ])), (mY, .inl (cI, 2600, .inl eY)), (mB, .inl (cS, 131072, .inl eB)), (mL, .inl (cI, 512, .inl eL)), (mE, .inl (cI, 2600, .inl eE)), (mS, .inl (cI, 21, .inl eS)), (mX, .inl (cI, 6300, .inl eX))] sz) [(oM, .inr (12, [.ref mT, .int zt, .ref mS, .ref mX, .int zp', .int zf', .ref mL, .ref mB, .ref mD, .ref m1, .ref m2, .int zh, .ref mR, .int zr, .ref x1, .ref x2, .ref x3, .int zc, .ref mH, .int zy, .int za, .int zb, .int zs', .int zq, .int zw', .int ze', .ref mY, .int zn', .ref mE, .int zm', .int zl', .ref mW, .int zk, .ref mO, .int zd', .ref y1, .ref y2, .ref y3, .ref y4, .ref mZ])), (mY, .inl (cI, 2600, .inl eY')), (mB, .inl (cS, 131072, .inl eB)), (mL, .inl (cI, 512, .inl eL)), (mE, .inl (cI, 2600, .inl eE')), (mS, .inl (cI, 21, .inl eS')), (mX, .inl (cI, 6300, .inl eX'))] ∧ (0 ≤ zn'.toInt ∧ zn'.toInt ≤ 2600) ∧ (rg 0 255 eY') ∧ (0 ≤ zm'.toInt ∧ zm'.toInt ≤ 2600) ∧ (rg 0 65535 eE') ∧ (0 ≤ zp'.toInt ∧ zp'.toInt ≤ 20) ∧ (0 ≤ zf'.toInt ∧ zf'.toInt ≤ 19) ∧ (0 ≤ zs'.toInt ∧ zs'.toInt ≤ 2000000) ∧ (rg 0 300 eS') ∧ (rg 0 65535 eX') ∧ (zs'.toInt ≤ zs.toInt + 1 ∧ zs.toInt ≤ zs'.toInt) ∧ (F_st zs zs' eX eX' eS eS') ∧ (OR (-1) r zs zs' zp zp' zf zf' eS eS' eX eX' (hmP a b (fun k => eL k) (fun k => eL (256 + k)) (Br a eB) (eS 0).toInt eX))) (va_A [(oM, .inr (12, [.ref mT, .int zt, .ref mS, .ref mX, .int zp, .int zf, .ref mL, .ref mB, .ref mD, .ref m1, .ref m2, .int zh, .ref mR, .int zr, .ref x1, .ref x2, .ref x3, .int zc, .ref mH, .int zy, .int za, .int zb, .int zs, .int zq, .int zw, .int ze, .ref mY, .int zn, .ref mE, .int zm, .int zl, .ref mW, .int zk, .ref mO, .int zd, .ref y1, .ref y2, .ref y3, .ref y4, .ref mZ])), (mY, .inl (cI, 2600, .inl eY)), (mB, .inl (cS, 131072, .inl eB)), (mL, .inl (cI, 512, .inl eL)), (mE, .inl (cI, 2600, .inl eE)), (mS, .inl (cI, 21, .inl eS)), (mX, .inl (cI, 6300, .inl eX))] sz)) 0 0 (va_A [(oM, .inr (12, [.ref mT, .int zt, .ref mS, .ref mX, .int zp, .int zf, .ref mL, .ref mB, .ref mD, .ref m1, .ref m2, .int zh, .ref mR, .int zr, .ref x1, .ref x2, .ref x3, .int zc, .ref mH, .int zy, .int za, .int zb, .int zs, .int zq, .int zw, .int ze, .ref mY, .int zn, .ref mE, .int zm, .int zl, .ref mW, .int zk, .ref mO, .int zd, .ref y1, .ref y2, .ref y3, .ref y4, .ref mZ])), (mY, .inl (cI, 2600, .inl eY)), (mB, .inl (cS, 131072, .inl eB)), (mL, .inl (cI, 512, .inl eL)), (mE, .inl (cI, 2600, .inl eE)), (mS, .inl (cI, 21, .inl eS)), (mX, .inl (cI, 6300, .inl eX))] sz) := by
  refine Met.ofW (cc := cX12_harm) (maxL := 3) (ret := (some .int)) (by decide) rfl ?_
  intro p e s m args below meth c s₁ B hml hv
  obtain ⟨rfl, hsz, hP, hK, hD0⟩ := hv
  have hx := B.exec
  have hb := B.bytes
  have hr := B.returns
  have hts := atoms_spec (ws := wsX12_harm) B.pre
  have hown : s.vm.findClass RX12 = some m.cls := findClass_of_methodNamed B.named
  have hlocks := B.notSynchronized
  have in_X12 : ∀ w ∈ wsX120, w ∈ wsX12_harm := fun _ h => List.mem_cons_of_mem _ (List.mem_append_right _ (h))
  subst hsz
  have hD := hD0.self (sz := s.heap.size)
  generalize hAe : va_A [(oM, .inr (12, [.ref mT, .int zt, .ref mS, .ref mX, .int zp, .int zf, .ref mL, .ref mB, .ref mD, .ref m1, .ref m2, .int zh, .ref mR, .int zr, .ref x1, .ref x2, .ref x3, .int zc, .ref mH, .int zy, .int za, .int zb, .int zs, .int zq, .int zw, .int ze, .ref mY, .int zn, .ref mE, .int zm, .int zl, .ref mW, .int zk, .ref mO, .int zd, .ref y1, .ref y2, .ref y3, .ref y4, .ref mZ])), (mY, .inl (cI, 2600, .inl eY)), (mB, .inl (cS, 131072, .inl eB)), (mL, .inl (cI, 512, .inl eL)), (mE, .inl (cI, 2600, .inl eE)), (mS, .inl (cI, 21, .inl eS)), (mX, .inl (cI, 6300, .inl eX))] s.heap.size = A at hD ⊢
  have hA : ∀ q : Nat, s.heap.size ≤ q → A q := fun q h => by rw [← hAe]; exact Or.inr h
  have hS : va_S A s.heap s.heap [] := va_S.rf
  have hP : va_P (dC, dI) vwCl [(oM, .inr (12, [.ref mT, .int zt, .ref mS, .ref mX, .int zp, .int zf, .ref mL, .ref mB, .ref mD, .ref m1, .ref m2, .int zh, .ref mR, .int zr, .ref x1, .ref x2, .ref x3, .int zc, .ref mH, .int zy, .int za, .int zb, .int zs, .int zq, .int zw, .int ze, .ref mY, .int zn, .ref mE, .int zm, .int zl, .ref mW, .int zk, .ref mO, .int zd, .ref y1, .ref y2, .ref y3, .ref y4, .ref mZ])), (mY, .inl (cI, 2600, .inl eY)), (mB, .inl (cS, 131072, .inl eB)), (mL, .inl (cI, 512, .inl eL)), (mE, .inl (cI, 2600, .inl eE)), (mS, .inl (cI, 21, .inl eS)), (mX, .inl (cI, 6300, .inl eX))] s.heap := hP
  have hl := lv_entry ([.ref oM, .int a, .int b]) (n := 3) (Nat.le_of_ble_eq_true rfl)
  rw [lg_entry_eq]
  generalize (lg_sl ([.ref oM, .int a, .int b]) ++ List.replicate (3 - (lg_sl ([.ref oM, .int a, .int b])).length) Slot.unset).toArray = ls at hl ⊢
  have hl : lv_has ls 3 [(0, .ref oM), (1, .int a), (2, .int b)] := hl
  obtain ⟨QQ, hQQ⟩ : ∃ QQ : Array Value → State → Outcome → State → Prop, QQ = va_Qi (fun (r : Int32) (u : Int32) => r = u) (fun (r : Int32) t => ∃ (ze' : Int32) (zw' : Int32) (zn' : Int32) (eY' : Nat → Int32) (zd' : Int32) (zm' : Int32) (zl' : Int32) (eE' : Nat → Int32) (zp' : Int32) (zf' : Int32) (zs' : Int32) (eS' : Nat → Int32) (eX' : Nat → Int32), va_P (dC, dI) vwCl [(oM, .inr (12, [.ref mT, .int zt, .ref mS, .ref mX, .int zp', .int zf', .ref mL, .ref mB, .ref mD, .ref m1, .ref m2, .int zh, .ref mR, .int zr, .ref x1, .ref x2, .ref x3, .int zc, .ref mH, .int zy, .int za, .int zb, .int zs', .int zq, .int zw', .int ze', .ref mY, .int zn', .ref mE, .int zm', .int zl', .ref mW, .int zk, .ref mO, .int zd', .ref y1, .ref y2, .ref y3, .ref y4, .ref mZ])), (mY, .inl (cI, 2600, .inl eY')), (mB, .inl (cS, 131072, .inl eB)), (mL, .inl (cI, 512, .inl eL)), (mE, .inl (cI, 2600, .inl eE')), (mS, .inl (cI, 21, .inl eS')), (mX, .inl (cI, 6300, .inl eX'))] t.heap ∧ va_D A [(oM, .inr (12, [.ref mT, .int zt, .ref mS, .ref mX, .int zp', .int zf', .ref mL, .ref mB, .ref mD, .ref m1, .ref m2, .int zh, .ref mR, .int zr, .ref x1, .ref x2, .ref x3, .int zc, .ref mH, .int zy, .int za, .int zb, .int zs', .int zq, .int zw', .int ze', .ref mY, .int zn', .ref mE, .int zm', .int zl', .ref mW, .int zk, .ref mO, .int zd', .ref y1, .ref y2, .ref y3, .ref y4, .ref mZ])), (mY, .inl (cI, 2600, .inl eY')), (mB, .inl (cS, 131072, .inl eB)), (mL, .inl (cI, 512, .inl eL)), (mE, .inl (cI, 2600, .inl eE')), (mS, .inl (cI, 21, .inl eS')), (mX, .inl (cI, 6300, .inl eX'))] ∧ (0 ≤ zn'.toInt ∧ zn'.toInt ≤ 2600) ∧ (rg 0 255 eY') ∧ (0 ≤ zm'.toInt ∧ zm'.toInt ≤ 2600) ∧ (rg 0 65535 eE') ∧ (0 ≤ zp'.toInt ∧ zp'.toInt ≤ 20) ∧ (0 ≤ zf'.toInt ∧ zf'.toInt ≤ 19) ∧ (0 ≤ zs'.toInt ∧ zs'.toInt ≤ 2000000) ∧ (rg 0 300 eS') ∧ (rg 0 65535 eX') ∧ (zs'.toInt ≤ zs.toInt + 1 ∧ zs.toInt ≤ zs'.toInt) ∧ (F_st zs zs' eX eX' eS eS') ∧ (OR (-1) r zs zs' zp zp' zf zf' eS eS' eX eX' (hmP a b (fun k => eL k) (fun k => eL (256 + k)) (Br a eB) (eS 0).toInt eX))) A := ⟨_, rfl⟩
  rw [← hQQ]
  refine lv_aload_n hx hb dX12_harm_0 rfl (lv_at hl 0 rfl) ?_
  refine lv_iconst (v := 0) hx hb dX12_harm_1 (by decide) ?_
  refine va_put (D := (dC, dI)) (ci := 12) (v := .int 0) (ty := .int) (C := RX12) (T := TX12) (N := 40) hx hb hts in_X12 tyX12 tyX12_ok nmX12 hown hK hP hD hS 0 rfl rfl 25 (by decide) (hts (.fieldLink RX12 85 "TextMenderModel" "thrown" "I") (List.mem_of_getElem? (i := 1) rfl)) (fun _ h9 => h9) rfl (by decide +kernel) rfl rfl (Nat.le_of_ble_eq_true rfl) dX12_harm_2 (fun H locs hPn hDn hSn => ?_)
  clear hP hD hS
  have hP : va_P (dC, dI) vwCl [(oM, .inr (12, [.ref mT, .int zt, .ref mS, .ref mX, .int zp, .int zf, .ref mL, .ref mB, .ref mD, .ref m1, .ref m2, .int zh, .ref mR, .int zr, .ref x1, .ref x2, .ref x3, .int zc, .ref mH, .int zy, .int za, .int zb, .int zs, .int zq, .int zw, .int 0, .ref mY, .int zn, .ref mE, .int zm, .int zl, .ref mW, .int zk, .ref mO, .int zd, .ref y1, .ref y2, .ref y3, .ref y4, .ref mZ])), (mY, .inl (cI, 2600, .inl eY)), (mB, .inl (cS, 131072, .inl eB)), (mL, .inl (cI, 512, .inl eL)), (mE, .inl (cI, 2600, .inl eE)), (mS, .inl (cI, 21, .inl eS)), (mX, .inl (cI, 6300, .inl eX))] H := hPn
  have hD : va_D A [(oM, .inr (12, [.ref mT, .int zt, .ref mS, .ref mX, .int zp, .int zf, .ref mL, .ref mB, .ref mD, .ref m1, .ref m2, .int zh, .ref mR, .int zr, .ref x1, .ref x2, .ref x3, .int zc, .ref mH, .int zy, .int za, .int zb, .int zs, .int zq, .int zw, .int 0, .ref mY, .int zn, .ref mE, .int zm, .int zl, .ref mW, .int zk, .ref mO, .int zd, .ref y1, .ref y2, .ref y3, .ref y4, .ref mZ])), (mY, .inl (cI, 2600, .inl eY)), (mB, .inl (cS, 131072, .inl eB)), (mL, .inl (cI, 512, .inl eL)), (mE, .inl (cI, 2600, .inl eE)), (mS, .inl (cI, 21, .inl eS)), (mX, .inl (cI, 6300, .inl eX))] := hDn
  have hS := hSn
  clear hPn hDn hSn
  refine lv_aload_n hx hb dX12_harm_5 rfl (lv_at hl 0 rfl) ?_
  refine lv_iconst (v := (-1)) hx hb dX12_harm_6 (by decide) ?_
  refine va_put (D := (dC, dI)) (ci := 12) (v := .int (-1)) (ty := .int) (C := RX12) (T := TX12) (N := 40) hx hb hts in_X12 tyX12 tyX12_ok nmX12 hown hK hP hD hS 0 rfl rfl 24 (by decide) (hts (.fieldLink RX12 55 "TextMenderModel" "where" "I") (List.mem_of_getElem? (i := 2) rfl)) (fun _ h9 => h9) rfl (by decide +kernel) rfl rfl (Nat.le_of_ble_eq_true rfl) dX12_harm_7 (fun H locs hPn hDn hSn => ?_)
  clear hP hD hS
  have hP : va_P (dC, dI) vwCl [(oM, .inr (12, [.ref mT, .int zt, .ref mS, .ref mX, .int zp, .int zf, .ref mL, .ref mB, .ref mD, .ref m1, .ref m2, .int zh, .ref mR, .int zr, .ref x1, .ref x2, .ref x3, .int zc, .ref mH, .int zy, .int za, .int zb, .int zs, .int zq, .int (-1), .int 0, .ref mY, .int zn, .ref mE, .int zm, .int zl, .ref mW, .int zk, .ref mO, .int zd, .ref y1, .ref y2, .ref y3, .ref y4, .ref mZ])), (mY, .inl (cI, 2600, .inl eY)), (mB, .inl (cS, 131072, .inl eB)), (mL, .inl (cI, 512, .inl eL)), (mE, .inl (cI, 2600, .inl eE)), (mS, .inl (cI, 21, .inl eS)), (mX, .inl (cI, 6300, .inl eX))] H := hPn
  have hD : va_D A [(oM, .inr (12, [.ref mT, .int zt, .ref mS, .ref mX, .int zp, .int zf, .ref mL, .ref mB, .ref mD, .ref m1, .ref m2, .int zh, .ref mR, .int zr, .ref x1, .ref x2, .ref x3, .int zc, .ref mH, .int zy, .int za, .int zb, .int zs, .int zq, .int (-1), .int 0, .ref mY, .int zn, .ref mE, .int zm, .int zl, .ref mW, .int zk, .ref mO, .int zd, .ref y1, .ref y2, .ref y3, .ref y4, .ref mZ])), (mY, .inl (cI, 2600, .inl eY)), (mB, .inl (cS, 131072, .inl eB)), (mL, .inl (cI, 512, .inl eL)), (mE, .inl (cI, 2600, .inl eE)), (mS, .inl (cI, 21, .inl eS)), (mX, .inl (cI, 6300, .inl eX))] := hDn
  have hS := hSn
  clear hPn hDn hSn
  refine lv_iload_n hx hb dX12_harm_10 rfl (lv_at hl 1 rfl) ?_
  have hPc := hP.sub (ws' := []) [] rfl
  have hDc := hD.sub (ws' := []) [] (by decide +kernel) rfl
  have hFc := va_free (wc := []) hD hS hA [] rfl
  refine va_calli (va_runS (As := [.int a]) (rest := []) ⟨hx, hb, hml, hown, hts⟩ (m_X12_isCode l dC dI cI cS H.size a ) (va_cwS 1 hts gX12_harm_X12_isCode rfl rfl rfl (by decide +kernel) ⟨Nat.le_of_ble_eq_true rfl, Nat.le_of_ble_eq_true rfl⟩) ⟨fun a U g mk q => by obtain ⟨q0, q1, qP, qK, qD⟩ := q; exact ⟨q0, q1, qP, va_K.moved (u := U) (U := U.calling g mk a) (Vm.Alike.refl U.vm) qK, qD⟩, fun U hU hW => ⟨rfl, by rw [hU], by rw [hU]; exact hPc, va_K.moved hW.alike hK, hDc.weaken (fun _ _ _ _ => trivial)⟩⟩ rfl rfl hl.1 rfl (lv_room (Nat.le_of_ble_eq_true rfl)) dX12_harm_11 ⟨Nat.le_of_ble_eq_true rfl, Nat.le_of_ble_eq_true rfl⟩) hS (fun q _ h => hFc q h) hFc (fun r_1 u t H1 locs ht hvm hw hB hz1 hk1 hSn => ?_)
  subst hw
  obtain ⟨hP1, hD1, hf1_0, hf1_1⟩ := hB
  rw [ht] at hP1
  obtain ⟨hPn, hDn⟩ := va_join (wr := [(oM, .inr (12, [.ref mT, .int zt, .ref mS, .ref mX, .int zp, .int zf, .ref mL, .ref mB, .ref mD, .ref m1, .ref m2, .int zh, .ref mR, .int zr, .ref x1, .ref x2, .ref x3, .int zc, .ref mH, .int zy, .int za, .int zb, .int zs, .int zq, .int (-1), .int 0, .ref mY, .int zn, .ref mE, .int zm, .int zl, .ref mW, .int zk, .ref mO, .int zd, .ref y1, .ref y2, .ref y3, .ref y4, .ref mZ])), (mY, .inl (cI, 2600, .inl eY)), (mB, .inl (cS, 131072, .inl eB)), (mL, .inl (cI, 512, .inl eL)), (mE, .inl (cI, 2600, .inl eE)), (mS, .inl (cI, 21, .inl eS)), (mX, .inl (cI, 6300, .inl eX))]) (w1 := []) hP hD [] [0, 1, 2, 3, 4, 5, 6] rfl rfl (by decide +kernel) (by decide +kernel) hk1 hFc hP1 hD1
  clear hP hD hS hPc hDc hFc hk1 hz1 hvm ht hP1 hD1
  generalize H1 = H at hPn hSn ⊢
  have hP : va_P (dC, dI) vwCl [(oM, .inr (12, [.ref mT, .int zt, .ref mS, .ref mX, .int zp, .int zf, .ref mL, .ref mB, .ref mD, .ref m1, .ref m2, .int zh, .ref mR, .int zr, .ref x1, .ref x2, .ref x3, .int zc, .ref mH, .int zy, .int za, .int zb, .int zs, .int zq, .int (-1), .int 0, .ref mY, .int zn, .ref mE, .int zm, .int zl, .ref mW, .int zk, .ref mO, .int zd, .ref y1, .ref y2, .ref y3, .ref y4, .ref mZ])), (mY, .inl (cI, 2600, .inl eY)), (mB, .inl (cS, 131072, .inl eB)), (mL, .inl (cI, 512, .inl eL)), (mE, .inl (cI, 2600, .inl eE)), (mS, .inl (cI, 21, .inl eS)), (mX, .inl (cI, 6300, .inl eX))] H := hPn
  have hD : va_D A [(oM, .inr (12, [.ref mT, .int zt, .ref mS, .ref mX, .int zp, .int zf, .ref mL, .ref mB, .ref mD, .ref m1, .ref m2, .int zh, .ref mR, .int zr, .ref x1, .ref x2, .ref x3, .int zc, .ref mH, .int zy, .int za, .int zb, .int zs, .int zq, .int (-1), .int 0, .ref mY, .int zn, .ref mE, .int zm, .int zl, .ref mW, .int zk, .ref mO, .int zd, .ref y1, .ref y2, .ref y3, .ref y4, .ref mZ])), (mY, .inl (cI, 2600, .inl eY)), (mB, .inl (cS, 131072, .inl eB)), (mL, .inl (cI, 512, .inl eL)), (mE, .inl (cI, 2600, .inl eE)), (mS, .inl (cI, 21, .inl eS)), (mX, .inl (cI, 6300, .inl eX))] := hDn
  have hS := hSn
  clear hPn hDn hSn
  refine lv_if_eq (tgt := 24) hx hb dX12_harm_14 (by decide) (fun c_2 => ?_) (fun c_2 => ?_)
  · have tc_2 : r_1.toInt = 0 := v_eq c_2
    refine lv_iconst (v := (-1)) hx hb dX12_harm_24 (by decide) ?_
    have hP9 := hP.sub (ws' := [(oM, .inr (12, [.ref mT, .int zt, .ref mS, .ref mX, .int zp, .int zf, .ref mL, .ref mB, .ref mD, .ref m1, .ref m2, .int zh, .ref mR, .int zr, .ref x1, .ref x2, .ref x3, .int zc, .ref mH, .int zy, .int za, .int zb, .int zs, .int zq, .int (-1), .int 0, .ref mY, .int zn, .ref mE, .int zm, .int zl, .ref mW, .int zk, .ref mO, .int zd, .ref y1, .ref y2, .ref y3, .ref y4, .ref mZ])), (mY, .inl (cI, 2600, .inl eY)), (mB, .inl (cS, 131072, .inl eB)), (mL, .inl (cI, 512, .inl eL)), (mE, .inl (cI, 2600, .inl eE)), (mS, .inl (cI, 21, .inl eS)), (mX, .inl (cI, 6300, .inl eX))]) [0, 1, 2, 3, 4, 5, 6] rfl
    have hD9 := hD.sub (ws' := [(oM, .inr (12, [.ref mT, .int zt, .ref mS, .ref mX, .int zp, .int zf, .ref mL, .ref mB, .ref mD, .ref m1, .ref m2, .int zh, .ref mR, .int zr, .ref x1, .ref x2, .ref x3, .int zc, .ref mH, .int zy, .int za, .int zb, .int zs, .int zq, .int (-1), .int 0, .ref mY, .int zn, .ref mE, .int zm, .int zl, .ref mW, .int zk, .ref mO, .int zd, .ref y1, .ref y2, .ref y3, .ref y4, .ref mZ])), (mY, .inl (cI, 2600, .inl eY)), (mB, .inl (cS, 131072, .inl eB)), (mL, .inl (cI, 512, .inl eL)), (mE, .inl (cI, 2600, .inl eE)), (mS, .inl (cI, 21, .inl eS)), (mX, .inl (cI, 6300, .inl eX))]) [0, 1, 2, 3, 4, 5, 6] (by decide +kernel) rfl
    rw [hQQ]
    exact W.iret (v := (-1)) hx hb hr (fun t ht hW => ⟨⟨(-1), (-1), rfl, rfl, ⟨0, (-1), zn, eY, zd, zm, zl, eE, zp, zf, zs, eS, eX, by rw [ht]; exact hP9, hD9, g_zn, g_eY, g_zm, g_eE, g_zp, g_zf, g_zs, g_eS, g_eX, by show zs.toInt ≤ zs.toInt + 1 ∧ zs.toInt ≤ zs.toInt; omega, by first | exact Or.inl (by omega) | exact Or.inr ⟨rfl, rfl, rfl⟩, OR_n rfl (fun c fm v h => by have h1 := h.1; have h2 := h.2.1; unfold okd at h1 h2; omega)⟩⟩, hS.F ht⟩) hS.2.2 dX12_harm_25
  · have tc_2 : ¬ r_1.toInt = 0 := v_ne c_2
    refine lv_iload_n hx hb dX12_harm_17 rfl (lv_at hl 2 rfl) ?_
    have hPc := hP.sub (ws' := []) [] rfl
    have hDc := hD.sub (ws' := []) [] (by decide +kernel) rfl
    have hFc := va_free (wc := []) hD hS hA [] rfl
    refine va_calli (va_runS (As := [.int b]) (rest := []) ⟨hx, hb, hml, hown, hts⟩ (m_X12_isCode l dC dI cI cS H.size b ) (va_cwS 1 hts gX12_harm_X12_isCode rfl rfl rfl (by decide +kernel) ⟨Nat.le_of_ble_eq_true rfl, Nat.le_of_ble_eq_true rfl⟩) ⟨fun a U g mk q => by obtain ⟨q0, q1, qP, qK, qD⟩ := q; exact ⟨q0, q1, qP, va_K.moved (u := U) (U := U.calling g mk a) (Vm.Alike.refl U.vm) qK, qD⟩, fun U hU hW => ⟨rfl, by rw [hU], by rw [hU]; exact hPc, va_K.moved hW.alike hK, hDc.weaken (fun _ _ _ _ => trivial)⟩⟩ rfl rfl hl.1 rfl (lv_room (Nat.le_of_ble_eq_true rfl)) dX12_harm_18 ⟨Nat.le_of_ble_eq_true rfl, Nat.le_of_ble_eq_true rfl⟩) hS (fun q _ h => hFc q h) hFc (fun r_3 u t H1 locs ht hvm hw hB hz1 hk1 hSn => ?_)
    subst hw
    obtain ⟨hP1, hD1, hf3_0, hf3_1⟩ := hB
    rw [ht] at hP1
    obtain ⟨hPn, hDn⟩ := va_join (wr := [(oM, .inr (12, [.ref mT, .int zt, .ref mS, .ref mX, .int zp, .int zf, .ref mL, .ref mB, .ref mD, .ref m1, .ref m2, .int zh, .ref mR, .int zr, .ref x1, .ref x2, .ref x3, .int zc, .ref mH, .int zy, .int za, .int zb, .int zs, .int zq, .int (-1), .int 0, .ref mY, .int zn, .ref mE, .int zm, .int zl, .ref mW, .int zk, .ref mO, .int zd, .ref y1, .ref y2, .ref y3, .ref y4, .ref mZ])), (mY, .inl (cI, 2600, .inl eY)), (mB, .inl (cS, 131072, .inl eB)), (mL, .inl (cI, 512, .inl eL)), (mE, .inl (cI, 2600, .inl eE)), (mS, .inl (cI, 21, .inl eS)), (mX, .inl (cI, 6300, .inl eX))]) (w1 := []) hP hD [] [0, 1, 2, 3, 4, 5, 6] rfl rfl (by decide +kernel) (by decide +kernel) hk1 hFc hP1 hD1
    clear hP hD hS hPc hDc hFc hk1 hz1 hvm ht hP1 hD1
    generalize H1 = H at hPn hSn ⊢
    have hP : va_P (dC, dI) vwCl [(oM, .inr (12, [.ref mT, .int zt, .ref mS, .ref mX, .int zp, .int zf, .ref mL, .ref mB, .ref mD, .ref m1, .ref m2, .int zh, .ref mR, .int zr, .ref x1, .ref x2, .ref x3, .int zc, .ref mH, .int zy, .int za, .int zb, .int zs, .int zq, .int (-1), .int 0, .ref mY, .int zn, .ref mE, .int zm, .int zl, .ref mW, .int zk, .ref mO, .int zd, .ref y1, .ref y2, .ref y3, .ref y4, .ref mZ])), (mY, .inl (cI, 2600, .inl eY)), (mB, .inl (cS, 131072, .inl eB)), (mL, .inl (cI, 512, .inl eL)), (mE, .inl (cI, 2600, .inl eE)), (mS, .inl (cI, 21, .inl eS)), (mX, .inl (cI, 6300, .inl eX))] H := hPn
    have hD : va_D A [(oM, .inr (12, [.ref mT, .int zt, .ref mS, .ref mX, .int zp, .int zf, .ref mL, .ref mB, .ref mD, .ref m1, .ref m2, .int zh, .ref mR, .int zr, .ref x1, .ref x2, .ref x3, .int zc, .ref mH, .int zy, .int za, .int zb, .int zs, .int zq, .int (-1), .int 0, .ref mY, .int zn, .ref mE, .int zm, .int zl, .ref mW, .int zk, .ref mO, .int zd, .ref y1, .ref y2, .ref y3, .ref y4, .ref mZ])), (mY, .inl (cI, 2600, .inl eY)), (mB, .inl (cS, 131072, .inl eB)), (mL, .inl (cI, 512, .inl eL)), (mE, .inl (cI, 2600, .inl eE)), (mS, .inl (cI, 21, .inl eS)), (mX, .inl (cI, 6300, .inl eX))] := hDn
    have hS := hSn
    clear hPn hDn hSn
    refine lv_if_ne (tgt := 26) hx hb dX12_harm_21 (by decide) (fun c_4 => ?_) (fun c_4 => ?_)
    · have tc_4 : ¬ r_3.toInt = 0 := v_ne c_4
      refine lv_aload_n hx hb dX12_harm_26 rfl (lv_at hl 0 rfl) ?_
      refine lv_iload_n hx hb dX12_harm_27 rfl (lv_at hl 1 rfl) ?_
      refine lv_iload_n hx hb dX12_harm_28 rfl (lv_at hl 2 rfl) ?_
      refine lv_aload_n hx hb dX12_harm_29 rfl (lv_at hl 0 rfl) ?_
      refine va_get (D := (dC, dI)) (ci := 12) (v := .ref mX) (C := RX12) (T := TX12) (N := 40) hx hb hts in_X12 hown hK hP 0 rfl rfl 3 (by decide) (hts (.fieldLink RX12 16 "TextMenderModel" "texts" "[I") (List.mem_of_getElem? (i := 3) rfl)) (fun _ h9 => h9) rfl dX12_harm_30 ?_
      refine lv_aload_n hx hb dX12_harm_33 rfl (lv_at hl 0 rfl) ?_
      refine va_get (D := (dC, dI)) (ci := 12) (v := .ref mS) (C := RX12) (T := TX12) (N := 40) hx hb hts in_X12 hown hK hP 0 rfl rfl 2 (by decide) (hts (.fieldLink RX12 13 "TextMenderModel" "sizes" "[I") (List.mem_of_getElem? (i := 4) rfl)) (fun _ h9 => h9) rfl dX12_harm_34 ?_
      refine lv_iconst (v := 0) hx hb dX12_harm_37 (by decide) ?_
      refine va_iald hx hb hK hP 5 0 rfl rfl (by unfold vp_in; decide) dX12_harm_38 ?_
      refine lv_topi (fun x_5 ex_5 => ?_)
      have tx_5 : 0 ≤ x_5.toInt ∧ x_5.toInt ≤ 300 := rg_at g_eS ex_5
      have hPc := hP.sub (ws' := [(oM, .inr (12, [.ref mT, .int zt, .ref mS, .ref mX, .int zp, .int zf, .ref mL, .ref mB, .ref mD, .ref m1, .ref m2, .int zh, .ref mR, .int zr, .ref x1, .ref x2, .ref x3, .int zc, .ref mH, .int zy, .int za, .int zb, .int zs, .int zq, .int (-1), .int 0, .ref mY, .int zn, .ref mE, .int zm, .int zl, .ref mW, .int zk, .ref mO, .int zd, .ref y1, .ref y2, .ref y3, .ref y4, .ref mZ])), (mY, .inl (cI, 2600, .inl eY)), (mB, .inl (cS, 131072, .inl eB)), (mL, .inl (cI, 512, .inl eL)), (mE, .inl (cI, 2600, .inl eE)), (mX, .inl (cI, 6300, .inl eX))]) [0, 1, 2, 3, 4, 6] rfl
      have hDc := hD.sub (ws' := [(oM, .inr (12, [.ref mT, .int zt, .ref mS, .ref mX, .int zp, .int zf, .ref mL, .ref mB, .ref mD, .ref m1, .ref m2, .int zh, .ref mR, .int zr, .ref x1, .ref x2, .ref x3, .int zc, .ref mH, .int zy, .int za, .int zb, .int zs, .int zq, .int (-1), .int 0, .ref mY, .int zn, .ref mE, .int zm, .int zl, .ref mW, .int zk, .ref mO, .int zd, .ref y1, .ref y2, .ref y3, .ref y4, .ref mZ])), (mY, .inl (cI, 2600, .inl eY)), (mB, .inl (cS, 131072, .inl eB)), (mL, .inl (cI, 512, .inl eL)), (mE, .inl (cI, 2600, .inl eE)), (mX, .inl (cI, 6300, .inl eX))]) [0, 1, 2, 3, 4, 6] (by decide +kernel) rfl
      have hFc := va_free (wc := [(oM, .inr (12, [.ref mT, .int zt, .ref mS, .ref mX, .int zp, .int zf, .ref mL, .ref mB, .ref mD, .ref m1, .ref m2, .int zh, .ref mR, .int zr, .ref x1, .ref x2, .ref x3, .int zc, .ref mH, .int zy, .int za, .int zb, .int zs, .int zq, .int (-1), .int 0, .ref mY, .int zn, .ref mE, .int zm, .int zl, .ref mW, .int zk, .ref mO, .int zd, .ref y1, .ref y2, .ref y3, .ref y4, .ref mZ])), (mY, .inl (cI, 2600, .inl eY)), (mB, .inl (cS, 131072, .inl eB)), (mL, .inl (cI, 512, .inl eL)), (mE, .inl (cI, 2600, .inl eE)), (mX, .inl (cI, 6300, .inl eX))]) hD hS hA [0, 1, 2, 3, 4, 6] rfl
      refine va_calli (va_runV (As := [.int a, .int b, .ref mX, .int x_5]) (rest := []) ⟨hx, hb, hml, hown, hts⟩ (f_X12_does l dC dI cI cS H.size oM mX mT mS mX mL mB mD m1 m2 mR x1 x2 x3 mH mY mE mW mO y1 y2 y3 y4 mZ 6300 zt zp zf zh zr zc zy za zb zs zq (-1) 0 zn zm zl zk zd eY eB eL eE eX a b x_5 (g_zt) (g_zp) (g_zf) (g_zh) (g_zr) (g_zc) (g_zy) (g_za) (g_zb) (g_zs) (g_zq) (g_zn) (g_zm) (g_zk) (g_eY) (g_eB) (g_eL) (g_eE) (g_eX) (by omega) (by omega) (by omega) (by omega) (by omega)) (cwV 4 hts gX12_harm_X12_does rfl rfl rfl (by decide +kernel) ⟨Nat.le_of_ble_eq_true rfl, Nat.le_of_ble_eq_true rfl⟩) ⟨fun a U g mk q => by obtain ⟨q0, q1, qP, qK, qD⟩ := q; exact ⟨q0, q1, qP, va_K.moved (u := U) (U := U.calling g mk a) (Vm.Alike.refl U.vm) qK, qD⟩, va_recv hK hPc (ci := 12) (q0 := 0) rfl rfl, fun U hU hW => ⟨rfl, by rw [hU], by rw [hU]; exact hPc, va_K.moved hW.alike hK, hDc.weaken (fun _ _ _ _ => trivial)⟩⟩ rfl rfl hl.1 rfl (lv_room (Nat.le_of_ble_eq_true rfl)) dX12_harm_39 ⟨Nat.le_of_ble_eq_true rfl, Nat.le_of_ble_eq_true rfl⟩) hS (fun q _ h => hFc q h) hFc (fun r_6 u t H1 locs ht hvm hw hB hz1 hk1 hSn => ?_)
      subst hw
      obtain ⟨zn_6, eY_6, zd_6, zm_6, zl_6, eE_6, hP1, hD1, hf6_0, hf6_1, hf6_2, hf6_3, hf6_4, hf6_5, hf6_6⟩ := hB
      rw [ht] at hP1
      obtain ⟨hPn, hDn⟩ := va_join (wr := [(mS, .inl (cI, 21, .inl eS))]) (w1 := [(oM, .inr (12, [.ref mT, .int zt, .ref mS, .ref mX, .int zp, .int zf, .ref mL, .ref mB, .ref mD, .ref m1, .ref m2, .int zh, .ref mR, .int zr, .ref x1, .ref x2, .ref x3, .int zc, .ref mH, .int zy, .int za, .int zb, .int zs, .int zq, .int (-1), .int 0, .ref mY, .int zn_6, .ref mE, .int zm_6, .int zl_6, .ref mW, .int zk, .ref mO, .int zd_6, .ref y1, .ref y2, .ref y3, .ref y4, .ref mZ])), (mY, .inl (cI, 2600, .inl eY_6)), (mB, .inl (cS, 131072, .inl eB)), (mL, .inl (cI, 512, .inl eL)), (mE, .inl (cI, 2600, .inl eE_6)), (mX, .inl (cI, 6300, .inl eX))]) hP hD [0, 1, 2, 3, 4, 6] [5] rfl rfl (by decide +kernel) (by decide +kernel) hk1 hFc hP1 hD1
      clear hP hD hS hPc hDc hFc hk1 hz1 hvm ht hP1 hD1
      generalize H1 = H at hPn hSn ⊢
      have hP : va_P (dC, dI) vwCl [(mS, .inl (cI, 21, .inl eS)), (oM, .inr (12, [.ref mT, .int zt, .ref mS, .ref mX, .int zp, .int zf, .ref mL, .ref mB, .ref mD, .ref m1, .ref m2, .int zh, .ref mR, .int zr, .ref x1, .ref x2, .ref x3, .int zc, .ref mH, .int zy, .int za, .int zb, .int zs, .int zq, .int (-1), .int 0, .ref mY, .int zn_6, .ref mE, .int zm_6, .int zl_6, .ref mW, .int zk, .ref mO, .int zd_6, .ref y1, .ref y2, .ref y3, .ref y4, .ref mZ])), (mY, .inl (cI, 2600, .inl eY_6)), (mB, .inl (cS, 131072, .inl eB)), (mL, .inl (cI, 512, .inl eL)), (mE, .inl (cI, 2600, .inl eE_6)), (mX, .inl (cI, 6300, .inl eX))] H := hPn
      have hD : va_D A [(mS, .inl (cI, 21, .inl eS)), (oM, .inr (12, [.ref mT, .int zt, .ref mS, .ref mX, .int zp, .int zf, .ref mL, .ref mB, .ref mD, .ref m1, .ref m2, .int zh, .ref mR, .int zr, .ref x1, .ref x2, .ref x3, .int zc, .ref mH, .int zy, .int za, .int zb, .int zs, .int zq, .int (-1), .int 0, .ref mY, .int zn_6, .ref mE, .int zm_6, .int zl_6, .ref mW, .int zk, .ref mO, .int zd_6, .ref y1, .ref y2, .ref y3, .ref y4, .ref mZ])), (mY, .inl (cI, 2600, .inl eY_6)), (mB, .inl (cS, 131072, .inl eB)), (mL, .inl (cI, 512, .inl eL)), (mE, .inl (cI, 2600, .inl eE_6)), (mX, .inl (cI, 6300, .inl eX))] := hDn
      have hS := hSn
      clear hPn hDn hSn
      refine lv_if_ne (tgt := 55) hx hb dX12_harm_42 (by decide) (fun c_7 => ?_) (fun c_7 => ?_)
      · have tc_7 : ¬ r_6.toInt = 0 := v_ne c_7
        refine lv_aload_n hx hb dX12_harm_55 rfl (lv_at hl 0 rfl) ?_
        refine lv_aload_n hx hb dX12_harm_56 rfl (lv_at hl 0 rfl) ?_
        refine va_get (D := (dC, dI)) (ci := 12) (v := .ref mE) (C := RX12) (T := TX12) (N := 40) hx hb hts in_X12 hown hK hP 1 rfl rfl 28 (by decide) (hts (.fieldLink RX12 61 "TextMenderModel" "came" "[I") (List.mem_of_getElem? (i := 6) rfl)) (fun _ h9 => h9) rfl dX12_harm_57 ?_
        refine lv_aload_n hx hb dX12_harm_60 rfl (lv_at hl 0 rfl) ?_
        refine va_get (D := (dC, dI)) (ci := 12) (v := .int zm_6) (C := RX12) (T := TX12) (N := 40) hx hb hts in_X12 hown hK hP 1 rfl rfl 29 (by decide) (hts (.fieldLink RX12 119 "TextMenderModel" "cameMany" "I") (List.mem_of_getElem? (i := 7) rfl)) (fun _ h9 => h9) rfl dX12_harm_61 ?_
        have hPc := hP.sub (ws' := [(oM, .inr (12, [.ref mT, .int zt, .ref mS, .ref mX, .int zp, .int zf, .ref mL, .ref mB, .ref mD, .ref m1, .ref m2, .int zh, .ref mR, .int zr, .ref x1, .ref x2, .ref x3, .int zc, .ref mH, .int zy, .int za, .int zb, .int zs, .int zq, .int (-1), .int 0, .ref mY, .int zn_6, .ref mE, .int zm_6, .int zl_6, .ref mW, .int zk, .ref mO, .int zd_6, .ref y1, .ref y2, .ref y3, .ref y4, .ref mZ])), (mS, .inl (cI, 21, .inl eS)), (mX, .inl (cI, 6300, .inl eX)), (mE, .inl (cI, 2600, .inl eE_6))]) [1, 0, 6, 5] rfl
        have hDc := hD.sub (ws' := [(oM, .inr (12, [.ref mT, .int zt, .ref mS, .ref mX, .int zp, .int zf, .ref mL, .ref mB, .ref mD, .ref m1, .ref m2, .int zh, .ref mR, .int zr, .ref x1, .ref x2, .ref x3, .int zc, .ref mH, .int zy, .int za, .int zb, .int zs, .int zq, .int (-1), .int 0, .ref mY, .int zn_6, .ref mE, .int zm_6, .int zl_6, .ref mW, .int zk, .ref mO, .int zd_6, .ref y1, .ref y2, .ref y3, .ref y4, .ref mZ])), (mS, .inl (cI, 21, .inl eS)), (mX, .inl (cI, 6300, .inl eX)), (mE, .inl (cI, 2600, .inl eE_6))]) [1, 0, 6, 5] (by decide +kernel) rfl
        have hFc := va_free (wc := [(oM, .inr (12, [.ref mT, .int zt, .ref mS, .ref mX, .int zp, .int zf, .ref mL, .ref mB, .ref mD, .ref m1, .ref m2, .int zh, .ref mR, .int zr, .ref x1, .ref x2, .ref x3, .int zc, .ref mH, .int zy, .int za, .int zb, .int zs, .int zq, .int (-1), .int 0, .ref mY, .int zn_6, .ref mE, .int zm_6, .int zl_6, .ref mW, .int zk, .ref mO, .int zd_6, .ref y1, .ref y2, .ref y3, .ref y4, .ref mZ])), (mS, .inl (cI, 21, .inl eS)), (mX, .inl (cI, 6300, .inl eX)), (mE, .inl (cI, 2600, .inl eE_6))]) hD hS hA [1, 0, 6, 5] rfl
        refine va_callv (va_runV (As := [.ref mE, .int zm_6]) (rest := []) ⟨hx, hb, hml, hown, hts⟩ (f_X12_bec l dC dI cI cS H.size oM mE mT mS mX mL mB mD m1 m2 mR x1 x2 x3 mH mY mE mW mO y1 y2 y3 y4 mZ 2600 zt zp zf zh zr zc zy za zb zs zq (-1) 0 zn_6 zm_6 zl_6 zk zd_6 eS eX eE_6 zm_6 (g_zt) (g_zp) (g_zf) (g_zh) (g_zr) (g_zc) (g_zy) (g_za) (g_zb) (g_zs) (g_zq) (hf6_0) (hf6_2) (g_zk) (g_eS) (g_eX) (by omega) (by omega) (by omega) (prg_of hf6_3) (by omega)) (cwV 2 hts gX12_harm_X12_become rfl rfl rfl (by decide +kernel) ⟨Nat.le_of_ble_eq_true rfl, Nat.le_of_ble_eq_true rfl⟩) ⟨fun a U g mk q => by obtain ⟨q0, q1, qP, qK, qD⟩ := q; exact ⟨q0, q1, qP, va_K.moved (u := U) (U := U.calling g mk a) (Vm.Alike.refl U.vm) qK, qD⟩, va_recv hK hPc (ci := 12) (q0 := 0) rfl rfl, fun U hU hW => ⟨rfl, by rw [hU], by rw [hU]; exact hPc, va_K.moved hW.alike hK, hDc.weaken (fun _ _ _ _ => trivial)⟩⟩ rfl rfl hl.1 rfl (lv_room (Nat.le_of_ble_eq_true rfl)) dX12_harm_64 ⟨Nat.le_of_ble_eq_true rfl, Nat.le_of_ble_eq_true rfl⟩) hS (fun q _ h => hFc q h) hFc (fun u t H1 locs ht hvm hw hB hz1 hk1 hSn => ?_)
        obtain ⟨zp_8, zf_8, zs_8, eS_8, eX_8, hP1, hD1, hf8_0, hf8_1, hf8_2, hf8_3, hf8_4, hf8_5, hf8_6⟩ := hB
        rw [ht] at hP1
        obtain ⟨hPn, hDn⟩ := va_join (wr := [(mY, .inl (cI, 2600, .inl eY_6)), (mB, .inl (cS, 131072, .inl eB)), (mL, .inl (cI, 512, .inl eL))]) (w1 := [(oM, .inr (12, [.ref mT, .int zt, .ref mS, .ref mX, .int zp_8, .int zf_8, .ref mL, .ref mB, .ref mD, .ref m1, .ref m2, .int zh, .ref mR, .int zr, .ref x1, .ref x2, .ref x3, .int zc, .ref mH, .int zy, .int za, .int zb, .int zs_8, .int zq, .int (-1), .int 0, .ref mY, .int zn_6, .ref mE, .int zm_6, .int zl_6, .ref mW, .int zk, .ref mO, .int zd_6, .ref y1, .ref y2, .ref y3, .ref y4, .ref mZ])), (mS, .inl (cI, 21, .inl eS_8)), (mX, .inl (cI, 6300, .inl eX_8)), (mE, .inl (cI, 2600, .inl eE_6))]) hP hD [1, 0, 6, 5] [2, 3, 4] rfl rfl (by decide +kernel) (by decide +kernel) hk1 hFc hP1 hD1
        clear hP hD hS hPc hDc hFc hk1 hz1 hvm ht hP1 hD1
        generalize H1 = H at hPn hSn ⊢
        have hP : va_P (dC, dI) vwCl [(mY, .inl (cI, 2600, .inl eY_6)), (mB, .inl (cS, 131072, .inl eB)), (mL, .inl (cI, 512, .inl eL)), (oM, .inr (12, [.ref mT, .int zt, .ref mS, .ref mX, .int zp_8, .int zf_8, .ref mL, .ref mB, .ref mD, .ref m1, .ref m2, .int zh, .ref mR, .int zr, .ref x1, .ref x2, .ref x3, .int zc, .ref mH, .int zy, .int za, .int zb, .int zs_8, .int zq, .int (-1), .int 0, .ref mY, .int zn_6, .ref mE, .int zm_6, .int zl_6, .ref mW, .int zk, .ref mO, .int zd_6, .ref y1, .ref y2, .ref y3, .ref y4, .ref mZ])), (mS, .inl (cI, 21, .inl eS_8)), (mX, .inl (cI, 6300, .inl eX_8)), (mE, .inl (cI, 2600, .inl eE_6))] H := hPn
        have hD : va_D A [(mY, .inl (cI, 2600, .inl eY_6)), (mB, .inl (cS, 131072, .inl eB)), (mL, .inl (cI, 512, .inl eL)), (oM, .inr (12, [.ref mT, .int zt, .ref mS, .ref mX, .int zp_8, .int zf_8, .ref mL, .ref mB, .ref mD, .ref m1, .ref m2, .int zh, .ref mR, .int zr, .ref x1, .ref x2, .ref x3, .int zc, .ref mH, .int zy, .int za, .int zb, .int zs_8, .int zq, .int (-1), .int 0, .ref mY, .int zn_6, .ref mE, .int zm_6, .int zl_6, .ref mW, .int zk, .ref mO, .int zd_6, .ref y1, .ref y2, .ref y3, .ref y4, .ref mZ])), (mS, .inl (cI, 21, .inl eS_8)), (mX, .inl (cI, 6300, .inl eX_8)), (mE, .inl (cI, 2600, .inl eE_6))] := hDn
        have hS := hSn
        clear hPn hDn hSn
        refine lv_aload_n hx hb dX12_harm_67 rfl (lv_at hl 0 rfl) ?_
        refine va_get (D := (dC, dI)) (ci := 12) (v := .int zm_6) (C := RX12) (T := TX12) (N := 40) hx hb hts in_X12 hown hK hP 3 rfl rfl 29 (by decide) (hts (.fieldLink RX12 119 "TextMenderModel" "cameMany" "I") (List.mem_of_getElem? (i := 7) rfl)) (fun _ h9 => h9) rfl dX12_harm_68 ?_
        have hP9 := hP.sub (ws' := [(oM, .inr (12, [.ref mT, .int zt, .ref mS, .ref mX, .int zp_8, .int zf_8, .ref mL, .ref mB, .ref mD, .ref m1, .ref m2, .int zh, .ref mR, .int zr, .ref x1, .ref x2, .ref x3, .int zc, .ref mH, .int zy, .int za, .int zb, .int zs_8, .int zq, .int (-1), .int 0, .ref mY, .int zn_6, .ref mE, .int zm_6, .int zl_6, .ref mW, .int zk, .ref mO, .int zd_6, .ref y1, .ref y2, .ref y3, .ref y4, .ref mZ])), (mY, .inl (cI, 2600, .inl eY_6)), (mB, .inl (cS, 131072, .inl eB)), (mL, .inl (cI, 512, .inl eL)), (mE, .inl (cI, 2600, .inl eE_6)), (mS, .inl (cI, 21, .inl eS_8)), (mX, .inl (cI, 6300, .inl eX_8))]) [3, 0, 1, 2, 6, 4, 5] rfl
        have hD9 := hD.sub (ws' := [(oM, .inr (12, [.ref mT, .int zt, .ref mS, .ref mX, .int zp_8, .int zf_8, .ref mL, .ref mB, .ref mD, .ref m1, .ref m2, .int zh, .ref mR, .int zr, .ref x1, .ref x2, .ref x3, .int zc, .ref mH, .int zy, .int za, .int zb, .int zs_8, .int zq, .int (-1), .int 0, .ref mY, .int zn_6, .ref mE, .int zm_6, .int zl_6, .ref mW, .int zk, .ref mO, .int zd_6, .ref y1, .ref y2, .ref y3, .ref y4, .ref mZ])), (mY, .inl (cI, 2600, .inl eY_6)), (mB, .inl (cS, 131072, .inl eB)), (mL, .inl (cI, 512, .inl eL)), (mE, .inl (cI, 2600, .inl eE_6)), (mS, .inl (cI, 21, .inl eS_8)), (mX, .inl (cI, 6300, .inl eX_8))]) [3, 0, 1, 2, 6, 4, 5] (by decide +kernel) rfl
        rw [hQQ]
        exact W.iret (v := zm_6) hx hb hr (fun t ht hW => ⟨⟨zm_6, zm_6, rfl, rfl, ⟨0, (-1), zn_6, eY_6, zd_6, zm_6, zl_6, eE_6, zp_8, zf_8, zs_8, eS_8, eX_8, by rw [ht]; exact hP9, hD9, hf6_0, hf6_1, hf6_2, hf6_3, hf8_0, hf8_1, hf8_2, hf8_3, hf8_4, by show zs_8.toInt ≤ zs.toInt + 1 ∧ zs.toInt ≤ zs_8.toInt; omega, by first | exact Or.inl (by omega) | exact Or.inr ⟨rfl, rfl, rfl⟩, OR_y ((pz_1 (Or.inl ⟨by unfold okd; omega, by unfold okd; omega, ps_n (n := x_5.toInt) (n' := (eS 0).toInt) hf6_6 (by rw [ex_5]; rfl)⟩) (by omega)).imp (fun c hc => ⟨hc.1, hc.2 _ (by first | rfl | omega)⟩)) hf8_6 (by omega)⟩⟩, hS.F ht⟩) hS.2.2 dX12_harm_71
      · have tc_7 : r_6.toInt = 0 := v_eq c_7
        refine lv_aload_n hx hb dX12_harm_45 rfl (lv_at hl 0 rfl) ?_
        refine lv_aload_n hx hb dX12_harm_46 rfl (lv_at hl 0 rfl) ?_
        refine va_get (D := (dC, dI)) (ci := 12) (v := .int zl_6) (C := RX12) (T := TX12) (N := 40) hx hb hts in_X12 hown hK hP 1 rfl rfl 30 (by decide) (hts (.fieldLink RX12 102 "TextMenderModel" "faultAt" "I") (List.mem_of_getElem? (i := 5) rfl)) (fun _ h9 => h9) rfl dX12_harm_47 ?_
        refine va_put (D := (dC, dI)) (ci := 12) (v := .int zl_6) (ty := .int) (C := RX12) (T := TX12) (N := 40) hx hb hts in_X12 tyX12 tyX12_ok nmX12 hown hK hP hD hS 1 rfl rfl 24 (by decide) (hts (.fieldLink RX12 55 "TextMenderModel" "where" "I") (List.mem_of_getElem? (i := 2) rfl)) (fun _ h9 => h9) rfl (by decide +kernel) rfl rfl (Nat.le_of_ble_eq_true rfl) dX12_harm_50 (fun H locs hPn hDn hSn => ?_)
        clear hP hD hS
        have hP : va_P (dC, dI) vwCl [(mS, .inl (cI, 21, .inl eS)), (oM, .inr (12, [.ref mT, .int zt, .ref mS, .ref mX, .int zp, .int zf, .ref mL, .ref mB, .ref mD, .ref m1, .ref m2, .int zh, .ref mR, .int zr, .ref x1, .ref x2, .ref x3, .int zc, .ref mH, .int zy, .int za, .int zb, .int zs, .int zq, .int zl_6, .int 0, .ref mY, .int zn_6, .ref mE, .int zm_6, .int zl_6, .ref mW, .int zk, .ref mO, .int zd_6, .ref y1, .ref y2, .ref y3, .ref y4, .ref mZ])), (mY, .inl (cI, 2600, .inl eY_6)), (mB, .inl (cS, 131072, .inl eB)), (mL, .inl (cI, 512, .inl eL)), (mE, .inl (cI, 2600, .inl eE_6)), (mX, .inl (cI, 6300, .inl eX))] H := hPn
        have hD : va_D A [(mS, .inl (cI, 21, .inl eS)), (oM, .inr (12, [.ref mT, .int zt, .ref mS, .ref mX, .int zp, .int zf, .ref mL, .ref mB, .ref mD, .ref m1, .ref m2, .int zh, .ref mR, .int zr, .ref x1, .ref x2, .ref x3, .int zc, .ref mH, .int zy, .int za, .int zb, .int zs, .int zq, .int zl_6, .int 0, .ref mY, .int zn_6, .ref mE, .int zm_6, .int zl_6, .ref mW, .int zk, .ref mO, .int zd_6, .ref y1, .ref y2, .ref y3, .ref y4, .ref mZ])), (mY, .inl (cI, 2600, .inl eY_6)), (mB, .inl (cS, 131072, .inl eB)), (mL, .inl (cI, 512, .inl eL)), (mE, .inl (cI, 2600, .inl eE_6)), (mX, .inl (cI, 6300, .inl eX))] := hDn
        have hS := hSn
        clear hPn hDn hSn
        refine lv_iconst (v := (-1)) hx hb dX12_harm_53 (by decide) ?_
        have hP9 := hP.sub (ws' := [(oM, .inr (12, [.ref mT, .int zt, .ref mS, .ref mX, .int zp, .int zf, .ref mL, .ref mB, .ref mD, .ref m1, .ref m2, .int zh, .ref mR, .int zr, .ref x1, .ref x2, .ref x3, .int zc, .ref mH, .int zy, .int za, .int zb, .int zs, .int zq, .int zl_6, .int 0, .ref mY, .int zn_6, .ref mE, .int zm_6, .int zl_6, .ref mW, .int zk, .ref mO, .int zd_6, .ref y1, .ref y2, .ref y3, .ref y4, .ref mZ])), (mY, .inl (cI, 2600, .inl eY_6)), (mB, .inl (cS, 131072, .inl eB)), (mL, .inl (cI, 512, .inl eL)), (mE, .inl (cI, 2600, .inl eE_6)), (mS, .inl (cI, 21, .inl eS)), (mX, .inl (cI, 6300, .inl eX))]) [1, 2, 3, 4, 5, 0, 6] rfl
        have hD9 := hD.sub (ws' := [(oM, .inr (12, [.ref mT, .int zt, .ref mS, .ref mX, .int zp, .int zf, .ref mL, .ref mB, .ref mD, .ref m1, .ref m2, .int zh, .ref mR, .int zr, .ref x1, .ref x2, .ref x3, .int zc, .ref mH, .int zy, .int za, .int zb, .int zs, .int zq, .int zl_6, .int 0, .ref mY, .int zn_6, .ref mE, .int zm_6, .int zl_6, .ref mW, .int zk, .ref mO, .int zd_6, .ref y1, .ref y2, .ref y3, .ref y4, .ref mZ])), (mY, .inl (cI, 2600, .inl eY_6)), (mB, .inl (cS, 131072, .inl eB)), (mL, .inl (cI, 512, .inl eL)), (mE, .inl (cI, 2600, .inl eE_6)), (mS, .inl (cI, 21, .inl eS)), (mX, .inl (cI, 6300, .inl eX))]) [1, 2, 3, 4, 5, 0, 6] (by decide +kernel) rfl
        rw [hQQ]
        exact W.iret (v := (-1)) hx hb hr (fun t ht hW => ⟨⟨(-1), (-1), rfl, rfl, ⟨0, zl_6, zn_6, eY_6, zd_6, zm_6, zl_6, eE_6, zp, zf, zs, eS, eX, by rw [ht]; exact hP9, hD9, hf6_0, hf6_1, hf6_2, hf6_3, g_zp, g_zf, g_zs, g_eS, g_eX, by show zs.toInt ≤ zs.toInt + 1 ∧ zs.toInt ≤ zs.toInt; omega, by first | exact Or.inl (by omega) | exact Or.inr ⟨rfl, rfl, rfl⟩, OR_n rfl (pz_0 (Or.inl ⟨by unfold okd; omega, by unfold okd; omega, ps_n (n := x_5.toInt) (n' := (eS 0).toInt) hf6_6 (by rw [ex_5]; rfl)⟩) (by omega))⟩⟩, hS.F ht⟩) hS.2.2 dX12_harm_54
    · have tc_4 : r_3.toInt = 0 := v_eq c_4
      refine lv_iconst (v := (-1)) hx hb dX12_harm_24 (by decide) ?_
      have hP9 := hP.sub (ws' := [(oM, .inr (12, [.ref mT, .int zt, .ref mS, .ref mX, .int zp, .int zf, .ref mL, .ref mB, .ref mD, .ref m1, .ref m2, .int zh, .ref mR, .int zr, .ref x1, .ref x2, .ref x3, .int zc, .ref mH, .int zy, .int za, .int zb, .int zs, .int zq, .int (-1), .int 0, .ref mY, .int zn, .ref mE, .int zm, .int zl, .ref mW, .int zk, .ref mO, .int zd, .ref y1, .ref y2, .ref y3, .ref y4, .ref mZ])), (mY, .inl (cI, 2600, .inl eY)), (mB, .inl (cS, 131072, .inl eB)), (mL, .inl (cI, 512, .inl eL)), (mE, .inl (cI, 2600, .inl eE)), (mS, .inl (cI, 21, .inl eS)), (mX, .inl (cI, 6300, .inl eX))]) [0, 1, 2, 3, 4, 5, 6] rfl
      have hD9 := hD.sub (ws' := [(oM, .inr (12, [.ref mT, .int zt, .ref mS, .ref mX, .int zp, .int zf, .ref mL, .ref mB, .ref mD, .ref m1, .ref m2, .int zh, .ref mR, .int zr, .ref x1, .ref x2, .ref x3, .int zc, .ref mH, .int zy, .int za, .int zb, .int zs, .int zq, .int (-1), .int 0, .ref mY, .int zn, .ref mE, .int zm, .int zl, .ref mW, .int zk, .ref mO, .int zd, .ref y1, .ref y2, .ref y3, .ref y4, .ref mZ])), (mY, .inl (cI, 2600, .inl eY)), (mB, .inl (cS, 131072, .inl eB)), (mL, .inl (cI, 512, .inl eL)), (mE, .inl (cI, 2600, .inl eE)), (mS, .inl (cI, 21, .inl eS)), (mX, .inl (cI, 6300, .inl eX))]) [0, 1, 2, 3, 4, 5, 6] (by decide +kernel) rfl
      rw [hQQ]
      exact W.iret (v := (-1)) hx hb hr (fun t ht hW => ⟨⟨(-1), (-1), rfl, rfl, ⟨0, (-1), zn, eY, zd, zm, zl, eE, zp, zf, zs, eS, eX, by rw [ht]; exact hP9, hD9, g_zn, g_eY, g_zm, g_eE, g_zp, g_zf, g_zs, g_eS, g_eX, by show zs.toInt ≤ zs.toInt + 1 ∧ zs.toInt ≤ zs.toInt; omega, by first | exact Or.inl (by omega) | exact Or.inr ⟨rfl, rfl, rfl⟩, OR_n rfl (fun c fm v h => by have h1 := h.1; have h2 := h.2.1; unfold okd at h1 h2; omega)⟩⟩, hS.F ht⟩) hS.2.2 dX12_harm_25

set_option maxHeartbeats 40000000 in
set_option maxRecDepth 100000 in
theorem f_X12_takeText (l : Launch) (dC : Nat → ClassId) (dI : Nat → Nat → Nat) (cI cS : ClassId) (sz : Nat) (oM : Nat) (mT : Nat) (mS : Nat) (mX : Nat) (mL : Nat) (mB : Nat) (mD : Nat) (m1 : Nat) (m2 : Nat) (mR : Nat) (x1 : Nat) (x2 : Nat) (x3 : Nat) (mH : Nat) (mY : Nat) (mE : Nat) (mW : Nat) (mO : Nat) (y1 : Nat) (y2 : Nat) (y3 : Nat) (y4 : Nat) (mZ : Nat) (zt : Int32) (zp : Int32) (zf : Int32) (zh : Int32) (zr : Int32) (zc : Int32) (zy : Int32) (za : Int32) (zb : Int32) (zs : Int32) (zq : Int32) (zw : Int32) (ze : Int32) (zn : Int32) (zm : Int32) (zl : Int32) (zk : Int32) (zd : Int32) (eS : Nat → Int32) (eX : Nat → Int32) (eW : Nat → Int32) (g_zt : 0 ≤ zt.toInt ∧ zt.toInt ≤ 900) (g_zp : 0 ≤ zp.toInt ∧ zp.toInt ≤ 20) (g_zf : 0 ≤ zf.toInt ∧ zf.toInt ≤ 19) (g_zh : 0 ≤ zh.toInt ∧ zh.toInt ≤ 6) (g_zr : 0 ≤ zr.toInt ∧ zr.toInt ≤ 258) (g_zc : 0 ≤ zc.toInt ∧ zc.toInt ≤ 300) (g_zy : 0 ≤ zy.toInt ∧ zy.toInt ≤ 65536) (g_za : 0 ≤ za.toInt ∧ za.toInt ≤ 5) (g_zb : 0 ≤ zb.toInt ∧ zb.toInt ≤ 5) (g_zs : 0 ≤ zs.toInt ∧ zs.toInt ≤ 2000000) (g_zq : -1 ≤ zq.toInt ∧ zq.toInt ≤ 2000000) (g_zn : 0 ≤ zn.toInt ∧ zn.toInt ≤ 2600) (g_zm : 0 ≤ zm.toInt ∧ zm.toInt ≤ 2600) (g_zk : 0 ≤ zk.toInt ∧ zk.toInt ≤ 300) (g_eS : rg 0 300 eS) (g_eX : rg 0 65535 eX) (g_eW : rg 0 65535 eW) : Met l yX12_takeText wsX12_takeText ({ frames := 0, cells := 0, slots := 0, locals := 0 } : Room) (va_Pc [.ref oM] (fun U => U.heap.size = sz ∧ va_P (dC, dI) vwCl [(oM, .inr (12, [.ref mT, .int zt, .ref mS, .ref mX, .int zp, .int zf, .ref mL, .ref mB, .ref mD, .ref m1, .ref m2, .int zh, .ref mR, .int zr, .ref x1, .ref x2, .ref x3, .int zc, .ref mH, .int zy, .int za, .int zb, .int zs, .int zq, .int zw, .int ze, .ref mY, .int zn, .ref mE, .int zm, .int zl, .ref mW, .int zk, .ref mO, .int zd, .ref y1, .ref y2, .ref y3, .ref y4, .ref mZ])), (mS, .inl (cI, 21, .inl eS)), (mX, .inl (cI, 6300, .inl eX)), (mW, .inl (cI, 300, .inl eW))] U.heap ∧ va_K (dC, dI) vwCl [(cI, .int), (cS, .short)] U ∧ va_D (fun _ => True) [(oM, .inr (12, [.ref mT, .int zt, .ref mS, .ref mX, .int zp, .int zf, .ref mL, .ref mB, .ref mD, .ref m1, .ref m2, .int zh, .ref mR, .int zr, .ref x1, .ref x2, .ref x3, .int zc, .ref mH, .int zy, .int za, .int zb, .int zs, .int zq, .int zw, .int ze, .ref mY, .int zn, .ref mE, .int zm, .int zl, .ref mW, .int zk, .ref mO, .int zd, .ref y1, .ref y2, .ref y3, .ref y4, .ref mZ])), (mS, .inl (cI, 21, .inl eS)), (mX, .inl (cI, 6300, .inl eX)), (mW, .inl (cI, 300, .inl eW))])) (va_Qv (fun (_ : Unit) => True) (fun _ t => ∃ (zk' : Int32) (eW' : Nat → Int32), va_P (dC, dI) vwCl [(oM, .inr (12, [.ref mT, .int zt, .ref mS, .ref mX, .int zp, .int zf, .ref mL, .ref mB, .ref mD, .ref m1, .ref m2, .int zh, .ref mR, .int zr, .ref x1, .ref x2, .ref x3, .int zc, .ref mH, .int zy, .int za, .int zb, .int zs, .int zq, .int zw, .int ze, .ref mY, .int zn, .ref mE, .int zm, .int zl, .ref mW, .int zk', .ref mO, .int zd, .ref y1, .ref y2, .ref y3, .ref y4, .ref mZ])), (mS, .inl (cI, 21, .inl eS)), (mX, .inl (cI, 6300, .inl eX)), (mW, .inl (cI, 300, .inl eW'))] t.heap ∧ va_D (va_A [(oM, .inr (12, [.ref mT, .int zt, .ref mS, .ref mX, .int zp, .int zf, .ref mL, .ref mB, .ref mD, .ref m1, .ref m2, .int zh, .ref mR, .int zr, .ref x1, .ref x2, .ref x3, .int zc, .ref mH, .int zy, .int za, .int zb, .int zs, .int zq, .int zw, .int ze, .ref mY, .int zn, .ref mE, .int zm, .int zl, .ref mW, .int zk, .ref mO, .int zd, .ref y1, .ref y2, .ref y3, .ref y4, .ref mZ])), (mS, .inl (cI, 21, .inl eS)), (mX, .inl (cI, 6300, .inl eX)), (mW, .inl (cI, 300, .inl eW))] sz) [(oM, .inr (12, [.ref mT, .int zt, .ref mS, .ref mX, .int zp, .int zf, .ref mL, .ref mB, .ref mD, .ref m1, .ref m2, .int zh, .ref mR, .int zr, .ref x1, .ref x2, .ref x3, .int zc, .ref mH, .int zy, .int za, .int zb, .int zs, .int zq, .int zw, .int ze, .ref mY, .int zn, .ref mE, .int zm, .int zl, .ref mW, .int zk', .ref mO, .int zd, .ref y1, .ref y2, .ref y3, .ref y4, .ref mZ])), (mS, .inl (cI, 21, .inl eS)), (mX, .inl (cI, 6300, .inl eX)), (mW, .inl (cI, 300, .inl eW'))] ∧ (0 ≤ zk'.toInt ∧ zk'.toInt ≤ 300) ∧ (rg 0 65535 eW') ∧ (F_tt zk' eW' eS eX)) (va_A [(oM, .inr (12, [.ref mT, .int zt, .ref mS, .ref mX, .int zp, .int zf, .ref mL, .ref mB, .ref mD, .ref m1, .ref m2, .int zh, .ref mR, .int zr, .ref x1, .ref x2, .ref x3, .int zc, .ref mH, .int zy, .int za, .int zb, .int zs, .int zq, .int zw, .int ze, .ref mY, .int zn, .ref mE, .int zm, .int zl, .ref mW, .int zk, .ref mO, .int zd, .ref y1, .ref y2, .ref y3, .ref y4, .ref mZ])), (mS, .inl (cI, 21, .inl eS)), (mX, .inl (cI, 6300, .inl eX)), (mW, .inl (cI, 300, .inl eW))] sz)) 0 0 (va_A [(oM, .inr (12, [.ref mT, .int zt, .ref mS, .ref mX, .int zp, .int zf, .ref mL, .ref mB, .ref mD, .ref m1, .ref m2, .int zh, .ref mR, .int zr, .ref x1, .ref x2, .ref x3, .int zc, .ref mH, .int zy, .int za, .int zb, .int zs, .int zq, .int zw, .int ze, .ref mY, .int zn, .ref mE, .int zm, .int zl, .ref mW, .int zk, .ref mO, .int zd, .ref y1, .ref y2, .ref y3, .ref y4, .ref mZ])), (mS, .inl (cI, 21, .inl eS)), (mX, .inl (cI, 6300, .inl eX)), (mW, .inl (cI, 300, .inl eW))] sz) := by
  refine Met.ofW (cc := cX12_takeText) (maxL := 2) (ret := none) (by decide) rfl ?_
  intro p e s m args below meth c s₁ B hml hv
  obtain ⟨rfl, hsz, hP, hK, hD0⟩ := hv
  have hx := B.exec
  have hb := B.bytes
  have hr := B.returns
  have hts := atoms_spec (ws := wsX12_takeText) B.pre
  have hown : s.vm.findClass RX12 = some m.cls := findClass_of_methodNamed B.named
  have hlocks := B.notSynchronized
  have in_X12 : ∀ w ∈ wsX120, w ∈ wsX12_takeText := fun _ h => List.mem_cons_of_mem _ (List.mem_append_right _ (h))
  subst hsz
  have hD := hD0.self (sz := s.heap.size)
  generalize hAe : va_A [(oM, .inr (12, [.ref mT, .int zt, .ref mS, .ref mX, .int zp, .int zf, .ref mL, .ref mB, .ref mD, .ref m1, .ref m2, .int zh, .ref mR, .int zr, .ref x1, .ref x2, .ref x3, .int zc, .ref mH, .int zy, .int za, .int zb, .int zs, .int zq, .int zw, .int ze, .ref mY, .int zn, .ref mE, .int zm, .int zl, .ref mW, .int zk, .ref mO, .int zd, .ref y1, .ref y2, .ref y3, .ref y4, .ref mZ])), (mS, .inl (cI, 21, .inl eS)), (mX, .inl (cI, 6300, .inl eX)), (mW, .inl (cI, 300, .inl eW))] s.heap.size = A at hD ⊢
  have hA : ∀ q : Nat, s.heap.size ≤ q → A q := fun q h => by rw [← hAe]; exact Or.inr h
  have hS : va_S A s.heap s.heap [] := va_S.rf
  have hP : va_P (dC, dI) vwCl [(oM, .inr (12, [.ref mT, .int zt, .ref mS, .ref mX, .int zp, .int zf, .ref mL, .ref mB, .ref mD, .ref m1, .ref m2, .int zh, .ref mR, .int zr, .ref x1, .ref x2, .ref x3, .int zc, .ref mH, .int zy, .int za, .int zb, .int zs, .int zq, .int zw, .int ze, .ref mY, .int zn, .ref mE, .int zm, .int zl, .ref mW, .int zk, .ref mO, .int zd, .ref y1, .ref y2, .ref y3, .ref y4, .ref mZ])), (mS, .inl (cI, 21, .inl eS)), (mX, .inl (cI, 6300, .inl eX)), (mW, .inl (cI, 300, .inl eW))] s.heap := hP
  have hl := lv_entry ([.ref oM]) (n := 2) (Nat.le_of_ble_eq_true rfl)
  rw [lg_entry_eq]
  generalize (lg_sl ([.ref oM]) ++ List.replicate (2 - (lg_sl ([.ref oM])).length) Slot.unset).toArray = ls at hl ⊢
  have hl : lv_has ls 2 [(0, .ref oM)] := hl
  obtain ⟨QQ, hQQ⟩ : ∃ QQ : Array Value → State → Outcome → State → Prop, QQ = va_Qv (fun (_ : Unit) => True) (fun _ t => ∃ (zk' : Int32) (eW' : Nat → Int32), va_P (dC, dI) vwCl [(oM, .inr (12, [.ref mT, .int zt, .ref mS, .ref mX, .int zp, .int zf, .ref mL, .ref mB, .ref mD, .ref m1, .ref m2, .int zh, .ref mR, .int zr, .ref x1, .ref x2, .ref x3, .int zc, .ref mH, .int zy, .int za, .int zb, .int zs, .int zq, .int zw, .int ze, .ref mY, .int zn, .ref mE, .int zm, .int zl, .ref mW, .int zk', .ref mO, .int zd, .ref y1, .ref y2, .ref y3, .ref y4, .ref mZ])), (mS, .inl (cI, 21, .inl eS)), (mX, .inl (cI, 6300, .inl eX)), (mW, .inl (cI, 300, .inl eW'))] t.heap ∧ va_D A [(oM, .inr (12, [.ref mT, .int zt, .ref mS, .ref mX, .int zp, .int zf, .ref mL, .ref mB, .ref mD, .ref m1, .ref m2, .int zh, .ref mR, .int zr, .ref x1, .ref x2, .ref x3, .int zc, .ref mH, .int zy, .int za, .int zb, .int zs, .int zq, .int zw, .int ze, .ref mY, .int zn, .ref mE, .int zm, .int zl, .ref mW, .int zk', .ref mO, .int zd, .ref y1, .ref y2, .ref y3, .ref y4, .ref mZ])), (mS, .inl (cI, 21, .inl eS)), (mX, .inl (cI, 6300, .inl eX)), (mW, .inl (cI, 300, .inl eW'))] ∧ (0 ≤ zk'.toInt ∧ zk'.toInt ≤ 300) ∧ (rg 0 65535 eW') ∧ (F_tt zk' eW' eS eX)) A := ⟨_, rfl⟩
  rw [← hQQ]
  refine lv_aload_n hx hb dX12_takeText_0 rfl (lv_at hl 0 rfl) ?_
  refine lv_aload_n hx hb dX12_takeText_1 rfl (lv_at hl 0 rfl) ?_
  refine va_get (D := (dC, dI)) (ci := 12) (v := .ref mS) (C := RX12) (T := TX12) (N := 40) hx hb hts in_X12 hown hK hP 0 rfl rfl 2 (by decide) (hts (.fieldLink RX12 13 "TextMenderModel" "sizes" "[I") (List.mem_of_getElem? (i := 1) rfl)) (fun _ h9 => h9) rfl dX12_takeText_2 ?_
  refine lv_iconst (v := 0) hx hb dX12_takeText_5 (by decide) ?_
  refine va_iald hx hb hK hP 1 0 rfl rfl (by unfold vp_in; decide) dX12_takeText_6 ?_
  refine lv_topi (fun x_1 ex_1 => ?_)
  have tx_1 : 0 ≤ x_1.toInt ∧ x_1.toInt ≤ 300 := rg_at g_eS ex_1
  refine va_put (D := (dC, dI)) (ci := 12) (v := .int x_1) (ty := .int) (C := RX12) (T := TX12) (N := 40) hx hb hts in_X12 tyX12 tyX12_ok nmX12 hown hK hP hD hS 0 rfl rfl 32 (by decide) (hts (.fieldLink RX12 135 "TextMenderModel" "workMany" "I") (List.mem_of_getElem? (i := 2) rfl)) (fun _ h9 => h9) rfl (by decide +kernel) rfl rfl (Nat.le_of_ble_eq_true rfl) dX12_takeText_7 (fun H locs hPn hDn hSn => ?_)
  clear hP hD hS
  have hP : va_P (dC, dI) vwCl [(oM, .inr (12, [.ref mT, .int zt, .ref mS, .ref mX, .int zp, .int zf, .ref mL, .ref mB, .ref mD, .ref m1, .ref m2, .int zh, .ref mR, .int zr, .ref x1, .ref x2, .ref x3, .int zc, .ref mH, .int zy, .int za, .int zb, .int zs, .int zq, .int zw, .int ze, .ref mY, .int zn, .ref mE, .int zm, .int zl, .ref mW, .int x_1, .ref mO, .int zd, .ref y1, .ref y2, .ref y3, .ref y4, .ref mZ])), (mS, .inl (cI, 21, .inl eS)), (mX, .inl (cI, 6300, .inl eX)), (mW, .inl (cI, 300, .inl eW))] H := hPn
  have hD : va_D A [(oM, .inr (12, [.ref mT, .int zt, .ref mS, .ref mX, .int zp, .int zf, .ref mL, .ref mB, .ref mD, .ref m1, .ref m2, .int zh, .ref mR, .int zr, .ref x1, .ref x2, .ref x3, .int zc, .ref mH, .int zy, .int za, .int zb, .int zs, .int zq, .int zw, .int ze, .ref mY, .int zn, .ref mE, .int zm, .int zl, .ref mW, .int x_1, .ref mO, .int zd, .ref y1, .ref y2, .ref y3, .ref y4, .ref mZ])), (mS, .inl (cI, 21, .inl eS)), (mX, .inl (cI, 6300, .inl eX)), (mW, .inl (cI, 300, .inl eW))] := hDn
  have hS := hSn
  clear hPn hDn hSn
  refine lv_iconst (v := 0) hx hb dX12_takeText_10 (by decide) ?_
  refine lv_istore_n (lv' := [(1, .int 0), (0, .ref oM)]) hx hb dX12_takeText_11 rfl hl (by decide) rfl (fun ls hl => ?_)
  have LOOP_12 : ∀ (k_12 : Nat) (k : Int32) (eWa : Nat → Int32) (H : Heap) (locs : List Loc) (ls : Array Slot), MSd (300 - k.toInt : Int) k_12 → (0 ≤ k.toInt ∧ k.toInt ≤ 300) → (rg 0 65535 eWa) → (k.toInt ≤ x_1.toInt) → (cpE k.toInt eWa eX) → va_P (dC, dI) vwCl [(oM, .inr (12, [.ref mT, .int zt, .ref mS, .ref mX, .int zp, .int zf, .ref mL, .ref mB, .ref mD, .ref m1, .ref m2, .int zh, .ref mR, .int zr, .ref x1, .ref x2, .ref x3, .int zc, .ref mH, .int zy, .int za, .int zb, .int zs, .int zq, .int zw, .int ze, .ref mY, .int zn, .ref mE, .int zm, .int zl, .ref mW, .int x_1, .ref mO, .int zd, .ref y1, .ref y2, .ref y3, .ref y4, .ref mZ])), (mS, .inl (cI, 21, .inl eS)), (mX, .inl (cI, 6300, .inl eX)), (mW, .inl (cI, 300, .inl eWa))] H → va_D A [(oM, .inr (12, [.ref mT, .int zt, .ref mS, .ref mX, .int zp, .int zf, .ref mL, .ref mB, .ref mD, .ref m1, .ref m2, .int zh, .ref mR, .int zr, .ref x1, .ref x2, .ref x3, .int zc, .ref mH, .int zy, .int za, .int zb, .int zs, .int zq, .int zw, .int ze, .ref mY, .int zn, .ref mE, .int zm, .int zl, .ref mW, .int x_1, .ref mO, .int zd, .ref y1, .ref y2, .ref y3, .ref y4, .ref mZ])), (mS, .inl (cI, 21, .inl eS)), (mX, .inl (cI, 6300, .inl eX)), (mW, .inl (cI, 300, .inl eWa))] → va_S A s.heap H locs → lv_has ls 2 [(1, .int k), (0, .ref oM)] → W p l e (headSpec wsX12_takeText ({ frames := 0, cells := 0, slots := 0, locals := 0 } : Room)).room s m ([.ref oM] : List Value).toArray below meth c H locs 0 0 (MQ below QQ ([.ref oM] : List Value).toArray s 0 0 A) (F0 m 12 ls []) := by
    clear hP hD hS hl
    intro k_12
    induction k_12 with
    | zero =>
      intro k eWa H locs ls hm_12 g_k g_eWa hkk htt hP hD hS hl
      exact ms_0 hm_12
    | succ k_12 ih_12 =>
      intro k eWa H locs ls hm_12 g_k g_eWa hkk htt hP hD hS hl
      refine lv_iload_n hx hb dX12_takeText_12 rfl (lv_at hl 0 rfl) ?_
      refine lv_aload_n hx hb dX12_takeText_13 rfl (lv_at hl 1 rfl) ?_
      refine va_get (D := (dC, dI)) (ci := 12) (v := .int x_1) (C := RX12) (T := TX12) (N := 40) hx hb hts in_X12 hown hK hP 0 rfl rfl 32 (by decide) (hts (.fieldLink RX12 135 "TextMenderModel" "workMany" "I") (List.mem_of_getElem? (i := 2) rfl)) (fun _ h9 => h9) rfl dX12_takeText_14 ?_
      refine lv_icmp_ge (tgt := 38) hx hb dX12_takeText_17 (by decide) (fun c_2 => ?_) (fun c_2 => ?_)
      · have tc_2 : x_1.toInt ≤ k.toInt := v_le c_2
        have hP9 := hP.sub (ws' := [(oM, .inr (12, [.ref mT, .int zt, .ref mS, .ref mX, .int zp, .int zf, .ref mL, .ref mB, .ref mD, .ref m1, .ref m2, .int zh, .ref mR, .int zr, .ref x1, .ref x2, .ref x3, .int zc, .ref mH, .int zy, .int za, .int zb, .int zs, .int zq, .int zw, .int ze, .ref mY, .int zn, .ref mE, .int zm, .int zl, .ref mW, .int x_1, .ref mO, .int zd, .ref y1, .ref y2, .ref y3, .ref y4, .ref mZ])), (mS, .inl (cI, 21, .inl eS)), (mX, .inl (cI, 6300, .inl eX)), (mW, .inl (cI, 300, .inl eWa))]) [0, 1, 2, 3] rfl
        have hD9 := hD.sub (ws' := [(oM, .inr (12, [.ref mT, .int zt, .ref mS, .ref mX, .int zp, .int zf, .ref mL, .ref mB, .ref mD, .ref m1, .ref m2, .int zh, .ref mR, .int zr, .ref x1, .ref x2, .ref x3, .int zc, .ref mH, .int zy, .int za, .int zb, .int zs, .int zq, .int zw, .int ze, .ref mY, .int zn, .ref mE, .int zm, .int zl, .ref mW, .int x_1, .ref mO, .int zd, .ref y1, .ref y2, .ref y3, .ref y4, .ref mZ])), (mS, .inl (cI, 21, .inl eS)), (mX, .inl (cI, 6300, .inl eX)), (mW, .inl (cI, 300, .inl eWa))]) [0, 1, 2, 3] (by decide +kernel) rfl
        rw [hQQ]
        exact W.vret hx hb hr (fun t ht hW => ⟨⟨(), rfl, trivial, ⟨x_1, eWa, by rw [ht]; exact hP9, hD9, by omega, g_eWa, ⟨by rw [ex_1]; rfl, fun j hj => htt j (by omega)⟩⟩⟩, hS.F ht⟩) hS.2.2 dX12_takeText_38
      · have tc_2 : k.toInt < x_1.toInt := v_nle c_2
        refine lv_aload_n hx hb dX12_takeText_20 rfl (lv_at hl 1 rfl) ?_
        refine va_get (D := (dC, dI)) (ci := 12) (v := .ref mW) (C := RX12) (T := TX12) (N := 40) hx hb hts in_X12 hown hK hP 0 rfl rfl 31 (by decide) (hts (.fieldLink RX12 64 "TextMenderModel" "work" "[I") (List.mem_of_getElem? (i := 3) rfl)) (fun _ h9 => h9) rfl dX12_takeText_21 ?_
        refine lv_iload_n hx hb dX12_takeText_24 rfl (lv_at hl 0 rfl) ?_
        refine lv_aload_n hx hb dX12_takeText_25 rfl (lv_at hl 1 rfl) ?_
        refine va_get (D := (dC, dI)) (ci := 12) (v := .ref mX) (C := RX12) (T := TX12) (N := 40) hx hb hts in_X12 hown hK hP 0 rfl rfl 3 (by decide) (hts (.fieldLink RX12 16 "TextMenderModel" "texts" "[I") (List.mem_of_getElem? (i := 4) rfl)) (fun _ h9 => h9) rfl dX12_takeText_26 ?_
        refine lv_iload_n hx hb dX12_takeText_29 rfl (lv_at hl 0 rfl) ?_
        refine va_iald hx hb hK hP 2 0 rfl rfl (v_in (by omega)) dX12_takeText_30 ?_
        refine lv_topi (fun x_3 ex_3 => ?_)
        have tx_3 : 0 ≤ x_3.toInt ∧ x_3.toInt ≤ 65535 := rg_at g_eX ex_3
        refine va_iast hx hb hK hP hD hS 3 0 rfl rfl (v_in (by omega)) dX12_takeText_31 (fun H locs hPn hDn hSn => ?_)
        clear hP hD hS
        have hP : va_P (dC, dI) vwCl [(oM, .inr (12, [.ref mT, .int zt, .ref mS, .ref mX, .int zp, .int zf, .ref mL, .ref mB, .ref mD, .ref m1, .ref m2, .int zh, .ref mR, .int zr, .ref x1, .ref x2, .ref x3, .int zc, .ref mH, .int zy, .int za, .int zb, .int zs, .int zq, .int zw, .int ze, .ref mY, .int zn, .ref mE, .int zm, .int zl, .ref mW, .int x_1, .ref mO, .int zd, .ref y1, .ref y2, .ref y3, .ref y4, .ref mZ])), (mS, .inl (cI, 21, .inl eS)), (mX, .inl (cI, 6300, .inl eX)), (mW, .inl (cI, 300, .inl (upd eWa (k : Int32).toNatClampNeg x_3)))] H := hPn
        have hD : va_D A [(oM, .inr (12, [.ref mT, .int zt, .ref mS, .ref mX, .int zp, .int zf, .ref mL, .ref mB, .ref mD, .ref m1, .ref m2, .int zh, .ref mR, .int zr, .ref x1, .ref x2, .ref x3, .int zc, .ref mH, .int zy, .int za, .int zb, .int zs, .int zq, .int zw, .int ze, .ref mY, .int zn, .ref mE, .int zm, .int zl, .ref mW, .int x_1, .ref mO, .int zd, .ref y1, .ref y2, .ref y3, .ref y4, .ref mZ])), (mS, .inl (cI, 21, .inl eS)), (mX, .inl (cI, 6300, .inl eX)), (mW, .inl (cI, 300, .inl (upd eWa (k : Int32).toNatClampNeg x_3)))] := hDn
        have hS := hSn
        clear hPn hDn hSn
        obtain ⟨f_4, ef_4⟩ : ∃ g : Nat → Int32, g = upd eWa (k : Int32).toNatClampNeg x_3 := ⟨_, rfl⟩
        rw [← ef_4] at hP hD
        have g_f4 : rg 0 65535 f_4 := rg_upd ef_4 g_eWa (by omega)
        obtain ⟨x_5, ex_5⟩ : ∃ y : Int32, y = k + 1 := ⟨_, rfl⟩
        have tx_5 : x_5.toInt = k.toInt + 1 := v_add ex_5 (by show -2147483648 ≤ k.toInt + 1; omega) (by show k.toInt + 1 < 2147483648; omega)
        refine lv_iinc (v := x_5) (lv' := [(1, .int x_5), (0, .ref oM)]) hx hb dX12_takeText_32 hl (k := 0) rfl (by rw [ex_5]; rfl) (by decide) rfl (fun ls hl => ?_)
        refine lv_goto (tgt := 12) hx hb dX12_takeText_35 (by decide) ?_
        exact ih_12 x_5 f_4 _ _ _ (ms_lt hm_12 (by show ((300 - x_5.toInt : Int)) < 300 - k.toInt; omega) (by show (0 : Int) < 300 - k.toInt; omega)) (by show 0 ≤ x_5.toInt ∧ x_5.toInt ≤ 300; omega) (g_f4) (by show x_5.toInt ≤ x_1.toInt; omega) (cpE_s htt ex_3 ef_4 (by omega) (by omega)) hP hD hS (lv_sub hl [0, 1] rfl)
  exact LOOP_12 _ 0 eW _ _ _ (ms_s _) (by decide) (g_eW) (by show 0 ≤ x_1.toInt; omega) (cpE_0 (by decide)) hP hD hS (lv_sub hl [0, 1] rfl)

set_option maxHeartbeats 40000000 in
set_option maxRecDepth 100000 in
theorem f_X12_undo (l : Launch) (dC : Nat → ClassId) (dI : Nat → Nat → Nat) (cI cS : ClassId) (sz : Nat) (oM : Nat) (mT : Nat) (mS : Nat) (mX : Nat) (mL : Nat) (mB : Nat) (mD : Nat) (m1 : Nat) (m2 : Nat) (mR : Nat) (x1 : Nat) (x2 : Nat) (x3 : Nat) (mH : Nat) (mY : Nat) (mE : Nat) (mW : Nat) (mO : Nat) (y1 : Nat) (y2 : Nat) (y3 : Nat) (y4 : Nat) (mZ : Nat) (zt : Int32) (zp : Int32) (zf : Int32) (zh : Int32) (zr : Int32) (zc : Int32) (zy : Int32) (za : Int32) (zb : Int32) (zs : Int32) (zq : Int32) (zw : Int32) (ze : Int32) (zn : Int32) (zm : Int32) (zl : Int32) (zk : Int32) (zd : Int32) (eY : Nat → Int32) (eB : Nat → Int32) (eL : Nat → Int32) (eE : Nat → Int32) (eW : Nat → Int32) (eO : Nat → Int32) (eS : Nat → Int32) (eX : Nat → Int32) (a : Int32) (b : Int32) (g_zt : 0 ≤ zt.toInt ∧ zt.toInt ≤ 900) (g_zp : 0 ≤ zp.toInt ∧ zp.toInt ≤ 20) (g_zf : 0 ≤ zf.toInt ∧ zf.toInt ≤ 19) (g_zh : 0 ≤ zh.toInt ∧ zh.toInt ≤ 6) (g_zr : 0 ≤ zr.toInt ∧ zr.toInt ≤ 258) (g_zc : 0 ≤ zc.toInt ∧ zc.toInt ≤ 300) (g_zy : 0 ≤ zy.toInt ∧ zy.toInt ≤ 65536) (g_za : 0 ≤ za.toInt ∧ za.toInt ≤ 5) (g_zb : 0 ≤ zb.toInt ∧ zb.toInt ≤ 5) (g_zs : 0 ≤ zs.toInt ∧ zs.toInt ≤ 2000000) (g_zq : -1 ≤ zq.toInt ∧ zq.toInt ≤ 2000000) (g_zn : 0 ≤ zn.toInt ∧ zn.toInt ≤ 2600) (g_zm : 0 ≤ zm.toInt ∧ zm.toInt ≤ 2600) (g_zk : 0 ≤ zk.toInt ∧ zk.toInt ≤ 300) (g_eY : rg 0 255 eY) (g_eB : rg (-1) 255 eB) (g_eL : rg (-1) 65535 eL) (g_eE : rg 0 65535 eE) (g_eW : rg 0 65535 eW) (g_eO : rg 0 65535 eO) (g_eS : rg 0 300 eS) (g_eX : rg 0 65535 eX) (hxl : ∀ j : Nat, (j : Int) < (eS 0).toInt → isLz (eX j)) (hlb : LBr eL eB) (hzs : zs.toInt ≤ 1000000) : Met l yX12_undo wsX12_undo ({ frames := 5, cells := 0, slots := 0, locals := 120 } : Room) (va_Pc [.ref oM, .int a, .int b] (fun U => U.heap.size = sz ∧ va_P (dC, dI) vwCl [(oM, .inr (12, [.ref mT, .int zt, .ref mS, .ref mX, .int zp, .int zf, .ref mL, .ref mB, .ref mD, .ref m1, .ref m2, .int zh, .ref mR, .int zr, .ref x1, .ref x2, .ref x3, .int zc, .ref mH, .int zy, .int za, .int zb, .int zs, .int zq, .int zw, .int ze, .ref mY, .int zn, .ref mE, .int zm, .int zl, .ref mW, .int zk, .ref mO, .int zd, .ref y1, .ref y2, .ref y3, .ref y4, .ref mZ])), (mY, .inl (cI, 2600, .inl eY)), (mB, .inl (cS, 131072, .inl eB)), (mL, .inl (cI, 512, .inl eL)), (mE, .inl (cI, 2600, .inl eE)), (mW, .inl (cI, 300, .inl eW)), (mO, .inl (cI, 300, .inl eO)), (mS, .inl (cI, 21, .inl eS)), (mX, .inl (cI, 6300, .inl eX))] U.heap ∧ va_K (dC, dI) vwCl [(cI, .int), (cS, .short)] U ∧ va_D (fun _ => True) [(oM, .inr (12, [.ref mT, .int zt, .ref mS, .ref mX, .int zp, .int zf, .ref mL, .ref mB, .ref mD, .ref m1, .ref m2, .int zh, .ref mR, .int zr, .ref x1, .ref x2, .ref x3, .int zc, .ref mH, .int zy, .int za, .int zb, .int zs, .int zq, .int zw, .int ze, .ref mY, .int zn, .ref mE, .int zm, .int zl, .ref mW, .int zk, .ref mO, .int zd, .ref y1, .ref y2, .ref y3, .ref y4, .ref mZ])), (mY, .inl (cI, 2600, .inl eY)), (mB, .inl (cS, 131072, .inl eB)), (mL, .inl (cI, 512, .inl eL)), (mE, .inl (cI, 2600, .inl eE)), (mW, .inl (cI, 300, .inl eW)), (mO, .inl (cI, 300, .inl eO)), (mS, .inl (cI, 21, .inl eS)), (mX, .inl (cI, 6300, .inl eX))])) (va_Qi (fun (r : Int32) (u : Int32) => r = u) (fun (r : Int32) t => ∃ (ze' : Int32) (zw' : Int32) (zk' : Int32) (eW' : Nat → Int32) (eO' : Nat → Int32) (zn' : Int32) (eY' : Nat → Int32) (zd' : Int32) (zm' : Int32) (zl' : Int32) (eE' : Nat → Int32) (zp' : Int32) (zf' : Int32) (zs' : Int32) (eS' : Nat → Int32) (eX' : Nat → Int32), va_P (dC, dI) vwCl [(oM, .inr (12, [.ref mT, .int zt, .ref mS, .ref mX, .int zp', .int zf', .ref mL, .ref mB, .ref mD, .ref m1, .ref m2, .int zh, .ref mR, .int zr, .ref x1, .ref x2, .ref x3, .int zc, .ref mH, .int zy, .int za, .int zb, .int zs', .int zq, .int zw', .int ze', .ref mY, .int zn', .ref mE, .int zm', .int zl', .ref mW, .int zk', .ref mO, .int zd', .ref y1, .ref y2, .ref y3, .ref y4, .ref mZ])), (mY, .inl (cI, 2600, .inl eY')), (mB, .inl (cS, 131072, .inl eB)), (mL, .inl (cI, 512, .inl eL)), (mE, .inl (cI, 2600, .inl eE')), (mW, .inl (cI, 300, .inl eW')), (mO, .inl (cI, 300, .inl eO')), (mS, .inl (cI, 21, .inl eS')), (mX, .inl (cI, 6300, .inl eX'))] t.heap ∧ va_D (va_A [(oM, .inr (12, [.ref mT, .int zt, .ref mS, .ref mX, .int zp, .int zf, .ref mL, .ref mB, .ref mD, .ref m1, .ref m2, .int zh, .ref mR, .int zr, .ref x1, .ref x2, .ref x3, .int zc, .ref mH, .int zy, .int za, .int zb, .int zs, .int zq, .int zw, .int ze, .ref mY, .int zn, .ref mE, .int zm, .int zl, .ref mW, .int zk, .ref mO, .int zd, .ref y1, .ref y2, .ref y3, .ref y4, .ref mZ])), (mY, .inl (cI, 2600, .inl eY)), (mB, .inl (cS, 131072, .inl eB)), (mL, .inl (cI, 512, .inl eL)), (mE, .inl (cI, 2600, .inl eE)), (mW, .inl (cI, 300, .inl eW)), (mO, .inl (cI, 300, .inl eO)), (mS, .inl (cI, 21, .inl eS)), (mX, .inl (cI, 6300, .inl eX))] sz) [(oM, .inr (12, [.ref mT, .int zt, .ref mS, .ref mX, .int zp', .int zf', .ref mL, .ref mB, .ref mD, .ref m1, .ref m2, .int zh, .ref mR, .int zr, .ref x1, .ref x2, .ref x3, .int zc, .ref mH, .int zy, .int za, .int zb, .int zs', .int zq, .int zw', .int ze', .ref mY, .int zn', .ref mE, .int zm', .int zl', .ref mW, .int zk', .ref mO, .int zd', .ref y1, .ref y2, .ref y3, .ref y4, .ref mZ])), (mY, .inl (cI, 2600, .inl eY')), (mB, .inl (cS, 131072, .inl eB)), (mL, .inl (cI, 512, .inl eL)), (mE, .inl (cI, 2600, .inl eE')), (mW, .inl (cI, 300, .inl eW')), (mO, .inl (cI, 300, .inl eO')), (mS, .inl (cI, 21, .inl eS')), (mX, .inl (cI, 6300, .inl eX'))] ∧ (0 ≤ zk'.toInt ∧ zk'.toInt ≤ 300) ∧ (rg 0 65535 eW') ∧ (rg 0 65535 eO') ∧ (0 ≤ zn'.toInt ∧ zn'.toInt ≤ 2600) ∧ (rg 0 255 eY') ∧ (0 ≤ zm'.toInt ∧ zm'.toInt ≤ 2600) ∧ (rg 0 65535 eE') ∧ (0 ≤ zp'.toInt ∧ zp'.toInt ≤ 20) ∧ (0 ≤ zf'.toInt ∧ zf'.toInt ≤ 19) ∧ (0 ≤ zs'.toInt ∧ zs'.toInt ≤ 2000000) ∧ (rg 0 300 eS') ∧ (rg 0 65535 eX') ∧ (zs'.toInt ≤ zs.toInt + 1 ∧ zs.toInt ≤ zs'.toInt) ∧ (F_st zs zs' eX eX' eS eS') ∧ (OR (-1) r zs zs' zp zp' zf zf' eS eS' eX eX' (hmP b a (fun k => eL k) (fun k => eL (256 + k)) (Br b eB) (eS 0).toInt eX))) (va_A [(oM, .inr (12, [.ref mT, .int zt, .ref mS, .ref mX, .int zp, .int zf, .ref mL, .ref mB, .ref mD, .ref m1, .ref m2, .int zh, .ref mR, .int zr, .ref x1, .ref x2, .ref x3, .int zc, .ref mH, .int zy, .int za, .int zb, .int zs, .int zq, .int zw, .int ze, .ref mY, .int zn, .ref mE, .int zm, .int zl, .ref mW, .int zk, .ref mO, .int zd, .ref y1, .ref y2, .ref y3, .ref y4, .ref mZ])), (mY, .inl (cI, 2600, .inl eY)), (mB, .inl (cS, 131072, .inl eB)), (mL, .inl (cI, 512, .inl eL)), (mE, .inl (cI, 2600, .inl eE)), (mW, .inl (cI, 300, .inl eW)), (mO, .inl (cI, 300, .inl eO)), (mS, .inl (cI, 21, .inl eS)), (mX, .inl (cI, 6300, .inl eX))] sz)) 0 0 (va_A [(oM, .inr (12, [.ref mT, .int zt, .ref mS, .ref mX, .int zp, .int zf, .ref mL, .ref mB, .ref mD, .ref m1, .ref m2, .int zh, .ref mR, .int zr, .ref x1, .ref x2, .ref x3, .int zc, .ref mH, .int zy, .int za, .int zb, .int zs, .int zq, .int zw, .int ze, .ref mY, .int zn, .ref mE, .int zm, .int zl, .ref mW, .int zk, .ref mO, .int zd, .ref y1, .ref y2, .ref y3, .ref y4, .ref mZ])), (mY, .inl (cI, 2600, .inl eY)), (mB, .inl (cS, 131072, .inl eB)), (mL, .inl (cI, 512, .inl eL)), (mE, .inl (cI, 2600, .inl eE)), (mW, .inl (cI, 300, .inl eW)), (mO, .inl (cI, 300, .inl eO)), (mS, .inl (cI, 21, .inl eS)), (mX, .inl (cI, 6300, .inl eX))] sz) := by
  refine Met.ofW (cc := cX12_undo) (maxL := 3) (ret := (some .int)) (by decide) rfl ?_
  intro p e s m args below meth c s₁ B hml hv
  obtain ⟨rfl, hsz, hP, hK, hD0⟩ := hv
  have hx := B.exec
  have hb := B.bytes
  have hr := B.returns
  have hts := atoms_spec (ws := wsX12_undo) B.pre
  have hown : s.vm.findClass RX12 = some m.cls := findClass_of_methodNamed B.named
  have hlocks := B.notSynchronized
  have in_X12 : ∀ w ∈ wsX120, w ∈ wsX12_undo := fun _ h => List.mem_cons_of_mem _ (List.mem_append_right _ (h))
  subst hsz
  have hD := hD0.self (sz := s.heap.size)
  generalize hAe : va_A [(oM, .inr (12, [.ref mT, .int zt, .ref mS, .ref mX, .int zp, .int zf, .ref mL, .ref mB, .ref mD, .ref m1, .ref m2, .int zh, .ref mR, .int zr, .ref x1, .ref x2, .ref x3, .int zc, .ref mH, .int zy, .int za, .int zb, .int zs, .int zq, .int zw, .int ze, .ref mY, .int zn, .ref mE, .int zm, .int zl, .ref mW, .int zk, .ref mO, .int zd, .ref y1, .ref y2, .ref y3, .ref y4, .ref mZ])), (mY, .inl (cI, 2600, .inl eY)), (mB, .inl (cS, 131072, .inl eB)), (mL, .inl (cI, 512, .inl eL)), (mE, .inl (cI, 2600, .inl eE)), (mW, .inl (cI, 300, .inl eW)), (mO, .inl (cI, 300, .inl eO)), (mS, .inl (cI, 21, .inl eS)), (mX, .inl (cI, 6300, .inl eX))] s.heap.size = A at hD ⊢
  have hA : ∀ q : Nat, s.heap.size ≤ q → A q := fun q h => by rw [← hAe]; exact Or.inr h
  have hS : va_S A s.heap s.heap [] := va_S.rf
  have hP : va_P (dC, dI) vwCl [(oM, .inr (12, [.ref mT, .int zt, .ref mS, .ref mX, .int zp, .int zf, .ref mL, .ref mB, .ref mD, .ref m1, .ref m2, .int zh, .ref mR, .int zr, .ref x1, .ref x2, .ref x3, .int zc, .ref mH, .int zy, .int za, .int zb, .int zs, .int zq, .int zw, .int ze, .ref mY, .int zn, .ref mE, .int zm, .int zl, .ref mW, .int zk, .ref mO, .int zd, .ref y1, .ref y2, .ref y3, .ref y4, .ref mZ])), (mY, .inl (cI, 2600, .inl eY)), (mB, .inl (cS, 131072, .inl eB)), (mL, .inl (cI, 512, .inl eL)), (mE, .inl (cI, 2600, .inl eE)), (mW, .inl (cI, 300, .inl eW)), (mO, .inl (cI, 300, .inl eO)), (mS, .inl (cI, 21, .inl eS)), (mX, .inl (cI, 6300, .inl eX))] s.heap := hP
  have hl := lv_entry ([.ref oM, .int a, .int b]) (n := 3) (Nat.le_of_ble_eq_true rfl)
  rw [lg_entry_eq]
  generalize (lg_sl ([.ref oM, .int a, .int b]) ++ List.replicate (3 - (lg_sl ([.ref oM, .int a, .int b])).length) Slot.unset).toArray = ls at hl ⊢
  have hl : lv_has ls 3 [(0, .ref oM), (1, .int a), (2, .int b)] := hl
  obtain ⟨QQ, hQQ⟩ : ∃ QQ : Array Value → State → Outcome → State → Prop, QQ = va_Qi (fun (r : Int32) (u : Int32) => r = u) (fun (r : Int32) t => ∃ (ze' : Int32) (zw' : Int32) (zk' : Int32) (eW' : Nat → Int32) (eO' : Nat → Int32) (zn' : Int32) (eY' : Nat → Int32) (zd' : Int32) (zm' : Int32) (zl' : Int32) (eE' : Nat → Int32) (zp' : Int32) (zf' : Int32) (zs' : Int32) (eS' : Nat → Int32) (eX' : Nat → Int32), va_P (dC, dI) vwCl [(oM, .inr (12, [.ref mT, .int zt, .ref mS, .ref mX, .int zp', .int zf', .ref mL, .ref mB, .ref mD, .ref m1, .ref m2, .int zh, .ref mR, .int zr, .ref x1, .ref x2, .ref x3, .int zc, .ref mH, .int zy, .int za, .int zb, .int zs', .int zq, .int zw', .int ze', .ref mY, .int zn', .ref mE, .int zm', .int zl', .ref mW, .int zk', .ref mO, .int zd', .ref y1, .ref y2, .ref y3, .ref y4, .ref mZ])), (mY, .inl (cI, 2600, .inl eY')), (mB, .inl (cS, 131072, .inl eB)), (mL, .inl (cI, 512, .inl eL)), (mE, .inl (cI, 2600, .inl eE')), (mW, .inl (cI, 300, .inl eW')), (mO, .inl (cI, 300, .inl eO')), (mS, .inl (cI, 21, .inl eS')), (mX, .inl (cI, 6300, .inl eX'))] t.heap ∧ va_D A [(oM, .inr (12, [.ref mT, .int zt, .ref mS, .ref mX, .int zp', .int zf', .ref mL, .ref mB, .ref mD, .ref m1, .ref m2, .int zh, .ref mR, .int zr, .ref x1, .ref x2, .ref x3, .int zc, .ref mH, .int zy, .int za, .int zb, .int zs', .int zq, .int zw', .int ze', .ref mY, .int zn', .ref mE, .int zm', .int zl', .ref mW, .int zk', .ref mO, .int zd', .ref y1, .ref y2, .ref y3, .ref y4, .ref mZ])), (mY, .inl (cI, 2600, .inl eY')), (mB, .inl (cS, 131072, .inl eB)), (mL, .inl (cI, 512, .inl eL)), (mE, .inl (cI, 2600, .inl eE')), (mW, .inl (cI, 300, .inl eW')), (mO, .inl (cI, 300, .inl eO')), (mS, .inl (cI, 21, .inl eS')), (mX, .inl (cI, 6300, .inl eX'))] ∧ (0 ≤ zk'.toInt ∧ zk'.toInt ≤ 300) ∧ (rg 0 65535 eW') ∧ (rg 0 65535 eO') ∧ (0 ≤ zn'.toInt ∧ zn'.toInt ≤ 2600) ∧ (rg 0 255 eY') ∧ (0 ≤ zm'.toInt ∧ zm'.toInt ≤ 2600) ∧ (rg 0 65535 eE') ∧ (0 ≤ zp'.toInt ∧ zp'.toInt ≤ 20) ∧ (0 ≤ zf'.toInt ∧ zf'.toInt ≤ 19) ∧ (0 ≤ zs'.toInt ∧ zs'.toInt ≤ 2000000) ∧ (rg 0 300 eS') ∧ (rg 0 65535 eX') ∧ (zs'.toInt ≤ zs.toInt + 1 ∧ zs.toInt ≤ zs'.toInt) ∧ (F_st zs zs' eX eX' eS eS') ∧ (OR (-1) r zs zs' zp zp' zf zf' eS eS' eX eX' (hmP b a (fun k => eL k) (fun k => eL (256 + k)) (Br b eB) (eS 0).toInt eX))) A := ⟨_, rfl⟩
  rw [← hQQ]
  refine lv_aload_n hx hb dX12_undo_0 rfl (lv_at hl 0 rfl) ?_
  refine lv_iconst (v := 0) hx hb dX12_undo_1 (by decide) ?_
  refine va_put (D := (dC, dI)) (ci := 12) (v := .int 0) (ty := .int) (C := RX12) (T := TX12) (N := 40) hx hb hts in_X12 tyX12 tyX12_ok nmX12 hown hK hP hD hS 0 rfl rfl 25 (by decide) (hts (.fieldLink RX12 85 "TextMenderModel" "thrown" "I") (List.mem_of_getElem? (i := 1) rfl)) (fun _ h9 => h9) rfl (by decide +kernel) rfl rfl (Nat.le_of_ble_eq_true rfl) dX12_undo_2 (fun H locs hPn hDn hSn => ?_)
  clear hP hD hS
  have hP : va_P (dC, dI) vwCl [(oM, .inr (12, [.ref mT, .int zt, .ref mS, .ref mX, .int zp, .int zf, .ref mL, .ref mB, .ref mD, .ref m1, .ref m2, .int zh, .ref mR, .int zr, .ref x1, .ref x2, .ref x3, .int zc, .ref mH, .int zy, .int za, .int zb, .int zs, .int zq, .int zw, .int 0, .ref mY, .int zn, .ref mE, .int zm, .int zl, .ref mW, .int zk, .ref mO, .int zd, .ref y1, .ref y2, .ref y3, .ref y4, .ref mZ])), (mY, .inl (cI, 2600, .inl eY)), (mB, .inl (cS, 131072, .inl eB)), (mL, .inl (cI, 512, .inl eL)), (mE, .inl (cI, 2600, .inl eE)), (mW, .inl (cI, 300, .inl eW)), (mO, .inl (cI, 300, .inl eO)), (mS, .inl (cI, 21, .inl eS)), (mX, .inl (cI, 6300, .inl eX))] H := hPn
  have hD : va_D A [(oM, .inr (12, [.ref mT, .int zt, .ref mS, .ref mX, .int zp, .int zf, .ref mL, .ref mB, .ref mD, .ref m1, .ref m2, .int zh, .ref mR, .int zr, .ref x1, .ref x2, .ref x3, .int zc, .ref mH, .int zy, .int za, .int zb, .int zs, .int zq, .int zw, .int 0, .ref mY, .int zn, .ref mE, .int zm, .int zl, .ref mW, .int zk, .ref mO, .int zd, .ref y1, .ref y2, .ref y3, .ref y4, .ref mZ])), (mY, .inl (cI, 2600, .inl eY)), (mB, .inl (cS, 131072, .inl eB)), (mL, .inl (cI, 512, .inl eL)), (mE, .inl (cI, 2600, .inl eE)), (mW, .inl (cI, 300, .inl eW)), (mO, .inl (cI, 300, .inl eO)), (mS, .inl (cI, 21, .inl eS)), (mX, .inl (cI, 6300, .inl eX))] := hDn
  have hS := hSn
  clear hPn hDn hSn
  refine lv_aload_n hx hb dX12_undo_5 rfl (lv_at hl 0 rfl) ?_
  refine lv_iconst (v := (-1)) hx hb dX12_undo_6 (by decide) ?_
  refine va_put (D := (dC, dI)) (ci := 12) (v := .int (-1)) (ty := .int) (C := RX12) (T := TX12) (N := 40) hx hb hts in_X12 tyX12 tyX12_ok nmX12 hown hK hP hD hS 0 rfl rfl 24 (by decide) (hts (.fieldLink RX12 55 "TextMenderModel" "where" "I") (List.mem_of_getElem? (i := 2) rfl)) (fun _ h9 => h9) rfl (by decide +kernel) rfl rfl (Nat.le_of_ble_eq_true rfl) dX12_undo_7 (fun H locs hPn hDn hSn => ?_)
  clear hP hD hS
  have hP : va_P (dC, dI) vwCl [(oM, .inr (12, [.ref mT, .int zt, .ref mS, .ref mX, .int zp, .int zf, .ref mL, .ref mB, .ref mD, .ref m1, .ref m2, .int zh, .ref mR, .int zr, .ref x1, .ref x2, .ref x3, .int zc, .ref mH, .int zy, .int za, .int zb, .int zs, .int zq, .int (-1), .int 0, .ref mY, .int zn, .ref mE, .int zm, .int zl, .ref mW, .int zk, .ref mO, .int zd, .ref y1, .ref y2, .ref y3, .ref y4, .ref mZ])), (mY, .inl (cI, 2600, .inl eY)), (mB, .inl (cS, 131072, .inl eB)), (mL, .inl (cI, 512, .inl eL)), (mE, .inl (cI, 2600, .inl eE)), (mW, .inl (cI, 300, .inl eW)), (mO, .inl (cI, 300, .inl eO)), (mS, .inl (cI, 21, .inl eS)), (mX, .inl (cI, 6300, .inl eX))] H := hPn
  have hD : va_D A [(oM, .inr (12, [.ref mT, .int zt, .ref mS, .ref mX, .int zp, .int zf, .ref mL, .ref mB, .ref mD, .ref m1, .ref m2, .int zh, .ref mR, .int zr, .ref x1, .ref x2, .ref x3, .int zc, .ref mH, .int zy, .int za, .int zb, .int zs, .int zq, .int (-1), .int 0, .ref mY, .int zn, .ref mE, .int zm, .int zl, .ref mW, .int zk, .ref mO, .int zd, .ref y1, .ref y2, .ref y3, .ref y4, .ref mZ])), (mY, .inl (cI, 2600, .inl eY)), (mB, .inl (cS, 131072, .inl eB)), (mL, .inl (cI, 512, .inl eL)), (mE, .inl (cI, 2600, .inl eE)), (mW, .inl (cI, 300, .inl eW)), (mO, .inl (cI, 300, .inl eO)), (mS, .inl (cI, 21, .inl eS)), (mX, .inl (cI, 6300, .inl eX))] := hDn
  have hS := hSn
  clear hPn hDn hSn
  refine lv_iload_n hx hb dX12_undo_10 rfl (lv_at hl 1 rfl) ?_
  have hPc := hP.sub (ws' := []) [] rfl
  have hDc := hD.sub (ws' := []) [] (by decide +kernel) rfl
  have hFc := va_free (wc := []) hD hS hA [] rfl
  refine va_calli (va_runS (As := [.int a]) (rest := []) ⟨hx, hb, hml, hown, hts⟩ (m_X12_isCode l dC dI cI cS H.size a ) (va_cwS 1 hts gX12_undo_X12_isCode rfl rfl rfl (by decide +kernel) ⟨Nat.le_of_ble_eq_true rfl, Nat.le_of_ble_eq_true rfl⟩) ⟨fun a U g mk q => by obtain ⟨q0, q1, qP, qK, qD⟩ := q; exact ⟨q0, q1, qP, va_K.moved (u := U) (U := U.calling g mk a) (Vm.Alike.refl U.vm) qK, qD⟩, fun U hU hW => ⟨rfl, by rw [hU], by rw [hU]; exact hPc, va_K.moved hW.alike hK, hDc.weaken (fun _ _ _ _ => trivial)⟩⟩ rfl rfl hl.1 rfl (lv_room (Nat.le_of_ble_eq_true rfl)) dX12_undo_11 ⟨Nat.le_of_ble_eq_true rfl, Nat.le_of_ble_eq_true rfl⟩) hS (fun q _ h => hFc q h) hFc (fun r_1 u t H1 locs ht hvm hw hB hz1 hk1 hSn => ?_)
  subst hw
  obtain ⟨hP1, hD1, hf1_0, hf1_1⟩ := hB
  rw [ht] at hP1
  obtain ⟨hPn, hDn⟩ := va_join (wr := [(oM, .inr (12, [.ref mT, .int zt, .ref mS, .ref mX, .int zp, .int zf, .ref mL, .ref mB, .ref mD, .ref m1, .ref m2, .int zh, .ref mR, .int zr, .ref x1, .ref x2, .ref x3, .int zc, .ref mH, .int zy, .int za, .int zb, .int zs, .int zq, .int (-1), .int 0, .ref mY, .int zn, .ref mE, .int zm, .int zl, .ref mW, .int zk, .ref mO, .int zd, .ref y1, .ref y2, .ref y3, .ref y4, .ref mZ])), (mY, .inl (cI, 2600, .inl eY)), (mB, .inl (cS, 131072, .inl eB)), (mL, .inl (cI, 512, .inl eL)), (mE, .inl (cI, 2600, .inl eE)), (mW, .inl (cI, 300, .inl eW)), (mO, .inl (cI, 300, .inl eO)), (mS, .inl (cI, 21, .inl eS)), (mX, .inl (cI, 6300, .inl eX))]) (w1 := []) hP hD [] [0, 1, 2, 3, 4, 5, 6, 7, 8] rfl rfl (by decide +kernel) (by decide +kernel) hk1 hFc hP1 hD1
  clear hP hD hS hPc hDc hFc hk1 hz1 hvm ht hP1 hD1
  generalize H1 = H at hPn hSn ⊢
  have hP : va_P (dC, dI) vwCl [(oM, .inr (12, [.ref mT, .int zt, .ref mS, .ref mX, .int zp, .int zf, .ref mL, .ref mB, .ref mD, .ref m1, .ref m2, .int zh, .ref mR, .int zr, .ref x1, .ref x2, .ref x3, .int zc, .ref mH, .int zy, .int za, .int zb, .int zs, .int zq, .int (-1), .int 0, .ref mY, .int zn, .ref mE, .int zm, .int zl, .ref mW, .int zk, .ref mO, .int zd, .ref y1, .ref y2, .ref y3, .ref y4, .ref mZ])), (mY, .inl (cI, 2600, .inl eY)), (mB, .inl (cS, 131072, .inl eB)), (mL, .inl (cI, 512, .inl eL)), (mE, .inl (cI, 2600, .inl eE)), (mW, .inl (cI, 300, .inl eW)), (mO, .inl (cI, 300, .inl eO)), (mS, .inl (cI, 21, .inl eS)), (mX, .inl (cI, 6300, .inl eX))] H := hPn
  have hD : va_D A [(oM, .inr (12, [.ref mT, .int zt, .ref mS, .ref mX, .int zp, .int zf, .ref mL, .ref mB, .ref mD, .ref m1, .ref m2, .int zh, .ref mR, .int zr, .ref x1, .ref x2, .ref x3, .int zc, .ref mH, .int zy, .int za, .int zb, .int zs, .int zq, .int (-1), .int 0, .ref mY, .int zn, .ref mE, .int zm, .int zl, .ref mW, .int zk, .ref mO, .int zd, .ref y1, .ref y2, .ref y3, .ref y4, .ref mZ])), (mY, .inl (cI, 2600, .inl eY)), (mB, .inl (cS, 131072, .inl eB)), (mL, .inl (cI, 512, .inl eL)), (mE, .inl (cI, 2600, .inl eE)), (mW, .inl (cI, 300, .inl eW)), (mO, .inl (cI, 300, .inl eO)), (mS, .inl (cI, 21, .inl eS)), (mX, .inl (cI, 6300, .inl eX))] := hDn
  have hS := hSn
  clear hPn hDn hSn
  refine lv_if_eq (tgt := 24) hx hb dX12_undo_14 (by decide) (fun c_2 => ?_) (fun c_2 => ?_)
  · have tc_2 : r_1.toInt = 0 := v_eq c_2
    refine lv_iconst (v := (-1)) hx hb dX12_undo_24 (by decide) ?_
    have hP9 := hP.sub (ws' := [(oM, .inr (12, [.ref mT, .int zt, .ref mS, .ref mX, .int zp, .int zf, .ref mL, .ref mB, .ref mD, .ref m1, .ref m2, .int zh, .ref mR, .int zr, .ref x1, .ref x2, .ref x3, .int zc, .ref mH, .int zy, .int za, .int zb, .int zs, .int zq, .int (-1), .int 0, .ref mY, .int zn, .ref mE, .int zm, .int zl, .ref mW, .int zk, .ref mO, .int zd, .ref y1, .ref y2, .ref y3, .ref y4, .ref mZ])), (mY, .inl (cI, 2600, .inl eY)), (mB, .inl (cS, 131072, .inl eB)), (mL, .inl (cI, 512, .inl eL)), (mE, .inl (cI, 2600, .inl eE)), (mW, .inl (cI, 300, .inl eW)), (mO, .inl (cI, 300, .inl eO)), (mS, .inl (cI, 21, .inl eS)), (mX, .inl (cI, 6300, .inl eX))]) [0, 1, 2, 3, 4, 5, 6, 7, 8] rfl
    have hD9 := hD.sub (ws' := [(oM, .inr (12, [.ref mT, .int zt, .ref mS, .ref mX, .int zp, .int zf, .ref mL, .ref mB, .ref mD, .ref m1, .ref m2, .int zh, .ref mR, .int zr, .ref x1, .ref x2, .ref x3, .int zc, .ref mH, .int zy, .int za, .int zb, .int zs, .int zq, .int (-1), .int 0, .ref mY, .int zn, .ref mE, .int zm, .int zl, .ref mW, .int zk, .ref mO, .int zd, .ref y1, .ref y2, .ref y3, .ref y4, .ref mZ])), (mY, .inl (cI, 2600, .inl eY)), (mB, .inl (cS, 131072, .inl eB)), (mL, .inl (cI, 512, .inl eL)), (mE, .inl (cI, 2600, .inl eE)), (mW, .inl (cI, 300, .inl eW)), (mO, .inl (cI, 300, .inl eO)), (mS, .inl (cI, 21, .inl eS)), (mX, .inl (cI, 6300, .inl eX))]) [0, 1, 2, 3, 4, 5, 6, 7, 8] (by decide +kernel) rfl
    rw [hQQ]
    exact W.iret (v := (-1)) hx hb hr (fun t ht hW => ⟨⟨(-1), (-1), rfl, rfl, ⟨0, (-1), zk, eW, eO, zn, eY, zd, zm, zl, eE, zp, zf, zs, eS, eX, by rw [ht]; exact hP9, hD9, g_zk, g_eW, g_eO, g_zn, g_eY, g_zm, g_eE, g_zp, g_zf, g_zs, g_eS, g_eX, by show zs.toInt ≤ zs.toInt + 1 ∧ zs.toInt ≤ zs.toInt; omega, by first | exact Or.inl (by omega) | exact Or.inr ⟨rfl, rfl, rfl⟩, OR_n rfl (fun c fm v h => by have h1 := h.1; have h2 := h.2.1; unfold okd at h1 h2; omega)⟩⟩, hS.F ht⟩) hS.2.2 dX12_undo_25
  · have tc_2 : ¬ r_1.toInt = 0 := v_ne c_2
    refine lv_iload_n hx hb dX12_undo_17 rfl (lv_at hl 2 rfl) ?_
    have hPc := hP.sub (ws' := []) [] rfl
    have hDc := hD.sub (ws' := []) [] (by decide +kernel) rfl
    have hFc := va_free (wc := []) hD hS hA [] rfl
    refine va_calli (va_runS (As := [.int b]) (rest := []) ⟨hx, hb, hml, hown, hts⟩ (m_X12_isCode l dC dI cI cS H.size b ) (va_cwS 1 hts gX12_undo_X12_isCode rfl rfl rfl (by decide +kernel) ⟨Nat.le_of_ble_eq_true rfl, Nat.le_of_ble_eq_true rfl⟩) ⟨fun a U g mk q => by obtain ⟨q0, q1, qP, qK, qD⟩ := q; exact ⟨q0, q1, qP, va_K.moved (u := U) (U := U.calling g mk a) (Vm.Alike.refl U.vm) qK, qD⟩, fun U hU hW => ⟨rfl, by rw [hU], by rw [hU]; exact hPc, va_K.moved hW.alike hK, hDc.weaken (fun _ _ _ _ => trivial)⟩⟩ rfl rfl hl.1 rfl (lv_room (Nat.le_of_ble_eq_true rfl)) dX12_undo_18 ⟨Nat.le_of_ble_eq_true rfl, Nat.le_of_ble_eq_true rfl⟩) hS (fun q _ h => hFc q h) hFc (fun r_3 u t H1 locs ht hvm hw hB hz1 hk1 hSn => ?_)
    subst hw
    obtain ⟨hP1, hD1, hf3_0, hf3_1⟩ := hB
    rw [ht] at hP1
    obtain ⟨hPn, hDn⟩ := va_join (wr := [(oM, .inr (12, [.ref mT, .int zt, .ref mS, .ref mX, .int zp, .int zf, .ref mL, .ref mB, .ref mD, .ref m1, .ref m2, .int zh, .ref mR, .int zr, .ref x1, .ref x2, .ref x3, .int zc, .ref mH, .int zy, .int za, .int zb, .int zs, .int zq, .int (-1), .int 0, .ref mY, .int zn, .ref mE, .int zm, .int zl, .ref mW, .int zk, .ref mO, .int zd, .ref y1, .ref y2, .ref y3, .ref y4, .ref mZ])), (mY, .inl (cI, 2600, .inl eY)), (mB, .inl (cS, 131072, .inl eB)), (mL, .inl (cI, 512, .inl eL)), (mE, .inl (cI, 2600, .inl eE)), (mW, .inl (cI, 300, .inl eW)), (mO, .inl (cI, 300, .inl eO)), (mS, .inl (cI, 21, .inl eS)), (mX, .inl (cI, 6300, .inl eX))]) (w1 := []) hP hD [] [0, 1, 2, 3, 4, 5, 6, 7, 8] rfl rfl (by decide +kernel) (by decide +kernel) hk1 hFc hP1 hD1
    clear hP hD hS hPc hDc hFc hk1 hz1 hvm ht hP1 hD1
    generalize H1 = H at hPn hSn ⊢
    have hP : va_P (dC, dI) vwCl [(oM, .inr (12, [.ref mT, .int zt, .ref mS, .ref mX, .int zp, .int zf, .ref mL, .ref mB, .ref mD, .ref m1, .ref m2, .int zh, .ref mR, .int zr, .ref x1, .ref x2, .ref x3, .int zc, .ref mH, .int zy, .int za, .int zb, .int zs, .int zq, .int (-1), .int 0, .ref mY, .int zn, .ref mE, .int zm, .int zl, .ref mW, .int zk, .ref mO, .int zd, .ref y1, .ref y2, .ref y3, .ref y4, .ref mZ])), (mY, .inl (cI, 2600, .inl eY)), (mB, .inl (cS, 131072, .inl eB)), (mL, .inl (cI, 512, .inl eL)), (mE, .inl (cI, 2600, .inl eE)), (mW, .inl (cI, 300, .inl eW)), (mO, .inl (cI, 300, .inl eO)), (mS, .inl (cI, 21, .inl eS)), (mX, .inl (cI, 6300, .inl eX))] H := hPn
    have hD : va_D A [(oM, .inr (12, [.ref mT, .int zt, .ref mS, .ref mX, .int zp, .int zf, .ref mL, .ref mB, .ref mD, .ref m1, .ref m2, .int zh, .ref mR, .int zr, .ref x1, .ref x2, .ref x3, .int zc, .ref mH, .int zy, .int za, .int zb, .int zs, .int zq, .int (-1), .int 0, .ref mY, .int zn, .ref mE, .int zm, .int zl, .ref mW, .int zk, .ref mO, .int zd, .ref y1, .ref y2, .ref y3, .ref y4, .ref mZ])), (mY, .inl (cI, 2600, .inl eY)), (mB, .inl (cS, 131072, .inl eB)), (mL, .inl (cI, 512, .inl eL)), (mE, .inl (cI, 2600, .inl eE)), (mW, .inl (cI, 300, .inl eW)), (mO, .inl (cI, 300, .inl eO)), (mS, .inl (cI, 21, .inl eS)), (mX, .inl (cI, 6300, .inl eX))] := hDn
    have hS := hSn
    clear hPn hDn hSn
    refine lv_if_ne (tgt := 26) hx hb dX12_undo_21 (by decide) (fun c_4 => ?_) (fun c_4 => ?_)
    · have tc_4 : ¬ r_3.toInt = 0 := v_ne c_4
      refine lv_aload_n hx hb dX12_undo_26 rfl (lv_at hl 0 rfl) ?_
      have hPc := hP.sub (ws' := [(oM, .inr (12, [.ref mT, .int zt, .ref mS, .ref mX, .int zp, .int zf, .ref mL, .ref mB, .ref mD, .ref m1, .ref m2, .int zh, .ref mR, .int zr, .ref x1, .ref x2, .ref x3, .int zc, .ref mH, .int zy, .int za, .int zb, .int zs, .int zq, .int (-1), .int 0, .ref mY, .int zn, .ref mE, .int zm, .int zl, .ref mW, .int zk, .ref mO, .int zd, .ref y1, .ref y2, .ref y3, .ref y4, .ref mZ])), (mS, .inl (cI, 21, .inl eS)), (mX, .inl (cI, 6300, .inl eX)), (mW, .inl (cI, 300, .inl eW))]) [0, 7, 8, 5] rfl
      have hDc := hD.sub (ws' := [(oM, .inr (12, [.ref mT, .int zt, .ref mS, .ref mX, .int zp, .int zf, .ref mL, .ref mB, .ref mD, .ref m1, .ref m2, .int zh, .ref mR, .int zr, .ref x1, .ref x2, .ref x3, .int zc, .ref mH, .int zy, .int za, .int zb, .int zs, .int zq, .int (-1), .int 0, .ref mY, .int zn, .ref mE, .int zm, .int zl, .ref mW, .int zk, .ref mO, .int zd, .ref y1, .ref y2, .ref y3, .ref y4, .ref mZ])), (mS, .inl (cI, 21, .inl eS)), (mX, .inl (cI, 6300, .inl eX)), (mW, .inl (cI, 300, .inl eW))]) [0, 7, 8, 5] (by decide +kernel) rfl
      have hFc := va_free (wc := [(oM, .inr (12, [.ref mT, .int zt, .ref mS, .ref mX, .int zp, .int zf, .ref mL, .ref mB, .ref mD, .ref m1, .ref m2, .int zh, .ref mR, .int zr, .ref x1, .ref x2, .ref x3, .int zc, .ref mH, .int zy, .int za, .int zb, .int zs, .int zq, .int (-1), .int 0, .ref mY, .int zn, .ref mE, .int zm, .int zl, .ref mW, .int zk, .ref mO, .int zd, .ref y1, .ref y2, .ref y3, .ref y4, .ref mZ])), (mS, .inl (cI, 21, .inl eS)), (mX, .inl (cI, 6300, .inl eX)), (mW, .inl (cI, 300, .inl eW))]) hD hS hA [0, 7, 8, 5] rfl
      refine va_callv (va_runV (As := []) (rest := []) ⟨hx, hb, hml, hown, hts⟩ (f_X12_takeText l dC dI cI cS H.size oM mT mS mX mL mB mD m1 m2 mR x1 x2 x3 mH mY mE mW mO y1 y2 y3 y4 mZ zt zp zf zh zr zc zy za zb zs zq (-1) 0 zn zm zl zk zd eS eX eW (g_zt) (g_zp) (g_zf) (g_zh) (g_zr) (g_zc) (g_zy) (g_za) (g_zb) (g_zs) (g_zq) (g_zn) (g_zm) (g_zk) (g_eS) (g_eX) (g_eW)) (cwV 0 hts gX12_undo_X12_takeText rfl rfl rfl (by decide +kernel) ⟨Nat.le_of_ble_eq_true rfl, Nat.le_of_ble_eq_true rfl⟩) ⟨fun a U g mk q => by obtain ⟨q0, q1, qP, qK, qD⟩ := q; exact ⟨q0, q1, qP, va_K.moved (u := U) (U := U.calling g mk a) (Vm.Alike.refl U.vm) qK, qD⟩, va_recv hK hPc (ci := 12) (q0 := 0) rfl rfl, fun U hU hW => ⟨rfl, by rw [hU], by rw [hU]; exact hPc, va_K.moved hW.alike hK, hDc.weaken (fun _ _ _ _ => trivial)⟩⟩ rfl rfl hl.1 rfl (lv_room (Nat.le_of_ble_eq_true rfl)) dX12_undo_27 ⟨Nat.le_of_ble_eq_true rfl, Nat.le_of_ble_eq_true rfl⟩) hS (fun q _ h => hFc q h) hFc (fun u t H1 locs ht hvm hw hB hz1 hk1 hSn => ?_)
      obtain ⟨zk_5, eW_5, hP1, hD1, hf5_0, hf5_1, hf5_2⟩ := hB
      rw [ht] at hP1
      obtain ⟨hPn, hDn⟩ := va_join (wr := [(mY, .inl (cI, 2600, .inl eY)), (mB, .inl (cS, 131072, .inl eB)), (mL, .inl (cI, 512, .inl eL)), (mE, .inl (cI, 2600, .inl eE)), (mO, .inl (cI, 300, .inl eO))]) (w1 := [(oM, .inr (12, [.ref mT, .int zt, .ref mS, .ref mX, .int zp, .int zf, .ref mL, .ref mB, .ref mD, .ref m1, .ref m2, .int zh, .ref mR, .int zr, .ref x1, .ref x2, .ref x3, .int zc, .ref mH, .int zy, .int za, .int zb, .int zs, .int zq, .int (-1), .int 0, .ref mY, .int zn, .ref mE, .int zm, .int zl, .ref mW, .int zk_5, .ref mO, .int zd, .ref y1, .ref y2, .ref y3, .ref y4, .ref mZ])), (mS, .inl (cI, 21, .inl eS)), (mX, .inl (cI, 6300, .inl eX)), (mW, .inl (cI, 300, .inl eW_5))]) hP hD [0, 7, 8, 5] [1, 2, 3, 4, 6] rfl rfl (by decide +kernel) (by decide +kernel) hk1 hFc hP1 hD1
      clear hP hD hS hPc hDc hFc hk1 hz1 hvm ht hP1 hD1
      generalize H1 = H at hPn hSn ⊢
      have hP : va_P (dC, dI) vwCl [(mY, .inl (cI, 2600, .inl eY)), (mB, .inl (cS, 131072, .inl eB)), (mL, .inl (cI, 512, .inl eL)), (mE, .inl (cI, 2600, .inl eE)), (mO, .inl (cI, 300, .inl eO)), (oM, .inr (12, [.ref mT, .int zt, .ref mS, .ref mX, .int zp, .int zf, .ref mL, .ref mB, .ref mD, .ref m1, .ref m2, .int zh, .ref mR, .int zr, .ref x1, .ref x2, .ref x3, .int zc, .ref mH, .int zy, .int za, .int zb, .int zs, .int zq, .int (-1), .int 0, .ref mY, .int zn, .ref mE, .int zm, .int zl, .ref mW, .int zk_5, .ref mO, .int zd, .ref y1, .ref y2, .ref y3, .ref y4, .ref mZ])), (mS, .inl (cI, 21, .inl eS)), (mX, .inl (cI, 6300, .inl eX)), (mW, .inl (cI, 300, .inl eW_5))] H := hPn
      have hD : va_D A [(mY, .inl (cI, 2600, .inl eY)), (mB, .inl (cS, 131072, .inl eB)), (mL, .inl (cI, 512, .inl eL)), (mE, .inl (cI, 2600, .inl eE)), (mO, .inl (cI, 300, .inl eO)), (oM, .inr (12, [.ref mT, .int zt, .ref mS, .ref mX, .int zp, .int zf, .ref mL, .ref mB, .ref mD, .ref m1, .ref m2, .int zh, .ref mR, .int zr, .ref x1, .ref x2, .ref x3, .int zc, .ref mH, .int zy, .int za, .int zb, .int zs, .int zq, .int (-1), .int 0, .ref mY, .int zn, .ref mE, .int zm, .int zl, .ref mW, .int zk_5, .ref mO, .int zd, .ref y1, .ref y2, .ref y3, .ref y4, .ref mZ])), (mS, .inl (cI, 21, .inl eS)), (mX, .inl (cI, 6300, .inl eX)), (mW, .inl (cI, 300, .inl eW_5))] := hDn
      have hS := hSn
      clear hPn hDn hSn
      refine lv_aload_n hx hb dX12_undo_30 rfl (lv_at hl 0 rfl) ?_
      refine lv_iload_n hx hb dX12_undo_31 rfl (lv_at hl 1 rfl) ?_
      refine lv_iload_n hx hb dX12_undo_32 rfl (lv_at hl 2 rfl) ?_
      have hPc := hP.sub (ws' := [(oM, .inr (12, [.ref mT, .int zt, .ref mS, .ref mX, .int zp, .int zf, .ref mL, .ref mB, .ref mD, .ref m1, .ref m2, .int zh, .ref mR, .int zr, .ref x1, .ref x2, .ref x3, .int zc, .ref mH, .int zy, .int za, .int zb, .int zs, .int zq, .int (-1), .int 0, .ref mY, .int zn, .ref mE, .int zm, .int zl, .ref mW, .int zk_5, .ref mO, .int zd, .ref y1, .ref y2, .ref y3, .ref y4, .ref mZ])), (mY, .inl (cI, 2600, .inl eY)), (mB, .inl (cS, 131072, .inl eB)), (mL, .inl (cI, 512, .inl eL)), (mE, .inl (cI, 2600, .inl eE)), (mW, .inl (cI, 300, .inl eW_5)), (mO, .inl (cI, 300, .inl eO))]) [5, 0, 1, 2, 3, 8, 4] rfl
      have hDc := hD.sub (ws' := [(oM, .inr (12, [.ref mT, .int zt, .ref mS, .ref mX, .int zp, .int zf, .ref mL, .ref mB, .ref mD, .ref m1, .ref m2, .int zh, .ref mR, .int zr, .ref x1, .ref x2, .ref x3, .int zc, .ref mH, .int zy, .int za, .int zb, .int zs, .int zq, .int (-1), .int 0, .ref mY, .int zn, .ref mE, .int zm, .int zl, .ref mW, .int zk_5, .ref mO, .int zd, .ref y1, .ref y2, .ref y3, .ref y4, .ref mZ])), (mY, .inl (cI, 2600, .inl eY)), (mB, .inl (cS, 131072, .inl eB)), (mL, .inl (cI, 512, .inl eL)), (mE, .inl (cI, 2600, .inl eE)), (mW, .inl (cI, 300, .inl eW_5)), (mO, .inl (cI, 300, .inl eO))]) [5, 0, 1, 2, 3, 8, 4] (by decide +kernel) rfl
      have hFc := va_free (wc := [(oM, .inr (12, [.ref mT, .int zt, .ref mS, .ref mX, .int zp, .int zf, .ref mL, .ref mB, .ref mD, .ref m1, .ref m2, .int zh, .ref mR, .int zr, .ref x1, .ref x2, .ref x3, .int zc, .ref mH, .int zy, .int za, .int zb, .int zs, .int zq, .int (-1), .int 0, .ref mY, .int zn, .ref mE, .int zm, .int zl, .ref mW, .int zk_5, .ref mO, .int zd, .ref y1, .ref y2, .ref y3, .ref y4, .ref mZ])), (mY, .inl (cI, 2600, .inl eY)), (mB, .inl (cS, 131072, .inl eB)), (mL, .inl (cI, 512, .inl eL)), (mE, .inl (cI, 2600, .inl eE)), (mW, .inl (cI, 300, .inl eW_5)), (mO, .inl (cI, 300, .inl eO))]) hD hS hA [5, 0, 1, 2, 3, 8, 4] rfl
      refine va_calli (va_runV (As := [.int a, .int b]) (rest := []) ⟨hx, hb, hml, hown, hts⟩ (f_X12_undoes l dC dI cI cS H.size oM mT mS mX mL mB mD m1 m2 mR x1 x2 x3 mH mY mE mW mO y1 y2 y3 y4 mZ zt zp zf zh zr zc zy za zb zs zq (-1) 0 zn zm zl zk_5 zd eY eB eL eE eW_5 eO a b (g_zt) (g_zp) (g_zf) (g_zh) (g_zr) (g_zc) (g_zy) (g_za) (g_zb) (g_zs) (g_zq) (g_zn) (g_zm) (hf5_0) (g_eY) (g_eB) (g_eL) (g_eE) (hf5_1) (g_eO) (by omega) (by omega) (fun j hj => by rw [hf5_2.2 j hj]; exact hxl j (by rw [← hf5_2.1]; exact hj)) (hlb)) (cwV 2 hts gX12_undo_X12_undoes rfl rfl rfl (by decide +kernel) ⟨Nat.le_of_ble_eq_true rfl, Nat.le_of_ble_eq_true rfl⟩) ⟨fun a U g mk q => by obtain ⟨q0, q1, qP, qK, qD⟩ := q; exact ⟨q0, q1, qP, va_K.moved (u := U) (U := U.calling g mk a) (Vm.Alike.refl U.vm) qK, qD⟩, va_recv hK hPc (ci := 12) (q0 := 0) rfl rfl, fun U hU hW => ⟨rfl, by rw [hU], by rw [hU]; exact hPc, va_K.moved hW.alike hK, hDc.weaken (fun _ _ _ _ => trivial)⟩⟩ rfl rfl hl.1 rfl (lv_room (Nat.le_of_ble_eq_true rfl)) dX12_undo_33 ⟨Nat.le_of_ble_eq_true rfl, Nat.le_of_ble_eq_true rfl⟩) hS (fun q _ h => hFc q h) hFc (fun r_6 u t H1 locs ht hvm hw hB hz1 hk1 hSn => ?_)
      subst hw
      obtain ⟨zn_6, eY_6, zd_6, zm_6, zl_6, eE_6, zk_6, eW_6, eO_6, hP1, hD1, hf6_0, hf6_1, hf6_2, hf6_3, hf6_4, hf6_5, hf6_6, hf6_7, hf6_8⟩ := hB
      rw [ht] at hP1
      obtain ⟨hPn, hDn⟩ := va_join (wr := [(mS, .inl (cI, 21, .inl eS)), (mX, .inl (cI, 6300, .inl eX))]) (w1 := [(oM, .inr (12, [.ref mT, .int zt, .ref mS, .ref mX, .int zp, .int zf, .ref mL, .ref mB, .ref mD, .ref m1, .ref m2, .int zh, .ref mR, .int zr, .ref x1, .ref x2, .ref x3, .int zc, .ref mH, .int zy, .int za, .int zb, .int zs, .int zq, .int (-1), .int 0, .ref mY, .int zn_6, .ref mE, .int zm_6, .int zl_6, .ref mW, .int zk_6, .ref mO, .int zd_6, .ref y1, .ref y2, .ref y3, .ref y4, .ref mZ])), (mY, .inl (cI, 2600, .inl eY_6)), (mB, .inl (cS, 131072, .inl eB)), (mL, .inl (cI, 512, .inl eL)), (mE, .inl (cI, 2600, .inl eE_6)), (mW, .inl (cI, 300, .inl eW_6)), (mO, .inl (cI, 300, .inl eO_6))]) hP hD [5, 0, 1, 2, 3, 8, 4] [6, 7] rfl rfl (by decide +kernel) (by decide +kernel) hk1 hFc hP1 hD1
      clear hP hD hS hPc hDc hFc hk1 hz1 hvm ht hP1 hD1
      generalize H1 = H at hPn hSn ⊢
      have hP : va_P (dC, dI) vwCl [(mS, .inl (cI, 21, .inl eS)), (mX, .inl (cI, 6300, .inl eX)), (oM, .inr (12, [.ref mT, .int zt, .ref mS, .ref mX, .int zp, .int zf, .ref mL, .ref mB, .ref mD, .ref m1, .ref m2, .int zh, .ref mR, .int zr, .ref x1, .ref x2, .ref x3, .int zc, .ref mH, .int zy, .int za, .int zb, .int zs, .int zq, .int (-1), .int 0, .ref mY, .int zn_6, .ref mE, .int zm_6, .int zl_6, .ref mW, .int zk_6, .ref mO, .int zd_6, .ref y1, .ref y2, .ref y3, .ref y4, .ref mZ])), (mY, .inl (cI, 2600, .inl eY_6)), (mB, .inl (cS, 131072, .inl eB)), (mL, .inl (cI, 512, .inl eL)), (mE, .inl (cI, 2600, .inl eE_6)), (mW, .inl (cI, 300, .inl eW_6)), (mO, .inl (cI, 300, .inl eO_6))] H := hPn
      have hD : va_D A [(mS, .inl (cI, 21, .inl eS)), (mX, .inl (cI, 6300, .inl eX)), (oM, .inr (12, [.ref mT, .int zt, .ref mS, .ref mX, .int zp, .int zf, .ref mL, .ref mB, .ref mD, .ref m1, .ref m2, .int zh, .ref mR, .int zr, .ref x1, .ref x2, .ref x3, .int zc, .ref mH, .int zy, .int za, .int zb, .int zs, .int zq, .int (-1), .int 0, .ref mY, .int zn_6, .ref mE, .int zm_6, .int zl_6, .ref mW, .int zk_6, .ref mO, .int zd_6, .ref y1, .ref y2, .ref y3, .ref y4, .ref mZ])), (mY, .inl (cI, 2600, .inl eY_6)), (mB, .inl (cS, 131072, .inl eB)), (mL, .inl (cI, 512, .inl eL)), (mE, .inl (cI, 2600, .inl eE_6)), (mW, .inl (cI, 300, .inl eW_6)), (mO, .inl (cI, 300, .inl eO_6))] := hDn
      have hS := hSn
      clear hPn hDn hSn
      refine lv_if_ne (tgt := 49) hx hb dX12_undo_36 (by decide) (fun c_7 => ?_) (fun c_7 => ?_)
      · have tc_7 : ¬ r_6.toInt = 0 := v_ne c_7
        refine lv_aload_n hx hb dX12_undo_49 rfl (lv_at hl 0 rfl) ?_
        refine lv_aload_n hx hb dX12_undo_50 rfl (lv_at hl 0 rfl) ?_
        refine va_get (D := (dC, dI)) (ci := 12) (v := .ref mW) (C := RX12) (T := TX12) (N := 40) hx hb hts in_X12 hown hK hP 2 rfl rfl 31 (by decide) (hts (.fieldLink RX12 64 "TextMenderModel" "work" "[I") (List.mem_of_getElem? (i := 4) rfl)) (fun _ h9 => h9) rfl dX12_undo_51 ?_
        refine lv_aload_n hx hb dX12_undo_54 rfl (lv_at hl 0 rfl) ?_
        refine va_get (D := (dC, dI)) (ci := 12) (v := .int zk_6) (C := RX12) (T := TX12) (N := 40) hx hb hts in_X12 hown hK hP 2 rfl rfl 32 (by decide) (hts (.fieldLink RX12 135 "TextMenderModel" "workMany" "I") (List.mem_of_getElem? (i := 5) rfl)) (fun _ h9 => h9) rfl dX12_undo_55 ?_
        have hPc := hP.sub (ws' := [(oM, .inr (12, [.ref mT, .int zt, .ref mS, .ref mX, .int zp, .int zf, .ref mL, .ref mB, .ref mD, .ref m1, .ref m2, .int zh, .ref mR, .int zr, .ref x1, .ref x2, .ref x3, .int zc, .ref mH, .int zy, .int za, .int zb, .int zs, .int zq, .int (-1), .int 0, .ref mY, .int zn_6, .ref mE, .int zm_6, .int zl_6, .ref mW, .int zk_6, .ref mO, .int zd_6, .ref y1, .ref y2, .ref y3, .ref y4, .ref mZ])), (mS, .inl (cI, 21, .inl eS)), (mX, .inl (cI, 6300, .inl eX)), (mW, .inl (cI, 300, .inl eW_6))]) [2, 0, 1, 7] rfl
        have hDc := hD.sub (ws' := [(oM, .inr (12, [.ref mT, .int zt, .ref mS, .ref mX, .int zp, .int zf, .ref mL, .ref mB, .ref mD, .ref m1, .ref m2, .int zh, .ref mR, .int zr, .ref x1, .ref x2, .ref x3, .int zc, .ref mH, .int zy, .int za, .int zb, .int zs, .int zq, .int (-1), .int 0, .ref mY, .int zn_6, .ref mE, .int zm_6, .int zl_6, .ref mW, .int zk_6, .ref mO, .int zd_6, .ref y1, .ref y2, .ref y3, .ref y4, .ref mZ])), (mS, .inl (cI, 21, .inl eS)), (mX, .inl (cI, 6300, .inl eX)), (mW, .inl (cI, 300, .inl eW_6))]) [2, 0, 1, 7] (by decide +kernel) rfl
        have hFc := va_free (wc := [(oM, .inr (12, [.ref mT, .int zt, .ref mS, .ref mX, .int zp, .int zf, .ref mL, .ref mB, .ref mD, .ref m1, .ref m2, .int zh, .ref mR, .int zr, .ref x1, .ref x2, .ref x3, .int zc, .ref mH, .int zy, .int za, .int zb, .int zs, .int zq, .int (-1), .int 0, .ref mY, .int zn_6, .ref mE, .int zm_6, .int zl_6, .ref mW, .int zk_6, .ref mO, .int zd_6, .ref y1, .ref y2, .ref y3, .ref y4, .ref mZ])), (mS, .inl (cI, 21, .inl eS)), (mX, .inl (cI, 6300, .inl eX)), (mW, .inl (cI, 300, .inl eW_6))]) hD hS hA [2, 0, 1, 7] rfl
        refine va_callv (va_runV (As := [.ref mW, .int zk_6]) (rest := []) ⟨hx, hb, hml, hown, hts⟩ (f_X12_bec l dC dI cI cS H.size oM mW mT mS mX mL mB mD m1 m2 mR x1 x2 x3 mH mY mE mW mO y1 y2 y3 y4 mZ 300 zt zp zf zh zr zc zy za zb zs zq (-1) 0 zn_6 zm_6 zl_6 zk_6 zd_6 eS eX eW_6 zk_6 (g_zt) (g_zp) (g_zf) (g_zh) (g_zr) (g_zc) (g_zy) (g_za) (g_zb) (g_zs) (g_zq) (hf6_0) (hf6_2) (hf6_4) (g_eS) (g_eX) (hf6_4) (by omega) (by omega) (prg_of hf6_5) (by omega)) (cwV 2 hts gX12_undo_X12_become rfl rfl rfl (by decide +kernel) ⟨Nat.le_of_ble_eq_true rfl, Nat.le_of_ble_eq_true rfl⟩) ⟨fun a U g mk q => by obtain ⟨q0, q1, qP, qK, qD⟩ := q; exact ⟨q0, q1, qP, va_K.moved (u := U) (U := U.calling g mk a) (Vm.Alike.refl U.vm) qK, qD⟩, va_recv hK hPc (ci := 12) (q0 := 0) rfl rfl, fun U hU hW => ⟨rfl, by rw [hU], by rw [hU]; exact hPc, va_K.moved hW.alike hK, hDc.weaken (fun _ _ _ _ => trivial)⟩⟩ rfl rfl hl.1 rfl (lv_room (Nat.le_of_ble_eq_true rfl)) dX12_undo_58 ⟨Nat.le_of_ble_eq_true rfl, Nat.le_of_ble_eq_true rfl⟩) hS (fun q _ h => hFc q h) hFc (fun u t H1 locs ht hvm hw hB hz1 hk1 hSn => ?_)
        obtain ⟨zp_8, zf_8, zs_8, eS_8, eX_8, hP1, hD1, hf8_0, hf8_1, hf8_2, hf8_3, hf8_4, hf8_5, hf8_6⟩ := hB
        rw [ht] at hP1
        obtain ⟨hPn, hDn⟩ := va_join (wr := [(mY, .inl (cI, 2600, .inl eY_6)), (mB, .inl (cS, 131072, .inl eB)), (mL, .inl (cI, 512, .inl eL)), (mE, .inl (cI, 2600, .inl eE_6)), (mO, .inl (cI, 300, .inl eO_6))]) (w1 := [(oM, .inr (12, [.ref mT, .int zt, .ref mS, .ref mX, .int zp_8, .int zf_8, .ref mL, .ref mB, .ref mD, .ref m1, .ref m2, .int zh, .ref mR, .int zr, .ref x1, .ref x2, .ref x3, .int zc, .ref mH, .int zy, .int za, .int zb, .int zs_8, .int zq, .int (-1), .int 0, .ref mY, .int zn_6, .ref mE, .int zm_6, .int zl_6, .ref mW, .int zk_6, .ref mO, .int zd_6, .ref y1, .ref y2, .ref y3, .ref y4, .ref mZ])), (mS, .inl (cI, 21, .inl eS_8)), (mX, .inl (cI, 6300, .inl eX_8)), (mW, .inl (cI, 300, .inl eW_6))]) hP hD [2, 0, 1, 7] [3, 4, 5, 6, 8] rfl rfl (by decide +kernel) (by decide +kernel) hk1 hFc hP1 hD1
        clear hP hD hS hPc hDc hFc hk1 hz1 hvm ht hP1 hD1
        generalize H1 = H at hPn hSn ⊢
        have hP : va_P (dC, dI) vwCl [(mY, .inl (cI, 2600, .inl eY_6)), (mB, .inl (cS, 131072, .inl eB)), (mL, .inl (cI, 512, .inl eL)), (mE, .inl (cI, 2600, .inl eE_6)), (mO, .inl (cI, 300, .inl eO_6)), (oM, .inr (12, [.ref mT, .int zt, .ref mS, .ref mX, .int zp_8, .int zf_8, .ref mL, .ref mB, .ref mD, .ref m1, .ref m2, .int zh, .ref mR, .int zr, .ref x1, .ref x2, .ref x3, .int zc, .ref mH, .int zy, .int za, .int zb, .int zs_8, .int zq, .int (-1), .int 0, .ref mY, .int zn_6, .ref mE, .int zm_6, .int zl_6, .ref mW, .int zk_6, .ref mO, .int zd_6, .ref y1, .ref y2, .ref y3, .ref y4, .ref mZ])), (mS, .inl (cI, 21, .inl eS_8)), (mX, .inl (cI, 6300, .inl eX_8)), (mW, .inl (cI, 300, .inl eW_6))] H := hPn
        have hD : va_D A [(mY, .inl (cI, 2600, .inl eY_6)), (mB, .inl (cS, 131072, .inl eB)), (mL, .inl (cI, 512, .inl eL)), (mE, .inl (cI, 2600, .inl eE_6)), (mO, .inl (cI, 300, .inl eO_6)), (oM, .inr (12, [.ref mT, .int zt, .ref mS, .ref mX, .int zp_8, .int zf_8, .ref mL, .ref mB, .ref mD, .ref m1, .ref m2, .int zh, .ref mR, .int zr, .ref x1, .ref x2, .ref x3, .int zc, .ref mH, .int zy, .int za, .int zb, .int zs_8, .int zq, .int (-1), .int 0, .ref mY, .int zn_6, .ref mE, .int zm_6, .int zl_6, .ref mW, .int zk_6, .ref mO, .int zd_6, .ref y1, .ref y2, .ref y3, .ref y4, .ref mZ])), (mS, .inl (cI, 21, .inl eS_8)), (mX, .inl (cI, 6300, .inl eX_8)), (mW, .inl (cI, 300, .inl eW_6))] := hDn
        have hS := hSn
        clear hPn hDn hSn
        refine lv_aload_n hx hb dX12_undo_61 rfl (lv_at hl 0 rfl) ?_
        refine va_get (D := (dC, dI)) (ci := 12) (v := .int zk_6) (C := RX12) (T := TX12) (N := 40) hx hb hts in_X12 hown hK hP 5 rfl rfl 32 (by decide) (hts (.fieldLink RX12 135 "TextMenderModel" "workMany" "I") (List.mem_of_getElem? (i := 5) rfl)) (fun _ h9 => h9) rfl dX12_undo_62 ?_
        have hP9 := hP.sub (ws' := [(oM, .inr (12, [.ref mT, .int zt, .ref mS, .ref mX, .int zp_8, .int zf_8, .ref mL, .ref mB, .ref mD, .ref m1, .ref m2, .int zh, .ref mR, .int zr, .ref x1, .ref x2, .ref x3, .int zc, .ref mH, .int zy, .int za, .int zb, .int zs_8, .int zq, .int (-1), .int 0, .ref mY, .int zn_6, .ref mE, .int zm_6, .int zl_6, .ref mW, .int zk_6, .ref mO, .int zd_6, .ref y1, .ref y2, .ref y3, .ref y4, .ref mZ])), (mY, .inl (cI, 2600, .inl eY_6)), (mB, .inl (cS, 131072, .inl eB)), (mL, .inl (cI, 512, .inl eL)), (mE, .inl (cI, 2600, .inl eE_6)), (mW, .inl (cI, 300, .inl eW_6)), (mO, .inl (cI, 300, .inl eO_6)), (mS, .inl (cI, 21, .inl eS_8)), (mX, .inl (cI, 6300, .inl eX_8))]) [5, 0, 1, 2, 3, 8, 4, 6, 7] rfl
        have hD9 := hD.sub (ws' := [(oM, .inr (12, [.ref mT, .int zt, .ref mS, .ref mX, .int zp_8, .int zf_8, .ref mL, .ref mB, .ref mD, .ref m1, .ref m2, .int zh, .ref mR, .int zr, .ref x1, .ref x2, .ref x3, .int zc, .ref mH, .int zy, .int za, .int zb, .int zs_8, .int zq, .int (-1), .int 0, .ref mY, .int zn_6, .ref mE, .int zm_6, .int zl_6, .ref mW, .int zk_6, .ref mO, .int zd_6, .ref y1, .ref y2, .ref y3, .ref y4, .ref mZ])), (mY, .inl (cI, 2600, .inl eY_6)), (mB, .inl (cS, 131072, .inl eB)), (mL, .inl (cI, 512, .inl eL)), (mE, .inl (cI, 2600, .inl eE_6)), (mW, .inl (cI, 300, .inl eW_6)), (mO, .inl (cI, 300, .inl eO_6)), (mS, .inl (cI, 21, .inl eS_8)), (mX, .inl (cI, 6300, .inl eX_8))]) [5, 0, 1, 2, 3, 8, 4, 6, 7] (by decide +kernel) rfl
        rw [hQQ]
        exact W.iret (v := zk_6) hx hb hr (fun t ht hW => ⟨⟨zk_6, zk_6, rfl, rfl, ⟨0, (-1), zk_6, eW_6, eO_6, zn_6, eY_6, zd_6, zm_6, zl_6, eE_6, zp_8, zf_8, zs_8, eS_8, eX_8, by rw [ht]; exact hP9, hD9, hf6_4, hf6_5, hf6_6, hf6_0, hf6_1, hf6_2, hf6_3, hf8_0, hf8_1, hf8_2, hf8_3, hf8_4, by show zs_8.toInt ≤ zs.toInt + 1 ∧ zs.toInt ≤ zs_8.toInt; omega, by first | exact Or.inl (by omega) | exact Or.inr ⟨rfl, rfl, rfl⟩, OR_y ((pz_1 (Or.inl ⟨by unfold okd; omega, by unfold okd; omega, ps_n (n' := (eS 0).toInt) (ps_g hf6_8 (fun j hj => hf5_2.2 j hj)) (by rw [hf5_2.1])⟩) (by omega)).imp (fun c hc => ⟨hc.1, hc.2 _ (by first | rfl | omega)⟩)) hf8_6 (by omega)⟩⟩, hS.F ht⟩) hS.2.2 dX12_undo_65
      · have tc_7 : r_6.toInt = 0 := v_eq c_7
        refine lv_aload_n hx hb dX12_undo_39 rfl (lv_at hl 0 rfl) ?_
        refine lv_aload_n hx hb dX12_undo_40 rfl (lv_at hl 0 rfl) ?_
        refine va_get (D := (dC, dI)) (ci := 12) (v := .int zl_6) (C := RX12) (T := TX12) (N := 40) hx hb hts in_X12 hown hK hP 2 rfl rfl 30 (by decide) (hts (.fieldLink RX12 102 "TextMenderModel" "faultAt" "I") (List.mem_of_getElem? (i := 3) rfl)) (fun _ h9 => h9) rfl dX12_undo_41 ?_
        refine va_put (D := (dC, dI)) (ci := 12) (v := .int zl_6) (ty := .int) (C := RX12) (T := TX12) (N := 40) hx hb hts in_X12 tyX12 tyX12_ok nmX12 hown hK hP hD hS 2 rfl rfl 24 (by decide) (hts (.fieldLink RX12 55 "TextMenderModel" "where" "I") (List.mem_of_getElem? (i := 2) rfl)) (fun _ h9 => h9) rfl (by decide +kernel) rfl rfl (Nat.le_of_ble_eq_true rfl) dX12_undo_44 (fun H locs hPn hDn hSn => ?_)
        clear hP hD hS
        have hP : va_P (dC, dI) vwCl [(mS, .inl (cI, 21, .inl eS)), (mX, .inl (cI, 6300, .inl eX)), (oM, .inr (12, [.ref mT, .int zt, .ref mS, .ref mX, .int zp, .int zf, .ref mL, .ref mB, .ref mD, .ref m1, .ref m2, .int zh, .ref mR, .int zr, .ref x1, .ref x2, .ref x3, .int zc, .ref mH, .int zy, .int za, .int zb, .int zs, .int zq, .int zl_6, .int 0, .ref mY, .int zn_6, .ref mE, .int zm_6, .int zl_6, .ref mW, .int zk_6, .ref mO, .int zd_6, .ref y1, .ref y2, .ref y3, .ref y4, .ref mZ])), (mY, .inl (cI, 2600, .inl eY_6)), (mB, .inl (cS, 131072, .inl eB)), (mL, .inl (cI, 512, .inl eL)), (mE, .inl (cI, 2600, .inl eE_6)), (mW, .inl (cI, 300, .inl eW_6)), (mO, .inl (cI, 300, .inl eO_6))] H := hPn
        have hD : va_D A [(mS, .inl (cI, 21, .inl eS)), (mX, .inl (cI, 6300, .inl eX)), (oM, .inr (12, [.ref mT, .int zt, .ref mS, .ref mX, .int zp, .int zf, .ref mL, .ref mB, .ref mD, .ref m1, .ref m2, .int zh, .ref mR, .int zr, .ref x1, .ref x2, .ref x3, .int zc, .ref mH, .int zy, .int za, .int zb, .int zs, .int zq, .int zl_6, .int 0, .ref mY, .int zn_6, .ref mE, .int zm_6, .int zl_6, .ref mW, .int zk_6, .ref mO, .int zd_6, .ref y1, .ref y2, .ref y3, .ref y4, .ref mZ])), (mY, .inl (cI, 2600, .inl eY_6)), (mB, .inl (cS, 131072, .inl eB)), (mL, .inl (cI, 512, .inl eL)), (mE, .inl (cI, 2600, .inl eE_6)), (mW, .inl (cI, 300, .inl eW_6)), (mO, .inl (cI, 300, .inl eO_6))] := hDn
        have hS := hSn
        clear hPn hDn hSn
        refine lv_iconst (v := (-1)) hx hb dX12_undo_47 (by decide) ?_
        have hP9 := hP.sub (ws' := [(oM, .inr (12, [.ref mT, .int zt, .ref mS, .ref mX, .int zp, .int zf, .ref mL, .ref mB, .ref mD, .ref m1, .ref m2, .int zh, .ref mR, .int zr, .ref x1, .ref x2, .ref x3, .int zc, .ref mH, .int zy, .int za, .int zb, .int zs, .int zq, .int zl_6, .int 0, .ref mY, .int zn_6, .ref mE, .int zm_6, .int zl_6, .ref mW, .int zk_6, .ref mO, .int zd_6, .ref y1, .ref y2, .ref y3, .ref y4, .ref mZ])), (mY, .inl (cI, 2600, .inl eY_6)), (mB, .inl (cS, 131072, .inl eB)), (mL, .inl (cI, 512, .inl eL)), (mE, .inl (cI, 2600, .inl eE_6)), (mW, .inl (cI, 300, .inl eW_6)), (mO, .inl (cI, 300, .inl eO_6)), (mS, .inl (cI, 21, .inl eS)), (mX, .inl (cI, 6300, .inl eX))]) [2, 3, 4, 5, 6, 7, 8, 0, 1] rfl
        have hD9 := hD.sub (ws' := [(oM, .inr (12, [.ref mT, .int zt, .ref mS, .ref mX, .int zp, .int zf, .ref mL, .ref mB, .ref mD, .ref m1, .ref m2, .int zh, .ref mR, .int zr, .ref x1, .ref x2, .ref x3, .int zc, .ref mH, .int zy, .int za, .int zb, .int zs, .int zq, .int zl_6, .int 0, .ref mY, .int zn_6, .ref mE, .int zm_6, .int zl_6, .ref mW, .int zk_6, .ref mO, .int zd_6, .ref y1, .ref y2, .ref y3, .ref y4, .ref mZ])), (mY, .inl (cI, 2600, .inl eY_6)), (mB, .inl (cS, 131072, .inl eB)), (mL, .inl (cI, 512, .inl eL)), (mE, .inl (cI, 2600, .inl eE_6)), (mW, .inl (cI, 300, .inl eW_6)), (mO, .inl (cI, 300, .inl eO_6)), (mS, .inl (cI, 21, .inl eS)), (mX, .inl (cI, 6300, .inl eX))]) [2, 3, 4, 5, 6, 7, 8, 0, 1] (by decide +kernel) rfl
        rw [hQQ]
        exact W.iret (v := (-1)) hx hb hr (fun t ht hW => ⟨⟨(-1), (-1), rfl, rfl, ⟨0, zl_6, zk_6, eW_6, eO_6, zn_6, eY_6, zd_6, zm_6, zl_6, eE_6, zp, zf, zs, eS, eX, by rw [ht]; exact hP9, hD9, hf6_4, hf6_5, hf6_6, hf6_0, hf6_1, hf6_2, hf6_3, g_zp, g_zf, g_zs, g_eS, g_eX, by show zs.toInt ≤ zs.toInt + 1 ∧ zs.toInt ≤ zs.toInt; omega, by first | exact Or.inl (by omega) | exact Or.inr ⟨rfl, rfl, rfl⟩, OR_n rfl (pz_0 (Or.inl ⟨by unfold okd; omega, by unfold okd; omega, ps_n (n' := (eS 0).toInt) (ps_g hf6_8 (fun j hj => hf5_2.2 j hj)) (by rw [hf5_2.1])⟩) (by omega))⟩⟩, hS.F ht⟩) hS.2.2 dX12_undo_48
    · have tc_4 : r_3.toInt = 0 := v_eq c_4
      refine lv_iconst (v := (-1)) hx hb dX12_undo_24 (by decide) ?_
      have hP9 := hP.sub (ws' := [(oM, .inr (12, [.ref mT, .int zt, .ref mS, .ref mX, .int zp, .int zf, .ref mL, .ref mB, .ref mD, .ref m1, .ref m2, .int zh, .ref mR, .int zr, .ref x1, .ref x2, .ref x3, .int zc, .ref mH, .int zy, .int za, .int zb, .int zs, .int zq, .int (-1), .int 0, .ref mY, .int zn, .ref mE, .int zm, .int zl, .ref mW, .int zk, .ref mO, .int zd, .ref y1, .ref y2, .ref y3, .ref y4, .ref mZ])), (mY, .inl (cI, 2600, .inl eY)), (mB, .inl (cS, 131072, .inl eB)), (mL, .inl (cI, 512, .inl eL)), (mE, .inl (cI, 2600, .inl eE)), (mW, .inl (cI, 300, .inl eW)), (mO, .inl (cI, 300, .inl eO)), (mS, .inl (cI, 21, .inl eS)), (mX, .inl (cI, 6300, .inl eX))]) [0, 1, 2, 3, 4, 5, 6, 7, 8] rfl
      have hD9 := hD.sub (ws' := [(oM, .inr (12, [.ref mT, .int zt, .ref mS, .ref mX, .int zp, .int zf, .ref mL, .ref mB, .ref mD, .ref m1, .ref m2, .int zh, .ref mR, .int zr, .ref x1, .ref x2, .ref x3, .int zc, .ref mH, .int zy, .int za, .int zb, .int zs, .int zq, .int (-1), .int 0, .ref mY, .int zn, .ref mE, .int zm, .int zl, .ref mW, .int zk, .ref mO, .int zd, .ref y1, .ref y2, .ref y3, .ref y4, .ref mZ])), (mY, .inl (cI, 2600, .inl eY)), (mB, .inl (cS, 131072, .inl eB)), (mL, .inl (cI, 512, .inl eL)), (mE, .inl (cI, 2600, .inl eE)), (mW, .inl (cI, 300, .inl eW)), (mO, .inl (cI, 300, .inl eO)), (mS, .inl (cI, 21, .inl eS)), (mX, .inl (cI, 6300, .inl eX))]) [0, 1, 2, 3, 4, 5, 6, 7, 8] (by decide +kernel) rfl
      rw [hQQ]
      exact W.iret (v := (-1)) hx hb hr (fun t ht hW => ⟨⟨(-1), (-1), rfl, rfl, ⟨0, (-1), zk, eW, eO, zn, eY, zd, zm, zl, eE, zp, zf, zs, eS, eX, by rw [ht]; exact hP9, hD9, g_zk, g_eW, g_eO, g_zn, g_eY, g_zm, g_eE, g_zp, g_zf, g_zs, g_eS, g_eX, by show zs.toInt ≤ zs.toInt + 1 ∧ zs.toInt ≤ zs.toInt; omega, by first | exact Or.inl (by omega) | exact Or.inr ⟨rfl, rfl, rfl⟩, OR_n rfl (fun c fm v h => by have h1 := h.1; have h2 := h.2.1; unfold okd at h1 h2; omega)⟩⟩, hS.F ht⟩) hS.2.2 dX12_undo_25

end

/-! 59m.cost -/
section
set_option maxHeartbeats 40000000 in
set_option maxRecDepth 100000 in
theorem f_X3_sortOutside (l : Launch) (dC : Nat → ClassId) (dI : Nat → Nat → Nat) (cI cS : ClassId) (sz : Nat) (x : Int32) (hxo : x.toInt < 33 ∨ 126 < x.toInt) : Met l yX3_sortOutside wsX3_sortOutside ({ frames := 0, cells := 0, slots := 0, locals := 0 } : Room) (va_Pc [.int x] (fun U => U.heap.size = sz ∧ va_P (dC, dI) vwCl [] U.heap ∧ va_K (dC, dI) vwCl [(cI, .int), (cS, .short)] U ∧ va_D (fun _ => True) [])) (va_Qi (fun (r : Int32) (u : Int32) => r = u) (fun (r : Int32) t => va_P (dC, dI) vwCl [] t.heap ∧ va_D (va_A [] sz) [] ∧ (0 ≤ r.toInt ∧ r.toInt ≤ 7) ∧ (r.toInt = srt x)) (va_A [] sz)) 0 0 (va_A [] sz) := by
  refine Met.ofW (cc := cX3_sortOutside) (maxL := 1) (ret := (some .int)) (by decide) rfl ?_
  intro p e s m args below meth c s₁ B hml hv
  obtain ⟨rfl, hsz, hP, hK, hD0⟩ := hv
  have hx := B.exec
  have hb := B.bytes
  have hr := B.returns
  have hts := atoms_spec (ws := wsX3_sortOutside) B.pre
  have hown : s.vm.findClass RX3 = some m.cls := findClass_of_methodNamed B.named
  have hlocks := B.notSynchronized
  subst hsz
  have hD := hD0.self (sz := s.heap.size)
  generalize hAe : va_A [] s.heap.size = A at hD ⊢
  have hA : ∀ q : Nat, s.heap.size ≤ q → A q := fun q h => by rw [← hAe]; exact Or.inr h
  have hS : va_S A s.heap s.heap [] := va_S.rf
  have hP : va_P (dC, dI) vwCl [] s.heap := hP
  have hl := lv_entry ([.int x]) (n := 1) (Nat.le_of_ble_eq_true rfl)
  rw [lg_entry_eq]
  generalize (lg_sl ([.int x]) ++ List.replicate (1 - (lg_sl ([.int x])).length) Slot.unset).toArray = ls at hl ⊢
  have hl : lv_has ls 1 [(0, .int x)] := hl
  obtain ⟨QQ, hQQ⟩ : ∃ QQ : Array Value → State → Outcome → State → Prop, QQ = va_Qi (fun (r : Int32) (u : Int32) => r = u) (fun (r : Int32) t => va_P (dC, dI) vwCl [] t.heap ∧ va_D A [] ∧ (0 ≤ r.toInt ∧ r.toInt ≤ 7) ∧ (r.toInt = srt x)) A := ⟨_, rfl⟩
  rw [← hQQ]
  refine lv_iload_n hx hb dX3_sortOutside_0 rfl (lv_at hl 0 rfl) ?_
  refine lv_bipush (v := 32) hx hb dX3_sortOutside_1 (by decide) ?_
  refine lv_icmp_ne (tgt := 8) hx hb dX3_sortOutside_3 (by decide) (fun c_1 => ?_) (fun c_1 => ?_)
  · have tc_1 : ¬ x.toInt = 32 := v_ne c_1
    refine lv_iload_n hx hb dX3_sortOutside_8 rfl (lv_at hl 0 rfl) ?_
    refine lv_sipush (v := 192) hx hb dX3_sortOutside_9 (by decide) ?_
    refine lv_icmp_lt (tgt := 43) hx hb dX3_sortOutside_12 (by decide) (fun c_2 => ?_) (fun c_2 => ?_)
    · have tc_2 : x.toInt < 192 := v_lt c_2
      refine lv_iload_n hx hb dX3_sortOutside_43 rfl (lv_at hl 0 rfl) ?_
      refine lv_sipush (v := 880) hx hb dX3_sortOutside_44 (by decide) ?_
      refine lv_icmp_lt (tgt := 62) hx hb dX3_sortOutside_47 (by decide) (fun c_3 => ?_) (fun c_3 => by exfalso; have tc_3 : 880 ≤ x.toInt := v_nlt c_3; omega)
      have tc_3 : x.toInt < 880 := v_lt c_3
      refine lv_iconst (v := 0) hx hb dX3_sortOutside_62 (by decide) ?_
      have hP9 := hP.sub (ws' := []) [] rfl
      have hD9 := hD.sub (ws' := []) [] (by decide +kernel) rfl
      rw [hQQ]
      exact W.iret (v := 0) hx hb hr (fun t ht hW => ⟨⟨0, 0, rfl, rfl, ⟨by rw [ht]; exact hP9, hD9, by decide, by unfold srt; (repeat (first | rw [if_pos (by omega)] | rw [if_neg (by omega)])) <;> rfl⟩⟩, hS.F ht⟩) hS.2.2 dX3_sortOutside_63
    · have tc_2 : 192 ≤ x.toInt := v_nlt c_2
      refine lv_iload_n hx hb dX3_sortOutside_15 rfl (lv_at hl 0 rfl) ?_
      refine lv_sipush (v := 591) hx hb dX3_sortOutside_16 (by decide) ?_
      refine lv_icmp_gt (tgt := 43) hx hb dX3_sortOutside_19 (by decide) (fun c_4 => ?_) (fun c_4 => ?_)
      · have tc_4 : 591 < x.toInt := v_lt c_4
        refine lv_iload_n hx hb dX3_sortOutside_43 rfl (lv_at hl 0 rfl) ?_
        refine lv_sipush (v := 880) hx hb dX3_sortOutside_44 (by decide) ?_
        refine lv_icmp_lt (tgt := 62) hx hb dX3_sortOutside_47 (by decide) (fun c_5 => ?_) (fun c_5 => ?_)
        · have tc_5 : x.toInt < 880 := v_lt c_5
          refine lv_iconst (v := 0) hx hb dX3_sortOutside_62 (by decide) ?_
          have hP9 := hP.sub (ws' := []) [] rfl
          have hD9 := hD.sub (ws' := []) [] (by decide +kernel) rfl
          rw [hQQ]
          exact W.iret (v := 0) hx hb hr (fun t ht hW => ⟨⟨0, 0, rfl, rfl, ⟨by rw [ht]; exact hP9, hD9, by decide, by unfold srt; (repeat (first | rw [if_pos (by omega)] | rw [if_neg (by omega)])) <;> rfl⟩⟩, hS.F ht⟩) hS.2.2 dX3_sortOutside_63
        · have tc_5 : 880 ≤ x.toInt := v_nlt c_5
          refine lv_iload_n hx hb dX3_sortOutside_50 rfl (lv_at hl 0 rfl) ?_
          refine lv_sipush (v := 1327) hx hb dX3_sortOutside_51 (by decide) ?_
          refine lv_icmp_gt (tgt := 62) hx hb dX3_sortOutside_54 (by decide) (fun c_6 => ?_) (fun c_6 => ?_)
          · have tc_6 : 1327 < x.toInt := v_lt c_6
            refine lv_iconst (v := 0) hx hb dX3_sortOutside_62 (by decide) ?_
            have hP9 := hP.sub (ws' := []) [] rfl
            have hD9 := hD.sub (ws' := []) [] (by decide +kernel) rfl
            rw [hQQ]
            exact W.iret (v := 0) hx hb hr (fun t ht hW => ⟨⟨0, 0, rfl, rfl, ⟨by rw [ht]; exact hP9, hD9, by decide, by unfold srt; (repeat (first | rw [if_pos (by omega)] | rw [if_neg (by omega)])) <;> rfl⟩⟩, hS.F ht⟩) hS.2.2 dX3_sortOutside_63
          · have tc_6 : x.toInt ≤ 1327 := v_nlt c_6
            refine lv_bipush (v := 7) hx hb dX3_sortOutside_57 (by decide) ?_
            refine lv_goto (tgt := 63) hx hb dX3_sortOutside_59 (by decide) ?_
            have hP9 := hP.sub (ws' := []) [] rfl
            have hD9 := hD.sub (ws' := []) [] (by decide +kernel) rfl
            rw [hQQ]
            exact W.iret (v := 7) hx hb hr (fun t ht hW => ⟨⟨7, 7, rfl, rfl, ⟨by rw [ht]; exact hP9, hD9, by decide, by unfold srt; (repeat (first | rw [if_pos (by omega)] | rw [if_neg (by omega)])) <;> rfl⟩⟩, hS.F ht⟩) hS.2.2 dX3_sortOutside_63
      · have tc_4 : x.toInt ≤ 591 := v_nlt c_4
        refine lv_iload_n hx hb dX3_sortOutside_22 rfl (lv_at hl 0 rfl) ?_
        refine lv_sipush (v := 215) hx hb dX3_sortOutside_23 (by decide) ?_
        refine lv_icmp_eq (tgt := 36) hx hb dX3_sortOutside_26 (by decide) (fun c_7 => ?_) (fun c_7 => ?_)
        · have tc_7 : x.toInt = 215 := v_eq c_7
          refine lv_iconst (v := 0) hx hb dX3_sortOutside_36 (by decide) ?_
          refine lv_goto (tgt := 42) hx hb dX3_sortOutside_37 (by decide) ?_
          have hP9 := hP.sub (ws' := []) [] rfl
          have hD9 := hD.sub (ws' := []) [] (by decide +kernel) rfl
          rw [hQQ]
          exact W.iret (v := 0) hx hb hr (fun t ht hW => ⟨⟨0, 0, rfl, rfl, ⟨by rw [ht]; exact hP9, hD9, by decide, by unfold srt; (repeat (first | rw [if_pos (by omega)] | rw [if_neg (by omega)])) <;> rfl⟩⟩, hS.F ht⟩) hS.2.2 dX3_sortOutside_42
        · have tc_7 : ¬ x.toInt = 215 := v_ne c_7
          refine lv_iload_n hx hb dX3_sortOutside_29 rfl (lv_at hl 0 rfl) ?_
          refine lv_sipush (v := 247) hx hb dX3_sortOutside_30 (by decide) ?_
          refine lv_icmp_ne (tgt := 40) hx hb dX3_sortOutside_33 (by decide) (fun c_8 => ?_) (fun c_8 => ?_)
          · have tc_8 : ¬ x.toInt = 247 := v_ne c_8
            refine lv_bipush (v := 6) hx hb dX3_sortOutside_40 (by decide) ?_
            have hP9 := hP.sub (ws' := []) [] rfl
            have hD9 := hD.sub (ws' := []) [] (by decide +kernel) rfl
            rw [hQQ]
            exact W.iret (v := 6) hx hb hr (fun t ht hW => ⟨⟨6, 6, rfl, rfl, ⟨by rw [ht]; exact hP9, hD9, by decide, by unfold srt; (repeat (first | rw [if_pos (by omega)] | rw [if_neg (by omega)])) <;> rfl⟩⟩, hS.F ht⟩) hS.2.2 dX3_sortOutside_42
          · have tc_8 : x.toInt = 247 := v_eq c_8
            refine lv_iconst (v := 0) hx hb dX3_sortOutside_36 (by decide) ?_
            refine lv_goto (tgt := 42) hx hb dX3_sortOutside_37 (by decide) ?_
            have hP9 := hP.sub (ws' := []) [] rfl
            have hD9 := hD.sub (ws' := []) [] (by decide +kernel) rfl
            rw [hQQ]
            exact W.iret (v := 0) hx hb hr (fun t ht hW => ⟨⟨0, 0, rfl, rfl, ⟨by rw [ht]; exact hP9, hD9, by decide, by unfold srt; (repeat (first | rw [if_pos (by omega)] | rw [if_neg (by omega)])) <;> rfl⟩⟩, hS.F ht⟩) hS.2.2 dX3_sortOutside_42
  · have tc_1 : x.toInt = 32 := v_eq c_1
    refine lv_iconst (v := 4) hx hb dX3_sortOutside_6 (by decide) ?_
    have hP9 := hP.sub (ws' := []) [] rfl
    have hD9 := hD.sub (ws' := []) [] (by decide +kernel) rfl
    rw [hQQ]
    exact W.iret (v := 4) hx hb hr (fun t ht hW => ⟨⟨4, 4, rfl, rfl, ⟨by rw [ht]; exact hP9, hD9, by decide, by unfold srt; (repeat (first | rw [if_pos (by omega)] | rw [if_neg (by omega)])) <;> rfl⟩⟩, hS.F ht⟩) hS.2.2 dX3_sortOutside_7

set_option maxHeartbeats 40000000 in
set_option maxRecDepth 100000 in
theorem f_X3_sortOf (l : Launch) (dC : Nat → ClassId) (dI : Nat → Nat → Nat) (cI cS : ClassId) (sz : Nat) (x : Int32)  : Met l yX3_sortOf wsX3_sortOf ({ frames := 1, cells := 0, slots := 0, locals := 20 } : Room) (va_Pc [.int x] (fun U => U.heap.size = sz ∧ va_P (dC, dI) vwCl [] U.heap ∧ va_K (dC, dI) vwCl [(cI, .int), (cS, .short)] U ∧ va_D (fun _ => True) [])) (va_Qi (fun (r : Int32) (u : Int32) => r = u) (fun (r : Int32) t => va_P (dC, dI) vwCl [] t.heap ∧ va_D (va_A [] sz) [] ∧ (0 ≤ r.toInt ∧ r.toInt ≤ 7) ∧ (r.toInt = srt x)) (va_A [] sz)) 0 0 (va_A [] sz) := by
  refine Met.ofW (cc := cX3_sortOf) (maxL := 1) (ret := (some .int)) (by decide) rfl ?_
  intro p e s m args below meth c s₁ B hml hv
  obtain ⟨rfl, hsz, hP, hK, hD0⟩ := hv
  have hx := B.exec
  have hb := B.bytes
  have hr := B.returns
  have hts := atoms_spec (ws := wsX3_sortOf) B.pre
  have hown : s.vm.findClass RX3 = some m.cls := findClass_of_methodNamed B.named
  have hlocks := B.notSynchronized
  subst hsz
  have hD := hD0.self (sz := s.heap.size)
  generalize hAe : va_A [] s.heap.size = A at hD ⊢
  have hA : ∀ q : Nat, s.heap.size ≤ q → A q := fun q h => by rw [← hAe]; exact Or.inr h
  have hS : va_S A s.heap s.heap [] := va_S.rf
  have hP : va_P (dC, dI) vwCl [] s.heap := hP
  have hl := lv_entry ([.int x]) (n := 1) (Nat.le_of_ble_eq_true rfl)
  rw [lg_entry_eq]
  generalize (lg_sl ([.int x]) ++ List.replicate (1 - (lg_sl ([.int x])).length) Slot.unset).toArray = ls at hl ⊢
  have hl : lv_has ls 1 [(0, .int x)] := hl
  obtain ⟨QQ, hQQ⟩ : ∃ QQ : Array Value → State → Outcome → State → Prop, QQ = va_Qi (fun (r : Int32) (u : Int32) => r = u) (fun (r : Int32) t => va_P (dC, dI) vwCl [] t.heap ∧ va_D A [] ∧ (0 ≤ r.toInt ∧ r.toInt ≤ 7) ∧ (r.toInt = srt x)) A := ⟨_, rfl⟩
  rw [← hQQ]
  refine lv_iload_n hx hb dX3_sortOf_0 rfl (lv_at hl 0 rfl) ?_
  refine lv_bipush (v := 33) hx hb dX3_sortOf_1 (by decide) ?_
  refine lv_icmp_lt (tgt := 12) hx hb dX3_sortOf_3 (by decide) (fun c_1 => ?_) (fun c_1 => ?_)
  · have tc_1 : x.toInt < 33 := v_lt c_1
    refine lv_iload_n hx hb dX3_sortOf_12 rfl (lv_at hl 0 rfl) ?_
    have hPc := hP.sub (ws' := []) [] rfl
    have hDc := hD.sub (ws' := []) [] (by decide +kernel) rfl
    have hFc := va_free (wc := []) hD hS hA [] rfl
    refine va_calli (va_runS (As := [.int x]) (rest := []) ⟨hx, hb, hml, hown, hts⟩ (f_X3_sortOutside l dC dI cI cS s.heap.size x (by omega)) (va_cwS 1 hts gX3_sortOf_X3_sortOutside rfl rfl rfl (by decide +kernel) ⟨Nat.le_of_ble_eq_true rfl, Nat.le_of_ble_eq_true rfl⟩) ⟨fun a U g mk q => by obtain ⟨q0, q1, qP, qK, qD⟩ := q; exact ⟨q0, q1, qP, va_K.moved (u := U) (U := U.calling g mk a) (Vm.Alike.refl U.vm) qK, qD⟩, fun U hU hW => ⟨rfl, by rw [hU], by rw [hU]; exact hPc, va_K.moved hW.alike hK, hDc.weaken (fun _ _ _ _ => trivial)⟩⟩ rfl rfl hl.1 rfl (lv_room (Nat.le_of_ble_eq_true rfl)) dX3_sortOf_13 ⟨Nat.le_of_ble_eq_true rfl, Nat.le_of_ble_eq_true rfl⟩) hS (fun q _ h => hFc q h) hFc (fun r_2 u t H1 locs ht hvm hw hB hz1 hk1 hSn => ?_)
    subst hw
    obtain ⟨hP1, hD1, hf2_0, hf2_1⟩ := hB
    rw [ht] at hP1
    obtain ⟨hPn, hDn⟩ := va_join (wr := []) (w1 := []) hP hD [] [] rfl rfl (by decide +kernel) (by decide +kernel) hk1 hFc hP1 hD1
    clear hP hD hS hPc hDc hFc hk1 hz1 hvm ht hP1 hD1
    generalize H1 = H at hPn hSn ⊢
    have hP : va_P (dC, dI) vwCl [] H := hPn
    have hD : va_D A [] := hDn
    have hS := hSn
    clear hPn hDn hSn
    have hP9 := hP.sub (ws' := []) [] rfl
    have hD9 := hD.sub (ws' := []) [] (by decide +kernel) rfl
    rw [hQQ]
    exact W.iret (v := r_2) hx hb hr (fun t ht hW => ⟨⟨r_2, r_2, rfl, rfl, ⟨by rw [ht]; exact hP9, hD9, hf2_0, hf2_1⟩⟩, hS.F ht⟩) hS.2.2 dX3_sortOf_16
  · have tc_1 : 33 ≤ x.toInt := v_nlt c_1
    refine lv_iload_n hx hb dX3_sortOf_6 rfl (lv_at hl 0 rfl) ?_
    refine lv_bipush (v := 126) hx hb dX3_sortOf_7 (by decide) ?_
    refine lv_icmp_le (tgt := 17) hx hb dX3_sortOf_9 (by decide) (fun c_3 => ?_) (fun c_3 => ?_)
    · have tc_3 : x.toInt ≤ 126 := v_le c_3
      refine lv_iload_n hx hb dX3_sortOf_17 rfl (lv_at hl 0 rfl) ?_
      refine lv_bipush (v := 97) hx hb dX3_sortOf_18 (by decide) ?_
      refine lv_icmp_lt (tgt := 31) hx hb dX3_sortOf_20 (by decide) (fun c_4 => ?_) (fun c_4 => ?_)
      · have tc_4 : x.toInt < 97 := v_lt c_4
        refine lv_iload_n hx hb dX3_sortOf_31 rfl (lv_at hl 0 rfl) ?_
        refine lv_bipush (v := 65) hx hb dX3_sortOf_32 (by decide) ?_
        refine lv_icmp_lt (tgt := 45) hx hb dX3_sortOf_34 (by decide) (fun c_5 => ?_) (fun c_5 => ?_)
        · have tc_5 : x.toInt < 65 := v_lt c_5
          refine lv_iload_n hx hb dX3_sortOf_45 rfl (lv_at hl 0 rfl) ?_
          refine lv_bipush (v := 48) hx hb dX3_sortOf_46 (by decide) ?_
          refine lv_icmp_lt (tgt := 61) hx hb dX3_sortOf_48 (by decide) (fun c_6 => ?_) (fun c_6 => ?_)
          · have tc_6 : x.toInt < 48 := v_lt c_6
            refine lv_iconst (v := 5) hx hb dX3_sortOf_61 (by decide) ?_
            have hP9 := hP.sub (ws' := []) [] rfl
            have hD9 := hD.sub (ws' := []) [] (by decide +kernel) rfl
            rw [hQQ]
            exact W.iret (v := 5) hx hb hr (fun t ht hW => ⟨⟨5, 5, rfl, rfl, ⟨by rw [ht]; exact hP9, hD9, by decide, by unfold srt; (repeat (first | rw [if_pos (by omega)] | rw [if_neg (by omega)])) <;> rfl⟩⟩, hS.F ht⟩) hS.2.2 dX3_sortOf_62
          · have tc_6 : 48 ≤ x.toInt := v_nlt c_6
            refine lv_iload_n hx hb dX3_sortOf_51 rfl (lv_at hl 0 rfl) ?_
            refine lv_bipush (v := 57) hx hb dX3_sortOf_52 (by decide) ?_
            refine lv_icmp_gt (tgt := 61) hx hb dX3_sortOf_54 (by decide) (fun c_7 => ?_) (fun c_7 => ?_)
            · have tc_7 : 57 < x.toInt := v_lt c_7
              refine lv_iconst (v := 5) hx hb dX3_sortOf_61 (by decide) ?_
              have hP9 := hP.sub (ws' := []) [] rfl
              have hD9 := hD.sub (ws' := []) [] (by decide +kernel) rfl
              rw [hQQ]
              exact W.iret (v := 5) hx hb hr (fun t ht hW => ⟨⟨5, 5, rfl, rfl, ⟨by rw [ht]; exact hP9, hD9, by decide, by unfold srt; (repeat (first | rw [if_pos (by omega)] | rw [if_neg (by omega)])) <;> rfl⟩⟩, hS.F ht⟩) hS.2.2 dX3_sortOf_62
            · have tc_7 : x.toInt ≤ 57 := v_nlt c_7
              refine lv_iconst (v := 3) hx hb dX3_sortOf_57 (by decide) ?_
              refine lv_goto (tgt := 62) hx hb dX3_sortOf_58 (by decide) ?_
              have hP9 := hP.sub (ws' := []) [] rfl
              have hD9 := hD.sub (ws' := []) [] (by decide +kernel) rfl
              rw [hQQ]
              exact W.iret (v := 3) hx hb hr (fun t ht hW => ⟨⟨3, 3, rfl, rfl, ⟨by rw [ht]; exact hP9, hD9, by decide, by unfold srt; (repeat (first | rw [if_pos (by omega)] | rw [if_neg (by omega)])) <;> rfl⟩⟩, hS.F ht⟩) hS.2.2 dX3_sortOf_62
        · have tc_5 : 65 ≤ x.toInt := v_nlt c_5
          refine lv_iload_n hx hb dX3_sortOf_37 rfl (lv_at hl 0 rfl) ?_
          refine lv_bipush (v := 90) hx hb dX3_sortOf_38 (by decide) ?_
          refine lv_icmp_gt (tgt := 45) hx hb dX3_sortOf_40 (by decide) (fun c_8 => ?_) (fun c_8 => ?_)
          · have tc_8 : 90 < x.toInt := v_lt c_8
            refine lv_iload_n hx hb dX3_sortOf_45 rfl (lv_at hl 0 rfl) ?_
            refine lv_bipush (v := 48) hx hb dX3_sortOf_46 (by decide) ?_
            refine lv_icmp_lt (tgt := 61) hx hb dX3_sortOf_48 (by decide) (fun c_9 => by exfalso; have tc_9 : x.toInt < 48 := v_lt c_9; omega) (fun c_9 => ?_)
            have tc_9 : 48 ≤ x.toInt := v_nlt c_9
            refine lv_iload_n hx hb dX3_sortOf_51 rfl (lv_at hl 0 rfl) ?_
            refine lv_bipush (v := 57) hx hb dX3_sortOf_52 (by decide) ?_
            refine lv_icmp_gt (tgt := 61) hx hb dX3_sortOf_54 (by decide) (fun c_10 => ?_) (fun c_10 => by exfalso; have tc_10 : x.toInt ≤ 57 := v_nlt c_10; omega)
            have tc_10 : 57 < x.toInt := v_lt c_10
            refine lv_iconst (v := 5) hx hb dX3_sortOf_61 (by decide) ?_
            have hP9 := hP.sub (ws' := []) [] rfl
            have hD9 := hD.sub (ws' := []) [] (by decide +kernel) rfl
            rw [hQQ]
            exact W.iret (v := 5) hx hb hr (fun t ht hW => ⟨⟨5, 5, rfl, rfl, ⟨by rw [ht]; exact hP9, hD9, by decide, by unfold srt; (repeat (first | rw [if_pos (by omega)] | rw [if_neg (by omega)])) <;> rfl⟩⟩, hS.F ht⟩) hS.2.2 dX3_sortOf_62
          · have tc_8 : x.toInt ≤ 90 := v_nlt c_8
            refine lv_iconst (v := 2) hx hb dX3_sortOf_43 (by decide) ?_
            have hP9 := hP.sub (ws' := []) [] rfl
            have hD9 := hD.sub (ws' := []) [] (by decide +kernel) rfl
            rw [hQQ]
            exact W.iret (v := 2) hx hb hr (fun t ht hW => ⟨⟨2, 2, rfl, rfl, ⟨by rw [ht]; exact hP9, hD9, by decide, by unfold srt; (repeat (first | rw [if_pos (by omega)] | rw [if_neg (by omega)])) <;> rfl⟩⟩, hS.F ht⟩) hS.2.2 dX3_sortOf_44
      · have tc_4 : 97 ≤ x.toInt := v_nlt c_4
        refine lv_iload_n hx hb dX3_sortOf_23 rfl (lv_at hl 0 rfl) ?_
        refine lv_bipush (v := 122) hx hb dX3_sortOf_24 (by decide) ?_
        refine lv_icmp_gt (tgt := 31) hx hb dX3_sortOf_26 (by decide) (fun c_11 => ?_) (fun c_11 => ?_)
        · have tc_11 : 122 < x.toInt := v_lt c_11
          refine lv_iload_n hx hb dX3_sortOf_31 rfl (lv_at hl 0 rfl) ?_
          refine lv_bipush (v := 65) hx hb dX3_sortOf_32 (by decide) ?_
          refine lv_icmp_lt (tgt := 45) hx hb dX3_sortOf_34 (by decide) (fun c_12 => by exfalso; have tc_12 : x.toInt < 65 := v_lt c_12; omega) (fun c_12 => ?_)
          have tc_12 : 65 ≤ x.toInt := v_nlt c_12
          refine lv_iload_n hx hb dX3_sortOf_37 rfl (lv_at hl 0 rfl) ?_
          refine lv_bipush (v := 90) hx hb dX3_sortOf_38 (by decide) ?_
          refine lv_icmp_gt (tgt := 45) hx hb dX3_sortOf_40 (by decide) (fun c_13 => ?_) (fun c_13 => by exfalso; have tc_13 : x.toInt ≤ 90 := v_nlt c_13; omega)
          have tc_13 : 90 < x.toInt := v_lt c_13
          refine lv_iload_n hx hb dX3_sortOf_45 rfl (lv_at hl 0 rfl) ?_
          refine lv_bipush (v := 48) hx hb dX3_sortOf_46 (by decide) ?_
          refine lv_icmp_lt (tgt := 61) hx hb dX3_sortOf_48 (by decide) (fun c_14 => by exfalso; have tc_14 : x.toInt < 48 := v_lt c_14; omega) (fun c_14 => ?_)
          have tc_14 : 48 ≤ x.toInt := v_nlt c_14
          refine lv_iload_n hx hb dX3_sortOf_51 rfl (lv_at hl 0 rfl) ?_
          refine lv_bipush (v := 57) hx hb dX3_sortOf_52 (by decide) ?_
          refine lv_icmp_gt (tgt := 61) hx hb dX3_sortOf_54 (by decide) (fun c_15 => ?_) (fun c_15 => by exfalso; have tc_15 : x.toInt ≤ 57 := v_nlt c_15; omega)
          have tc_15 : 57 < x.toInt := v_lt c_15
          refine lv_iconst (v := 5) hx hb dX3_sortOf_61 (by decide) ?_
          have hP9 := hP.sub (ws' := []) [] rfl
          have hD9 := hD.sub (ws' := []) [] (by decide +kernel) rfl
          rw [hQQ]
          exact W.iret (v := 5) hx hb hr (fun t ht hW => ⟨⟨5, 5, rfl, rfl, ⟨by rw [ht]; exact hP9, hD9, by decide, by unfold srt; (repeat (first | rw [if_pos (by omega)] | rw [if_neg (by omega)])) <;> rfl⟩⟩, hS.F ht⟩) hS.2.2 dX3_sortOf_62
        · have tc_11 : x.toInt ≤ 122 := v_nlt c_11
          refine lv_iconst (v := 1) hx hb dX3_sortOf_29 (by decide) ?_
          have hP9 := hP.sub (ws' := []) [] rfl
          have hD9 := hD.sub (ws' := []) [] (by decide +kernel) rfl
          rw [hQQ]
          exact W.iret (v := 1) hx hb hr (fun t ht hW => ⟨⟨1, 1, rfl, rfl, ⟨by rw [ht]; exact hP9, hD9, by decide, by unfold srt; (repeat (first | rw [if_pos (by omega)] | rw [if_neg (by omega)])) <;> rfl⟩⟩, hS.F ht⟩) hS.2.2 dX3_sortOf_30
    · have tc_3 : 126 < x.toInt := v_nle c_3
      refine lv_iload_n hx hb dX3_sortOf_12 rfl (lv_at hl 0 rfl) ?_
      have hPc := hP.sub (ws' := []) [] rfl
      have hDc := hD.sub (ws' := []) [] (by decide +kernel) rfl
      have hFc := va_free (wc := []) hD hS hA [] rfl
      refine va_calli (va_runS (As := [.int x]) (rest := []) ⟨hx, hb, hml, hown, hts⟩ (f_X3_sortOutside l dC dI cI cS s.heap.size x (by omega)) (va_cwS 1 hts gX3_sortOf_X3_sortOutside rfl rfl rfl (by decide +kernel) ⟨Nat.le_of_ble_eq_true rfl, Nat.le_of_ble_eq_true rfl⟩) ⟨fun a U g mk q => by obtain ⟨q0, q1, qP, qK, qD⟩ := q; exact ⟨q0, q1, qP, va_K.moved (u := U) (U := U.calling g mk a) (Vm.Alike.refl U.vm) qK, qD⟩, fun U hU hW => ⟨rfl, by rw [hU], by rw [hU]; exact hPc, va_K.moved hW.alike hK, hDc.weaken (fun _ _ _ _ => trivial)⟩⟩ rfl rfl hl.1 rfl (lv_room (Nat.le_of_ble_eq_true rfl)) dX3_sortOf_13 ⟨Nat.le_of_ble_eq_true rfl, Nat.le_of_ble_eq_true rfl⟩) hS (fun q _ h => hFc q h) hFc (fun r_16 u t H1 locs ht hvm hw hB hz1 hk1 hSn => ?_)
      subst hw
      obtain ⟨hP1, hD1, hf16_0, hf16_1⟩ := hB
      rw [ht] at hP1
      obtain ⟨hPn, hDn⟩ := va_join (wr := []) (w1 := []) hP hD [] [] rfl rfl (by decide +kernel) (by decide +kernel) hk1 hFc hP1 hD1
      clear hP hD hS hPc hDc hFc hk1 hz1 hvm ht hP1 hD1
      generalize H1 = H at hPn hSn ⊢
      have hP : va_P (dC, dI) vwCl [] H := hPn
      have hD : va_D A [] := hDn
      have hS := hSn
      clear hPn hDn hSn
      have hP9 := hP.sub (ws' := []) [] rfl
      have hD9 := hD.sub (ws' := []) [] (by decide +kernel) rfl
      rw [hQQ]
      exact W.iret (v := r_16) hx hb hr (fun t ht hW => ⟨⟨r_16, r_16, rfl, rfl, ⟨by rw [ht]; exact hP9, hD9, hf16_0, hf16_1⟩⟩, hS.F ht⟩) hS.2.2 dX3_sortOf_16

set_option maxHeartbeats 40000000 in
set_option maxRecDepth 100000 in
theorem f_X12_sortOf (l : Launch) (dC : Nat → ClassId) (dI : Nat → Nat → Nat) (cI cS : ClassId) (sz : Nat) (x : Int32)  : Met l yX12_sortOf wsX12_sortOf ({ frames := 0, cells := 0, slots := 0, locals := 0 } : Room) (va_Pc [.int x] (fun U => U.heap.size = sz ∧ va_P (dC, dI) vwCl [] U.heap ∧ va_K (dC, dI) vwCl [(cI, .int), (cS, .short)] U ∧ va_D (fun _ => True) [])) (va_Qi (fun (r : Int32) (u : Int32) => r = u) (fun (r : Int32) t => va_P (dC, dI) vwCl [] t.heap ∧ va_D (va_A [] sz) [] ∧ (0 ≤ r.toInt ∧ r.toInt ≤ 7) ∧ (r.toInt = srt x)) (va_A [] sz)) 0 0 (va_A [] sz) := by
  refine Met.ofW (cc := cX12_sortOf) (maxL := 1) (ret := (some .int)) (by decide) rfl ?_
  intro p e s m args below meth c s₁ B hml hv
  obtain ⟨rfl, hsz, hP, hK, hD0⟩ := hv
  have hx := B.exec
  have hb := B.bytes
  have hr := B.returns
  have hts := atoms_spec (ws := wsX12_sortOf) B.pre
  have hown : s.vm.findClass RX12 = some m.cls := findClass_of_methodNamed B.named
  have hlocks := B.notSynchronized
  subst hsz
  have hD := hD0.self (sz := s.heap.size)
  generalize hAe : va_A [] s.heap.size = A at hD ⊢
  have hA : ∀ q : Nat, s.heap.size ≤ q → A q := fun q h => by rw [← hAe]; exact Or.inr h
  have hS : va_S A s.heap s.heap [] := va_S.rf
  have hP : va_P (dC, dI) vwCl [] s.heap := hP
  have hl := lv_entry ([.int x]) (n := 1) (Nat.le_of_ble_eq_true rfl)
  rw [lg_entry_eq]
  generalize (lg_sl ([.int x]) ++ List.replicate (1 - (lg_sl ([.int x])).length) Slot.unset).toArray = ls at hl ⊢
  have hl : lv_has ls 1 [(0, .int x)] := hl
  obtain ⟨QQ, hQQ⟩ : ∃ QQ : Array Value → State → Outcome → State → Prop, QQ = va_Qi (fun (r : Int32) (u : Int32) => r = u) (fun (r : Int32) t => va_P (dC, dI) vwCl [] t.heap ∧ va_D A [] ∧ (0 ≤ r.toInt ∧ r.toInt ≤ 7) ∧ (r.toInt = srt x)) A := ⟨_, rfl⟩
  rw [← hQQ]
  refine lv_iload_n hx hb dX12_sortOf_0 rfl (lv_at hl 0 rfl) ?_
  refine lv_bipush (v := 97) hx hb dX12_sortOf_1 (by decide) ?_
  refine lv_icmp_lt (tgt := 14) hx hb dX12_sortOf_3 (by decide) (fun c_1 => ?_) (fun c_1 => ?_)
  · have tc_1 : x.toInt < 97 := v_lt c_1
    refine lv_iload_n hx hb dX12_sortOf_14 rfl (lv_at hl 0 rfl) ?_
    refine lv_bipush (v := 65) hx hb dX12_sortOf_15 (by decide) ?_
    refine lv_icmp_lt (tgt := 28) hx hb dX12_sortOf_17 (by decide) (fun c_2 => ?_) (fun c_2 => ?_)
    · have tc_2 : x.toInt < 65 := v_lt c_2
      refine lv_iload_n hx hb dX12_sortOf_28 rfl (lv_at hl 0 rfl) ?_
      refine lv_bipush (v := 48) hx hb dX12_sortOf_29 (by decide) ?_
      refine lv_icmp_lt (tgt := 42) hx hb dX12_sortOf_31 (by decide) (fun c_3 => ?_) (fun c_3 => ?_)
      · have tc_3 : x.toInt < 48 := v_lt c_3
        refine lv_iload_n hx hb dX12_sortOf_42 rfl (lv_at hl 0 rfl) ?_
        refine lv_bipush (v := 32) hx hb dX12_sortOf_43 (by decide) ?_
        refine lv_icmp_ne (tgt := 50) hx hb dX12_sortOf_45 (by decide) (fun c_4 => ?_) (fun c_4 => ?_)
        · have tc_4 : ¬ x.toInt = 32 := v_ne c_4
          refine lv_iload_n hx hb dX12_sortOf_50 rfl (lv_at hl 0 rfl) ?_
          refine lv_bipush (v := 33) hx hb dX12_sortOf_51 (by decide) ?_
          refine lv_icmp_lt (tgt := 64) hx hb dX12_sortOf_53 (by decide) (fun c_5 => ?_) (fun c_5 => ?_)
          · have tc_5 : x.toInt < 33 := v_lt c_5
            refine lv_iload_n hx hb dX12_sortOf_64 rfl (lv_at hl 0 rfl) ?_
            refine lv_sipush (v := 192) hx hb dX12_sortOf_65 (by decide) ?_
            refine lv_icmp_lt (tgt := 95) hx hb dX12_sortOf_68 (by decide) (fun c_6 => ?_) (fun c_6 => by exfalso; have tc_6 : 192 ≤ x.toInt := v_nlt c_6; omega)
            have tc_6 : x.toInt < 192 := v_lt c_6
            refine lv_iload_n hx hb dX12_sortOf_95 rfl (lv_at hl 0 rfl) ?_
            refine lv_sipush (v := 880) hx hb dX12_sortOf_96 (by decide) ?_
            refine lv_icmp_lt (tgt := 114) hx hb dX12_sortOf_99 (by decide) (fun c_7 => ?_) (fun c_7 => by exfalso; have tc_7 : 880 ≤ x.toInt := v_nlt c_7; omega)
            have tc_7 : x.toInt < 880 := v_lt c_7
            refine lv_iconst (v := 0) hx hb dX12_sortOf_114 (by decide) ?_
            have hP9 := hP.sub (ws' := []) [] rfl
            have hD9 := hD.sub (ws' := []) [] (by decide +kernel) rfl
            rw [hQQ]
            exact W.iret (v := 0) hx hb hr (fun t ht hW => ⟨⟨0, 0, rfl, rfl, ⟨by rw [ht]; exact hP9, hD9, by decide, by unfold srt; (repeat (first | rw [if_pos (by omega)] | rw [if_neg (by omega)])) <;> rfl⟩⟩, hS.F ht⟩) hS.2.2 dX12_sortOf_115
          · have tc_5 : 33 ≤ x.toInt := v_nlt c_5
            refine lv_iload_n hx hb dX12_sortOf_56 rfl (lv_at hl 0 rfl) ?_
            refine lv_bipush (v := 126) hx hb dX12_sortOf_57 (by decide) ?_
            refine lv_icmp_gt (tgt := 64) hx hb dX12_sortOf_59 (by decide) (fun c_8 => by exfalso; have tc_8 : 126 < x.toInt := v_lt c_8; omega) (fun c_8 => ?_)
            have tc_8 : x.toInt ≤ 126 := v_nlt c_8
            refine lv_iconst (v := 5) hx hb dX12_sortOf_62 (by decide) ?_
            have hP9 := hP.sub (ws' := []) [] rfl
            have hD9 := hD.sub (ws' := []) [] (by decide +kernel) rfl
            rw [hQQ]
            exact W.iret (v := 5) hx hb hr (fun t ht hW => ⟨⟨5, 5, rfl, rfl, ⟨by rw [ht]; exact hP9, hD9, by decide, by unfold srt; (repeat (first | rw [if_pos (by omega)] | rw [if_neg (by omega)])) <;> rfl⟩⟩, hS.F ht⟩) hS.2.2 dX12_sortOf_63
        · have tc_4 : x.toInt = 32 := v_eq c_4
          refine lv_iconst (v := 4) hx hb dX12_sortOf_48 (by decide) ?_
          have hP9 := hP.sub (ws' := []) [] rfl
          have hD9 := hD.sub (ws' := []) [] (by decide +kernel) rfl
          rw [hQQ]
          exact W.iret (v := 4) hx hb hr (fun t ht hW => ⟨⟨4, 4, rfl, rfl, ⟨by rw [ht]; exact hP9, hD9, by decide, by unfold srt; (repeat (first | rw [if_pos (by omega)] | rw [if_neg (by omega)])) <;> rfl⟩⟩, hS.F ht⟩) hS.2.2 dX12_sortOf_49
      · have tc_3 : 48 ≤ x.toInt := v_nlt c_3
        refine lv_iload_n hx hb dX12_sortOf_34 rfl (lv_at hl 0 rfl) ?_
        refine lv_bipush (v := 57) hx hb dX12_sortOf_35 (by decide) ?_
        refine lv_icmp_gt (tgt := 42) hx hb dX12_sortOf_37 (by decide) (fun c_9 => ?_) (fun c_9 => ?_)
        · have tc_9 : 57 < x.toInt := v_lt c_9
          refine lv_iload_n hx hb dX12_sortOf_42 rfl (lv_at hl 0 rfl) ?_
          refine lv_bipush (v := 32) hx hb dX12_sortOf_43 (by decide) ?_
          refine lv_icmp_ne (tgt := 50) hx hb dX12_sortOf_45 (by decide) (fun c_10 => ?_) (fun c_10 => by exfalso; have tc_10 : x.toInt = 32 := v_eq c_10; omega)
          have tc_10 : ¬ x.toInt = 32 := v_ne c_10
          refine lv_iload_n hx hb dX12_sortOf_50 rfl (lv_at hl 0 rfl) ?_
          refine lv_bipush (v := 33) hx hb dX12_sortOf_51 (by decide) ?_
          refine lv_icmp_lt (tgt := 64) hx hb dX12_sortOf_53 (by decide) (fun c_11 => by exfalso; have tc_11 : x.toInt < 33 := v_lt c_11; omega) (fun c_11 => ?_)
          have tc_11 : 33 ≤ x.toInt := v_nlt c_11
          refine lv_iload_n hx hb dX12_sortOf_56 rfl (lv_at hl 0 rfl) ?_
          refine lv_bipush (v := 126) hx hb dX12_sortOf_57 (by decide) ?_
          refine lv_icmp_gt (tgt := 64) hx hb dX12_sortOf_59 (by decide) (fun c_12 => by exfalso; have tc_12 : 126 < x.toInt := v_lt c_12; omega) (fun c_12 => ?_)
          have tc_12 : x.toInt ≤ 126 := v_nlt c_12
          refine lv_iconst (v := 5) hx hb dX12_sortOf_62 (by decide) ?_
          have hP9 := hP.sub (ws' := []) [] rfl
          have hD9 := hD.sub (ws' := []) [] (by decide +kernel) rfl
          rw [hQQ]
          exact W.iret (v := 5) hx hb hr (fun t ht hW => ⟨⟨5, 5, rfl, rfl, ⟨by rw [ht]; exact hP9, hD9, by decide, by unfold srt; (repeat (first | rw [if_pos (by omega)] | rw [if_neg (by omega)])) <;> rfl⟩⟩, hS.F ht⟩) hS.2.2 dX12_sortOf_63
        · have tc_9 : x.toInt ≤ 57 := v_nlt c_9
          refine lv_iconst (v := 3) hx hb dX12_sortOf_40 (by decide) ?_
          have hP9 := hP.sub (ws' := []) [] rfl
          have hD9 := hD.sub (ws' := []) [] (by decide +kernel) rfl
          rw [hQQ]
          exact W.iret (v := 3) hx hb hr (fun t ht hW => ⟨⟨3, 3, rfl, rfl, ⟨by rw [ht]; exact hP9, hD9, by decide, by unfold srt; (repeat (first | rw [if_pos (by omega)] | rw [if_neg (by omega)])) <;> rfl⟩⟩, hS.F ht⟩) hS.2.2 dX12_sortOf_41
    · have tc_2 : 65 ≤ x.toInt := v_nlt c_2
      refine lv_iload_n hx hb dX12_sortOf_20 rfl (lv_at hl 0 rfl) ?_
      refine lv_bipush (v := 90) hx hb dX12_sortOf_21 (by decide) ?_
      refine lv_icmp_gt (tgt := 28) hx hb dX12_sortOf_23 (by decide) (fun c_13 => ?_) (fun c_13 => ?_)
      · have tc_13 : 90 < x.toInt := v_lt c_13
        refine lv_iload_n hx hb dX12_sortOf_28 rfl (lv_at hl 0 rfl) ?_
        refine lv_bipush (v := 48) hx hb dX12_sortOf_29 (by decide) ?_
        refine lv_icmp_lt (tgt := 42) hx hb dX12_sortOf_31 (by decide) (fun c_14 => by exfalso; have tc_14 : x.toInt < 48 := v_lt c_14; omega) (fun c_14 => ?_)
        have tc_14 : 48 ≤ x.toInt := v_nlt c_14
        refine lv_iload_n hx hb dX12_sortOf_34 rfl (lv_at hl 0 rfl) ?_
        refine lv_bipush (v := 57) hx hb dX12_sortOf_35 (by decide) ?_
        refine lv_icmp_gt (tgt := 42) hx hb dX12_sortOf_37 (by decide) (fun c_15 => ?_) (fun c_15 => by exfalso; have tc_15 : x.toInt ≤ 57 := v_nlt c_15; omega)
        have tc_15 : 57 < x.toInt := v_lt c_15
        refine lv_iload_n hx hb dX12_sortOf_42 rfl (lv_at hl 0 rfl) ?_
        refine lv_bipush (v := 32) hx hb dX12_sortOf_43 (by decide) ?_
        refine lv_icmp_ne (tgt := 50) hx hb dX12_sortOf_45 (by decide) (fun c_16 => ?_) (fun c_16 => by exfalso; have tc_16 : x.toInt = 32 := v_eq c_16; omega)
        have tc_16 : ¬ x.toInt = 32 := v_ne c_16
        refine lv_iload_n hx hb dX12_sortOf_50 rfl (lv_at hl 0 rfl) ?_
        refine lv_bipush (v := 33) hx hb dX12_sortOf_51 (by decide) ?_
        refine lv_icmp_lt (tgt := 64) hx hb dX12_sortOf_53 (by decide) (fun c_17 => by exfalso; have tc_17 : x.toInt < 33 := v_lt c_17; omega) (fun c_17 => ?_)
        have tc_17 : 33 ≤ x.toInt := v_nlt c_17
        refine lv_iload_n hx hb dX12_sortOf_56 rfl (lv_at hl 0 rfl) ?_
        refine lv_bipush (v := 126) hx hb dX12_sortOf_57 (by decide) ?_
        refine lv_icmp_gt (tgt := 64) hx hb dX12_sortOf_59 (by decide) (fun c_18 => by exfalso; have tc_18 : 126 < x.toInt := v_lt c_18; omega) (fun c_18 => ?_)
        have tc_18 : x.toInt ≤ 126 := v_nlt c_18
        refine lv_iconst (v := 5) hx hb dX12_sortOf_62 (by decide) ?_
        have hP9 := hP.sub (ws' := []) [] rfl
        have hD9 := hD.sub (ws' := []) [] (by decide +kernel) rfl
        rw [hQQ]
        exact W.iret (v := 5) hx hb hr (fun t ht hW => ⟨⟨5, 5, rfl, rfl, ⟨by rw [ht]; exact hP9, hD9, by decide, by unfold srt; (repeat (first | rw [if_pos (by omega)] | rw [if_neg (by omega)])) <;> rfl⟩⟩, hS.F ht⟩) hS.2.2 dX12_sortOf_63
      · have tc_13 : x.toInt ≤ 90 := v_nlt c_13
        refine lv_iconst (v := 2) hx hb dX12_sortOf_26 (by decide) ?_
        have hP9 := hP.sub (ws' := []) [] rfl
        have hD9 := hD.sub (ws' := []) [] (by decide +kernel) rfl
        rw [hQQ]
        exact W.iret (v := 2) hx hb hr (fun t ht hW => ⟨⟨2, 2, rfl, rfl, ⟨by rw [ht]; exact hP9, hD9, by decide, by unfold srt; (repeat (first | rw [if_pos (by omega)] | rw [if_neg (by omega)])) <;> rfl⟩⟩, hS.F ht⟩) hS.2.2 dX12_sortOf_27
  · have tc_1 : 97 ≤ x.toInt := v_nlt c_1
    refine lv_iload_n hx hb dX12_sortOf_6 rfl (lv_at hl 0 rfl) ?_
    refine lv_bipush (v := 122) hx hb dX12_sortOf_7 (by decide) ?_
    refine lv_icmp_gt (tgt := 14) hx hb dX12_sortOf_9 (by decide) (fun c_19 => ?_) (fun c_19 => ?_)
    · have tc_19 : 122 < x.toInt := v_lt c_19
      refine lv_iload_n hx hb dX12_sortOf_14 rfl (lv_at hl 0 rfl) ?_
      refine lv_bipush (v := 65) hx hb dX12_sortOf_15 (by decide) ?_
      refine lv_icmp_lt (tgt := 28) hx hb dX12_sortOf_17 (by decide) (fun c_20 => by exfalso; have tc_20 : x.toInt < 65 := v_lt c_20; omega) (fun c_20 => ?_)
      have tc_20 : 65 ≤ x.toInt := v_nlt c_20
      refine lv_iload_n hx hb dX12_sortOf_20 rfl (lv_at hl 0 rfl) ?_
      refine lv_bipush (v := 90) hx hb dX12_sortOf_21 (by decide) ?_
      refine lv_icmp_gt (tgt := 28) hx hb dX12_sortOf_23 (by decide) (fun c_21 => ?_) (fun c_21 => by exfalso; have tc_21 : x.toInt ≤ 90 := v_nlt c_21; omega)
      have tc_21 : 90 < x.toInt := v_lt c_21
      refine lv_iload_n hx hb dX12_sortOf_28 rfl (lv_at hl 0 rfl) ?_
      refine lv_bipush (v := 48) hx hb dX12_sortOf_29 (by decide) ?_
      refine lv_icmp_lt (tgt := 42) hx hb dX12_sortOf_31 (by decide) (fun c_22 => by exfalso; have tc_22 : x.toInt < 48 := v_lt c_22; omega) (fun c_22 => ?_)
      have tc_22 : 48 ≤ x.toInt := v_nlt c_22
      refine lv_iload_n hx hb dX12_sortOf_34 rfl (lv_at hl 0 rfl) ?_
      refine lv_bipush (v := 57) hx hb dX12_sortOf_35 (by decide) ?_
      refine lv_icmp_gt (tgt := 42) hx hb dX12_sortOf_37 (by decide) (fun c_23 => ?_) (fun c_23 => by exfalso; have tc_23 : x.toInt ≤ 57 := v_nlt c_23; omega)
      have tc_23 : 57 < x.toInt := v_lt c_23
      refine lv_iload_n hx hb dX12_sortOf_42 rfl (lv_at hl 0 rfl) ?_
      refine lv_bipush (v := 32) hx hb dX12_sortOf_43 (by decide) ?_
      refine lv_icmp_ne (tgt := 50) hx hb dX12_sortOf_45 (by decide) (fun c_24 => ?_) (fun c_24 => by exfalso; have tc_24 : x.toInt = 32 := v_eq c_24; omega)
      have tc_24 : ¬ x.toInt = 32 := v_ne c_24
      refine lv_iload_n hx hb dX12_sortOf_50 rfl (lv_at hl 0 rfl) ?_
      refine lv_bipush (v := 33) hx hb dX12_sortOf_51 (by decide) ?_
      refine lv_icmp_lt (tgt := 64) hx hb dX12_sortOf_53 (by decide) (fun c_25 => by exfalso; have tc_25 : x.toInt < 33 := v_lt c_25; omega) (fun c_25 => ?_)
      have tc_25 : 33 ≤ x.toInt := v_nlt c_25
      refine lv_iload_n hx hb dX12_sortOf_56 rfl (lv_at hl 0 rfl) ?_
      refine lv_bipush (v := 126) hx hb dX12_sortOf_57 (by decide) ?_
      refine lv_icmp_gt (tgt := 64) hx hb dX12_sortOf_59 (by decide) (fun c_26 => ?_) (fun c_26 => ?_)
      · have tc_26 : 126 < x.toInt := v_lt c_26
        refine lv_iload_n hx hb dX12_sortOf_64 rfl (lv_at hl 0 rfl) ?_
        refine lv_sipush (v := 192) hx hb dX12_sortOf_65 (by decide) ?_
        refine lv_icmp_lt (tgt := 95) hx hb dX12_sortOf_68 (by decide) (fun c_27 => ?_) (fun c_27 => ?_)
        · have tc_27 : x.toInt < 192 := v_lt c_27
          refine lv_iload_n hx hb dX12_sortOf_95 rfl (lv_at hl 0 rfl) ?_
          refine lv_sipush (v := 880) hx hb dX12_sortOf_96 (by decide) ?_
          refine lv_icmp_lt (tgt := 114) hx hb dX12_sortOf_99 (by decide) (fun c_28 => ?_) (fun c_28 => by exfalso; have tc_28 : 880 ≤ x.toInt := v_nlt c_28; omega)
          have tc_28 : x.toInt < 880 := v_lt c_28
          refine lv_iconst (v := 0) hx hb dX12_sortOf_114 (by decide) ?_
          have hP9 := hP.sub (ws' := []) [] rfl
          have hD9 := hD.sub (ws' := []) [] (by decide +kernel) rfl
          rw [hQQ]
          exact W.iret (v := 0) hx hb hr (fun t ht hW => ⟨⟨0, 0, rfl, rfl, ⟨by rw [ht]; exact hP9, hD9, by decide, by unfold srt; (repeat (first | rw [if_pos (by omega)] | rw [if_neg (by omega)])) <;> rfl⟩⟩, hS.F ht⟩) hS.2.2 dX12_sortOf_115
        · have tc_27 : 192 ≤ x.toInt := v_nlt c_27
          refine lv_iload_n hx hb dX12_sortOf_71 rfl (lv_at hl 0 rfl) ?_
          refine lv_sipush (v := 591) hx hb dX12_sortOf_72 (by decide) ?_
          refine lv_icmp_gt (tgt := 95) hx hb dX12_sortOf_75 (by decide) (fun c_29 => ?_) (fun c_29 => ?_)
          · have tc_29 : 591 < x.toInt := v_lt c_29
            refine lv_iload_n hx hb dX12_sortOf_95 rfl (lv_at hl 0 rfl) ?_
            refine lv_sipush (v := 880) hx hb dX12_sortOf_96 (by decide) ?_
            refine lv_icmp_lt (tgt := 114) hx hb dX12_sortOf_99 (by decide) (fun c_30 => ?_) (fun c_30 => ?_)
            · have tc_30 : x.toInt < 880 := v_lt c_30
              refine lv_iconst (v := 0) hx hb dX12_sortOf_114 (by decide) ?_
              have hP9 := hP.sub (ws' := []) [] rfl
              have hD9 := hD.sub (ws' := []) [] (by decide +kernel) rfl
              rw [hQQ]
              exact W.iret (v := 0) hx hb hr (fun t ht hW => ⟨⟨0, 0, rfl, rfl, ⟨by rw [ht]; exact hP9, hD9, by decide, by unfold srt; (repeat (first | rw [if_pos (by omega)] | rw [if_neg (by omega)])) <;> rfl⟩⟩, hS.F ht⟩) hS.2.2 dX12_sortOf_115
            · have tc_30 : 880 ≤ x.toInt := v_nlt c_30
              refine lv_iload_n hx hb dX12_sortOf_102 rfl (lv_at hl 0 rfl) ?_
              refine lv_sipush (v := 1327) hx hb dX12_sortOf_103 (by decide) ?_
              refine lv_icmp_gt (tgt := 114) hx hb dX12_sortOf_106 (by decide) (fun c_31 => ?_) (fun c_31 => ?_)
              · have tc_31 : 1327 < x.toInt := v_lt c_31
                refine lv_iconst (v := 0) hx hb dX12_sortOf_114 (by decide) ?_
                have hP9 := hP.sub (ws' := []) [] rfl
                have hD9 := hD.sub (ws' := []) [] (by decide +kernel) rfl
                rw [hQQ]
                exact W.iret (v := 0) hx hb hr (fun t ht hW => ⟨⟨0, 0, rfl, rfl, ⟨by rw [ht]; exact hP9, hD9, by decide, by unfold srt; (repeat (first | rw [if_pos (by omega)] | rw [if_neg (by omega)])) <;> rfl⟩⟩, hS.F ht⟩) hS.2.2 dX12_sortOf_115
              · have tc_31 : x.toInt ≤ 1327 := v_nlt c_31
                refine lv_bipush (v := 7) hx hb dX12_sortOf_109 (by decide) ?_
                refine lv_goto (tgt := 115) hx hb dX12_sortOf_111 (by decide) ?_
                have hP9 := hP.sub (ws' := []) [] rfl
                have hD9 := hD.sub (ws' := []) [] (by decide +kernel) rfl
                rw [hQQ]
                exact W.iret (v := 7) hx hb hr (fun t ht hW => ⟨⟨7, 7, rfl, rfl, ⟨by rw [ht]; exact hP9, hD9, by decide, by unfold srt; (repeat (first | rw [if_pos (by omega)] | rw [if_neg (by omega)])) <;> rfl⟩⟩, hS.F ht⟩) hS.2.2 dX12_sortOf_115
          · have tc_29 : x.toInt ≤ 591 := v_nlt c_29
            refine lv_iload_n hx hb dX12_sortOf_78 rfl (lv_at hl 0 rfl) ?_
            refine lv_sipush (v := 215) hx hb dX12_sortOf_79 (by decide) ?_
            refine lv_icmp_eq (tgt := 95) hx hb dX12_sortOf_82 (by decide) (fun c_32 => ?_) (fun c_32 => ?_)
            · have tc_32 : x.toInt = 215 := v_eq c_32
              refine lv_iload_n hx hb dX12_sortOf_95 rfl (lv_at hl 0 rfl) ?_
              refine lv_sipush (v := 880) hx hb dX12_sortOf_96 (by decide) ?_
              refine lv_icmp_lt (tgt := 114) hx hb dX12_sortOf_99 (by decide) (fun c_33 => ?_) (fun c_33 => by exfalso; have tc_33 : 880 ≤ x.toInt := v_nlt c_33; omega)
              have tc_33 : x.toInt < 880 := v_lt c_33
              refine lv_iconst (v := 0) hx hb dX12_sortOf_114 (by decide) ?_
              have hP9 := hP.sub (ws' := []) [] rfl
              have hD9 := hD.sub (ws' := []) [] (by decide +kernel) rfl
              rw [hQQ]
              exact W.iret (v := 0) hx hb hr (fun t ht hW => ⟨⟨0, 0, rfl, rfl, ⟨by rw [ht]; exact hP9, hD9, by decide, by unfold srt; (repeat (first | rw [if_pos (by omega)] | rw [if_neg (by omega)])) <;> rfl⟩⟩, hS.F ht⟩) hS.2.2 dX12_sortOf_115
            · have tc_32 : ¬ x.toInt = 215 := v_ne c_32
              refine lv_iload_n hx hb dX12_sortOf_85 rfl (lv_at hl 0 rfl) ?_
              refine lv_sipush (v := 247) hx hb dX12_sortOf_86 (by decide) ?_
              refine lv_icmp_eq (tgt := 95) hx hb dX12_sortOf_89 (by decide) (fun c_34 => ?_) (fun c_34 => ?_)
              · have tc_34 : x.toInt = 247 := v_eq c_34
                refine lv_iload_n hx hb dX12_sortOf_95 rfl (lv_at hl 0 rfl) ?_
                refine lv_sipush (v := 880) hx hb dX12_sortOf_96 (by decide) ?_
                refine lv_icmp_lt (tgt := 114) hx hb dX12_sortOf_99 (by decide) (fun c_35 => ?_) (fun c_35 => by exfalso; have tc_35 : 880 ≤ x.toInt := v_nlt c_35; omega)
                have tc_35 : x.toInt < 880 := v_lt c_35
                refine lv_iconst (v := 0) hx hb dX12_sortOf_114 (by decide) ?_
                have hP9 := hP.sub (ws' := []) [] rfl
                have hD9 := hD.sub (ws' := []) [] (by decide +kernel) rfl
                rw [hQQ]
                exact W.iret (v := 0) hx hb hr (fun t ht hW => ⟨⟨0, 0, rfl, rfl, ⟨by rw [ht]; exact hP9, hD9, by decide, by unfold srt; (repeat (first | rw [if_pos (by omega)] | rw [if_neg (by omega)])) <;> rfl⟩⟩, hS.F ht⟩) hS.2.2 dX12_sortOf_115
              · have tc_34 : ¬ x.toInt = 247 := v_ne c_34
                refine lv_bipush (v := 6) hx hb dX12_sortOf_92 (by decide) ?_
                have hP9 := hP.sub (ws' := []) [] rfl
                have hD9 := hD.sub (ws' := []) [] (by decide +kernel) rfl
                rw [hQQ]
                exact W.iret (v := 6) hx hb hr (fun t ht hW => ⟨⟨6, 6, rfl, rfl, ⟨by rw [ht]; exact hP9, hD9, by decide, by unfold srt; (repeat (first | rw [if_pos (by omega)] | rw [if_neg (by omega)])) <;> rfl⟩⟩, hS.F ht⟩) hS.2.2 dX12_sortOf_94
      · have tc_26 : x.toInt ≤ 126 := v_nlt c_26
        refine lv_iconst (v := 5) hx hb dX12_sortOf_62 (by decide) ?_
        have hP9 := hP.sub (ws' := []) [] rfl
        have hD9 := hD.sub (ws' := []) [] (by decide +kernel) rfl
        rw [hQQ]
        exact W.iret (v := 5) hx hb hr (fun t ht hW => ⟨⟨5, 5, rfl, rfl, ⟨by rw [ht]; exact hP9, hD9, by decide, by unfold srt; (repeat (first | rw [if_pos (by omega)] | rw [if_neg (by omega)])) <;> rfl⟩⟩, hS.F ht⟩) hS.2.2 dX12_sortOf_63
    · have tc_19 : x.toInt ≤ 122 := v_nlt c_19
      refine lv_iconst (v := 1) hx hb dX12_sortOf_12 (by decide) ?_
      have hP9 := hP.sub (ws' := []) [] rfl
      have hD9 := hD.sub (ws' := []) [] (by decide +kernel) rfl
      rw [hQQ]
      exact W.iret (v := 1) hx hb hr (fun t ht hW => ⟨⟨1, 1, rfl, rfl, ⟨by rw [ht]; exact hP9, hD9, by decide, by unfold srt; (repeat (first | rw [if_pos (by omega)] | rw [if_neg (by omega)])) <;> rfl⟩⟩, hS.F ht⟩) hS.2.2 dX12_sortOf_13

set_option maxHeartbeats 40000000 in
set_option maxRecDepth 100000 in
theorem f_X3_of (l : Launch) (dC : Nat → ClassId) (dI : Nat → Nat → Nat) (cI cS : ClassId) (sz : Nat) (oK : Nat) (k1 : Nat) (k2 : Nat) (lK : Int32) (fK1 : Nat → Int32) (fK2 : Nat → Int32) (x : Int32) (y : Int32) (g_lK : 0 ≤ lK.toInt ∧ lK.toInt ≤ 300) (g_x : 0 ≤ x.toInt ∧ x.toInt ≤ 65535) (g_y : 0 ≤ y.toInt ∧ y.toInt ≤ 65535) (hT : HT 1024 1023 hsK fK1 fK2) (ho : (occ fK2 1024 : Int) ≤ lK.toInt) (hV : prg 1024 (-1) 200 fK2) : Met l yX3_of wsX3_of ({ frames := 2, cells := 0, slots := 0, locals := 47 } : Room) (va_Pc [.ref oK, .int x, .int y] (fun U => U.heap.size = sz ∧ va_P (dC, dI) vwCl [(oK, .inr (3, [.ref k1, .ref k2, .int lK])), (k1, .inl (cI, 1024, .inl fK1)), (k2, .inl (cI, 1024, .inl fK2))] U.heap ∧ va_K (dC, dI) vwCl [(cI, .int), (cS, .short)] U ∧ va_D (fun _ => True) [(oK, .inr (3, [.ref k1, .ref k2, .int lK])), (k1, .inl (cI, 1024, .inl fK1)), (k2, .inl (cI, 1024, .inl fK2))])) (va_Qi (fun (r : Int32) (u : Int32) => r = u) (fun (r : Int32) t => va_P (dC, dI) vwCl [(oK, .inr (3, [.ref k1, .ref k2, .int lK])), (k1, .inl (cI, 1024, .inl fK1)), (k2, .inl (cI, 1024, .inl fK2))] t.heap ∧ va_D (va_A [(oK, .inr (3, [.ref k1, .ref k2, .int lK])), (k1, .inl (cI, 1024, .inl fK1)), (k2, .inl (cI, 1024, .inl fK2))] sz) [(oK, .inr (3, [.ref k1, .ref k2, .int lK])), (k1, .inl (cI, 1024, .inl fK1)), (k2, .inl (cI, 1024, .inl fK2))] ∧ (0 ≤ r.toInt ∧ r.toInt ≤ 200) ∧ (r.toInt = cF (tcC fK1 fK2 x y) x y)) (va_A [(oK, .inr (3, [.ref k1, .ref k2, .int lK])), (k1, .inl (cI, 1024, .inl fK1)), (k2, .inl (cI, 1024, .inl fK2))] sz)) 0 0 (va_A [(oK, .inr (3, [.ref k1, .ref k2, .int lK])), (k1, .inl (cI, 1024, .inl fK1)), (k2, .inl (cI, 1024, .inl fK2))] sz) := by
  refine Met.ofW (cc := cX3_of) (maxL := 7) (ret := (some .int)) (by decide) rfl ?_
  intro p e s m args below meth c s₁ B hml hv
  obtain ⟨rfl, hsz, hP, hK, hD0⟩ := hv
  have hx := B.exec
  have hb := B.bytes
  have hr := B.returns
  have hts := atoms_spec (ws := wsX3_of) B.pre
  have hown : s.vm.findClass RX3 = some m.cls := findClass_of_methodNamed B.named
  have hlocks := B.notSynchronized
  have in_X3 : ∀ w ∈ wsX30, w ∈ wsX3_of := fun _ h => List.mem_cons_of_mem _ (List.mem_append_right _ (h))
  subst hsz
  have hD := hD0.self (sz := s.heap.size)
  generalize hAe : va_A [(oK, .inr (3, [.ref k1, .ref k2, .int lK])), (k1, .inl (cI, 1024, .inl fK1)), (k2, .inl (cI, 1024, .inl fK2))] s.heap.size = A at hD ⊢
  have hA : ∀ q : Nat, s.heap.size ≤ q → A q := fun q h => by rw [← hAe]; exact Or.inr h
  have hS : va_S A s.heap s.heap [] := va_S.rf
  have hP : va_P (dC, dI) vwCl [(oK, .inr (3, [.ref k1, .ref k2, .int lK])), (k1, .inl (cI, 1024, .inl fK1)), (k2, .inl (cI, 1024, .inl fK2))] s.heap := hP
  have hl := lv_entry ([.ref oK, .int x, .int y]) (n := 7) (Nat.le_of_ble_eq_true rfl)
  rw [lg_entry_eq]
  generalize (lg_sl ([.ref oK, .int x, .int y]) ++ List.replicate (7 - (lg_sl ([.ref oK, .int x, .int y])).length) Slot.unset).toArray = ls at hl ⊢
  have hl : lv_has ls 7 [(0, .ref oK), (1, .int x), (2, .int y)] := hl
  obtain ⟨QQ, hQQ⟩ : ∃ QQ : Array Value → State → Outcome → State → Prop, QQ = va_Qi (fun (r : Int32) (u : Int32) => r = u) (fun (r : Int32) t => va_P (dC, dI) vwCl [(oK, .inr (3, [.ref k1, .ref k2, .int lK])), (k1, .inl (cI, 1024, .inl fK1)), (k2, .inl (cI, 1024, .inl fK2))] t.heap ∧ va_D A [(oK, .inr (3, [.ref k1, .ref k2, .int lK])), (k1, .inl (cI, 1024, .inl fK1)), (k2, .inl (cI, 1024, .inl fK2))] ∧ (0 ≤ r.toInt ∧ r.toInt ≤ 200) ∧ (r.toInt = cF (tcC fK1 fK2 x y) x y)) A := ⟨_, rfl⟩
  rw [← hQQ]
  refine lv_aload_n hx hb dX3_of_0 rfl (lv_at hl 0 rfl) ?_
  refine va_get (D := (dC, dI)) (ci := 3) (v := .int lK) (C := RX3) (T := TX3) (N := 3) hx hb hts in_X3 hown hK hP 0 rfl rfl 2 (by decide) (hts (.fieldLink RX3 24 "TextMender$Costs" "length" "I") (List.mem_of_getElem? (i := 1) rfl)) (fun _ h9 => h9) rfl dX3_of_1 ?_
  refine lv_if_ne (tgt := 11) hx hb dX3_of_4 (by decide) (fun c_1 => ?_) (fun c_1 => ?_)
  · have tc_1 : ¬ lK.toInt = 0 := v_ne c_1
    refine lv_aload_n hx hb dX3_of_11 rfl (lv_at hl 0 rfl) ?_
    refine lv_iload_n hx hb dX3_of_12 rfl (lv_at hl 1 rfl) ?_
    refine lv_iload_n hx hb dX3_of_13 rfl (lv_at hl 2 rfl) ?_
    have hPc := hP.sub (ws' := [(oK, .inr (3, [.ref k1, .ref k2, .int lK])), (k1, .inl (cI, 1024, .inl fK1)), (k2, .inl (cI, 1024, .inl fK2))]) [0, 1, 2] rfl
    have hDc := hD.sub (ws' := [(oK, .inr (3, [.ref k1, .ref k2, .int lK])), (k1, .inl (cI, 1024, .inl fK1)), (k2, .inl (cI, 1024, .inl fK2))]) [0, 1, 2] (by decide +kernel) rfl
    have hFc := va_free (wc := [(oK, .inr (3, [.ref k1, .ref k2, .int lK])), (k1, .inl (cI, 1024, .inl fK1)), (k2, .inl (cI, 1024, .inl fK2))]) hD hS hA [0, 1, 2] rfl
    refine va_calli (va_runV (As := [.int x, .int y]) (rest := []) ⟨hx, hb, hml, hown, hts⟩ (f_X3_placeFor l dC dI cI cS s.heap.size oK k1 k2 lK fK1 fK2 x y (g_lK)) (cwV 2 hts gX3_of_X3_placeFor rfl rfl rfl (by decide +kernel) ⟨Nat.le_of_ble_eq_true rfl, Nat.le_of_ble_eq_true rfl⟩) ⟨fun a U g mk q => by obtain ⟨q0, q1, qP, qK, qD⟩ := q; exact ⟨q0, q1, qP, va_K.moved (u := U) (U := U.calling g mk a) (Vm.Alike.refl U.vm) qK, qD⟩, va_recv hK hPc (ci := 3) (q0 := 0) rfl rfl, fun U hU hW => ⟨rfl, by rw [hU], by rw [hU]; exact hPc, va_K.moved hW.alike hK, hDc.weaken (fun _ _ _ _ => trivial)⟩⟩ rfl rfl hl.1 rfl (lv_room (Nat.le_of_ble_eq_true rfl)) dX3_of_14 ⟨Nat.le_of_ble_eq_true rfl, Nat.le_of_ble_eq_true rfl⟩) hS (fun q _ h => hFc q h) hFc (fun r_2 u t H1 locs ht hvm hw hB hz1 hk1 hSn => ?_)
    subst hw
    obtain ⟨hP1, hD1, hf2_0, hf2_1⟩ := hB
    rw [ht] at hP1
    obtain ⟨hPn, hDn⟩ := va_join (wr := []) (w1 := [(oK, .inr (3, [.ref k1, .ref k2, .int lK])), (k1, .inl (cI, 1024, .inl fK1)), (k2, .inl (cI, 1024, .inl fK2))]) hP hD [0, 1, 2] [] rfl rfl (by decide +kernel) (by decide +kernel) hk1 hFc hP1 hD1
    clear hP hD hS hPc hDc hFc hk1 hz1 hvm ht hP1 hD1
    generalize H1 = H at hPn hSn ⊢
    have hP : va_P (dC, dI) vwCl [(oK, .inr (3, [.ref k1, .ref k2, .int lK])), (k1, .inl (cI, 1024, .inl fK1)), (k2, .inl (cI, 1024, .inl fK2))] H := hPn
    have hD : va_D A [(oK, .inr (3, [.ref k1, .ref k2, .int lK])), (k1, .inl (cI, 1024, .inl fK1)), (k2, .inl (cI, 1024, .inl fK2))] := hDn
    have hS := hSn
    clear hPn hDn hSn
    obtain ⟨hpz2, hpf2⟩ := pf_found hf2_1 ho (by omega)
    refine lv_istore_n (lv' := [(3, .int r_2), (0, .ref oK), (1, .int x), (2, .int y)]) hx hb dX3_of_17 rfl hl (by decide) rfl (fun ls hl => ?_)
    refine lv_iload_n hx hb dX3_of_18 rfl (lv_at hl 0 rfl) ?_
    refine lv_iconst (v := (-1)) hx hb dX3_of_19 (by decide) ?_
    refine lv_icmp_eq (tgt := 40) hx hb dX3_of_20 (by decide) (fun c_3 => by exfalso; have tc_3 : r_2.toInt = (-1) := v_eq c_3; omega) (fun c_3 => ?_)
    have tc_3 : ¬ r_2.toInt = (-1) := v_ne c_3
    refine lv_aload_n hx hb dX3_of_23 rfl (lv_at hl 1 rfl) ?_
    refine va_get (D := (dC, dI)) (ci := 3) (v := .ref k2) (C := RX3) (T := TX3) (N := 3) hx hb hts in_X3 hown hK hP 0 rfl rfl 1 (by decide) (hts (.fieldLink RX3 15 "TextMender$Costs" "value" "[I") (List.mem_of_getElem? (i := 2) rfl)) (fun _ h9 => h9) rfl dX3_of_24 ?_
    refine lv_iload_n hx hb dX3_of_27 rfl (lv_at hl 0 rfl) ?_
    refine va_iald hx hb hK hP 2 0 rfl rfl (v_in (by omega)) dX3_of_28 ?_
    refine lv_topi (fun x_4 ex_4 => ?_)
    refine lv_iconst (v := (-1)) hx hb dX3_of_29 (by decide) ?_
    refine lv_icmp_eq (tgt := 40) hx hb dX3_of_30 (by decide) (fun c_5 => ?_) (fun c_5 => ?_)
    · have tc_5 : x_4.toInt = (-1) := v_eq c_5
      refine lv_iload_n hx hb dX3_of_40 rfl (lv_at hl 2 rfl) ?_
      have hPc := hP.sub (ws' := []) [] rfl
      have hDc := hD.sub (ws' := []) [] (by decide +kernel) rfl
      have hFc := va_free (wc := []) hD hS hA [] rfl
      refine va_calli (va_runS (As := [.int x]) (rest := []) ⟨hx, hb, hml, hown, hts⟩ (f_X3_sortOf l dC dI cI cS H.size x ) (va_cwS 1 hts gX3_of_X3_sortOf rfl rfl rfl (by decide +kernel) ⟨Nat.le_of_ble_eq_true rfl, Nat.le_of_ble_eq_true rfl⟩) ⟨fun a U g mk q => by obtain ⟨q0, q1, qP, qK, qD⟩ := q; exact ⟨q0, q1, qP, va_K.moved (u := U) (U := U.calling g mk a) (Vm.Alike.refl U.vm) qK, qD⟩, fun U hU hW => ⟨rfl, by rw [hU], by rw [hU]; exact hPc, va_K.moved hW.alike hK, hDc.weaken (fun _ _ _ _ => trivial)⟩⟩ rfl rfl hl.1 rfl (lv_room (Nat.le_of_ble_eq_true rfl)) dX3_of_41 ⟨Nat.le_of_ble_eq_true rfl, Nat.le_of_ble_eq_true rfl⟩) hS (fun q _ h => hFc q h) hFc (fun r_6 u t H1 locs ht hvm hw hB hz1 hk1 hSn => ?_)
      subst hw
      obtain ⟨hP1, hD1, hf6_0, hf6_1⟩ := hB
      rw [ht] at hP1
      obtain ⟨hPn, hDn⟩ := va_join (wr := [(oK, .inr (3, [.ref k1, .ref k2, .int lK])), (k1, .inl (cI, 1024, .inl fK1)), (k2, .inl (cI, 1024, .inl fK2))]) (w1 := []) hP hD [] [0, 1, 2] rfl rfl (by decide +kernel) (by decide +kernel) hk1 hFc hP1 hD1
      clear hP hD hS hPc hDc hFc hk1 hz1 hvm ht hP1 hD1
      generalize H1 = H at hPn hSn ⊢
      have hP : va_P (dC, dI) vwCl [(oK, .inr (3, [.ref k1, .ref k2, .int lK])), (k1, .inl (cI, 1024, .inl fK1)), (k2, .inl (cI, 1024, .inl fK2))] H := hPn
      have hD : va_D A [(oK, .inr (3, [.ref k1, .ref k2, .int lK])), (k1, .inl (cI, 1024, .inl fK1)), (k2, .inl (cI, 1024, .inl fK2))] := hDn
      have hS := hSn
      clear hPn hDn hSn
      refine lv_istore (lv' := [(4, .int r_6), (3, .int r_2), (0, .ref oK), (1, .int x), (2, .int y)]) hx hb dX3_of_44 hl (by decide) rfl (fun ls hl => ?_)
      refine lv_iload_n hx hb dX3_of_46 rfl (lv_at hl 4 rfl) ?_
      have hPc := hP.sub (ws' := []) [] rfl
      have hDc := hD.sub (ws' := []) [] (by decide +kernel) rfl
      have hFc := va_free (wc := []) hD hS hA [] rfl
      refine va_calli (va_runS (As := [.int y]) (rest := []) ⟨hx, hb, hml, hown, hts⟩ (f_X3_sortOf l dC dI cI cS H.size y ) (va_cwS 1 hts gX3_of_X3_sortOf rfl rfl rfl (by decide +kernel) ⟨Nat.le_of_ble_eq_true rfl, Nat.le_of_ble_eq_true rfl⟩) ⟨fun a U g mk q => by obtain ⟨q0, q1, qP, qK, qD⟩ := q; exact ⟨q0, q1, qP, va_K.moved (u := U) (U := U.calling g mk a) (Vm.Alike.refl U.vm) qK, qD⟩, fun U hU hW => ⟨rfl, by rw [hU], by rw [hU]; exact hPc, va_K.moved hW.alike hK, hDc.weaken (fun _ _ _ _ => trivial)⟩⟩ rfl rfl hl.1 rfl (lv_room (Nat.le_of_ble_eq_true rfl)) dX3_of_47 ⟨Nat.le_of_ble_eq_true rfl, Nat.le_of_ble_eq_true rfl⟩) hS (fun q _ h => hFc q h) hFc (fun r_7 u t H1 locs ht hvm hw hB hz1 hk1 hSn => ?_)
      subst hw
      obtain ⟨hP1, hD1, hf7_0, hf7_1⟩ := hB
      rw [ht] at hP1
      obtain ⟨hPn, hDn⟩ := va_join (wr := [(oK, .inr (3, [.ref k1, .ref k2, .int lK])), (k1, .inl (cI, 1024, .inl fK1)), (k2, .inl (cI, 1024, .inl fK2))]) (w1 := []) hP hD [] [0, 1, 2] rfl rfl (by decide +kernel) (by decide +kernel) hk1 hFc hP1 hD1
      clear hP hD hS hPc hDc hFc hk1 hz1 hvm ht hP1 hD1
      generalize H1 = H at hPn hSn ⊢
      have hP : va_P (dC, dI) vwCl [(oK, .inr (3, [.ref k1, .ref k2, .int lK])), (k1, .inl (cI, 1024, .inl fK1)), (k2, .inl (cI, 1024, .inl fK2))] H := hPn
      have hD : va_D A [(oK, .inr (3, [.ref k1, .ref k2, .int lK])), (k1, .inl (cI, 1024, .inl fK1)), (k2, .inl (cI, 1024, .inl fK2))] := hDn
      have hS := hSn
      clear hPn hDn hSn
      refine lv_istore (lv' := [(5, .int r_7), (4, .int r_6), (3, .int r_2), (0, .ref oK), (1, .int x), (2, .int y)]) hx hb dX3_of_50 hl (by decide) rfl (fun ls hl => ?_)
      refine lv_iload hx hb dX3_of_52 (lv_at hl 1 rfl) ?_
      refine lv_iload hx hb dX3_of_54 (lv_at hl 0 rfl) ?_
      refine lv_icmp_ne (tgt := 63) hx hb dX3_of_56 (by decide) (fun c_8 => ?_) (fun c_8 => ?_)
      · have tc_8 : ¬ r_6.toInt = r_7.toInt := v_ne c_8
        refine lv_bipush (v := 9) hx hb dX3_of_63 (by decide) ?_
        refine lv_istore (lv' := [(6, .int 9), (5, .int r_7), (4, .int r_6), (3, .int r_2), (0, .ref oK), (1, .int x), (2, .int y)]) hx hb dX3_of_65 hl (by decide) rfl (fun ls hl => ?_)
        refine lv_iload hx hb dX3_of_67 (lv_at hl 0 rfl) ?_
        refine lv_iload hx hb dX3_of_69 (lv_at hl 2 rfl) ?_
        refine lv_if_ne (tgt := 79) hx hb dX3_of_71 (by decide) (fun c_9 => ?_) (fun c_9 => ?_)
        · have tc_9 : ¬ r_6.toInt = 0 := v_ne c_9
          refine lv_iconst (v := 0) hx hb dX3_of_79 (by decide) ?_
          refine lv_iadd hx hb dX3_of_80 ?_
          refine k_i (y := 9) (by decide) ?_
          refine lv_istore (lv' := [(6, .int 9), (5, .int r_7), (4, .int r_6), (3, .int r_2), (0, .ref oK), (1, .int x), (2, .int y)]) hx hb dX3_of_81 hl (by decide) rfl (fun ls hl => ?_)
          refine lv_iload hx hb dX3_of_83 (lv_at hl 0 rfl) ?_
          refine lv_iload hx hb dX3_of_85 (lv_at hl 1 rfl) ?_
          refine lv_if_ne (tgt := 95) hx hb dX3_of_87 (by decide) (fun c_10 => ?_) (fun c_10 => ?_)
          · have tc_10 : ¬ r_7.toInt = 0 := v_ne c_10
            refine lv_iconst (v := 0) hx hb dX3_of_95 (by decide) ?_
            refine lv_iadd hx hb dX3_of_96 ?_
            refine k_i (y := 9) (by decide) ?_
            have hP9 := hP.sub (ws' := [(oK, .inr (3, [.ref k1, .ref k2, .int lK])), (k1, .inl (cI, 1024, .inl fK1)), (k2, .inl (cI, 1024, .inl fK2))]) [0, 1, 2] rfl
            have hD9 := hD.sub (ws' := [(oK, .inr (3, [.ref k1, .ref k2, .int lK])), (k1, .inl (cI, 1024, .inl fK1)), (k2, .inl (cI, 1024, .inl fK2))]) [0, 1, 2] (by decide +kernel) rfl
            rw [hQQ]
            exact W.iret (v := 9) hx hb hr (fun t ht hW => ⟨⟨9, 9, rfl, rfl, ⟨by rw [ht]; exact hP9, hD9, by decide, by first | (exfalso; omega) | (rw [tc_free hT hpf2 (by rw [← ex_4]; exact c_5)]; unfold cF sC; rw [if_pos rfl, ← hf6_1, ← hf7_1]; (repeat (first | rw [if_pos (by omega)] | rw [if_neg (by omega)])) <;> rfl)⟩⟩, hS.F ht⟩) hS.2.2 dX3_of_97
          · have tc_10 : r_7.toInt = 0 := v_eq c_10
            refine lv_bipush (v := 30) hx hb dX3_of_90 (by decide) ?_
            refine lv_goto (tgt := 96) hx hb dX3_of_92 (by decide) ?_
            refine lv_iadd hx hb dX3_of_96 ?_
            refine k_i (y := 39) (by decide) ?_
            have hP9 := hP.sub (ws' := [(oK, .inr (3, [.ref k1, .ref k2, .int lK])), (k1, .inl (cI, 1024, .inl fK1)), (k2, .inl (cI, 1024, .inl fK2))]) [0, 1, 2] rfl
            have hD9 := hD.sub (ws' := [(oK, .inr (3, [.ref k1, .ref k2, .int lK])), (k1, .inl (cI, 1024, .inl fK1)), (k2, .inl (cI, 1024, .inl fK2))]) [0, 1, 2] (by decide +kernel) rfl
            rw [hQQ]
            exact W.iret (v := 39) hx hb hr (fun t ht hW => ⟨⟨39, 39, rfl, rfl, ⟨by rw [ht]; exact hP9, hD9, by decide, by first | (exfalso; omega) | (rw [tc_free hT hpf2 (by rw [← ex_4]; exact c_5)]; unfold cF sC; rw [if_pos rfl, ← hf6_1, ← hf7_1]; (repeat (first | rw [if_pos (by omega)] | rw [if_neg (by omega)])) <;> rfl)⟩⟩, hS.F ht⟩) hS.2.2 dX3_of_97
        · have tc_9 : r_6.toInt = 0 := v_eq c_9
          refine lv_bipush (v := 30) hx hb dX3_of_74 (by decide) ?_
          refine lv_goto (tgt := 80) hx hb dX3_of_76 (by decide) ?_
          refine lv_iadd hx hb dX3_of_80 ?_
          refine k_i (y := 39) (by decide) ?_
          refine lv_istore (lv' := [(6, .int 39), (5, .int r_7), (4, .int r_6), (3, .int r_2), (0, .ref oK), (1, .int x), (2, .int y)]) hx hb dX3_of_81 hl (by decide) rfl (fun ls hl => ?_)
          refine lv_iload hx hb dX3_of_83 (lv_at hl 0 rfl) ?_
          refine lv_iload hx hb dX3_of_85 (lv_at hl 1 rfl) ?_
          refine lv_if_ne (tgt := 95) hx hb dX3_of_87 (by decide) (fun c_11 => ?_) (fun c_11 => ?_)
          · have tc_11 : ¬ r_7.toInt = 0 := v_ne c_11
            refine lv_iconst (v := 0) hx hb dX3_of_95 (by decide) ?_
            refine lv_iadd hx hb dX3_of_96 ?_
            refine k_i (y := 39) (by decide) ?_
            have hP9 := hP.sub (ws' := [(oK, .inr (3, [.ref k1, .ref k2, .int lK])), (k1, .inl (cI, 1024, .inl fK1)), (k2, .inl (cI, 1024, .inl fK2))]) [0, 1, 2] rfl
            have hD9 := hD.sub (ws' := [(oK, .inr (3, [.ref k1, .ref k2, .int lK])), (k1, .inl (cI, 1024, .inl fK1)), (k2, .inl (cI, 1024, .inl fK2))]) [0, 1, 2] (by decide +kernel) rfl
            rw [hQQ]
            exact W.iret (v := 39) hx hb hr (fun t ht hW => ⟨⟨39, 39, rfl, rfl, ⟨by rw [ht]; exact hP9, hD9, by decide, by first | (exfalso; omega) | (rw [tc_free hT hpf2 (by rw [← ex_4]; exact c_5)]; unfold cF sC; rw [if_pos rfl, ← hf6_1, ← hf7_1]; (repeat (first | rw [if_pos (by omega)] | rw [if_neg (by omega)])) <;> rfl)⟩⟩, hS.F ht⟩) hS.2.2 dX3_of_97
          · have tc_11 : r_7.toInt = 0 := v_eq c_11
            refine lv_bipush (v := 30) hx hb dX3_of_90 (by decide) ?_
            refine lv_goto (tgt := 96) hx hb dX3_of_92 (by decide) ?_
            refine lv_iadd hx hb dX3_of_96 ?_
            refine k_i (y := 69) (by decide) ?_
            have hP9 := hP.sub (ws' := [(oK, .inr (3, [.ref k1, .ref k2, .int lK])), (k1, .inl (cI, 1024, .inl fK1)), (k2, .inl (cI, 1024, .inl fK2))]) [0, 1, 2] rfl
            have hD9 := hD.sub (ws' := [(oK, .inr (3, [.ref k1, .ref k2, .int lK])), (k1, .inl (cI, 1024, .inl fK1)), (k2, .inl (cI, 1024, .inl fK2))]) [0, 1, 2] (by decide +kernel) rfl
            rw [hQQ]
            exact W.iret (v := 69) hx hb hr (fun t ht hW => ⟨⟨69, 69, rfl, rfl, ⟨by rw [ht]; exact hP9, hD9, by decide, by first | (exfalso; omega) | (rw [tc_free hT hpf2 (by rw [← ex_4]; exact c_5)]; unfold cF sC; rw [if_pos rfl, ← hf6_1, ← hf7_1]; (repeat (first | rw [if_pos (by omega)] | rw [if_neg (by omega)])) <;> rfl)⟩⟩, hS.F ht⟩) hS.2.2 dX3_of_97
      · have tc_8 : r_6.toInt = r_7.toInt := v_eq c_8
        refine lv_iconst (v := 4) hx hb dX3_of_59 (by decide) ?_
        refine lv_goto (tgt := 65) hx hb dX3_of_60 (by decide) ?_
        refine lv_istore (lv' := [(6, .int 4), (5, .int r_7), (4, .int r_6), (3, .int r_2), (0, .ref oK), (1, .int x), (2, .int y)]) hx hb dX3_of_65 hl (by decide) rfl (fun ls hl => ?_)
        refine lv_iload hx hb dX3_of_67 (lv_at hl 0 rfl) ?_
        refine lv_iload hx hb dX3_of_69 (lv_at hl 2 rfl) ?_
        refine lv_if_ne (tgt := 79) hx hb dX3_of_71 (by decide) (fun c_12 => ?_) (fun c_12 => ?_)
        · have tc_12 : ¬ r_6.toInt = 0 := v_ne c_12
          refine lv_iconst (v := 0) hx hb dX3_of_79 (by decide) ?_
          refine lv_iadd hx hb dX3_of_80 ?_
          refine k_i (y := 4) (by decide) ?_
          refine lv_istore (lv' := [(6, .int 4), (5, .int r_7), (4, .int r_6), (3, .int r_2), (0, .ref oK), (1, .int x), (2, .int y)]) hx hb dX3_of_81 hl (by decide) rfl (fun ls hl => ?_)
          refine lv_iload hx hb dX3_of_83 (lv_at hl 0 rfl) ?_
          refine lv_iload hx hb dX3_of_85 (lv_at hl 1 rfl) ?_
          refine lv_if_ne (tgt := 95) hx hb dX3_of_87 (by decide) (fun c_13 => ?_) (fun c_13 => ?_)
          · have tc_13 : ¬ r_7.toInt = 0 := v_ne c_13
            refine lv_iconst (v := 0) hx hb dX3_of_95 (by decide) ?_
            refine lv_iadd hx hb dX3_of_96 ?_
            refine k_i (y := 4) (by decide) ?_
            have hP9 := hP.sub (ws' := [(oK, .inr (3, [.ref k1, .ref k2, .int lK])), (k1, .inl (cI, 1024, .inl fK1)), (k2, .inl (cI, 1024, .inl fK2))]) [0, 1, 2] rfl
            have hD9 := hD.sub (ws' := [(oK, .inr (3, [.ref k1, .ref k2, .int lK])), (k1, .inl (cI, 1024, .inl fK1)), (k2, .inl (cI, 1024, .inl fK2))]) [0, 1, 2] (by decide +kernel) rfl
            rw [hQQ]
            exact W.iret (v := 4) hx hb hr (fun t ht hW => ⟨⟨4, 4, rfl, rfl, ⟨by rw [ht]; exact hP9, hD9, by decide, by first | (exfalso; omega) | (rw [tc_free hT hpf2 (by rw [← ex_4]; exact c_5)]; unfold cF sC; rw [if_pos rfl, ← hf6_1, ← hf7_1]; (repeat (first | rw [if_pos (by omega)] | rw [if_neg (by omega)])) <;> rfl)⟩⟩, hS.F ht⟩) hS.2.2 dX3_of_97
          · have tc_13 : r_7.toInt = 0 := v_eq c_13
            refine lv_bipush (v := 30) hx hb dX3_of_90 (by decide) ?_
            refine lv_goto (tgt := 96) hx hb dX3_of_92 (by decide) ?_
            refine lv_iadd hx hb dX3_of_96 ?_
            refine k_i (y := 34) (by decide) ?_
            have hP9 := hP.sub (ws' := [(oK, .inr (3, [.ref k1, .ref k2, .int lK])), (k1, .inl (cI, 1024, .inl fK1)), (k2, .inl (cI, 1024, .inl fK2))]) [0, 1, 2] rfl
            have hD9 := hD.sub (ws' := [(oK, .inr (3, [.ref k1, .ref k2, .int lK])), (k1, .inl (cI, 1024, .inl fK1)), (k2, .inl (cI, 1024, .inl fK2))]) [0, 1, 2] (by decide +kernel) rfl
            rw [hQQ]
            exact W.iret (v := 34) hx hb hr (fun t ht hW => ⟨⟨34, 34, rfl, rfl, ⟨by rw [ht]; exact hP9, hD9, by decide, by first | (exfalso; omega) | (rw [tc_free hT hpf2 (by rw [← ex_4]; exact c_5)]; unfold cF sC; rw [if_pos rfl, ← hf6_1, ← hf7_1]; (repeat (first | rw [if_pos (by omega)] | rw [if_neg (by omega)])) <;> rfl)⟩⟩, hS.F ht⟩) hS.2.2 dX3_of_97
        · have tc_12 : r_6.toInt = 0 := v_eq c_12
          refine lv_bipush (v := 30) hx hb dX3_of_74 (by decide) ?_
          refine lv_goto (tgt := 80) hx hb dX3_of_76 (by decide) ?_
          refine lv_iadd hx hb dX3_of_80 ?_
          refine k_i (y := 34) (by decide) ?_
          refine lv_istore (lv' := [(6, .int 34), (5, .int r_7), (4, .int r_6), (3, .int r_2), (0, .ref oK), (1, .int x), (2, .int y)]) hx hb dX3_of_81 hl (by decide) rfl (fun ls hl => ?_)
          refine lv_iload hx hb dX3_of_83 (lv_at hl 0 rfl) ?_
          refine lv_iload hx hb dX3_of_85 (lv_at hl 1 rfl) ?_
          refine lv_if_ne (tgt := 95) hx hb dX3_of_87 (by decide) (fun c_14 => ?_) (fun c_14 => ?_)
          · have tc_14 : ¬ r_7.toInt = 0 := v_ne c_14
            refine lv_iconst (v := 0) hx hb dX3_of_95 (by decide) ?_
            refine lv_iadd hx hb dX3_of_96 ?_
            refine k_i (y := 34) (by decide) ?_
            have hP9 := hP.sub (ws' := [(oK, .inr (3, [.ref k1, .ref k2, .int lK])), (k1, .inl (cI, 1024, .inl fK1)), (k2, .inl (cI, 1024, .inl fK2))]) [0, 1, 2] rfl
            have hD9 := hD.sub (ws' := [(oK, .inr (3, [.ref k1, .ref k2, .int lK])), (k1, .inl (cI, 1024, .inl fK1)), (k2, .inl (cI, 1024, .inl fK2))]) [0, 1, 2] (by decide +kernel) rfl
            rw [hQQ]
            exact W.iret (v := 34) hx hb hr (fun t ht hW => ⟨⟨34, 34, rfl, rfl, ⟨by rw [ht]; exact hP9, hD9, by decide, by first | (exfalso; omega) | (rw [tc_free hT hpf2 (by rw [← ex_4]; exact c_5)]; unfold cF sC; rw [if_pos rfl, ← hf6_1, ← hf7_1]; (repeat (first | rw [if_pos (by omega)] | rw [if_neg (by omega)])) <;> rfl)⟩⟩, hS.F ht⟩) hS.2.2 dX3_of_97
          · have tc_14 : r_7.toInt = 0 := v_eq c_14
            refine lv_bipush (v := 30) hx hb dX3_of_90 (by decide) ?_
            refine lv_goto (tgt := 96) hx hb dX3_of_92 (by decide) ?_
            refine lv_iadd hx hb dX3_of_96 ?_
            refine k_i (y := 64) (by decide) ?_
            have hP9 := hP.sub (ws' := [(oK, .inr (3, [.ref k1, .ref k2, .int lK])), (k1, .inl (cI, 1024, .inl fK1)), (k2, .inl (cI, 1024, .inl fK2))]) [0, 1, 2] rfl
            have hD9 := hD.sub (ws' := [(oK, .inr (3, [.ref k1, .ref k2, .int lK])), (k1, .inl (cI, 1024, .inl fK1)), (k2, .inl (cI, 1024, .inl fK2))]) [0, 1, 2] (by decide +kernel) rfl
            rw [hQQ]
            exact W.iret (v := 64) hx hb hr (fun t ht hW => ⟨⟨64, 64, rfl, rfl, ⟨by rw [ht]; exact hP9, hD9, by decide, by first | (exfalso; omega) | (rw [tc_free hT hpf2 (by rw [← ex_4]; exact c_5)]; unfold cF sC; rw [if_pos rfl, ← hf6_1, ← hf7_1]; (repeat (first | rw [if_pos (by omega)] | rw [if_neg (by omega)])) <;> rfl)⟩⟩, hS.F ht⟩) hS.2.2 dX3_of_97
    · have tc_5 : ¬ x_4.toInt = (-1) := v_ne c_5
      have hvr : -1 ≤ x_4.toInt ∧ x_4.toInt ≤ 200 := prg_at hV ex_4 (by omega) (by omega)
      refine lv_aload_n hx hb dX3_of_33 rfl (lv_at hl 1 rfl) ?_
      refine va_get (D := (dC, dI)) (ci := 3) (v := .ref k2) (C := RX3) (T := TX3) (N := 3) hx hb hts in_X3 hown hK hP 0 rfl rfl 1 (by decide) (hts (.fieldLink RX3 15 "TextMender$Costs" "value" "[I") (List.mem_of_getElem? (i := 2) rfl)) (fun _ h9 => h9) rfl dX3_of_34 ?_
      refine lv_iload_n hx hb dX3_of_37 rfl (lv_at hl 0 rfl) ?_
      refine va_iald hx hb hK hP 2 0 rfl rfl (v_in (by omega)) dX3_of_38 ?_
      refine k_i (y := x_4) ex_4.symm ?_
      have hP9 := hP.sub (ws' := [(oK, .inr (3, [.ref k1, .ref k2, .int lK])), (k1, .inl (cI, 1024, .inl fK1)), (k2, .inl (cI, 1024, .inl fK2))]) [0, 1, 2] rfl
      have hD9 := hD.sub (ws' := [(oK, .inr (3, [.ref k1, .ref k2, .int lK])), (k1, .inl (cI, 1024, .inl fK1)), (k2, .inl (cI, 1024, .inl fK2))]) [0, 1, 2] (by decide +kernel) rfl
      rw [hQQ]
      exact W.iret (v := x_4) hx hb hr (fun t ht hW => ⟨⟨x_4, x_4, rfl, rfl, ⟨by rw [ht]; exact hP9, hD9, by omega, by rw [tc_told hT hpf2 (by omega) (by omega) ex_4 c_5]; unfold cF; rw [if_neg c_5]⟩⟩, hS.F ht⟩) hS.2.2 dX3_of_39
  · have tc_1 : lK.toInt = 0 := v_eq c_1
    refine lv_iconst (v := (-1)) hx hb dX3_of_7 (by decide) ?_
    refine lv_goto (tgt := 17) hx hb dX3_of_8 (by decide) ?_
    refine lv_istore_n (lv' := [(3, .int (-1)), (0, .ref oK), (1, .int x), (2, .int y)]) hx hb dX3_of_17 rfl hl (by decide) rfl (fun ls hl => ?_)
    refine lv_iload_n hx hb dX3_of_18 rfl (lv_at hl 0 rfl) ?_
    refine lv_iconst (v := (-1)) hx hb dX3_of_19 (by decide) ?_
    refine lv_icmp_eq (tgt := 40) hx hb dX3_of_20 (by decide) (fun c_15 => ?_) (fun c_15 => absurd c_15 (by decide))
    refine lv_iload_n hx hb dX3_of_40 rfl (lv_at hl 2 rfl) ?_
    have hPc := hP.sub (ws' := []) [] rfl
    have hDc := hD.sub (ws' := []) [] (by decide +kernel) rfl
    have hFc := va_free (wc := []) hD hS hA [] rfl
    refine va_calli (va_runS (As := [.int x]) (rest := []) ⟨hx, hb, hml, hown, hts⟩ (f_X3_sortOf l dC dI cI cS s.heap.size x ) (va_cwS 1 hts gX3_of_X3_sortOf rfl rfl rfl (by decide +kernel) ⟨Nat.le_of_ble_eq_true rfl, Nat.le_of_ble_eq_true rfl⟩) ⟨fun a U g mk q => by obtain ⟨q0, q1, qP, qK, qD⟩ := q; exact ⟨q0, q1, qP, va_K.moved (u := U) (U := U.calling g mk a) (Vm.Alike.refl U.vm) qK, qD⟩, fun U hU hW => ⟨rfl, by rw [hU], by rw [hU]; exact hPc, va_K.moved hW.alike hK, hDc.weaken (fun _ _ _ _ => trivial)⟩⟩ rfl rfl hl.1 rfl (lv_room (Nat.le_of_ble_eq_true rfl)) dX3_of_41 ⟨Nat.le_of_ble_eq_true rfl, Nat.le_of_ble_eq_true rfl⟩) hS (fun q _ h => hFc q h) hFc (fun r_16 u t H1 locs ht hvm hw hB hz1 hk1 hSn => ?_)
    subst hw
    obtain ⟨hP1, hD1, hf16_0, hf16_1⟩ := hB
    rw [ht] at hP1
    obtain ⟨hPn, hDn⟩ := va_join (wr := [(oK, .inr (3, [.ref k1, .ref k2, .int lK])), (k1, .inl (cI, 1024, .inl fK1)), (k2, .inl (cI, 1024, .inl fK2))]) (w1 := []) hP hD [] [0, 1, 2] rfl rfl (by decide +kernel) (by decide +kernel) hk1 hFc hP1 hD1
    clear hP hD hS hPc hDc hFc hk1 hz1 hvm ht hP1 hD1
    generalize H1 = H at hPn hSn ⊢
    have hP : va_P (dC, dI) vwCl [(oK, .inr (3, [.ref k1, .ref k2, .int lK])), (k1, .inl (cI, 1024, .inl fK1)), (k2, .inl (cI, 1024, .inl fK2))] H := hPn
    have hD : va_D A [(oK, .inr (3, [.ref k1, .ref k2, .int lK])), (k1, .inl (cI, 1024, .inl fK1)), (k2, .inl (cI, 1024, .inl fK2))] := hDn
    have hS := hSn
    clear hPn hDn hSn
    refine lv_istore (lv' := [(4, .int r_16), (3, .int (-1)), (0, .ref oK), (1, .int x), (2, .int y)]) hx hb dX3_of_44 hl (by decide) rfl (fun ls hl => ?_)
    refine lv_iload_n hx hb dX3_of_46 rfl (lv_at hl 4 rfl) ?_
    have hPc := hP.sub (ws' := []) [] rfl
    have hDc := hD.sub (ws' := []) [] (by decide +kernel) rfl
    have hFc := va_free (wc := []) hD hS hA [] rfl
    refine va_calli (va_runS (As := [.int y]) (rest := []) ⟨hx, hb, hml, hown, hts⟩ (f_X3_sortOf l dC dI cI cS H.size y ) (va_cwS 1 hts gX3_of_X3_sortOf rfl rfl rfl (by decide +kernel) ⟨Nat.le_of_ble_eq_true rfl, Nat.le_of_ble_eq_true rfl⟩) ⟨fun a U g mk q => by obtain ⟨q0, q1, qP, qK, qD⟩ := q; exact ⟨q0, q1, qP, va_K.moved (u := U) (U := U.calling g mk a) (Vm.Alike.refl U.vm) qK, qD⟩, fun U hU hW => ⟨rfl, by rw [hU], by rw [hU]; exact hPc, va_K.moved hW.alike hK, hDc.weaken (fun _ _ _ _ => trivial)⟩⟩ rfl rfl hl.1 rfl (lv_room (Nat.le_of_ble_eq_true rfl)) dX3_of_47 ⟨Nat.le_of_ble_eq_true rfl, Nat.le_of_ble_eq_true rfl⟩) hS (fun q _ h => hFc q h) hFc (fun r_17 u t H1 locs ht hvm hw hB hz1 hk1 hSn => ?_)
    subst hw
    obtain ⟨hP1, hD1, hf17_0, hf17_1⟩ := hB
    rw [ht] at hP1
    obtain ⟨hPn, hDn⟩ := va_join (wr := [(oK, .inr (3, [.ref k1, .ref k2, .int lK])), (k1, .inl (cI, 1024, .inl fK1)), (k2, .inl (cI, 1024, .inl fK2))]) (w1 := []) hP hD [] [0, 1, 2] rfl rfl (by decide +kernel) (by decide +kernel) hk1 hFc hP1 hD1
    clear hP hD hS hPc hDc hFc hk1 hz1 hvm ht hP1 hD1
    generalize H1 = H at hPn hSn ⊢
    have hP : va_P (dC, dI) vwCl [(oK, .inr (3, [.ref k1, .ref k2, .int lK])), (k1, .inl (cI, 1024, .inl fK1)), (k2, .inl (cI, 1024, .inl fK2))] H := hPn
    have hD : va_D A [(oK, .inr (3, [.ref k1, .ref k2, .int lK])), (k1, .inl (cI, 1024, .inl fK1)), (k2, .inl (cI, 1024, .inl fK2))] := hDn
    have hS := hSn
    clear hPn hDn hSn
    refine lv_istore (lv' := [(5, .int r_17), (4, .int r_16), (3, .int (-1)), (0, .ref oK), (1, .int x), (2, .int y)]) hx hb dX3_of_50 hl (by decide) rfl (fun ls hl => ?_)
    refine lv_iload hx hb dX3_of_52 (lv_at hl 1 rfl) ?_
    refine lv_iload hx hb dX3_of_54 (lv_at hl 0 rfl) ?_
    refine lv_icmp_ne (tgt := 63) hx hb dX3_of_56 (by decide) (fun c_18 => ?_) (fun c_18 => ?_)
    · have tc_18 : ¬ r_16.toInt = r_17.toInt := v_ne c_18
      refine lv_bipush (v := 9) hx hb dX3_of_63 (by decide) ?_
      refine lv_istore (lv' := [(6, .int 9), (5, .int r_17), (4, .int r_16), (3, .int (-1)), (0, .ref oK), (1, .int x), (2, .int y)]) hx hb dX3_of_65 hl (by decide) rfl (fun ls hl => ?_)
      refine lv_iload hx hb dX3_of_67 (lv_at hl 0 rfl) ?_
      refine lv_iload hx hb dX3_of_69 (lv_at hl 2 rfl) ?_
      refine lv_if_ne (tgt := 79) hx hb dX3_of_71 (by decide) (fun c_19 => ?_) (fun c_19 => ?_)
      · have tc_19 : ¬ r_16.toInt = 0 := v_ne c_19
        refine lv_iconst (v := 0) hx hb dX3_of_79 (by decide) ?_
        refine lv_iadd hx hb dX3_of_80 ?_
        refine k_i (y := 9) (by decide) ?_
        refine lv_istore (lv' := [(6, .int 9), (5, .int r_17), (4, .int r_16), (3, .int (-1)), (0, .ref oK), (1, .int x), (2, .int y)]) hx hb dX3_of_81 hl (by decide) rfl (fun ls hl => ?_)
        refine lv_iload hx hb dX3_of_83 (lv_at hl 0 rfl) ?_
        refine lv_iload hx hb dX3_of_85 (lv_at hl 1 rfl) ?_
        refine lv_if_ne (tgt := 95) hx hb dX3_of_87 (by decide) (fun c_20 => ?_) (fun c_20 => ?_)
        · have tc_20 : ¬ r_17.toInt = 0 := v_ne c_20
          refine lv_iconst (v := 0) hx hb dX3_of_95 (by decide) ?_
          refine lv_iadd hx hb dX3_of_96 ?_
          refine k_i (y := 9) (by decide) ?_
          have hP9 := hP.sub (ws' := [(oK, .inr (3, [.ref k1, .ref k2, .int lK])), (k1, .inl (cI, 1024, .inl fK1)), (k2, .inl (cI, 1024, .inl fK2))]) [0, 1, 2] rfl
          have hD9 := hD.sub (ws' := [(oK, .inr (3, [.ref k1, .ref k2, .int lK])), (k1, .inl (cI, 1024, .inl fK1)), (k2, .inl (cI, 1024, .inl fK2))]) [0, 1, 2] (by decide +kernel) rfl
          rw [hQQ]
          exact W.iret (v := 9) hx hb hr (fun t ht hW => ⟨⟨9, 9, rfl, rfl, ⟨by rw [ht]; exact hP9, hD9, by decide, by first | (exfalso; omega) | (rw [tc_empty ho (by omega)]; unfold cF sC; rw [if_pos rfl, ← hf16_1, ← hf17_1]; (repeat (first | rw [if_pos (by omega)] | rw [if_neg (by omega)])) <;> rfl)⟩⟩, hS.F ht⟩) hS.2.2 dX3_of_97
        · have tc_20 : r_17.toInt = 0 := v_eq c_20
          refine lv_bipush (v := 30) hx hb dX3_of_90 (by decide) ?_
          refine lv_goto (tgt := 96) hx hb dX3_of_92 (by decide) ?_
          refine lv_iadd hx hb dX3_of_96 ?_
          refine k_i (y := 39) (by decide) ?_
          have hP9 := hP.sub (ws' := [(oK, .inr (3, [.ref k1, .ref k2, .int lK])), (k1, .inl (cI, 1024, .inl fK1)), (k2, .inl (cI, 1024, .inl fK2))]) [0, 1, 2] rfl
          have hD9 := hD.sub (ws' := [(oK, .inr (3, [.ref k1, .ref k2, .int lK])), (k1, .inl (cI, 1024, .inl fK1)), (k2, .inl (cI, 1024, .inl fK2))]) [0, 1, 2] (by decide +kernel) rfl
          rw [hQQ]
          exact W.iret (v := 39) hx hb hr (fun t ht hW => ⟨⟨39, 39, rfl, rfl, ⟨by rw [ht]; exact hP9, hD9, by decide, by first | (exfalso; omega) | (rw [tc_empty ho (by omega)]; unfold cF sC; rw [if_pos rfl, ← hf16_1, ← hf17_1]; (repeat (first | rw [if_pos (by omega)] | rw [if_neg (by omega)])) <;> rfl)⟩⟩, hS.F ht⟩) hS.2.2 dX3_of_97
      · have tc_19 : r_16.toInt = 0 := v_eq c_19
        refine lv_bipush (v := 30) hx hb dX3_of_74 (by decide) ?_
        refine lv_goto (tgt := 80) hx hb dX3_of_76 (by decide) ?_
        refine lv_iadd hx hb dX3_of_80 ?_
        refine k_i (y := 39) (by decide) ?_
        refine lv_istore (lv' := [(6, .int 39), (5, .int r_17), (4, .int r_16), (3, .int (-1)), (0, .ref oK), (1, .int x), (2, .int y)]) hx hb dX3_of_81 hl (by decide) rfl (fun ls hl => ?_)
        refine lv_iload hx hb dX3_of_83 (lv_at hl 0 rfl) ?_
        refine lv_iload hx hb dX3_of_85 (lv_at hl 1 rfl) ?_
        refine lv_if_ne (tgt := 95) hx hb dX3_of_87 (by decide) (fun c_21 => ?_) (fun c_21 => ?_)
        · have tc_21 : ¬ r_17.toInt = 0 := v_ne c_21
          refine lv_iconst (v := 0) hx hb dX3_of_95 (by decide) ?_
          refine lv_iadd hx hb dX3_of_96 ?_
          refine k_i (y := 39) (by decide) ?_
          have hP9 := hP.sub (ws' := [(oK, .inr (3, [.ref k1, .ref k2, .int lK])), (k1, .inl (cI, 1024, .inl fK1)), (k2, .inl (cI, 1024, .inl fK2))]) [0, 1, 2] rfl
          have hD9 := hD.sub (ws' := [(oK, .inr (3, [.ref k1, .ref k2, .int lK])), (k1, .inl (cI, 1024, .inl fK1)), (k2, .inl (cI, 1024, .inl fK2))]) [0, 1, 2] (by decide +kernel) rfl
          rw [hQQ]
          exact W.iret (v := 39) hx hb hr (fun t ht hW => ⟨⟨39, 39, rfl, rfl, ⟨by rw [ht]; exact hP9, hD9, by decide, by first | (exfalso; omega) | (rw [tc_empty ho (by omega)]; unfold cF sC; rw [if_pos rfl, ← hf16_1, ← hf17_1]; (repeat (first | rw [if_pos (by omega)] | rw [if_neg (by omega)])) <;> rfl)⟩⟩, hS.F ht⟩) hS.2.2 dX3_of_97
        · have tc_21 : r_17.toInt = 0 := v_eq c_21
          refine lv_bipush (v := 30) hx hb dX3_of_90 (by decide) ?_
          refine lv_goto (tgt := 96) hx hb dX3_of_92 (by decide) ?_
          refine lv_iadd hx hb dX3_of_96 ?_
          refine k_i (y := 69) (by decide) ?_
          have hP9 := hP.sub (ws' := [(oK, .inr (3, [.ref k1, .ref k2, .int lK])), (k1, .inl (cI, 1024, .inl fK1)), (k2, .inl (cI, 1024, .inl fK2))]) [0, 1, 2] rfl
          have hD9 := hD.sub (ws' := [(oK, .inr (3, [.ref k1, .ref k2, .int lK])), (k1, .inl (cI, 1024, .inl fK1)), (k2, .inl (cI, 1024, .inl fK2))]) [0, 1, 2] (by decide +kernel) rfl
          rw [hQQ]
          exact W.iret (v := 69) hx hb hr (fun t ht hW => ⟨⟨69, 69, rfl, rfl, ⟨by rw [ht]; exact hP9, hD9, by decide, by first | (exfalso; omega) | (rw [tc_empty ho (by omega)]; unfold cF sC; rw [if_pos rfl, ← hf16_1, ← hf17_1]; (repeat (first | rw [if_pos (by omega)] | rw [if_neg (by omega)])) <;> rfl)⟩⟩, hS.F ht⟩) hS.2.2 dX3_of_97
    · have tc_18 : r_16.toInt = r_17.toInt := v_eq c_18
      refine lv_iconst (v := 4) hx hb dX3_of_59 (by decide) ?_
      refine lv_goto (tgt := 65) hx hb dX3_of_60 (by decide) ?_
      refine lv_istore (lv' := [(6, .int 4), (5, .int r_17), (4, .int r_16), (3, .int (-1)), (0, .ref oK), (1, .int x), (2, .int y)]) hx hb dX3_of_65 hl (by decide) rfl (fun ls hl => ?_)
      refine lv_iload hx hb dX3_of_67 (lv_at hl 0 rfl) ?_
      refine lv_iload hx hb dX3_of_69 (lv_at hl 2 rfl) ?_
      refine lv_if_ne (tgt := 79) hx hb dX3_of_71 (by decide) (fun c_22 => ?_) (fun c_22 => ?_)
      · have tc_22 : ¬ r_16.toInt = 0 := v_ne c_22
        refine lv_iconst (v := 0) hx hb dX3_of_79 (by decide) ?_
        refine lv_iadd hx hb dX3_of_80 ?_
        refine k_i (y := 4) (by decide) ?_
        refine lv_istore (lv' := [(6, .int 4), (5, .int r_17), (4, .int r_16), (3, .int (-1)), (0, .ref oK), (1, .int x), (2, .int y)]) hx hb dX3_of_81 hl (by decide) rfl (fun ls hl => ?_)
        refine lv_iload hx hb dX3_of_83 (lv_at hl 0 rfl) ?_
        refine lv_iload hx hb dX3_of_85 (lv_at hl 1 rfl) ?_
        refine lv_if_ne (tgt := 95) hx hb dX3_of_87 (by decide) (fun c_23 => ?_) (fun c_23 => ?_)
        · have tc_23 : ¬ r_17.toInt = 0 := v_ne c_23
          refine lv_iconst (v := 0) hx hb dX3_of_95 (by decide) ?_
          refine lv_iadd hx hb dX3_of_96 ?_
          refine k_i (y := 4) (by decide) ?_
          have hP9 := hP.sub (ws' := [(oK, .inr (3, [.ref k1, .ref k2, .int lK])), (k1, .inl (cI, 1024, .inl fK1)), (k2, .inl (cI, 1024, .inl fK2))]) [0, 1, 2] rfl
          have hD9 := hD.sub (ws' := [(oK, .inr (3, [.ref k1, .ref k2, .int lK])), (k1, .inl (cI, 1024, .inl fK1)), (k2, .inl (cI, 1024, .inl fK2))]) [0, 1, 2] (by decide +kernel) rfl
          rw [hQQ]
          exact W.iret (v := 4) hx hb hr (fun t ht hW => ⟨⟨4, 4, rfl, rfl, ⟨by rw [ht]; exact hP9, hD9, by decide, by first | (exfalso; omega) | (rw [tc_empty ho (by omega)]; unfold cF sC; rw [if_pos rfl, ← hf16_1, ← hf17_1]; (repeat (first | rw [if_pos (by omega)] | rw [if_neg (by omega)])) <;> rfl)⟩⟩, hS.F ht⟩) hS.2.2 dX3_of_97
        · have tc_23 : r_17.toInt = 0 := v_eq c_23
          refine lv_bipush (v := 30) hx hb dX3_of_90 (by decide) ?_
          refine lv_goto (tgt := 96) hx hb dX3_of_92 (by decide) ?_
          refine lv_iadd hx hb dX3_of_96 ?_
          refine k_i (y := 34) (by decide) ?_
          have hP9 := hP.sub (ws' := [(oK, .inr (3, [.ref k1, .ref k2, .int lK])), (k1, .inl (cI, 1024, .inl fK1)), (k2, .inl (cI, 1024, .inl fK2))]) [0, 1, 2] rfl
          have hD9 := hD.sub (ws' := [(oK, .inr (3, [.ref k1, .ref k2, .int lK])), (k1, .inl (cI, 1024, .inl fK1)), (k2, .inl (cI, 1024, .inl fK2))]) [0, 1, 2] (by decide +kernel) rfl
          rw [hQQ]
          exact W.iret (v := 34) hx hb hr (fun t ht hW => ⟨⟨34, 34, rfl, rfl, ⟨by rw [ht]; exact hP9, hD9, by decide, by first | (exfalso; omega) | (rw [tc_empty ho (by omega)]; unfold cF sC; rw [if_pos rfl, ← hf16_1, ← hf17_1]; (repeat (first | rw [if_pos (by omega)] | rw [if_neg (by omega)])) <;> rfl)⟩⟩, hS.F ht⟩) hS.2.2 dX3_of_97
      · have tc_22 : r_16.toInt = 0 := v_eq c_22
        refine lv_bipush (v := 30) hx hb dX3_of_74 (by decide) ?_
        refine lv_goto (tgt := 80) hx hb dX3_of_76 (by decide) ?_
        refine lv_iadd hx hb dX3_of_80 ?_
        refine k_i (y := 34) (by decide) ?_
        refine lv_istore (lv' := [(6, .int 34), (5, .int r_17), (4, .int r_16), (3, .int (-1)), (0, .ref oK), (1, .int x), (2, .int y)]) hx hb dX3_of_81 hl (by decide) rfl (fun ls hl => ?_)
        refine lv_iload hx hb dX3_of_83 (lv_at hl 0 rfl) ?_
        refine lv_iload hx hb dX3_of_85 (lv_at hl 1 rfl) ?_
        refine lv_if_ne (tgt := 95) hx hb dX3_of_87 (by decide) (fun c_24 => ?_) (fun c_24 => ?_)
        · have tc_24 : ¬ r_17.toInt = 0 := v_ne c_24
          refine lv_iconst (v := 0) hx hb dX3_of_95 (by decide) ?_
          refine lv_iadd hx hb dX3_of_96 ?_
          refine k_i (y := 34) (by decide) ?_
          have hP9 := hP.sub (ws' := [(oK, .inr (3, [.ref k1, .ref k2, .int lK])), (k1, .inl (cI, 1024, .inl fK1)), (k2, .inl (cI, 1024, .inl fK2))]) [0, 1, 2] rfl
          have hD9 := hD.sub (ws' := [(oK, .inr (3, [.ref k1, .ref k2, .int lK])), (k1, .inl (cI, 1024, .inl fK1)), (k2, .inl (cI, 1024, .inl fK2))]) [0, 1, 2] (by decide +kernel) rfl
          rw [hQQ]
          exact W.iret (v := 34) hx hb hr (fun t ht hW => ⟨⟨34, 34, rfl, rfl, ⟨by rw [ht]; exact hP9, hD9, by decide, by first | (exfalso; omega) | (rw [tc_empty ho (by omega)]; unfold cF sC; rw [if_pos rfl, ← hf16_1, ← hf17_1]; (repeat (first | rw [if_pos (by omega)] | rw [if_neg (by omega)])) <;> rfl)⟩⟩, hS.F ht⟩) hS.2.2 dX3_of_97
        · have tc_24 : r_17.toInt = 0 := v_eq c_24
          refine lv_bipush (v := 30) hx hb dX3_of_90 (by decide) ?_
          refine lv_goto (tgt := 96) hx hb dX3_of_92 (by decide) ?_
          refine lv_iadd hx hb dX3_of_96 ?_
          refine k_i (y := 64) (by decide) ?_
          have hP9 := hP.sub (ws' := [(oK, .inr (3, [.ref k1, .ref k2, .int lK])), (k1, .inl (cI, 1024, .inl fK1)), (k2, .inl (cI, 1024, .inl fK2))]) [0, 1, 2] rfl
          have hD9 := hD.sub (ws' := [(oK, .inr (3, [.ref k1, .ref k2, .int lK])), (k1, .inl (cI, 1024, .inl fK1)), (k2, .inl (cI, 1024, .inl fK2))]) [0, 1, 2] (by decide +kernel) rfl
          rw [hQQ]
          exact W.iret (v := 64) hx hb hr (fun t ht hW => ⟨⟨64, 64, rfl, rfl, ⟨by rw [ht]; exact hP9, hD9, by decide, by first | (exfalso; omega) | (rw [tc_empty ho (by omega)]; unfold cF sC; rw [if_pos rfl, ← hf16_1, ← hf17_1]; (repeat (first | rw [if_pos (by omega)] | rw [if_neg (by omega)])) <;> rfl)⟩⟩, hS.F ht⟩) hS.2.2 dX3_of_97

set_option maxHeartbeats 40000000 in
set_option maxRecDepth 100000 in
theorem f_X3_ofText (l : Launch) (dC : Nat → ClassId) (dI : Nat → Nat → Nat) (cI cS : ClassId) (sz : Nat) (oK : Nat) (nx : Nat) (k1 : Nat) (k2 : Nat) (ax : Nat) (lK : Int32) (fK1 : Nat → Int32) (fK2 : Nat → Int32) (lx : Int32) (fx : Nat → Int32) (g_lK : 0 ≤ lK.toInt ∧ lK.toInt ≤ 300) (g_lx : 0 ≤ lx.toInt ∧ lx.toInt ≤ 300) (hT : HT 1024 1023 hsK fK1 fK2) (ho : (occ fK2 1024 : Int) ≤ lK.toInt) (hV : prg 1024 (-1) 200 fK2) (hlt : prg lx.toInt 0 65535 fx) : Met l yX3_ofText wsX3_ofText ({ frames := 3, cells := 0, slots := 0, locals := 73 } : Room) (va_Pc [.ref oK, .ref nx] (fun U => U.heap.size = sz ∧ va_P (dC, dI) vwCl [(oK, .inr (3, [.ref k1, .ref k2, .int lK])), (k1, .inl (cI, 1024, .inl fK1)), (k2, .inl (cI, 1024, .inl fK2)), (nx, .inr (5, [.ref ax, .int lx])), (ax, .inl (cI, 300, .inl fx))] U.heap ∧ va_K (dC, dI) vwCl [(cI, .int), (cS, .short)] U ∧ va_D (fun _ => True) [(oK, .inr (3, [.ref k1, .ref k2, .int lK])), (k1, .inl (cI, 1024, .inl fK1)), (k2, .inl (cI, 1024, .inl fK2)), (nx, .inr (5, [.ref ax, .int lx])), (ax, .inl (cI, 300, .inl fx))])) (va_Qi (fun (r : Int32) (u : Int32) => r = u) (fun (r : Int32) t => va_P (dC, dI) vwCl [(oK, .inr (3, [.ref k1, .ref k2, .int lK])), (k1, .inl (cI, 1024, .inl fK1)), (k2, .inl (cI, 1024, .inl fK2)), (nx, .inr (5, [.ref ax, .int lx])), (ax, .inl (cI, 300, .inl fx))] t.heap ∧ va_D (va_A [(oK, .inr (3, [.ref k1, .ref k2, .int lK])), (k1, .inl (cI, 1024, .inl fK1)), (k2, .inl (cI, 1024, .inl fK2)), (nx, .inr (5, [.ref ax, .int lx])), (ax, .inl (cI, 300, .inl fx))] sz) [(oK, .inr (3, [.ref k1, .ref k2, .int lK])), (k1, .inl (cI, 1024, .inl fK1)), (k2, .inl (cI, 1024, .inl fK2)), (nx, .inr (5, [.ref ax, .int lx])), (ax, .inl (cI, 300, .inl fx))] ∧ (0 ≤ r.toInt ∧ r.toInt ≤ 61000) ∧ (r.toInt = cT (tcC fK1 fK2) lx.toInt fx)) (va_A [(oK, .inr (3, [.ref k1, .ref k2, .int lK])), (k1, .inl (cI, 1024, .inl fK1)), (k2, .inl (cI, 1024, .inl fK2)), (nx, .inr (5, [.ref ax, .int lx])), (ax, .inl (cI, 300, .inl fx))] sz)) 0 0 (va_A [(oK, .inr (3, [.ref k1, .ref k2, .int lK])), (k1, .inl (cI, 1024, .inl fK1)), (k2, .inl (cI, 1024, .inl fK2)), (nx, .inr (5, [.ref ax, .int lx])), (ax, .inl (cI, 300, .inl fx))] sz) := by
  refine Met.ofW (cc := cX3_ofText) (maxL := 6) (ret := (some .int)) (by decide) rfl ?_
  intro p e s m args below meth c s₁ B hml hv
  obtain ⟨rfl, hsz, hP, hK, hD0⟩ := hv
  have hx := B.exec
  have hb := B.bytes
  have hr := B.returns
  have hts := atoms_spec (ws := wsX3_ofText) B.pre
  have hown : s.vm.findClass RX3 = some m.cls := findClass_of_methodNamed B.named
  have hlocks := B.notSynchronized
  subst hsz
  have hD := hD0.self (sz := s.heap.size)
  generalize hAe : va_A [(oK, .inr (3, [.ref k1, .ref k2, .int lK])), (k1, .inl (cI, 1024, .inl fK1)), (k2, .inl (cI, 1024, .inl fK2)), (nx, .inr (5, [.ref ax, .int lx])), (ax, .inl (cI, 300, .inl fx))] s.heap.size = A at hD ⊢
  have hA : ∀ q : Nat, s.heap.size ≤ q → A q := fun q h => by rw [← hAe]; exact Or.inr h
  have hS : va_S A s.heap s.heap [] := va_S.rf
  have hP : va_P (dC, dI) vwCl [(oK, .inr (3, [.ref k1, .ref k2, .int lK])), (k1, .inl (cI, 1024, .inl fK1)), (k2, .inl (cI, 1024, .inl fK2)), (nx, .inr (5, [.ref ax, .int lx])), (ax, .inl (cI, 300, .inl fx))] s.heap := hP
  have hl := lv_entry ([.ref oK, .ref nx]) (n := 6) (Nat.le_of_ble_eq_true rfl)
  rw [lg_entry_eq]
  generalize (lg_sl ([.ref oK, .ref nx]) ++ List.replicate (6 - (lg_sl ([.ref oK, .ref nx])).length) Slot.unset).toArray = ls at hl ⊢
  have hl : lv_has ls 6 [(0, .ref oK), (1, .ref nx)] := hl
  obtain ⟨QQ, hQQ⟩ : ∃ QQ : Array Value → State → Outcome → State → Prop, QQ = va_Qi (fun (r : Int32) (u : Int32) => r = u) (fun (r : Int32) t => va_P (dC, dI) vwCl [(oK, .inr (3, [.ref k1, .ref k2, .int lK])), (k1, .inl (cI, 1024, .inl fK1)), (k2, .inl (cI, 1024, .inl fK2)), (nx, .inr (5, [.ref ax, .int lx])), (ax, .inl (cI, 300, .inl fx))] t.heap ∧ va_D A [(oK, .inr (3, [.ref k1, .ref k2, .int lK])), (k1, .inl (cI, 1024, .inl fK1)), (k2, .inl (cI, 1024, .inl fK2)), (nx, .inr (5, [.ref ax, .int lx])), (ax, .inl (cI, 300, .inl fx))] ∧ (0 ≤ r.toInt ∧ r.toInt ≤ 61000) ∧ (r.toInt = cT (tcC fK1 fK2) lx.toInt fx)) A := ⟨_, rfl⟩
  rw [← hQQ]
  refine lv_iconst (v := 0) hx hb dX3_ofText_0 (by decide) ?_
  refine lv_istore_n (lv' := [(2, .int 0), (0, .ref oK), (1, .ref nx)]) hx hb dX3_ofText_1 rfl hl (by decide) rfl (fun ls hl => ?_)
  refine lv_bipush (v := 32) hx hb dX3_ofText_2 (by decide) ?_
  refine lv_istore_n (lv' := [(3, .int 32), (2, .int 0), (0, .ref oK), (1, .ref nx)]) hx hb dX3_ofText_4 rfl hl (by decide) rfl (fun ls hl => ?_)
  refine lv_iconst (v := 0) hx hb dX3_ofText_5 (by decide) ?_
  refine lv_istore (lv' := [(4, .int 0), (3, .int 32), (2, .int 0), (0, .ref oK), (1, .ref nx)]) hx hb dX3_ofText_6 hl (by decide) rfl (fun ls hl => ?_)
  have LOOP_8 : ∀ (k_8 : Nat) (su : Int32) (be : Int32) (i : Int32) (H : Heap) (locs : List Loc) (ls : Array Slot), MSd (lx.toInt - i.toInt : Int) k_8 → (0 ≤ su.toInt ∧ su.toInt ≤ 60200) → (0 ≤ be.toInt ∧ be.toInt ≤ 65535) → (0 ≤ i.toInt ∧ i.toInt ≤ 300) → (i.toInt ≤ lx.toInt) → (su.toInt ≤ 200 * i.toInt) → (su.toInt = cs (tcC fK1 fK2) fx i.toNatClampNeg) → (be = pv fx i.toNatClampNeg) → va_P (dC, dI) vwCl [(oK, .inr (3, [.ref k1, .ref k2, .int lK])), (k1, .inl (cI, 1024, .inl fK1)), (k2, .inl (cI, 1024, .inl fK2)), (nx, .inr (5, [.ref ax, .int lx])), (ax, .inl (cI, 300, .inl fx))] H → va_D A [(oK, .inr (3, [.ref k1, .ref k2, .int lK])), (k1, .inl (cI, 1024, .inl fK1)), (k2, .inl (cI, 1024, .inl fK2)), (nx, .inr (5, [.ref ax, .int lx])), (ax, .inl (cI, 300, .inl fx))] → va_S A s.heap H locs → lv_has ls 6 [(4, .int i), (3, .int be), (2, .int su), (0, .ref oK), (1, .ref nx)] → W p l e (headSpec wsX3_ofText ({ frames := 3, cells := 0, slots := 0, locals := 73 } : Room)).room s m ([.ref oK, .ref nx] : List Value).toArray below meth c H locs 0 0 (MQ below QQ ([.ref oK, .ref nx] : List Value).toArray s 0 0 A) (F0 m 8 ls []) := by
    clear hP hD hS hl
    intro k_8
    induction k_8 with
    | zero =>
      intro su be i H locs ls hm_8 g_su g_be g_i hil hs2 hsu hbe hP hD hS hl
      exact ms_0 hm_8
    | succ k_8 ih_8 =>
      intro su be i H locs ls hm_8 g_su g_be g_i hil hs2 hsu hbe hP hD hS hl
      refine lv_iload hx hb dX3_ofText_8 (lv_at hl 0 rfl) ?_
      refine lv_aload_n hx hb dX3_ofText_10 rfl (lv_at hl 4 rfl) ?_
      have hPc := hP.sub (ws' := [(nx, .inr (5, [.ref ax, .int lx]))]) [3] rfl
      have hDc := hD.sub (ws' := [(nx, .inr (5, [.ref ax, .int lx]))]) [3] (by decide +kernel) rfl
      have hFc := va_free (wc := [(nx, .inr (5, [.ref ax, .int lx]))]) hD hS hA [3] rfl
      refine va_calli (va_runV (As := []) (rest := [.int i]) ⟨hx, hb, hml, hown, hts⟩ (m_X5_length l dC dI cI cS H.size nx ax lx ) (cwV 0 hts gX3_ofText_X5_length rfl rfl rfl (by decide +kernel) ⟨Nat.le_of_ble_eq_true rfl, Nat.le_of_ble_eq_true rfl⟩) ⟨fun a U g mk q => by obtain ⟨q0, q1, qP, qK, qD⟩ := q; exact ⟨q0, q1, qP, va_K.moved (u := U) (U := U.calling g mk a) (Vm.Alike.refl U.vm) qK, qD⟩, va_recv hK hPc (ci := 5) (q0 := 0) rfl rfl, fun U hU hW => ⟨rfl, by rw [hU], by rw [hU]; exact hPc, va_K.moved hW.alike hK, hDc.weaken (fun _ _ _ _ => trivial)⟩⟩ rfl rfl hl.1 rfl (lv_room (Nat.le_of_ble_eq_true rfl)) dX3_ofText_11 ⟨Nat.le_of_ble_eq_true rfl, Nat.le_of_ble_eq_true rfl⟩) hS (fun q _ h => hFc q h) hFc (fun r_1 u t H1 locs ht hvm hw hB hz1 hk1 hSn => ?_)
      subst hw
      obtain ⟨hP1, hD1, hf1_0⟩ := hB
      rw [ht] at hP1
      obtain ⟨hPn, hDn⟩ := va_join (wr := [(oK, .inr (3, [.ref k1, .ref k2, .int lK])), (k1, .inl (cI, 1024, .inl fK1)), (k2, .inl (cI, 1024, .inl fK2)), (ax, .inl (cI, 300, .inl fx))]) (w1 := [(nx, .inr (5, [.ref ax, .int lx]))]) hP hD [3] [0, 1, 2, 4] rfl rfl (by decide +kernel) (by decide +kernel) hk1 hFc hP1 hD1
      clear hP hD hS hPc hDc hFc hk1 hz1 hvm ht hP1 hD1
      generalize H1 = H at hPn hSn ⊢
      have hP : va_P (dC, dI) vwCl [(oK, .inr (3, [.ref k1, .ref k2, .int lK])), (k1, .inl (cI, 1024, .inl fK1)), (k2, .inl (cI, 1024, .inl fK2)), (ax, .inl (cI, 300, .inl fx)), (nx, .inr (5, [.ref ax, .int lx]))] H := hPn
      have hD : va_D A [(oK, .inr (3, [.ref k1, .ref k2, .int lK])), (k1, .inl (cI, 1024, .inl fK1)), (k2, .inl (cI, 1024, .inl fK2)), (ax, .inl (cI, 300, .inl fx)), (nx, .inr (5, [.ref ax, .int lx]))] := hDn
      have hS := hSn
      clear hPn hDn hSn
      rw [hf1_0]
      refine lv_icmp_ge (tgt := 44) hx hb dX3_ofText_14 (by decide) (fun c_2 => ?_) (fun c_2 => ?_)
      · have tc_2 : lx.toInt ≤ i.toInt := v_le c_2
        refine lv_iload_n hx hb dX3_ofText_44 rfl (lv_at hl 2 rfl) ?_
        refine lv_aload_n hx hb dX3_ofText_45 rfl (lv_at hl 3 rfl) ?_
        refine lv_iload_n hx hb dX3_ofText_46 rfl (lv_at hl 1 rfl) ?_
        refine lv_bipush (v := 32) hx hb dX3_ofText_47 (by decide) ?_
        have hPc := hP.sub (ws' := [(oK, .inr (3, [.ref k1, .ref k2, .int lK])), (k1, .inl (cI, 1024, .inl fK1)), (k2, .inl (cI, 1024, .inl fK2))]) [0, 1, 2] rfl
        have hDc := hD.sub (ws' := [(oK, .inr (3, [.ref k1, .ref k2, .int lK])), (k1, .inl (cI, 1024, .inl fK1)), (k2, .inl (cI, 1024, .inl fK2))]) [0, 1, 2] (by decide +kernel) rfl
        have hFc := va_free (wc := [(oK, .inr (3, [.ref k1, .ref k2, .int lK])), (k1, .inl (cI, 1024, .inl fK1)), (k2, .inl (cI, 1024, .inl fK2))]) hD hS hA [0, 1, 2] rfl
        refine va_calli (va_runV (As := [.int be, .int 32]) (rest := [.int su]) ⟨hx, hb, hml, hown, hts⟩ (f_X3_of l dC dI cI cS H.size oK k1 k2 lK fK1 fK2 be 32 (g_lK) (g_be) (by decide) (hT) (ho) (hV)) (cwV 2 hts gX3_ofText_X3_of rfl rfl rfl (by decide +kernel) ⟨Nat.le_of_ble_eq_true rfl, Nat.le_of_ble_eq_true rfl⟩) ⟨fun a U g mk q => by obtain ⟨q0, q1, qP, qK, qD⟩ := q; exact ⟨q0, q1, qP, va_K.moved (u := U) (U := U.calling g mk a) (Vm.Alike.refl U.vm) qK, qD⟩, va_recv hK hPc (ci := 3) (q0 := 0) rfl rfl, fun U hU hW => ⟨rfl, by rw [hU], by rw [hU]; exact hPc, va_K.moved hW.alike hK, hDc.weaken (fun _ _ _ _ => trivial)⟩⟩ rfl rfl hl.1 rfl (lv_room (Nat.le_of_ble_eq_true rfl)) dX3_ofText_49 ⟨Nat.le_of_ble_eq_true rfl, Nat.le_of_ble_eq_true rfl⟩) hS (fun q _ h => hFc q h) hFc (fun r_3 u t H1 locs ht hvm hw hB hz1 hk1 hSn => ?_)
        subst hw
        obtain ⟨hP1, hD1, hf3_0, hf3_1⟩ := hB
        rw [ht] at hP1
        obtain ⟨hPn, hDn⟩ := va_join (wr := [(ax, .inl (cI, 300, .inl fx)), (nx, .inr (5, [.ref ax, .int lx]))]) (w1 := [(oK, .inr (3, [.ref k1, .ref k2, .int lK])), (k1, .inl (cI, 1024, .inl fK1)), (k2, .inl (cI, 1024, .inl fK2))]) hP hD [0, 1, 2] [3, 4] rfl rfl (by decide +kernel) (by decide +kernel) hk1 hFc hP1 hD1
        clear hP hD hS hPc hDc hFc hk1 hz1 hvm ht hP1 hD1
        generalize H1 = H at hPn hSn ⊢
        have hP : va_P (dC, dI) vwCl [(ax, .inl (cI, 300, .inl fx)), (nx, .inr (5, [.ref ax, .int lx])), (oK, .inr (3, [.ref k1, .ref k2, .int lK])), (k1, .inl (cI, 1024, .inl fK1)), (k2, .inl (cI, 1024, .inl fK2))] H := hPn
        have hD : va_D A [(ax, .inl (cI, 300, .inl fx)), (nx, .inr (5, [.ref ax, .int lx])), (oK, .inr (3, [.ref k1, .ref k2, .int lK])), (k1, .inl (cI, 1024, .inl fK1)), (k2, .inl (cI, 1024, .inl fK2))] := hDn
        have hS := hSn
        clear hPn hDn hSn
        refine lv_iadd hx hb dX3_ofText_52 ?_
        refine lv_topi (fun x_4 ex_4 => ?_)
        have tx_4 : x_4.toInt = su.toInt + r_3.toInt := v_add ex_4 (by show -2147483648 ≤ su.toInt + r_3.toInt; omega) (by show su.toInt + r_3.toInt < 2147483648; omega)
        have hP9 := hP.sub (ws' := [(oK, .inr (3, [.ref k1, .ref k2, .int lK])), (k1, .inl (cI, 1024, .inl fK1)), (k2, .inl (cI, 1024, .inl fK2)), (nx, .inr (5, [.ref ax, .int lx])), (ax, .inl (cI, 300, .inl fx))]) [2, 3, 4, 1, 0] rfl
        have hD9 := hD.sub (ws' := [(oK, .inr (3, [.ref k1, .ref k2, .int lK])), (k1, .inl (cI, 1024, .inl fK1)), (k2, .inl (cI, 1024, .inl fK2)), (nx, .inr (5, [.ref ax, .int lx])), (ax, .inl (cI, 300, .inl fx))]) [2, 3, 4, 1, 0] (by decide +kernel) rfl
        rw [hQQ]
        exact W.iret (v := x_4) hx hb hr (fun t ht hW => ⟨⟨x_4, x_4, rfl, rfl, ⟨by rw [ht]; exact hP9, hD9, by omega, cT_of hsu hbe hf3_1 (by omega) (by omega) (by omega)⟩⟩, hS.F ht⟩) hS.2.2 dX3_ofText_53
      · have tc_2 : i.toInt < lx.toInt := v_nle c_2
        refine lv_aload_n hx hb dX3_ofText_17 rfl (lv_at hl 4 rfl) ?_
        refine lv_iload hx hb dX3_ofText_18 (lv_at hl 0 rfl) ?_
        have hPc := hP.sub (ws' := [(nx, .inr (5, [.ref ax, .int lx])), (ax, .inl (cI, 300, .inl fx))]) [4, 3] rfl
        have hDc := hD.sub (ws' := [(nx, .inr (5, [.ref ax, .int lx])), (ax, .inl (cI, 300, .inl fx))]) [4, 3] (by decide +kernel) rfl
        have hFc := va_free (wc := [(nx, .inr (5, [.ref ax, .int lx])), (ax, .inl (cI, 300, .inl fx))]) hD hS hA [4, 3] rfl
        refine va_calli (va_runV (As := [.int i]) (rest := []) ⟨hx, hb, hml, hown, hts⟩ (m_X5_get l dC dI cI cS H.size nx ax 300 lx fx i (by omega) (by omega)) (cwV 1 hts gX3_ofText_X5_get rfl rfl rfl (by decide +kernel) ⟨Nat.le_of_ble_eq_true rfl, Nat.le_of_ble_eq_true rfl⟩) ⟨fun a U g mk q => by obtain ⟨q0, q1, qP, qK, qD⟩ := q; exact ⟨q0, q1, qP, va_K.moved (u := U) (U := U.calling g mk a) (Vm.Alike.refl U.vm) qK, qD⟩, va_recv hK hPc (ci := 5) (q0 := 0) rfl rfl, fun U hU hW => ⟨rfl, by rw [hU], by rw [hU]; exact hPc, va_K.moved hW.alike hK, hDc.weaken (fun _ _ _ _ => trivial)⟩⟩ rfl rfl hl.1 rfl (lv_room (Nat.le_of_ble_eq_true rfl)) dX3_ofText_20 ⟨Nat.le_of_ble_eq_true rfl, Nat.le_of_ble_eq_true rfl⟩) hS (fun q _ h => hFc q h) hFc (fun r_5 u t H1 locs ht hvm hw hB hz1 hk1 hSn => ?_)
        subst hw
        obtain ⟨hP1, hD1, hf5_0⟩ := hB
        rw [ht] at hP1
        obtain ⟨hPn, hDn⟩ := va_join (wr := [(oK, .inr (3, [.ref k1, .ref k2, .int lK])), (k1, .inl (cI, 1024, .inl fK1)), (k2, .inl (cI, 1024, .inl fK2))]) (w1 := [(nx, .inr (5, [.ref ax, .int lx])), (ax, .inl (cI, 300, .inl fx))]) hP hD [4, 3] [0, 1, 2] rfl rfl (by decide +kernel) (by decide +kernel) hk1 hFc hP1 hD1
        clear hP hD hS hPc hDc hFc hk1 hz1 hvm ht hP1 hD1
        generalize H1 = H at hPn hSn ⊢
        have hP : va_P (dC, dI) vwCl [(oK, .inr (3, [.ref k1, .ref k2, .int lK])), (k1, .inl (cI, 1024, .inl fK1)), (k2, .inl (cI, 1024, .inl fK2)), (nx, .inr (5, [.ref ax, .int lx])), (ax, .inl (cI, 300, .inl fx))] H := hPn
        have hD : va_D A [(oK, .inr (3, [.ref k1, .ref k2, .int lK])), (k1, .inl (cI, 1024, .inl fK1)), (k2, .inl (cI, 1024, .inl fK2)), (nx, .inr (5, [.ref ax, .int lx])), (ax, .inl (cI, 300, .inl fx))] := hDn
        have hS := hSn
        clear hPn hDn hSn
        have hg5 : r_5 = fx i.toNatClampNeg := F_get_f hf5_0 (by omega) (by omega)
        have hgr5 : 0 ≤ r_5.toInt ∧ r_5.toInt ≤ 65535 := prg_at hlt hg5 (by omega) (by omega)
        refine lv_istore (lv' := [(5, .int r_5), (4, .int i), (3, .int be), (2, .int su), (0, .ref oK), (1, .ref nx)]) hx hb dX3_ofText_23 hl (by decide) rfl (fun ls hl => ?_)
        refine lv_iload_n hx hb dX3_ofText_25 rfl (lv_at hl 3 rfl) ?_
        refine lv_aload_n hx hb dX3_ofText_26 rfl (lv_at hl 4 rfl) ?_
        refine lv_iload_n hx hb dX3_ofText_27 rfl (lv_at hl 2 rfl) ?_
        refine lv_iload hx hb dX3_ofText_28 (lv_at hl 0 rfl) ?_
        have hPc := hP.sub (ws' := [(oK, .inr (3, [.ref k1, .ref k2, .int lK])), (k1, .inl (cI, 1024, .inl fK1)), (k2, .inl (cI, 1024, .inl fK2))]) [0, 1, 2] rfl
        have hDc := hD.sub (ws' := [(oK, .inr (3, [.ref k1, .ref k2, .int lK])), (k1, .inl (cI, 1024, .inl fK1)), (k2, .inl (cI, 1024, .inl fK2))]) [0, 1, 2] (by decide +kernel) rfl
        have hFc := va_free (wc := [(oK, .inr (3, [.ref k1, .ref k2, .int lK])), (k1, .inl (cI, 1024, .inl fK1)), (k2, .inl (cI, 1024, .inl fK2))]) hD hS hA [0, 1, 2] rfl
        refine va_calli (va_runV (As := [.int be, .int r_5]) (rest := [.int su]) ⟨hx, hb, hml, hown, hts⟩ (f_X3_of l dC dI cI cS H.size oK k1 k2 lK fK1 fK2 be r_5 (g_lK) (g_be) (by omega) (hT) (ho) (hV)) (cwV 2 hts gX3_ofText_X3_of rfl rfl rfl (by decide +kernel) ⟨Nat.le_of_ble_eq_true rfl, Nat.le_of_ble_eq_true rfl⟩) ⟨fun a U g mk q => by obtain ⟨q0, q1, qP, qK, qD⟩ := q; exact ⟨q0, q1, qP, va_K.moved (u := U) (U := U.calling g mk a) (Vm.Alike.refl U.vm) qK, qD⟩, va_recv hK hPc (ci := 3) (q0 := 0) rfl rfl, fun U hU hW => ⟨rfl, by rw [hU], by rw [hU]; exact hPc, va_K.moved hW.alike hK, hDc.weaken (fun _ _ _ _ => trivial)⟩⟩ rfl rfl hl.1 rfl (lv_room (Nat.le_of_ble_eq_true rfl)) dX3_ofText_30 ⟨Nat.le_of_ble_eq_true rfl, Nat.le_of_ble_eq_true rfl⟩) hS (fun q _ h => hFc q h) hFc (fun r_6 u t H1 locs ht hvm hw hB hz1 hk1 hSn => ?_)
        subst hw
        obtain ⟨hP1, hD1, hf6_0, hf6_1⟩ := hB
        rw [ht] at hP1
        obtain ⟨hPn, hDn⟩ := va_join (wr := [(nx, .inr (5, [.ref ax, .int lx])), (ax, .inl (cI, 300, .inl fx))]) (w1 := [(oK, .inr (3, [.ref k1, .ref k2, .int lK])), (k1, .inl (cI, 1024, .inl fK1)), (k2, .inl (cI, 1024, .inl fK2))]) hP hD [0, 1, 2] [3, 4] rfl rfl (by decide +kernel) (by decide +kernel) hk1 hFc hP1 hD1
        clear hP hD hS hPc hDc hFc hk1 hz1 hvm ht hP1 hD1
        generalize H1 = H at hPn hSn ⊢
        have hP : va_P (dC, dI) vwCl [(nx, .inr (5, [.ref ax, .int lx])), (ax, .inl (cI, 300, .inl fx)), (oK, .inr (3, [.ref k1, .ref k2, .int lK])), (k1, .inl (cI, 1024, .inl fK1)), (k2, .inl (cI, 1024, .inl fK2))] H := hPn
        have hD : va_D A [(nx, .inr (5, [.ref ax, .int lx])), (ax, .inl (cI, 300, .inl fx)), (oK, .inr (3, [.ref k1, .ref k2, .int lK])), (k1, .inl (cI, 1024, .inl fK1)), (k2, .inl (cI, 1024, .inl fK2))] := hDn
        have hS := hSn
        clear hPn hDn hSn
        refine lv_iadd hx hb dX3_ofText_33 ?_
        refine lv_topi (fun x_7 ex_7 => ?_)
        have tx_7 : x_7.toInt = su.toInt + r_6.toInt := v_add ex_7 (by show -2147483648 ≤ su.toInt + r_6.toInt; omega) (by show su.toInt + r_6.toInt < 2147483648; omega)
        refine lv_istore_n (lv' := [(2, .int x_7), (5, .int r_5), (4, .int i), (3, .int be), (0, .ref oK), (1, .ref nx)]) hx hb dX3_ofText_34 rfl hl (by decide) rfl (fun ls hl => ?_)
        refine lv_iload hx hb dX3_ofText_35 (lv_at hl 1 rfl) ?_
        refine lv_istore_n (lv' := [(3, .int r_5), (2, .int x_7), (5, .int r_5), (4, .int i), (0, .ref oK), (1, .ref nx)]) hx hb dX3_ofText_37 rfl hl (by decide) rfl (fun ls hl => ?_)
        obtain ⟨x_8, ex_8⟩ : ∃ y : Int32, y = i + 1 := ⟨_, rfl⟩
        have tx_8 : x_8.toInt = i.toInt + 1 := v_add ex_8 (by show -2147483648 ≤ i.toInt + 1; omega) (by show i.toInt + 1 < 2147483648; omega)
        refine lv_iinc (v := x_8) (lv' := [(4, .int x_8), (3, .int r_5), (2, .int x_7), (5, .int r_5), (0, .ref oK), (1, .ref nx)]) hx hb dX3_ofText_38 hl (k := 3) rfl (by rw [ex_8]; rfl) (by decide) rfl (fun ls hl => ?_)
        refine lv_goto (tgt := 8) hx hb dX3_ofText_41 (by decide) ?_
        exact ih_8 x_7 r_5 x_8 _ _ _ (ms_lt hm_8 (by show ((lx.toInt - x_8.toInt : Int)) < lx.toInt - i.toInt; omega) (by show (0 : Int) < lx.toInt - i.toInt; omega)) (by show 0 ≤ x_7.toInt ∧ x_7.toInt ≤ 60200; omega) (by show 0 ≤ r_5.toInt ∧ r_5.toInt ≤ 65535; omega) (by show 0 ≤ x_8.toInt ∧ x_8.toInt ≤ 300; omega) (by show x_8.toInt ≤ lx.toInt; omega) (by show x_7.toInt ≤ 200 * x_8.toInt; omega) ((cs_s hsu hbe hg5 hf6_1 (by omega) (by omega) (by omega)).1) ((cs_s hsu hbe hg5 hf6_1 (by omega) (by omega) (by omega)).2) (hP.sub [2, 3, 4, 0, 1] rfl) (hD.sub [2, 3, 4, 0, 1] (by decide +kernel) rfl) hS (lv_sub hl [0, 1, 2, 4, 5] rfl)
  exact LOOP_8 _ 0 32 0 _ _ _ (ms_s _) (by decide) (by decide) (by decide) (by show 0 ≤ lx.toInt; omega) (by show 0 ≤ 200 * 0; omega) (rfl) (rfl) hP hD hS (lv_sub hl [0, 1, 2, 3, 4] rfl)

set_option maxHeartbeats 40000000 in
set_option maxRecDepth 100000 in
theorem f_X12_costOf (l : Launch) (dC : Nat → ClassId) (dI : Nat → Nat → Nat) (cI cS : ClassId) (sz : Nat) (oM : Nat) (mT : Nat) (mS : Nat) (mX : Nat) (mL : Nat) (mB : Nat) (mD : Nat) (m1 : Nat) (m2 : Nat) (mR : Nat) (x1 : Nat) (x2 : Nat) (x3 : Nat) (mH : Nat) (mY : Nat) (mE : Nat) (mW : Nat) (mO : Nat) (y1 : Nat) (y2 : Nat) (y3 : Nat) (y4 : Nat) (mZ : Nat) (zt : Int32) (zp : Int32) (zf : Int32) (zh : Int32) (zr : Int32) (zc : Int32) (zy : Int32) (za : Int32) (zb : Int32) (zs : Int32) (zq : Int32) (zw : Int32) (ze : Int32) (zn : Int32) (zm : Int32) (zl : Int32) (zk : Int32) (zd : Int32) (ec1 : Nat → Int32) (ec2 : Nat → Int32) (ec3 : Nat → Int32) (x : Int32) (y : Int32) (g_zt : 0 ≤ zt.toInt ∧ zt.toInt ≤ 900) (g_zp : 0 ≤ zp.toInt ∧ zp.toInt ≤ 20) (g_zf : 0 ≤ zf.toInt ∧ zf.toInt ≤ 19) (g_zh : 0 ≤ zh.toInt ∧ zh.toInt ≤ 6) (g_zr : 0 ≤ zr.toInt ∧ zr.toInt ≤ 258) (g_zc : 0 ≤ zc.toInt ∧ zc.toInt ≤ 300) (g_zy : 0 ≤ zy.toInt ∧ zy.toInt ≤ 65536) (g_za : 0 ≤ za.toInt ∧ za.toInt ≤ 5) (g_zb : 0 ≤ zb.toInt ∧ zb.toInt ≤ 5) (g_zs : 0 ≤ zs.toInt ∧ zs.toInt ≤ 2000000) (g_zq : -1 ≤ zq.toInt ∧ zq.toInt ≤ 2000000) (g_zn : 0 ≤ zn.toInt ∧ zn.toInt ≤ 2600) (g_zm : 0 ≤ zm.toInt ∧ zm.toInt ≤ 2600) (g_zk : 0 ≤ zk.toInt ∧ zk.toInt ≤ 300) (g_x : 0 ≤ x.toInt ∧ x.toInt ≤ 65535) (g_y : 0 ≤ y.toInt ∧ y.toInt ≤ 65535) (hV : rg 0 200 ec3) : Met l yX12_costOf wsX12_costOf ({ frames := 1, cells := 0, slots := 0, locals := 20 } : Room) (va_Pc [.ref oM, .int x, .int y] (fun U => U.heap.size = sz ∧ va_P (dC, dI) vwCl [(oM, .inr (12, [.ref mT, .int zt, .ref mS, .ref mX, .int zp, .int zf, .ref mL, .ref mB, .ref mD, .ref m1, .ref m2, .int zh, .ref mR, .int zr, .ref x1, .ref x2, .ref x3, .int zc, .ref mH, .int zy, .int za, .int zb, .int zs, .int zq, .int zw, .int ze, .ref mY, .int zn, .ref mE, .int zm, .int zl, .ref mW, .int zk, .ref mO, .int zd, .ref y1, .ref y2, .ref y3, .ref y4, .ref mZ])), (x1, .inl (cI, 300, .inl ec1)), (x2, .inl (cI, 300, .inl ec2)), (x3, .inl (cI, 300, .inl ec3))] U.heap ∧ va_K (dC, dI) vwCl [(cI, .int), (cS, .short)] U ∧ va_D (fun _ => True) [(oM, .inr (12, [.ref mT, .int zt, .ref mS, .ref mX, .int zp, .int zf, .ref mL, .ref mB, .ref mD, .ref m1, .ref m2, .int zh, .ref mR, .int zr, .ref x1, .ref x2, .ref x3, .int zc, .ref mH, .int zy, .int za, .int zb, .int zs, .int zq, .int zw, .int ze, .ref mY, .int zn, .ref mE, .int zm, .int zl, .ref mW, .int zk, .ref mO, .int zd, .ref y1, .ref y2, .ref y3, .ref y4, .ref mZ])), (x1, .inl (cI, 300, .inl ec1)), (x2, .inl (cI, 300, .inl ec2)), (x3, .inl (cI, 300, .inl ec3))])) (va_Qi (fun (r : Int32) (u : Int32) => r = u) (fun (r : Int32) t => va_P (dC, dI) vwCl [(oM, .inr (12, [.ref mT, .int zt, .ref mS, .ref mX, .int zp, .int zf, .ref mL, .ref mB, .ref mD, .ref m1, .ref m2, .int zh, .ref mR, .int zr, .ref x1, .ref x2, .ref x3, .int zc, .ref mH, .int zy, .int za, .int zb, .int zs, .int zq, .int zw, .int ze, .ref mY, .int zn, .ref mE, .int zm, .int zl, .ref mW, .int zk, .ref mO, .int zd, .ref y1, .ref y2, .ref y3, .ref y4, .ref mZ])), (x1, .inl (cI, 300, .inl ec1)), (x2, .inl (cI, 300, .inl ec2)), (x3, .inl (cI, 300, .inl ec3))] t.heap ∧ va_D (va_A [(oM, .inr (12, [.ref mT, .int zt, .ref mS, .ref mX, .int zp, .int zf, .ref mL, .ref mB, .ref mD, .ref m1, .ref m2, .int zh, .ref mR, .int zr, .ref x1, .ref x2, .ref x3, .int zc, .ref mH, .int zy, .int za, .int zb, .int zs, .int zq, .int zw, .int ze, .ref mY, .int zn, .ref mE, .int zm, .int zl, .ref mW, .int zk, .ref mO, .int zd, .ref y1, .ref y2, .ref y3, .ref y4, .ref mZ])), (x1, .inl (cI, 300, .inl ec1)), (x2, .inl (cI, 300, .inl ec2)), (x3, .inl (cI, 300, .inl ec3))] sz) [(oM, .inr (12, [.ref mT, .int zt, .ref mS, .ref mX, .int zp, .int zf, .ref mL, .ref mB, .ref mD, .ref m1, .ref m2, .int zh, .ref mR, .int zr, .ref x1, .ref x2, .ref x3, .int zc, .ref mH, .int zy, .int za, .int zb, .int zs, .int zq, .int zw, .int ze, .ref mY, .int zn, .ref mE, .int zm, .int zl, .ref mW, .int zk, .ref mO, .int zd, .ref y1, .ref y2, .ref y3, .ref y4, .ref mZ])), (x1, .inl (cI, 300, .inl ec1)), (x2, .inl (cI, 300, .inl ec2)), (x3, .inl (cI, 300, .inl ec3))] ∧ (0 ≤ r.toInt ∧ r.toInt ≤ 200) ∧ (r.toInt = cF (tcR zc.toInt ec1 ec2 ec3 x y) x y)) (va_A [(oM, .inr (12, [.ref mT, .int zt, .ref mS, .ref mX, .int zp, .int zf, .ref mL, .ref mB, .ref mD, .ref m1, .ref m2, .int zh, .ref mR, .int zr, .ref x1, .ref x2, .ref x3, .int zc, .ref mH, .int zy, .int za, .int zb, .int zs, .int zq, .int zw, .int ze, .ref mY, .int zn, .ref mE, .int zm, .int zl, .ref mW, .int zk, .ref mO, .int zd, .ref y1, .ref y2, .ref y3, .ref y4, .ref mZ])), (x1, .inl (cI, 300, .inl ec1)), (x2, .inl (cI, 300, .inl ec2)), (x3, .inl (cI, 300, .inl ec3))] sz)) 0 0 (va_A [(oM, .inr (12, [.ref mT, .int zt, .ref mS, .ref mX, .int zp, .int zf, .ref mL, .ref mB, .ref mD, .ref m1, .ref m2, .int zh, .ref mR, .int zr, .ref x1, .ref x2, .ref x3, .int zc, .ref mH, .int zy, .int za, .int zb, .int zs, .int zq, .int zw, .int ze, .ref mY, .int zn, .ref mE, .int zm, .int zl, .ref mW, .int zk, .ref mO, .int zd, .ref y1, .ref y2, .ref y3, .ref y4, .ref mZ])), (x1, .inl (cI, 300, .inl ec1)), (x2, .inl (cI, 300, .inl ec2)), (x3, .inl (cI, 300, .inl ec3))] sz) := by
  refine Met.ofW (cc := cX12_costOf) (maxL := 5) (ret := (some .int)) (by decide) rfl ?_
  intro p e s m args below meth c s₁ B hml hv
  obtain ⟨rfl, hsz, hP, hK, hD0⟩ := hv
  have hx := B.exec
  have hb := B.bytes
  have hr := B.returns
  have hts := atoms_spec (ws := wsX12_costOf) B.pre
  have hown : s.vm.findClass RX12 = some m.cls := findClass_of_methodNamed B.named
  have hlocks := B.notSynchronized
  have in_X12 : ∀ w ∈ wsX120, w ∈ wsX12_costOf := fun _ h => List.mem_cons_of_mem _ (List.mem_append_right _ (h))
  subst hsz
  have hD := hD0.self (sz := s.heap.size)
  generalize hAe : va_A [(oM, .inr (12, [.ref mT, .int zt, .ref mS, .ref mX, .int zp, .int zf, .ref mL, .ref mB, .ref mD, .ref m1, .ref m2, .int zh, .ref mR, .int zr, .ref x1, .ref x2, .ref x3, .int zc, .ref mH, .int zy, .int za, .int zb, .int zs, .int zq, .int zw, .int ze, .ref mY, .int zn, .ref mE, .int zm, .int zl, .ref mW, .int zk, .ref mO, .int zd, .ref y1, .ref y2, .ref y3, .ref y4, .ref mZ])), (x1, .inl (cI, 300, .inl ec1)), (x2, .inl (cI, 300, .inl ec2)), (x3, .inl (cI, 300, .inl ec3))] s.heap.size = A at hD ⊢
  have hA : ∀ q : Nat, s.heap.size ≤ q → A q := fun q h => by rw [← hAe]; exact Or.inr h
  have hS : va_S A s.heap s.heap [] := va_S.rf
  have hP : va_P (dC, dI) vwCl [(oM, .inr (12, [.ref mT, .int zt, .ref mS, .ref mX, .int zp, .int zf, .ref mL, .ref mB, .ref mD, .ref m1, .ref m2, .int zh, .ref mR, .int zr, .ref x1, .ref x2, .ref x3, .int zc, .ref mH, .int zy, .int za, .int zb, .int zs, .int zq, .int zw, .int ze, .ref mY, .int zn, .ref mE, .int zm, .int zl, .ref mW, .int zk, .ref mO, .int zd, .ref y1, .ref y2, .ref y3, .ref y4, .ref mZ])), (x1, .inl (cI, 300, .inl ec1)), (x2, .inl (cI, 300, .inl ec2)), (x3, .inl (cI, 300, .inl ec3))] s.heap := hP
  have hl := lv_entry ([.ref oM, .int x, .int y]) (n := 5) (Nat.le_of_ble_eq_true rfl)
  rw [lg_entry_eq]
  generalize (lg_sl ([.ref oM, .int x, .int y]) ++ List.replicate (5 - (lg_sl ([.ref oM, .int x, .int y])).length) Slot.unset).toArray = ls at hl ⊢
  have hl : lv_has ls 5 [(0, .ref oM), (1, .int x), (2, .int y)] := hl
  obtain ⟨QQ, hQQ⟩ : ∃ QQ : Array Value → State → Outcome → State → Prop, QQ = va_Qi (fun (r : Int32) (u : Int32) => r = u) (fun (r : Int32) t => va_P (dC, dI) vwCl [(oM, .inr (12, [.ref mT, .int zt, .ref mS, .ref mX, .int zp, .int zf, .ref mL, .ref mB, .ref mD, .ref m1, .ref m2, .int zh, .ref mR, .int zr, .ref x1, .ref x2, .ref x3, .int zc, .ref mH, .int zy, .int za, .int zb, .int zs, .int zq, .int zw, .int ze, .ref mY, .int zn, .ref mE, .int zm, .int zl, .ref mW, .int zk, .ref mO, .int zd, .ref y1, .ref y2, .ref y3, .ref y4, .ref mZ])), (x1, .inl (cI, 300, .inl ec1)), (x2, .inl (cI, 300, .inl ec2)), (x3, .inl (cI, 300, .inl ec3))] t.heap ∧ va_D A [(oM, .inr (12, [.ref mT, .int zt, .ref mS, .ref mX, .int zp, .int zf, .ref mL, .ref mB, .ref mD, .ref m1, .ref m2, .int zh, .ref mR, .int zr, .ref x1, .ref x2, .ref x3, .int zc, .ref mH, .int zy, .int za, .int zb, .int zs, .int zq, .int zw, .int ze, .ref mY, .int zn, .ref mE, .int zm, .int zl, .ref mW, .int zk, .ref mO, .int zd, .ref y1, .ref y2, .ref y3, .ref y4, .ref mZ])), (x1, .inl (cI, 300, .inl ec1)), (x2, .inl (cI, 300, .inl ec2)), (x3, .inl (cI, 300, .inl ec3))] ∧ (0 ≤ r.toInt ∧ r.toInt ≤ 200) ∧ (r.toInt = cF (tcR zc.toInt ec1 ec2 ec3 x y) x y)) A := ⟨_, rfl⟩
  rw [← hQQ]
  refine lv_iconst (v := 0) hx hb dX12_costOf_0 (by decide) ?_
  refine lv_istore_n (lv' := [(3, .int 0), (0, .ref oM), (1, .int x), (2, .int y)]) hx hb dX12_costOf_1 rfl hl (by decide) rfl (fun ls hl => ?_)
  have LOOP_2 : ∀ (k_2 : Nat) (k : Int32) (H : Heap) (locs : List Loc) (ls : Array Slot), MSd (300 - k.toInt : Int) k_2 → (0 ≤ k.toInt ∧ k.toInt ≤ 300) → (k.toInt ≤ zc.toInt) → (noP k.toInt x y ec1 ec2) → va_P (dC, dI) vwCl [(oM, .inr (12, [.ref mT, .int zt, .ref mS, .ref mX, .int zp, .int zf, .ref mL, .ref mB, .ref mD, .ref m1, .ref m2, .int zh, .ref mR, .int zr, .ref x1, .ref x2, .ref x3, .int zc, .ref mH, .int zy, .int za, .int zb, .int zs, .int zq, .int zw, .int ze, .ref mY, .int zn, .ref mE, .int zm, .int zl, .ref mW, .int zk, .ref mO, .int zd, .ref y1, .ref y2, .ref y3, .ref y4, .ref mZ])), (x1, .inl (cI, 300, .inl ec1)), (x2, .inl (cI, 300, .inl ec2)), (x3, .inl (cI, 300, .inl ec3))] H → va_D A [(oM, .inr (12, [.ref mT, .int zt, .ref mS, .ref mX, .int zp, .int zf, .ref mL, .ref mB, .ref mD, .ref m1, .ref m2, .int zh, .ref mR, .int zr, .ref x1, .ref x2, .ref x3, .int zc, .ref mH, .int zy, .int za, .int zb, .int zs, .int zq, .int zw, .int ze, .ref mY, .int zn, .ref mE, .int zm, .int zl, .ref mW, .int zk, .ref mO, .int zd, .ref y1, .ref y2, .ref y3, .ref y4, .ref mZ])), (x1, .inl (cI, 300, .inl ec1)), (x2, .inl (cI, 300, .inl ec2)), (x3, .inl (cI, 300, .inl ec3))] → va_S A s.heap H locs → lv_has ls 5 [(3, .int k), (0, .ref oM), (1, .int x), (2, .int y)] → W p l e (headSpec wsX12_costOf ({ frames := 1, cells := 0, slots := 0, locals := 20 } : Room)).room s m ([.ref oM, .int x, .int y] : List Value).toArray below meth c H locs 0 0 (MQ below QQ ([.ref oM, .int x, .int y] : List Value).toArray s 0 0 A) (F0 m 2 ls []) := by
    clear hP hD hS hl
    intro k_2
    induction k_2 with
    | zero =>
      intro k H locs ls hm_2 g_k hkc hno hP hD hS hl
      exact ms_0 hm_2
    | succ k_2 ih_2 =>
      intro k H locs ls hm_2 g_k hkc hno hP hD hS hl
      refine lv_iload_n hx hb dX12_costOf_2 rfl (lv_at hl 0 rfl) ?_
      refine lv_aload_n hx hb dX12_costOf_3 rfl (lv_at hl 1 rfl) ?_
      refine va_get (D := (dC, dI)) (ci := 12) (v := .int zc) (C := RX12) (T := TX12) (N := 40) hx hb hts in_X12 hown hK hP 0 rfl rfl 17 (by decide) (hts (.fieldLink RX12 168 "TextMenderModel" "costs" "I") (List.mem_of_getElem? (i := 1) rfl)) (fun _ h9 => h9) rfl dX12_costOf_4 ?_
      refine lv_icmp_ge (tgt := 43) hx hb dX12_costOf_7 (by decide) (fun c_1 => ?_) (fun c_1 => ?_)
      · have tc_1 : zc.toInt ≤ k.toInt := v_le c_1
        refine lv_iload_n hx hb dX12_costOf_43 rfl (lv_at hl 2 rfl) ?_
        have hPc := hP.sub (ws' := []) [] rfl
        have hDc := hD.sub (ws' := []) [] (by decide +kernel) rfl
        have hFc := va_free (wc := []) hD hS hA [] rfl
        refine va_calli (va_runS (As := [.int x]) (rest := []) ⟨hx, hb, hml, hown, hts⟩ (f_X12_sortOf l dC dI cI cS H.size x ) (va_cwS 1 hts gX12_costOf_X12_sortOf rfl rfl rfl (by decide +kernel) ⟨Nat.le_of_ble_eq_true rfl, Nat.le_of_ble_eq_true rfl⟩) ⟨fun a U g mk q => by obtain ⟨q0, q1, qP, qK, qD⟩ := q; exact ⟨q0, q1, qP, va_K.moved (u := U) (U := U.calling g mk a) (Vm.Alike.refl U.vm) qK, qD⟩, fun U hU hW => ⟨rfl, by rw [hU], by rw [hU]; exact hPc, va_K.moved hW.alike hK, hDc.weaken (fun _ _ _ _ => trivial)⟩⟩ rfl rfl hl.1 rfl (lv_room (Nat.le_of_ble_eq_true rfl)) dX12_costOf_44 ⟨Nat.le_of_ble_eq_true rfl, Nat.le_of_ble_eq_true rfl⟩) hS (fun q _ h => hFc q h) hFc (fun r_2 u t H1 locs ht hvm hw hB hz1 hk1 hSn => ?_)
        subst hw
        obtain ⟨hP1, hD1, hf2_0, hf2_1⟩ := hB
        rw [ht] at hP1
        obtain ⟨hPn, hDn⟩ := va_join (wr := [(oM, .inr (12, [.ref mT, .int zt, .ref mS, .ref mX, .int zp, .int zf, .ref mL, .ref mB, .ref mD, .ref m1, .ref m2, .int zh, .ref mR, .int zr, .ref x1, .ref x2, .ref x3, .int zc, .ref mH, .int zy, .int za, .int zb, .int zs, .int zq, .int zw, .int ze, .ref mY, .int zn, .ref mE, .int zm, .int zl, .ref mW, .int zk, .ref mO, .int zd, .ref y1, .ref y2, .ref y3, .ref y4, .ref mZ])), (x1, .inl (cI, 300, .inl ec1)), (x2, .inl (cI, 300, .inl ec2)), (x3, .inl (cI, 300, .inl ec3))]) (w1 := []) hP hD [] [0, 1, 2, 3] rfl rfl (by decide +kernel) (by decide +kernel) hk1 hFc hP1 hD1
        clear hP hD hS hPc hDc hFc hk1 hz1 hvm ht hP1 hD1
        generalize H1 = H at hPn hSn ⊢
        have hP : va_P (dC, dI) vwCl [(oM, .inr (12, [.ref mT, .int zt, .ref mS, .ref mX, .int zp, .int zf, .ref mL, .ref mB, .ref mD, .ref m1, .ref m2, .int zh, .ref mR, .int zr, .ref x1, .ref x2, .ref x3, .int zc, .ref mH, .int zy, .int za, .int zb, .int zs, .int zq, .int zw, .int ze, .ref mY, .int zn, .ref mE, .int zm, .int zl, .ref mW, .int zk, .ref mO, .int zd, .ref y1, .ref y2, .ref y3, .ref y4, .ref mZ])), (x1, .inl (cI, 300, .inl ec1)), (x2, .inl (cI, 300, .inl ec2)), (x3, .inl (cI, 300, .inl ec3))] H := hPn
        have hD : va_D A [(oM, .inr (12, [.ref mT, .int zt, .ref mS, .ref mX, .int zp, .int zf, .ref mL, .ref mB, .ref mD, .ref m1, .ref m2, .int zh, .ref mR, .int zr, .ref x1, .ref x2, .ref x3, .int zc, .ref mH, .int zy, .int za, .int zb, .int zs, .int zq, .int zw, .int ze, .ref mY, .int zn, .ref mE, .int zm, .int zl, .ref mW, .int zk, .ref mO, .int zd, .ref y1, .ref y2, .ref y3, .ref y4, .ref mZ])), (x1, .inl (cI, 300, .inl ec1)), (x2, .inl (cI, 300, .inl ec2)), (x3, .inl (cI, 300, .inl ec3))] := hDn
        have hS := hSn
        clear hPn hDn hSn
        refine lv_istore_n (lv' := [(3, .int r_2), (0, .ref oM), (1, .int x), (2, .int y)]) hx hb dX12_costOf_47 rfl hl (by decide) rfl (fun ls hl => ?_)
        refine lv_iload_n hx hb dX12_costOf_48 rfl (lv_at hl 3 rfl) ?_
        have hPc := hP.sub (ws' := []) [] rfl
        have hDc := hD.sub (ws' := []) [] (by decide +kernel) rfl
        have hFc := va_free (wc := []) hD hS hA [] rfl
        refine va_calli (va_runS (As := [.int y]) (rest := []) ⟨hx, hb, hml, hown, hts⟩ (f_X12_sortOf l dC dI cI cS H.size y ) (va_cwS 1 hts gX12_costOf_X12_sortOf rfl rfl rfl (by decide +kernel) ⟨Nat.le_of_ble_eq_true rfl, Nat.le_of_ble_eq_true rfl⟩) ⟨fun a U g mk q => by obtain ⟨q0, q1, qP, qK, qD⟩ := q; exact ⟨q0, q1, qP, va_K.moved (u := U) (U := U.calling g mk a) (Vm.Alike.refl U.vm) qK, qD⟩, fun U hU hW => ⟨rfl, by rw [hU], by rw [hU]; exact hPc, va_K.moved hW.alike hK, hDc.weaken (fun _ _ _ _ => trivial)⟩⟩ rfl rfl hl.1 rfl (lv_room (Nat.le_of_ble_eq_true rfl)) dX12_costOf_49 ⟨Nat.le_of_ble_eq_true rfl, Nat.le_of_ble_eq_true rfl⟩) hS (fun q _ h => hFc q h) hFc (fun r_3 u t H1 locs ht hvm hw hB hz1 hk1 hSn => ?_)
        subst hw
        obtain ⟨hP1, hD1, hf3_0, hf3_1⟩ := hB
        rw [ht] at hP1
        obtain ⟨hPn, hDn⟩ := va_join (wr := [(oM, .inr (12, [.ref mT, .int zt, .ref mS, .ref mX, .int zp, .int zf, .ref mL, .ref mB, .ref mD, .ref m1, .ref m2, .int zh, .ref mR, .int zr, .ref x1, .ref x2, .ref x3, .int zc, .ref mH, .int zy, .int za, .int zb, .int zs, .int zq, .int zw, .int ze, .ref mY, .int zn, .ref mE, .int zm, .int zl, .ref mW, .int zk, .ref mO, .int zd, .ref y1, .ref y2, .ref y3, .ref y4, .ref mZ])), (x1, .inl (cI, 300, .inl ec1)), (x2, .inl (cI, 300, .inl ec2)), (x3, .inl (cI, 300, .inl ec3))]) (w1 := []) hP hD [] [0, 1, 2, 3] rfl rfl (by decide +kernel) (by decide +kernel) hk1 hFc hP1 hD1
        clear hP hD hS hPc hDc hFc hk1 hz1 hvm ht hP1 hD1
        generalize H1 = H at hPn hSn ⊢
        have hP : va_P (dC, dI) vwCl [(oM, .inr (12, [.ref mT, .int zt, .ref mS, .ref mX, .int zp, .int zf, .ref mL, .ref mB, .ref mD, .ref m1, .ref m2, .int zh, .ref mR, .int zr, .ref x1, .ref x2, .ref x3, .int zc, .ref mH, .int zy, .int za, .int zb, .int zs, .int zq, .int zw, .int ze, .ref mY, .int zn, .ref mE, .int zm, .int zl, .ref mW, .int zk, .ref mO, .int zd, .ref y1, .ref y2, .ref y3, .ref y4, .ref mZ])), (x1, .inl (cI, 300, .inl ec1)), (x2, .inl (cI, 300, .inl ec2)), (x3, .inl (cI, 300, .inl ec3))] H := hPn
        have hD : va_D A [(oM, .inr (12, [.ref mT, .int zt, .ref mS, .ref mX, .int zp, .int zf, .ref mL, .ref mB, .ref mD, .ref m1, .ref m2, .int zh, .ref mR, .int zr, .ref x1, .ref x2, .ref x3, .int zc, .ref mH, .int zy, .int za, .int zb, .int zs, .int zq, .int zw, .int ze, .ref mY, .int zn, .ref mE, .int zm, .int zl, .ref mW, .int zk, .ref mO, .int zd, .ref y1, .ref y2, .ref y3, .ref y4, .ref mZ])), (x1, .inl (cI, 300, .inl ec1)), (x2, .inl (cI, 300, .inl ec2)), (x3, .inl (cI, 300, .inl ec3))] := hDn
        have hS := hSn
        clear hPn hDn hSn
        refine lv_istore (lv' := [(4, .int r_3), (3, .int r_2), (0, .ref oM), (1, .int x), (2, .int y)]) hx hb dX12_costOf_52 hl (by decide) rfl (fun ls hl => ?_)
        refine lv_iload_n hx hb dX12_costOf_54 rfl (lv_at hl 1 rfl) ?_
        refine lv_iload hx hb dX12_costOf_55 (lv_at hl 0 rfl) ?_
        refine lv_icmp_ne (tgt := 64) hx hb dX12_costOf_57 (by decide) (fun c_4 => ?_) (fun c_4 => ?_)
        · have tc_4 : ¬ r_2.toInt = r_3.toInt := v_ne c_4
          refine lv_bipush (v := 9) hx hb dX12_costOf_64 (by decide) ?_
          refine lv_iload_n hx hb dX12_costOf_66 rfl (lv_at hl 1 rfl) ?_
          refine lv_if_ne (tgt := 75) hx hb dX12_costOf_67 (by decide) (fun c_5 => ?_) (fun c_5 => ?_)
          · have tc_5 : ¬ r_2.toInt = 0 := v_ne c_5
            refine lv_iconst (v := 0) hx hb dX12_costOf_75 (by decide) ?_
            refine lv_iadd hx hb dX12_costOf_76 ?_
            refine k_i (y := 9) (by decide) ?_
            refine lv_iload hx hb dX12_costOf_77 (lv_at hl 0 rfl) ?_
            refine lv_if_ne (tgt := 87) hx hb dX12_costOf_79 (by decide) (fun c_6 => ?_) (fun c_6 => ?_)
            · have tc_6 : ¬ r_3.toInt = 0 := v_ne c_6
              refine lv_iconst (v := 0) hx hb dX12_costOf_87 (by decide) ?_
              refine lv_iadd hx hb dX12_costOf_88 ?_
              refine k_i (y := 9) (by decide) ?_
              have hP9 := hP.sub (ws' := [(oM, .inr (12, [.ref mT, .int zt, .ref mS, .ref mX, .int zp, .int zf, .ref mL, .ref mB, .ref mD, .ref m1, .ref m2, .int zh, .ref mR, .int zr, .ref x1, .ref x2, .ref x3, .int zc, .ref mH, .int zy, .int za, .int zb, .int zs, .int zq, .int zw, .int ze, .ref mY, .int zn, .ref mE, .int zm, .int zl, .ref mW, .int zk, .ref mO, .int zd, .ref y1, .ref y2, .ref y3, .ref y4, .ref mZ])), (x1, .inl (cI, 300, .inl ec1)), (x2, .inl (cI, 300, .inl ec2)), (x3, .inl (cI, 300, .inl ec3))]) [0, 1, 2, 3] rfl
              have hD9 := hD.sub (ws' := [(oM, .inr (12, [.ref mT, .int zt, .ref mS, .ref mX, .int zp, .int zf, .ref mL, .ref mB, .ref mD, .ref m1, .ref m2, .int zh, .ref mR, .int zr, .ref x1, .ref x2, .ref x3, .int zc, .ref mH, .int zy, .int za, .int zb, .int zs, .int zq, .int zw, .int ze, .ref mY, .int zn, .ref mE, .int zm, .int zl, .ref mW, .int zk, .ref mO, .int zd, .ref y1, .ref y2, .ref y3, .ref y4, .ref mZ])), (x1, .inl (cI, 300, .inl ec1)), (x2, .inl (cI, 300, .inl ec2)), (x3, .inl (cI, 300, .inl ec3))]) [0, 1, 2, 3] (by decide +kernel) rfl
              rw [hQQ]
              exact W.iret (v := 9) hx hb hr (fun t ht hW => ⟨⟨9, 9, rfl, rfl, ⟨by rw [ht]; exact hP9, hD9, by decide, by first | (exfalso; omega) | (rw [tcR_no (fun j hj => hno j (by omega))]; unfold cF sC; rw [if_pos rfl, ← hf2_1, ← hf3_1]; (repeat (first | rw [if_pos (by omega)] | rw [if_neg (by omega)])) <;> rfl)⟩⟩, hS.F ht⟩) hS.2.2 dX12_costOf_89
            · have tc_6 : r_3.toInt = 0 := v_eq c_6
              refine lv_bipush (v := 30) hx hb dX12_costOf_82 (by decide) ?_
              refine lv_goto (tgt := 88) hx hb dX12_costOf_84 (by decide) ?_
              refine lv_iadd hx hb dX12_costOf_88 ?_
              refine k_i (y := 39) (by decide) ?_
              have hP9 := hP.sub (ws' := [(oM, .inr (12, [.ref mT, .int zt, .ref mS, .ref mX, .int zp, .int zf, .ref mL, .ref mB, .ref mD, .ref m1, .ref m2, .int zh, .ref mR, .int zr, .ref x1, .ref x2, .ref x3, .int zc, .ref mH, .int zy, .int za, .int zb, .int zs, .int zq, .int zw, .int ze, .ref mY, .int zn, .ref mE, .int zm, .int zl, .ref mW, .int zk, .ref mO, .int zd, .ref y1, .ref y2, .ref y3, .ref y4, .ref mZ])), (x1, .inl (cI, 300, .inl ec1)), (x2, .inl (cI, 300, .inl ec2)), (x3, .inl (cI, 300, .inl ec3))]) [0, 1, 2, 3] rfl
              have hD9 := hD.sub (ws' := [(oM, .inr (12, [.ref mT, .int zt, .ref mS, .ref mX, .int zp, .int zf, .ref mL, .ref mB, .ref mD, .ref m1, .ref m2, .int zh, .ref mR, .int zr, .ref x1, .ref x2, .ref x3, .int zc, .ref mH, .int zy, .int za, .int zb, .int zs, .int zq, .int zw, .int ze, .ref mY, .int zn, .ref mE, .int zm, .int zl, .ref mW, .int zk, .ref mO, .int zd, .ref y1, .ref y2, .ref y3, .ref y4, .ref mZ])), (x1, .inl (cI, 300, .inl ec1)), (x2, .inl (cI, 300, .inl ec2)), (x3, .inl (cI, 300, .inl ec3))]) [0, 1, 2, 3] (by decide +kernel) rfl
              rw [hQQ]
              exact W.iret (v := 39) hx hb hr (fun t ht hW => ⟨⟨39, 39, rfl, rfl, ⟨by rw [ht]; exact hP9, hD9, by decide, by first | (exfalso; omega) | (rw [tcR_no (fun j hj => hno j (by omega))]; unfold cF sC; rw [if_pos rfl, ← hf2_1, ← hf3_1]; (repeat (first | rw [if_pos (by omega)] | rw [if_neg (by omega)])) <;> rfl)⟩⟩, hS.F ht⟩) hS.2.2 dX12_costOf_89
          · have tc_5 : r_2.toInt = 0 := v_eq c_5
            refine lv_bipush (v := 30) hx hb dX12_costOf_70 (by decide) ?_
            refine lv_goto (tgt := 76) hx hb dX12_costOf_72 (by decide) ?_
            refine lv_iadd hx hb dX12_costOf_76 ?_
            refine k_i (y := 39) (by decide) ?_
            refine lv_iload hx hb dX12_costOf_77 (lv_at hl 0 rfl) ?_
            refine lv_if_ne (tgt := 87) hx hb dX12_costOf_79 (by decide) (fun c_7 => ?_) (fun c_7 => ?_)
            · have tc_7 : ¬ r_3.toInt = 0 := v_ne c_7
              refine lv_iconst (v := 0) hx hb dX12_costOf_87 (by decide) ?_
              refine lv_iadd hx hb dX12_costOf_88 ?_
              refine k_i (y := 39) (by decide) ?_
              have hP9 := hP.sub (ws' := [(oM, .inr (12, [.ref mT, .int zt, .ref mS, .ref mX, .int zp, .int zf, .ref mL, .ref mB, .ref mD, .ref m1, .ref m2, .int zh, .ref mR, .int zr, .ref x1, .ref x2, .ref x3, .int zc, .ref mH, .int zy, .int za, .int zb, .int zs, .int zq, .int zw, .int ze, .ref mY, .int zn, .ref mE, .int zm, .int zl, .ref mW, .int zk, .ref mO, .int zd, .ref y1, .ref y2, .ref y3, .ref y4, .ref mZ])), (x1, .inl (cI, 300, .inl ec1)), (x2, .inl (cI, 300, .inl ec2)), (x3, .inl (cI, 300, .inl ec3))]) [0, 1, 2, 3] rfl
              have hD9 := hD.sub (ws' := [(oM, .inr (12, [.ref mT, .int zt, .ref mS, .ref mX, .int zp, .int zf, .ref mL, .ref mB, .ref mD, .ref m1, .ref m2, .int zh, .ref mR, .int zr, .ref x1, .ref x2, .ref x3, .int zc, .ref mH, .int zy, .int za, .int zb, .int zs, .int zq, .int zw, .int ze, .ref mY, .int zn, .ref mE, .int zm, .int zl, .ref mW, .int zk, .ref mO, .int zd, .ref y1, .ref y2, .ref y3, .ref y4, .ref mZ])), (x1, .inl (cI, 300, .inl ec1)), (x2, .inl (cI, 300, .inl ec2)), (x3, .inl (cI, 300, .inl ec3))]) [0, 1, 2, 3] (by decide +kernel) rfl
              rw [hQQ]
              exact W.iret (v := 39) hx hb hr (fun t ht hW => ⟨⟨39, 39, rfl, rfl, ⟨by rw [ht]; exact hP9, hD9, by decide, by first | (exfalso; omega) | (rw [tcR_no (fun j hj => hno j (by omega))]; unfold cF sC; rw [if_pos rfl, ← hf2_1, ← hf3_1]; (repeat (first | rw [if_pos (by omega)] | rw [if_neg (by omega)])) <;> rfl)⟩⟩, hS.F ht⟩) hS.2.2 dX12_costOf_89
            · have tc_7 : r_3.toInt = 0 := v_eq c_7
              refine lv_bipush (v := 30) hx hb dX12_costOf_82 (by decide) ?_
              refine lv_goto (tgt := 88) hx hb dX12_costOf_84 (by decide) ?_
              refine lv_iadd hx hb dX12_costOf_88 ?_
              refine k_i (y := 69) (by decide) ?_
              have hP9 := hP.sub (ws' := [(oM, .inr (12, [.ref mT, .int zt, .ref mS, .ref mX, .int zp, .int zf, .ref mL, .ref mB, .ref mD, .ref m1, .ref m2, .int zh, .ref mR, .int zr, .ref x1, .ref x2, .ref x3, .int zc, .ref mH, .int zy, .int za, .int zb, .int zs, .int zq, .int zw, .int ze, .ref mY, .int zn, .ref mE, .int zm, .int zl, .ref mW, .int zk, .ref mO, .int zd, .ref y1, .ref y2, .ref y3, .ref y4, .ref mZ])), (x1, .inl (cI, 300, .inl ec1)), (x2, .inl (cI, 300, .inl ec2)), (x3, .inl (cI, 300, .inl ec3))]) [0, 1, 2, 3] rfl
              have hD9 := hD.sub (ws' := [(oM, .inr (12, [.ref mT, .int zt, .ref mS, .ref mX, .int zp, .int zf, .ref mL, .ref mB, .ref mD, .ref m1, .ref m2, .int zh, .ref mR, .int zr, .ref x1, .ref x2, .ref x3, .int zc, .ref mH, .int zy, .int za, .int zb, .int zs, .int zq, .int zw, .int ze, .ref mY, .int zn, .ref mE, .int zm, .int zl, .ref mW, .int zk, .ref mO, .int zd, .ref y1, .ref y2, .ref y3, .ref y4, .ref mZ])), (x1, .inl (cI, 300, .inl ec1)), (x2, .inl (cI, 300, .inl ec2)), (x3, .inl (cI, 300, .inl ec3))]) [0, 1, 2, 3] (by decide +kernel) rfl
              rw [hQQ]
              exact W.iret (v := 69) hx hb hr (fun t ht hW => ⟨⟨69, 69, rfl, rfl, ⟨by rw [ht]; exact hP9, hD9, by decide, by first | (exfalso; omega) | (rw [tcR_no (fun j hj => hno j (by omega))]; unfold cF sC; rw [if_pos rfl, ← hf2_1, ← hf3_1]; (repeat (first | rw [if_pos (by omega)] | rw [if_neg (by omega)])) <;> rfl)⟩⟩, hS.F ht⟩) hS.2.2 dX12_costOf_89
        · have tc_4 : r_2.toInt = r_3.toInt := v_eq c_4
          refine lv_iconst (v := 4) hx hb dX12_costOf_60 (by decide) ?_
          refine lv_goto (tgt := 66) hx hb dX12_costOf_61 (by decide) ?_
          refine lv_iload_n hx hb dX12_costOf_66 rfl (lv_at hl 1 rfl) ?_
          refine lv_if_ne (tgt := 75) hx hb dX12_costOf_67 (by decide) (fun c_8 => ?_) (fun c_8 => ?_)
          · have tc_8 : ¬ r_2.toInt = 0 := v_ne c_8
            refine lv_iconst (v := 0) hx hb dX12_costOf_75 (by decide) ?_
            refine lv_iadd hx hb dX12_costOf_76 ?_
            refine k_i (y := 4) (by decide) ?_
            refine lv_iload hx hb dX12_costOf_77 (lv_at hl 0 rfl) ?_
            refine lv_if_ne (tgt := 87) hx hb dX12_costOf_79 (by decide) (fun c_9 => ?_) (fun c_9 => ?_)
            · have tc_9 : ¬ r_3.toInt = 0 := v_ne c_9
              refine lv_iconst (v := 0) hx hb dX12_costOf_87 (by decide) ?_
              refine lv_iadd hx hb dX12_costOf_88 ?_
              refine k_i (y := 4) (by decide) ?_
              have hP9 := hP.sub (ws' := [(oM, .inr (12, [.ref mT, .int zt, .ref mS, .ref mX, .int zp, .int zf, .ref mL, .ref mB, .ref mD, .ref m1, .ref m2, .int zh, .ref mR, .int zr, .ref x1, .ref x2, .ref x3, .int zc, .ref mH, .int zy, .int za, .int zb, .int zs, .int zq, .int zw, .int ze, .ref mY, .int zn, .ref mE, .int zm, .int zl, .ref mW, .int zk, .ref mO, .int zd, .ref y1, .ref y2, .ref y3, .ref y4, .ref mZ])), (x1, .inl (cI, 300, .inl ec1)), (x2, .inl (cI, 300, .inl ec2)), (x3, .inl (cI, 300, .inl ec3))]) [0, 1, 2, 3] rfl
              have hD9 := hD.sub (ws' := [(oM, .inr (12, [.ref mT, .int zt, .ref mS, .ref mX, .int zp, .int zf, .ref mL, .ref mB, .ref mD, .ref m1, .ref m2, .int zh, .ref mR, .int zr, .ref x1, .ref x2, .ref x3, .int zc, .ref mH, .int zy, .int za, .int zb, .int zs, .int zq, .int zw, .int ze, .ref mY, .int zn, .ref mE, .int zm, .int zl, .ref mW, .int zk, .ref mO, .int zd, .ref y1, .ref y2, .ref y3, .ref y4, .ref mZ])), (x1, .inl (cI, 300, .inl ec1)), (x2, .inl (cI, 300, .inl ec2)), (x3, .inl (cI, 300, .inl ec3))]) [0, 1, 2, 3] (by decide +kernel) rfl
              rw [hQQ]
              exact W.iret (v := 4) hx hb hr (fun t ht hW => ⟨⟨4, 4, rfl, rfl, ⟨by rw [ht]; exact hP9, hD9, by decide, by first | (exfalso; omega) | (rw [tcR_no (fun j hj => hno j (by omega))]; unfold cF sC; rw [if_pos rfl, ← hf2_1, ← hf3_1]; (repeat (first | rw [if_pos (by omega)] | rw [if_neg (by omega)])) <;> rfl)⟩⟩, hS.F ht⟩) hS.2.2 dX12_costOf_89
            · have tc_9 : r_3.toInt = 0 := v_eq c_9
              refine lv_bipush (v := 30) hx hb dX12_costOf_82 (by decide) ?_
              refine lv_goto (tgt := 88) hx hb dX12_costOf_84 (by decide) ?_
              refine lv_iadd hx hb dX12_costOf_88 ?_
              refine k_i (y := 34) (by decide) ?_
              have hP9 := hP.sub (ws' := [(oM, .inr (12, [.ref mT, .int zt, .ref mS, .ref mX, .int zp, .int zf, .ref mL, .ref mB, .ref mD, .ref m1, .ref m2, .int zh, .ref mR, .int zr, .ref x1, .ref x2, .ref x3, .int zc, .ref mH, .int zy, .int za, .int zb, .int zs, .int zq, .int zw, .int ze, .ref mY, .int zn, .ref mE, .int zm, .int zl, .ref mW, .int zk, .ref mO, .int zd, .ref y1, .ref y2, .ref y3, .ref y4, .ref mZ])), (x1, .inl (cI, 300, .inl ec1)), (x2, .inl (cI, 300, .inl ec2)), (x3, .inl (cI, 300, .inl ec3))]) [0, 1, 2, 3] rfl
              have hD9 := hD.sub (ws' := [(oM, .inr (12, [.ref mT, .int zt, .ref mS, .ref mX, .int zp, .int zf, .ref mL, .ref mB, .ref mD, .ref m1, .ref m2, .int zh, .ref mR, .int zr, .ref x1, .ref x2, .ref x3, .int zc, .ref mH, .int zy, .int za, .int zb, .int zs, .int zq, .int zw, .int ze, .ref mY, .int zn, .ref mE, .int zm, .int zl, .ref mW, .int zk, .ref mO, .int zd, .ref y1, .ref y2, .ref y3, .ref y4, .ref mZ])), (x1, .inl (cI, 300, .inl ec1)), (x2, .inl (cI, 300, .inl ec2)), (x3, .inl (cI, 300, .inl ec3))]) [0, 1, 2, 3] (by decide +kernel) rfl
              rw [hQQ]
              exact W.iret (v := 34) hx hb hr (fun t ht hW => ⟨⟨34, 34, rfl, rfl, ⟨by rw [ht]; exact hP9, hD9, by decide, by first | (exfalso; omega) | (rw [tcR_no (fun j hj => hno j (by omega))]; unfold cF sC; rw [if_pos rfl, ← hf2_1, ← hf3_1]; (repeat (first | rw [if_pos (by omega)] | rw [if_neg (by omega)])) <;> rfl)⟩⟩, hS.F ht⟩) hS.2.2 dX12_costOf_89
          · have tc_8 : r_2.toInt = 0 := v_eq c_8
            refine lv_bipush (v := 30) hx hb dX12_costOf_70 (by decide) ?_
            refine lv_goto (tgt := 76) hx hb dX12_costOf_72 (by decide) ?_
            refine lv_iadd hx hb dX12_costOf_76 ?_
            refine k_i (y := 34) (by decide) ?_
            refine lv_iload hx hb dX12_costOf_77 (lv_at hl 0 rfl) ?_
            refine lv_if_ne (tgt := 87) hx hb dX12_costOf_79 (by decide) (fun c_10 => ?_) (fun c_10 => ?_)
            · have tc_10 : ¬ r_3.toInt = 0 := v_ne c_10
              refine lv_iconst (v := 0) hx hb dX12_costOf_87 (by decide) ?_
              refine lv_iadd hx hb dX12_costOf_88 ?_
              refine k_i (y := 34) (by decide) ?_
              have hP9 := hP.sub (ws' := [(oM, .inr (12, [.ref mT, .int zt, .ref mS, .ref mX, .int zp, .int zf, .ref mL, .ref mB, .ref mD, .ref m1, .ref m2, .int zh, .ref mR, .int zr, .ref x1, .ref x2, .ref x3, .int zc, .ref mH, .int zy, .int za, .int zb, .int zs, .int zq, .int zw, .int ze, .ref mY, .int zn, .ref mE, .int zm, .int zl, .ref mW, .int zk, .ref mO, .int zd, .ref y1, .ref y2, .ref y3, .ref y4, .ref mZ])), (x1, .inl (cI, 300, .inl ec1)), (x2, .inl (cI, 300, .inl ec2)), (x3, .inl (cI, 300, .inl ec3))]) [0, 1, 2, 3] rfl
              have hD9 := hD.sub (ws' := [(oM, .inr (12, [.ref mT, .int zt, .ref mS, .ref mX, .int zp, .int zf, .ref mL, .ref mB, .ref mD, .ref m1, .ref m2, .int zh, .ref mR, .int zr, .ref x1, .ref x2, .ref x3, .int zc, .ref mH, .int zy, .int za, .int zb, .int zs, .int zq, .int zw, .int ze, .ref mY, .int zn, .ref mE, .int zm, .int zl, .ref mW, .int zk, .ref mO, .int zd, .ref y1, .ref y2, .ref y3, .ref y4, .ref mZ])), (x1, .inl (cI, 300, .inl ec1)), (x2, .inl (cI, 300, .inl ec2)), (x3, .inl (cI, 300, .inl ec3))]) [0, 1, 2, 3] (by decide +kernel) rfl
              rw [hQQ]
              exact W.iret (v := 34) hx hb hr (fun t ht hW => ⟨⟨34, 34, rfl, rfl, ⟨by rw [ht]; exact hP9, hD9, by decide, by first | (exfalso; omega) | (rw [tcR_no (fun j hj => hno j (by omega))]; unfold cF sC; rw [if_pos rfl, ← hf2_1, ← hf3_1]; (repeat (first | rw [if_pos (by omega)] | rw [if_neg (by omega)])) <;> rfl)⟩⟩, hS.F ht⟩) hS.2.2 dX12_costOf_89
            · have tc_10 : r_3.toInt = 0 := v_eq c_10
              refine lv_bipush (v := 30) hx hb dX12_costOf_82 (by decide) ?_
              refine lv_goto (tgt := 88) hx hb dX12_costOf_84 (by decide) ?_
              refine lv_iadd hx hb dX12_costOf_88 ?_
              refine k_i (y := 64) (by decide) ?_
              have hP9 := hP.sub (ws' := [(oM, .inr (12, [.ref mT, .int zt, .ref mS, .ref mX, .int zp, .int zf, .ref mL, .ref mB, .ref mD, .ref m1, .ref m2, .int zh, .ref mR, .int zr, .ref x1, .ref x2, .ref x3, .int zc, .ref mH, .int zy, .int za, .int zb, .int zs, .int zq, .int zw, .int ze, .ref mY, .int zn, .ref mE, .int zm, .int zl, .ref mW, .int zk, .ref mO, .int zd, .ref y1, .ref y2, .ref y3, .ref y4, .ref mZ])), (x1, .inl (cI, 300, .inl ec1)), (x2, .inl (cI, 300, .inl ec2)), (x3, .inl (cI, 300, .inl ec3))]) [0, 1, 2, 3] rfl
              have hD9 := hD.sub (ws' := [(oM, .inr (12, [.ref mT, .int zt, .ref mS, .ref mX, .int zp, .int zf, .ref mL, .ref mB, .ref mD, .ref m1, .ref m2, .int zh, .ref mR, .int zr, .ref x1, .ref x2, .ref x3, .int zc, .ref mH, .int zy, .int za, .int zb, .int zs, .int zq, .int zw, .int ze, .ref mY, .int zn, .ref mE, .int zm, .int zl, .ref mW, .int zk, .ref mO, .int zd, .ref y1, .ref y2, .ref y3, .ref y4, .ref mZ])), (x1, .inl (cI, 300, .inl ec1)), (x2, .inl (cI, 300, .inl ec2)), (x3, .inl (cI, 300, .inl ec3))]) [0, 1, 2, 3] (by decide +kernel) rfl
              rw [hQQ]
              exact W.iret (v := 64) hx hb hr (fun t ht hW => ⟨⟨64, 64, rfl, rfl, ⟨by rw [ht]; exact hP9, hD9, by decide, by first | (exfalso; omega) | (rw [tcR_no (fun j hj => hno j (by omega))]; unfold cF sC; rw [if_pos rfl, ← hf2_1, ← hf3_1]; (repeat (first | rw [if_pos (by omega)] | rw [if_neg (by omega)])) <;> rfl)⟩⟩, hS.F ht⟩) hS.2.2 dX12_costOf_89
      · have tc_1 : k.toInt < zc.toInt := v_nle c_1
        refine lv_aload_n hx hb dX12_costOf_10 rfl (lv_at hl 1 rfl) ?_
        refine va_get (D := (dC, dI)) (ci := 12) (v := .ref x1) (C := RX12) (T := TX12) (N := 40) hx hb hts in_X12 hown hK hP 0 rfl rfl 14 (by decide) (hts (.fieldLink RX12 39 "TextMenderModel" "costX" "[I") (List.mem_of_getElem? (i := 2) rfl)) (fun _ h9 => h9) rfl dX12_costOf_11 ?_
        refine lv_iload_n hx hb dX12_costOf_14 rfl (lv_at hl 0 rfl) ?_
        refine va_iald hx hb hK hP 1 0 rfl rfl (v_in (by omega)) dX12_costOf_15 ?_
        refine lv_topi (fun x_11 ex_11 => ?_)
        refine lv_iload_n hx hb dX12_costOf_16 rfl (lv_at hl 2 rfl) ?_
        refine lv_icmp_ne (tgt := 37) hx hb dX12_costOf_17 (by decide) (fun c_12 => ?_) (fun c_12 => ?_)
        · have tc_12 : ¬ x_11.toInt = x.toInt := v_ne c_12
          have rw12_0 := v_rng x_11
          obtain ⟨x_13, ex_13⟩ : ∃ y : Int32, y = k + 1 := ⟨_, rfl⟩
          have tx_13 : x_13.toInt = k.toInt + 1 := v_add ex_13 (by show -2147483648 ≤ k.toInt + 1; omega) (by show k.toInt + 1 < 2147483648; omega)
          refine lv_iinc (v := x_13) (lv' := [(3, .int x_13), (0, .ref oM), (1, .int x), (2, .int y)]) hx hb dX12_costOf_37 hl (k := 0) rfl (by rw [ex_13]; rfl) (by decide) rfl (fun ls hl => ?_)
          refine lv_goto (tgt := 2) hx hb dX12_costOf_40 (by decide) ?_
          exact ih_2 x_13 _ _ _ (ms_lt hm_2 (by show ((300 - x_13.toInt : Int)) < 300 - k.toInt; omega) (by show (0 : Int) < 300 - k.toInt; omega)) (by show 0 ≤ x_13.toInt ∧ x_13.toInt ≤ 300; omega) (by show x_13.toInt ≤ zc.toInt; omega) (noP_s1 hno ex_11 c_12 (by omega) (by omega)) hP hD hS (lv_sub hl [0, 1, 2, 3] rfl)
        · have tc_12 : x_11.toInt = x.toInt := v_eq c_12
          have rw12_0 := v_rng x_11
          refine lv_aload_n hx hb dX12_costOf_20 rfl (lv_at hl 1 rfl) ?_
          refine va_get (D := (dC, dI)) (ci := 12) (v := .ref x2) (C := RX12) (T := TX12) (N := 40) hx hb hts in_X12 hown hK hP 0 rfl rfl 15 (by decide) (hts (.fieldLink RX12 42 "TextMenderModel" "costY" "[I") (List.mem_of_getElem? (i := 3) rfl)) (fun _ h9 => h9) rfl dX12_costOf_21 ?_
          refine lv_iload_n hx hb dX12_costOf_24 rfl (lv_at hl 0 rfl) ?_
          refine va_iald hx hb hK hP 2 0 rfl rfl (v_in (by omega)) dX12_costOf_25 ?_
          refine lv_topi (fun x_14 ex_14 => ?_)
          refine lv_iload_n hx hb dX12_costOf_26 rfl (lv_at hl 3 rfl) ?_
          refine lv_icmp_ne (tgt := 37) hx hb dX12_costOf_27 (by decide) (fun c_15 => ?_) (fun c_15 => ?_)
          · have tc_15 : ¬ x_14.toInt = y.toInt := v_ne c_15
            have rw15_0 := v_rng x_14
            obtain ⟨x_16, ex_16⟩ : ∃ y : Int32, y = k + 1 := ⟨_, rfl⟩
            have tx_16 : x_16.toInt = k.toInt + 1 := v_add ex_16 (by show -2147483648 ≤ k.toInt + 1; omega) (by show k.toInt + 1 < 2147483648; omega)
            refine lv_iinc (v := x_16) (lv' := [(3, .int x_16), (0, .ref oM), (1, .int x), (2, .int y)]) hx hb dX12_costOf_37 hl (k := 0) rfl (by rw [ex_16]; rfl) (by decide) rfl (fun ls hl => ?_)
            refine lv_goto (tgt := 2) hx hb dX12_costOf_40 (by decide) ?_
            exact ih_2 x_16 _ _ _ (ms_lt hm_2 (by show ((300 - x_16.toInt : Int)) < 300 - k.toInt; omega) (by show (0 : Int) < 300 - k.toInt; omega)) (by show 0 ≤ x_16.toInt ∧ x_16.toInt ≤ 300; omega) (by show x_16.toInt ≤ zc.toInt; omega) (noP_s2 hno ex_14 c_15 (by omega) (by omega)) hP hD hS (lv_sub hl [0, 1, 2, 3] rfl)
          · have tc_15 : x_14.toInt = y.toInt := v_eq c_15
            have rw15_0 := v_rng x_14
            refine lv_aload_n hx hb dX12_costOf_30 rfl (lv_at hl 1 rfl) ?_
            refine va_get (D := (dC, dI)) (ci := 12) (v := .ref x3) (C := RX12) (T := TX12) (N := 40) hx hb hts in_X12 hown hK hP 0 rfl rfl 16 (by decide) (hts (.fieldLink RX12 45 "TextMenderModel" "costV" "[I") (List.mem_of_getElem? (i := 4) rfl)) (fun _ h9 => h9) rfl dX12_costOf_31 ?_
            refine lv_iload_n hx hb dX12_costOf_34 rfl (lv_at hl 0 rfl) ?_
            refine va_iald hx hb hK hP 3 0 rfl rfl (v_in (by omega)) dX12_costOf_35 ?_
            refine lv_topi (fun x_17 ex_17 => ?_)
            have hvr : 0 ≤ x_17.toInt ∧ x_17.toInt ≤ 200 := rg_at hV ex_17
            have hP9 := hP.sub (ws' := [(oM, .inr (12, [.ref mT, .int zt, .ref mS, .ref mX, .int zp, .int zf, .ref mL, .ref mB, .ref mD, .ref m1, .ref m2, .int zh, .ref mR, .int zr, .ref x1, .ref x2, .ref x3, .int zc, .ref mH, .int zy, .int za, .int zb, .int zs, .int zq, .int zw, .int ze, .ref mY, .int zn, .ref mE, .int zm, .int zl, .ref mW, .int zk, .ref mO, .int zd, .ref y1, .ref y2, .ref y3, .ref y4, .ref mZ])), (x1, .inl (cI, 300, .inl ec1)), (x2, .inl (cI, 300, .inl ec2)), (x3, .inl (cI, 300, .inl ec3))]) [0, 1, 2, 3] rfl
            have hD9 := hD.sub (ws' := [(oM, .inr (12, [.ref mT, .int zt, .ref mS, .ref mX, .int zp, .int zf, .ref mL, .ref mB, .ref mD, .ref m1, .ref m2, .int zh, .ref mR, .int zr, .ref x1, .ref x2, .ref x3, .int zc, .ref mH, .int zy, .int za, .int zb, .int zs, .int zq, .int zw, .int ze, .ref mY, .int zn, .ref mE, .int zm, .int zl, .ref mW, .int zk, .ref mO, .int zd, .ref y1, .ref y2, .ref y3, .ref y4, .ref mZ])), (x1, .inl (cI, 300, .inl ec1)), (x2, .inl (cI, 300, .inl ec2)), (x3, .inl (cI, 300, .inl ec3))]) [0, 1, 2, 3] (by decide +kernel) rfl
            rw [hQQ]
            exact W.iret (v := x_17) hx hb hr (fun t ht hW => ⟨⟨x_17, x_17, rfl, rfl, ⟨by rw [ht]; exact hP9, hD9, by omega, by rw [tcR_of ⟨k.toNatClampNeg, by have c9 := v_clamp (x := k) (by omega); omega, by rw [← ex_11]; exact c_12, by rw [← ex_14]; exact c_15, ex_17.symm, fun j hj => hno j (by have c9 := v_clamp (x := k) (by omega); omega)⟩]; unfold cF; rw [if_neg (v_nn (by omega))]⟩⟩, hS.F ht⟩) hS.2.2 dX12_costOf_36
  exact LOOP_2 _ 0 _ _ _ (ms_s _) (by decide) (by show 0 ≤ zc.toInt; omega) (noP_0 (by decide)) hP hD hS (lv_sub hl [0, 1, 2, 3] rfl)

set_option maxHeartbeats 40000000 in
set_option maxRecDepth 100000 in
theorem f_X12_costOf_ (l : Launch) (dC : Nat → ClassId) (dI : Nat → Nat → Nat) (cI cS : ClassId) (sz : Nat) (oM : Nat) (rw : Nat) (mT : Nat) (mS : Nat) (mX : Nat) (mL : Nat) (mB : Nat) (mD : Nat) (m1 : Nat) (m2 : Nat) (mR : Nat) (x1 : Nat) (x2 : Nat) (x3 : Nat) (mH : Nat) (mY : Nat) (mE : Nat) (mW : Nat) (mO : Nat) (y1 : Nat) (y2 : Nat) (y3 : Nat) (y4 : Nat) (mZ : Nat) (cw : Nat) (zt : Int32) (zp : Int32) (zf : Int32) (zh : Int32) (zr : Int32) (zc : Int32) (zy : Int32) (za : Int32) (zb : Int32) (zs : Int32) (zq : Int32) (zw : Int32) (ze : Int32) (zn : Int32) (zm : Int32) (zl : Int32) (zk : Int32) (zd : Int32) (ec1 : Nat → Int32) (ec2 : Nat → Int32) (ec3 : Nat → Int32) (fr : Nat → Int32) (fo : Int32) (to_ : Int32) (g_zt : 0 ≤ zt.toInt ∧ zt.toInt ≤ 900) (g_zp : 0 ≤ zp.toInt ∧ zp.toInt ≤ 20) (g_zf : 0 ≤ zf.toInt ∧ zf.toInt ≤ 19) (g_zh : 0 ≤ zh.toInt ∧ zh.toInt ≤ 6) (g_zr : 0 ≤ zr.toInt ∧ zr.toInt ≤ 258) (g_zc : 0 ≤ zc.toInt ∧ zc.toInt ≤ 300) (g_zy : 0 ≤ zy.toInt ∧ zy.toInt ≤ 65536) (g_za : 0 ≤ za.toInt ∧ za.toInt ≤ 5) (g_zb : 0 ≤ zb.toInt ∧ zb.toInt ≤ 5) (g_zs : 0 ≤ zs.toInt ∧ zs.toInt ≤ 2000000) (g_zq : -1 ≤ zq.toInt ∧ zq.toInt ≤ 2000000) (g_zn : 0 ≤ zn.toInt ∧ zn.toInt ≤ 2600) (g_zm : 0 ≤ zm.toInt ∧ zm.toInt ≤ 2600) (g_zk : 0 ≤ zk.toInt ∧ zk.toInt ≤ 300) (g_fo : 0 ≤ fo.toInt ∧ fo.toInt ≤ 0) (g_to_ : 0 ≤ to_.toInt ∧ to_.toInt ≤ 300) (hcw : to_.toInt ≤ (cw : Int)) (hcw2 : cw ≤ 6300) (hV : rg 0 200 ec3) (hrow : prg to_.toInt 0 65535 fr) : Met l yX12_costOf_ wsX12_costOf_ ({ frames := 2, cells := 0, slots := 0, locals := 44 } : Room) (va_Pc [.ref oM, .ref rw, .int fo, .int to_] (fun U => U.heap.size = sz ∧ va_P (dC, dI) vwCl [(oM, .inr (12, [.ref mT, .int zt, .ref mS, .ref mX, .int zp, .int zf, .ref mL, .ref mB, .ref mD, .ref m1, .ref m2, .int zh, .ref mR, .int zr, .ref x1, .ref x2, .ref x3, .int zc, .ref mH, .int zy, .int za, .int zb, .int zs, .int zq, .int zw, .int ze, .ref mY, .int zn, .ref mE, .int zm, .int zl, .ref mW, .int zk, .ref mO, .int zd, .ref y1, .ref y2, .ref y3, .ref y4, .ref mZ])), (x1, .inl (cI, 300, .inl ec1)), (x2, .inl (cI, 300, .inl ec2)), (x3, .inl (cI, 300, .inl ec3)), (rw, .inl (cI, cw, .inl fr))] U.heap ∧ va_K (dC, dI) vwCl [(cI, .int), (cS, .short)] U ∧ va_D (fun _ => True) [(oM, .inr (12, [.ref mT, .int zt, .ref mS, .ref mX, .int zp, .int zf, .ref mL, .ref mB, .ref mD, .ref m1, .ref m2, .int zh, .ref mR, .int zr, .ref x1, .ref x2, .ref x3, .int zc, .ref mH, .int zy, .int za, .int zb, .int zs, .int zq, .int zw, .int ze, .ref mY, .int zn, .ref mE, .int zm, .int zl, .ref mW, .int zk, .ref mO, .int zd, .ref y1, .ref y2, .ref y3, .ref y4, .ref mZ])), (x1, .inl (cI, 300, .inl ec1)), (x2, .inl (cI, 300, .inl ec2)), (x3, .inl (cI, 300, .inl ec3)), (rw, .inl (cI, cw, .inl fr))])) (va_Qi (fun (r : Int32) (u : Int32) => r = u) (fun (r : Int32) t => va_P (dC, dI) vwCl [(oM, .inr (12, [.ref mT, .int zt, .ref mS, .ref mX, .int zp, .int zf, .ref mL, .ref mB, .ref mD, .ref m1, .ref m2, .int zh, .ref mR, .int zr, .ref x1, .ref x2, .ref x3, .int zc, .ref mH, .int zy, .int za, .int zb, .int zs, .int zq, .int zw, .int ze, .ref mY, .int zn, .ref mE, .int zm, .int zl, .ref mW, .int zk, .ref mO, .int zd, .ref y1, .ref y2, .ref y3, .ref y4, .ref mZ])), (x1, .inl (cI, 300, .inl ec1)), (x2, .inl (cI, 300, .inl ec2)), (x3, .inl (cI, 300, .inl ec3)), (rw, .inl (cI, cw, .inl fr))] t.heap ∧ va_D (va_A [(oM, .inr (12, [.ref mT, .int zt, .ref mS, .ref mX, .int zp, .int zf, .ref mL, .ref mB, .ref mD, .ref m1, .ref m2, .int zh, .ref mR, .int zr, .ref x1, .ref x2, .ref x3, .int zc, .ref mH, .int zy, .int za, .int zb, .int zs, .int zq, .int zw, .int ze, .ref mY, .int zn, .ref mE, .int zm, .int zl, .ref mW, .int zk, .ref mO, .int zd, .ref y1, .ref y2, .ref y3, .ref y4, .ref mZ])), (x1, .inl (cI, 300, .inl ec1)), (x2, .inl (cI, 300, .inl ec2)), (x3, .inl (cI, 300, .inl ec3)), (rw, .inl (cI, cw, .inl fr))] sz) [(oM, .inr (12, [.ref mT, .int zt, .ref mS, .ref mX, .int zp, .int zf, .ref mL, .ref mB, .ref mD, .ref m1, .ref m2, .int zh, .ref mR, .int zr, .ref x1, .ref x2, .ref x3, .int zc, .ref mH, .int zy, .int za, .int zb, .int zs, .int zq, .int zw, .int ze, .ref mY, .int zn, .ref mE, .int zm, .int zl, .ref mW, .int zk, .ref mO, .int zd, .ref y1, .ref y2, .ref y3, .ref y4, .ref mZ])), (x1, .inl (cI, 300, .inl ec1)), (x2, .inl (cI, 300, .inl ec2)), (x3, .inl (cI, 300, .inl ec3)), (rw, .inl (cI, cw, .inl fr))] ∧ (0 ≤ r.toInt ∧ r.toInt ≤ 61000) ∧ (r.toInt = cT (tcR zc.toInt ec1 ec2 ec3) to_.toInt fr)) (va_A [(oM, .inr (12, [.ref mT, .int zt, .ref mS, .ref mX, .int zp, .int zf, .ref mL, .ref mB, .ref mD, .ref m1, .ref m2, .int zh, .ref mR, .int zr, .ref x1, .ref x2, .ref x3, .int zc, .ref mH, .int zy, .int za, .int zb, .int zs, .int zq, .int zw, .int ze, .ref mY, .int zn, .ref mE, .int zm, .int zl, .ref mW, .int zk, .ref mO, .int zd, .ref y1, .ref y2, .ref y3, .ref y4, .ref mZ])), (x1, .inl (cI, 300, .inl ec1)), (x2, .inl (cI, 300, .inl ec2)), (x3, .inl (cI, 300, .inl ec3)), (rw, .inl (cI, cw, .inl fr))] sz)) 0 0 (va_A [(oM, .inr (12, [.ref mT, .int zt, .ref mS, .ref mX, .int zp, .int zf, .ref mL, .ref mB, .ref mD, .ref m1, .ref m2, .int zh, .ref mR, .int zr, .ref x1, .ref x2, .ref x3, .int zc, .ref mH, .int zy, .int za, .int zb, .int zs, .int zq, .int zw, .int ze, .ref mY, .int zn, .ref mE, .int zm, .int zl, .ref mW, .int zk, .ref mO, .int zd, .ref y1, .ref y2, .ref y3, .ref y4, .ref mZ])), (x1, .inl (cI, 300, .inl ec1)), (x2, .inl (cI, 300, .inl ec2)), (x3, .inl (cI, 300, .inl ec3)), (rw, .inl (cI, cw, .inl fr))] sz) := by
  refine Met.ofW (cc := cX12_costOf_) (maxL := 7) (ret := (some .int)) (by decide) rfl ?_
  intro p e s m args below meth c s₁ B hml hv
  obtain ⟨rfl, hsz, hP, hK, hD0⟩ := hv
  have hx := B.exec
  have hb := B.bytes
  have hr := B.returns
  have hts := atoms_spec (ws := wsX12_costOf_) B.pre
  have hown : s.vm.findClass RX12 = some m.cls := findClass_of_methodNamed B.named
  have hlocks := B.notSynchronized
  subst hsz
  have hD := hD0.self (sz := s.heap.size)
  generalize hAe : va_A [(oM, .inr (12, [.ref mT, .int zt, .ref mS, .ref mX, .int zp, .int zf, .ref mL, .ref mB, .ref mD, .ref m1, .ref m2, .int zh, .ref mR, .int zr, .ref x1, .ref x2, .ref x3, .int zc, .ref mH, .int zy, .int za, .int zb, .int zs, .int zq, .int zw, .int ze, .ref mY, .int zn, .ref mE, .int zm, .int zl, .ref mW, .int zk, .ref mO, .int zd, .ref y1, .ref y2, .ref y3, .ref y4, .ref mZ])), (x1, .inl (cI, 300, .inl ec1)), (x2, .inl (cI, 300, .inl ec2)), (x3, .inl (cI, 300, .inl ec3)), (rw, .inl (cI, cw, .inl fr))] s.heap.size = A at hD ⊢
  have hA : ∀ q : Nat, s.heap.size ≤ q → A q := fun q h => by rw [← hAe]; exact Or.inr h
  have hS : va_S A s.heap s.heap [] := va_S.rf
  have hP : va_P (dC, dI) vwCl [(oM, .inr (12, [.ref mT, .int zt, .ref mS, .ref mX, .int zp, .int zf, .ref mL, .ref mB, .ref mD, .ref m1, .ref m2, .int zh, .ref mR, .int zr, .ref x1, .ref x2, .ref x3, .int zc, .ref mH, .int zy, .int za, .int zb, .int zs, .int zq, .int zw, .int ze, .ref mY, .int zn, .ref mE, .int zm, .int zl, .ref mW, .int zk, .ref mO, .int zd, .ref y1, .ref y2, .ref y3, .ref y4, .ref mZ])), (x1, .inl (cI, 300, .inl ec1)), (x2, .inl (cI, 300, .inl ec2)), (x3, .inl (cI, 300, .inl ec3)), (rw, .inl (cI, cw, .inl fr))] s.heap := hP
  have hl := lv_entry ([.ref oM, .ref rw, .int fo, .int to_]) (n := 7) (Nat.le_of_ble_eq_true rfl)
  rw [lg_entry_eq]
  generalize (lg_sl ([.ref oM, .ref rw, .int fo, .int to_]) ++ List.replicate (7 - (lg_sl ([.ref oM, .ref rw, .int fo, .int to_])).length) Slot.unset).toArray = ls at hl ⊢
  have hl : lv_has ls 7 [(0, .ref oM), (1, .ref rw), (2, .int fo), (3, .int to_)] := hl
  obtain ⟨QQ, hQQ⟩ : ∃ QQ : Array Value → State → Outcome → State → Prop, QQ = va_Qi (fun (r : Int32) (u : Int32) => r = u) (fun (r : Int32) t => va_P (dC, dI) vwCl [(oM, .inr (12, [.ref mT, .int zt, .ref mS, .ref mX, .int zp, .int zf, .ref mL, .ref mB, .ref mD, .ref m1, .ref m2, .int zh, .ref mR, .int zr, .ref x1, .ref x2, .ref x3, .int zc, .ref mH, .int zy, .int za, .int zb, .int zs, .int zq, .int zw, .int ze, .ref mY, .int zn, .ref mE, .int zm, .int zl, .ref mW, .int zk, .ref mO, .int zd, .ref y1, .ref y2, .ref y3, .ref y4, .ref mZ])), (x1, .inl (cI, 300, .inl ec1)), (x2, .inl (cI, 300, .inl ec2)), (x3, .inl (cI, 300, .inl ec3)), (rw, .inl (cI, cw, .inl fr))] t.heap ∧ va_D A [(oM, .inr (12, [.ref mT, .int zt, .ref mS, .ref mX, .int zp, .int zf, .ref mL, .ref mB, .ref mD, .ref m1, .ref m2, .int zh, .ref mR, .int zr, .ref x1, .ref x2, .ref x3, .int zc, .ref mH, .int zy, .int za, .int zb, .int zs, .int zq, .int zw, .int ze, .ref mY, .int zn, .ref mE, .int zm, .int zl, .ref mW, .int zk, .ref mO, .int zd, .ref y1, .ref y2, .ref y3, .ref y4, .ref mZ])), (x1, .inl (cI, 300, .inl ec1)), (x2, .inl (cI, 300, .inl ec2)), (x3, .inl (cI, 300, .inl ec3)), (rw, .inl (cI, cw, .inl fr))] ∧ (0 ≤ r.toInt ∧ r.toInt ≤ 61000) ∧ (r.toInt = cT (tcR zc.toInt ec1 ec2 ec3) to_.toInt fr)) A := ⟨_, rfl⟩
  rw [← hQQ]
  refine lv_iconst (v := 0) hx hb dX12_costOf__0 (by decide) ?_
  refine lv_istore (lv' := [(4, .int 0), (0, .ref oM), (1, .ref rw), (2, .int fo), (3, .int to_)]) hx hb dX12_costOf__1 hl (by decide) rfl (fun ls hl => ?_)
  refine lv_bipush (v := 32) hx hb dX12_costOf__3 (by decide) ?_
  refine lv_istore (lv' := [(5, .int 32), (4, .int 0), (0, .ref oM), (1, .ref rw), (2, .int fo), (3, .int to_)]) hx hb dX12_costOf__5 hl (by decide) rfl (fun ls hl => ?_)
  refine lv_iload_n hx hb dX12_costOf__7 rfl (lv_at hl 4 rfl) ?_
  refine lv_istore (lv' := [(6, .int fo), (5, .int 32), (4, .int 0), (0, .ref oM), (1, .ref rw), (2, .int fo), (3, .int to_)]) hx hb dX12_costOf__8 hl (by decide) rfl (fun ls hl => ?_)
  have LOOP_10 : ∀ (k_10 : Nat) (su : Int32) (be : Int32) (k : Int32) (H : Heap) (locs : List Loc) (ls : Array Slot), MSd (300 - k.toInt : Int) k_10 → (0 ≤ su.toInt ∧ su.toInt ≤ 60200) → (0 ≤ be.toInt ∧ be.toInt ≤ 65535) → (0 ≤ k.toInt ∧ k.toInt ≤ 300) → (k.toInt ≤ to_.toInt) → (su.toInt ≤ 200 * k.toInt) → (su.toInt = cs (tcR zc.toInt ec1 ec2 ec3) fr k.toNatClampNeg) → (be = pv fr k.toNatClampNeg) → va_P (dC, dI) vwCl [(oM, .inr (12, [.ref mT, .int zt, .ref mS, .ref mX, .int zp, .int zf, .ref mL, .ref mB, .ref mD, .ref m1, .ref m2, .int zh, .ref mR, .int zr, .ref x1, .ref x2, .ref x3, .int zc, .ref mH, .int zy, .int za, .int zb, .int zs, .int zq, .int zw, .int ze, .ref mY, .int zn, .ref mE, .int zm, .int zl, .ref mW, .int zk, .ref mO, .int zd, .ref y1, .ref y2, .ref y3, .ref y4, .ref mZ])), (x1, .inl (cI, 300, .inl ec1)), (x2, .inl (cI, 300, .inl ec2)), (x3, .inl (cI, 300, .inl ec3)), (rw, .inl (cI, cw, .inl fr))] H → va_D A [(oM, .inr (12, [.ref mT, .int zt, .ref mS, .ref mX, .int zp, .int zf, .ref mL, .ref mB, .ref mD, .ref m1, .ref m2, .int zh, .ref mR, .int zr, .ref x1, .ref x2, .ref x3, .int zc, .ref mH, .int zy, .int za, .int zb, .int zs, .int zq, .int zw, .int ze, .ref mY, .int zn, .ref mE, .int zm, .int zl, .ref mW, .int zk, .ref mO, .int zd, .ref y1, .ref y2, .ref y3, .ref y4, .ref mZ])), (x1, .inl (cI, 300, .inl ec1)), (x2, .inl (cI, 300, .inl ec2)), (x3, .inl (cI, 300, .inl ec3)), (rw, .inl (cI, cw, .inl fr))] → va_S A s.heap H locs → lv_has ls 7 [(6, .int k), (5, .int be), (4, .int su), (0, .ref oM), (1, .ref rw), (2, .int fo), (3, .int to_)] → W p l e (headSpec wsX12_costOf_ ({ frames := 2, cells := 0, slots := 0, locals := 44 } : Room)).room s m ([.ref oM, .ref rw, .int fo, .int to_] : List Value).toArray below meth c H locs 0 0 (MQ below QQ ([.ref oM, .ref rw, .int fo, .int to_] : List Value).toArray s 0 0 A) (F0 m 10 ls []) := by
    clear hP hD hS hl
    intro k_10
    induction k_10 with
    | zero =>
      intro su be k H locs ls hm_10 g_su g_be g_k hkt hs2 hsu hbe hP hD hS hl
      exact ms_0 hm_10
    | succ k_10 ih_10 =>
      intro su be k H locs ls hm_10 g_su g_be g_k hkt hs2 hsu hbe hP hD hS hl
      refine lv_iload hx hb dX12_costOf__10 (lv_at hl 0 rfl) ?_
      refine lv_iload_n hx hb dX12_costOf__12 rfl (lv_at hl 6 rfl) ?_
      refine lv_icmp_ge (tgt := 43) hx hb dX12_costOf__13 (by decide) (fun c_1 => ?_) (fun c_1 => ?_)
      · have tc_1 : to_.toInt ≤ k.toInt := v_le c_1
        refine lv_iload hx hb dX12_costOf__43 (lv_at hl 2 rfl) ?_
        refine lv_aload_n hx hb dX12_costOf__45 rfl (lv_at hl 3 rfl) ?_
        refine lv_iload hx hb dX12_costOf__46 (lv_at hl 1 rfl) ?_
        refine lv_bipush (v := 32) hx hb dX12_costOf__48 (by decide) ?_
        have hPc := hP.sub (ws' := [(oM, .inr (12, [.ref mT, .int zt, .ref mS, .ref mX, .int zp, .int zf, .ref mL, .ref mB, .ref mD, .ref m1, .ref m2, .int zh, .ref mR, .int zr, .ref x1, .ref x2, .ref x3, .int zc, .ref mH, .int zy, .int za, .int zb, .int zs, .int zq, .int zw, .int ze, .ref mY, .int zn, .ref mE, .int zm, .int zl, .ref mW, .int zk, .ref mO, .int zd, .ref y1, .ref y2, .ref y3, .ref y4, .ref mZ])), (x1, .inl (cI, 300, .inl ec1)), (x2, .inl (cI, 300, .inl ec2)), (x3, .inl (cI, 300, .inl ec3))]) [0, 1, 2, 3] rfl
        have hDc := hD.sub (ws' := [(oM, .inr (12, [.ref mT, .int zt, .ref mS, .ref mX, .int zp, .int zf, .ref mL, .ref mB, .ref mD, .ref m1, .ref m2, .int zh, .ref mR, .int zr, .ref x1, .ref x2, .ref x3, .int zc, .ref mH, .int zy, .int za, .int zb, .int zs, .int zq, .int zw, .int ze, .ref mY, .int zn, .ref mE, .int zm, .int zl, .ref mW, .int zk, .ref mO, .int zd, .ref y1, .ref y2, .ref y3, .ref y4, .ref mZ])), (x1, .inl (cI, 300, .inl ec1)), (x2, .inl (cI, 300, .inl ec2)), (x3, .inl (cI, 300, .inl ec3))]) [0, 1, 2, 3] (by decide +kernel) rfl
        have hFc := va_free (wc := [(oM, .inr (12, [.ref mT, .int zt, .ref mS, .ref mX, .int zp, .int zf, .ref mL, .ref mB, .ref mD, .ref m1, .ref m2, .int zh, .ref mR, .int zr, .ref x1, .ref x2, .ref x3, .int zc, .ref mH, .int zy, .int za, .int zb, .int zs, .int zq, .int zw, .int ze, .ref mY, .int zn, .ref mE, .int zm, .int zl, .ref mW, .int zk, .ref mO, .int zd, .ref y1, .ref y2, .ref y3, .ref y4, .ref mZ])), (x1, .inl (cI, 300, .inl ec1)), (x2, .inl (cI, 300, .inl ec2)), (x3, .inl (cI, 300, .inl ec3))]) hD hS hA [0, 1, 2, 3] rfl
        refine va_calli (va_runV (As := [.int be, .int 32]) (rest := [.int su]) ⟨hx, hb, hml, hown, hts⟩ (f_X12_costOf l dC dI cI cS H.size oM mT mS mX mL mB mD m1 m2 mR x1 x2 x3 mH mY mE mW mO y1 y2 y3 y4 mZ zt zp zf zh zr zc zy za zb zs zq zw ze zn zm zl zk zd ec1 ec2 ec3 be 32 (g_zt) (g_zp) (g_zf) (g_zh) (g_zr) (g_zc) (g_zy) (g_za) (g_zb) (g_zs) (g_zq) (g_zn) (g_zm) (g_zk) (g_be) (by decide) (hV)) (cwV 2 hts gX12_costOf__X12_costOf rfl rfl rfl (by decide +kernel) ⟨Nat.le_of_ble_eq_true rfl, Nat.le_of_ble_eq_true rfl⟩) ⟨fun a U g mk q => by obtain ⟨q0, q1, qP, qK, qD⟩ := q; exact ⟨q0, q1, qP, va_K.moved (u := U) (U := U.calling g mk a) (Vm.Alike.refl U.vm) qK, qD⟩, va_recv hK hPc (ci := 12) (q0 := 0) rfl rfl, fun U hU hW => ⟨rfl, by rw [hU], by rw [hU]; exact hPc, va_K.moved hW.alike hK, hDc.weaken (fun _ _ _ _ => trivial)⟩⟩ rfl rfl hl.1 rfl (lv_room (Nat.le_of_ble_eq_true rfl)) dX12_costOf__50 ⟨Nat.le_of_ble_eq_true rfl, Nat.le_of_ble_eq_true rfl⟩) hS (fun q _ h => hFc q h) hFc (fun r_2 u t H1 locs ht hvm hw hB hz1 hk1 hSn => ?_)
        subst hw
        obtain ⟨hP1, hD1, hf2_0, hf2_1⟩ := hB
        rw [ht] at hP1
        obtain ⟨hPn, hDn⟩ := va_join (wr := [(rw, .inl (cI, cw, .inl fr))]) (w1 := [(oM, .inr (12, [.ref mT, .int zt, .ref mS, .ref mX, .int zp, .int zf, .ref mL, .ref mB, .ref mD, .ref m1, .ref m2, .int zh, .ref mR, .int zr, .ref x1, .ref x2, .ref x3, .int zc, .ref mH, .int zy, .int za, .int zb, .int zs, .int zq, .int zw, .int ze, .ref mY, .int zn, .ref mE, .int zm, .int zl, .ref mW, .int zk, .ref mO, .int zd, .ref y1, .ref y2, .ref y3, .ref y4, .ref mZ])), (x1, .inl (cI, 300, .inl ec1)), (x2, .inl (cI, 300, .inl ec2)), (x3, .inl (cI, 300, .inl ec3))]) hP hD [0, 1, 2, 3] [4] rfl rfl (by decide +kernel) (by decide +kernel) hk1 hFc hP1 hD1
        clear hP hD hS hPc hDc hFc hk1 hz1 hvm ht hP1 hD1
        generalize H1 = H at hPn hSn ⊢
        have hP : va_P (dC, dI) vwCl [(rw, .inl (cI, cw, .inl fr)), (oM, .inr (12, [.ref mT, .int zt, .ref mS, .ref mX, .int zp, .int zf, .ref mL, .ref mB, .ref mD, .ref m1, .ref m2, .int zh, .ref mR, .int zr, .ref x1, .ref x2, .ref x3, .int zc, .ref mH, .int zy, .int za, .int zb, .int zs, .int zq, .int zw, .int ze, .ref mY, .int zn, .ref mE, .int zm, .int zl, .ref mW, .int zk, .ref mO, .int zd, .ref y1, .ref y2, .ref y3, .ref y4, .ref mZ])), (x1, .inl (cI, 300, .inl ec1)), (x2, .inl (cI, 300, .inl ec2)), (x3, .inl (cI, 300, .inl ec3))] H := hPn
        have hD : va_D A [(rw, .inl (cI, cw, .inl fr)), (oM, .inr (12, [.ref mT, .int zt, .ref mS, .ref mX, .int zp, .int zf, .ref mL, .ref mB, .ref mD, .ref m1, .ref m2, .int zh, .ref mR, .int zr, .ref x1, .ref x2, .ref x3, .int zc, .ref mH, .int zy, .int za, .int zb, .int zs, .int zq, .int zw, .int ze, .ref mY, .int zn, .ref mE, .int zm, .int zl, .ref mW, .int zk, .ref mO, .int zd, .ref y1, .ref y2, .ref y3, .ref y4, .ref mZ])), (x1, .inl (cI, 300, .inl ec1)), (x2, .inl (cI, 300, .inl ec2)), (x3, .inl (cI, 300, .inl ec3))] := hDn
        have hS := hSn
        clear hPn hDn hSn
        refine lv_iadd hx hb dX12_costOf__53 ?_
        refine lv_topi (fun x_3 ex_3 => ?_)
        have tx_3 : x_3.toInt = su.toInt + r_2.toInt := v_add ex_3 (by show -2147483648 ≤ su.toInt + r_2.toInt; omega) (by show su.toInt + r_2.toInt < 2147483648; omega)
        have hP9 := hP.sub (ws' := [(oM, .inr (12, [.ref mT, .int zt, .ref mS, .ref mX, .int zp, .int zf, .ref mL, .ref mB, .ref mD, .ref m1, .ref m2, .int zh, .ref mR, .int zr, .ref x1, .ref x2, .ref x3, .int zc, .ref mH, .int zy, .int za, .int zb, .int zs, .int zq, .int zw, .int ze, .ref mY, .int zn, .ref mE, .int zm, .int zl, .ref mW, .int zk, .ref mO, .int zd, .ref y1, .ref y2, .ref y3, .ref y4, .ref mZ])), (x1, .inl (cI, 300, .inl ec1)), (x2, .inl (cI, 300, .inl ec2)), (x3, .inl (cI, 300, .inl ec3)), (rw, .inl (cI, cw, .inl fr))]) [1, 2, 3, 4, 0] rfl
        have hD9 := hD.sub (ws' := [(oM, .inr (12, [.ref mT, .int zt, .ref mS, .ref mX, .int zp, .int zf, .ref mL, .ref mB, .ref mD, .ref m1, .ref m2, .int zh, .ref mR, .int zr, .ref x1, .ref x2, .ref x3, .int zc, .ref mH, .int zy, .int za, .int zb, .int zs, .int zq, .int zw, .int ze, .ref mY, .int zn, .ref mE, .int zm, .int zl, .ref mW, .int zk, .ref mO, .int zd, .ref y1, .ref y2, .ref y3, .ref y4, .ref mZ])), (x1, .inl (cI, 300, .inl ec1)), (x2, .inl (cI, 300, .inl ec2)), (x3, .inl (cI, 300, .inl ec3)), (rw, .inl (cI, cw, .inl fr))]) [1, 2, 3, 4, 0] (by decide +kernel) rfl
        rw [hQQ]
        exact W.iret (v := x_3) hx hb hr (fun t ht hW => ⟨⟨x_3, x_3, rfl, rfl, ⟨by rw [ht]; exact hP9, hD9, by omega, cT_of hsu hbe hf2_1 (by omega) (by omega) (by omega)⟩⟩, hS.F ht⟩) hS.2.2 dX12_costOf__54
      · have tc_1 : k.toInt < to_.toInt := v_nle c_1
        refine lv_iload hx hb dX12_costOf__16 (lv_at hl 2 rfl) ?_
        refine lv_aload_n hx hb dX12_costOf__18 rfl (lv_at hl 3 rfl) ?_
        refine lv_iload hx hb dX12_costOf__19 (lv_at hl 1 rfl) ?_
        refine lv_aload_n hx hb dX12_costOf__21 rfl (lv_at hl 4 rfl) ?_
        refine lv_iload hx hb dX12_costOf__22 (lv_at hl 0 rfl) ?_
        refine va_iald hx hb hK hP 4 0 rfl rfl (v_in (by omega)) dX12_costOf__24 ?_
        refine lv_topi (fun x_4 ex_4 => ?_)
        have tp_x_4 := prg_at hrow ex_4 (by omega) (by omega)
        have hPc := hP.sub (ws' := [(oM, .inr (12, [.ref mT, .int zt, .ref mS, .ref mX, .int zp, .int zf, .ref mL, .ref mB, .ref mD, .ref m1, .ref m2, .int zh, .ref mR, .int zr, .ref x1, .ref x2, .ref x3, .int zc, .ref mH, .int zy, .int za, .int zb, .int zs, .int zq, .int zw, .int ze, .ref mY, .int zn, .ref mE, .int zm, .int zl, .ref mW, .int zk, .ref mO, .int zd, .ref y1, .ref y2, .ref y3, .ref y4, .ref mZ])), (x1, .inl (cI, 300, .inl ec1)), (x2, .inl (cI, 300, .inl ec2)), (x3, .inl (cI, 300, .inl ec3))]) [0, 1, 2, 3] rfl
        have hDc := hD.sub (ws' := [(oM, .inr (12, [.ref mT, .int zt, .ref mS, .ref mX, .int zp, .int zf, .ref mL, .ref mB, .ref mD, .ref m1, .ref m2, .int zh, .ref mR, .int zr, .ref x1, .ref x2, .ref x3, .int zc, .ref mH, .int zy, .int za, .int zb, .int zs, .int zq, .int zw, .int ze, .ref mY, .int zn, .ref mE, .int zm, .int zl, .ref mW, .int zk, .ref mO, .int zd, .ref y1, .ref y2, .ref y3, .ref y4, .ref mZ])), (x1, .inl (cI, 300, .inl ec1)), (x2, .inl (cI, 300, .inl ec2)), (x3, .inl (cI, 300, .inl ec3))]) [0, 1, 2, 3] (by decide +kernel) rfl
        have hFc := va_free (wc := [(oM, .inr (12, [.ref mT, .int zt, .ref mS, .ref mX, .int zp, .int zf, .ref mL, .ref mB, .ref mD, .ref m1, .ref m2, .int zh, .ref mR, .int zr, .ref x1, .ref x2, .ref x3, .int zc, .ref mH, .int zy, .int za, .int zb, .int zs, .int zq, .int zw, .int ze, .ref mY, .int zn, .ref mE, .int zm, .int zl, .ref mW, .int zk, .ref mO, .int zd, .ref y1, .ref y2, .ref y3, .ref y4, .ref mZ])), (x1, .inl (cI, 300, .inl ec1)), (x2, .inl (cI, 300, .inl ec2)), (x3, .inl (cI, 300, .inl ec3))]) hD hS hA [0, 1, 2, 3] rfl
        refine va_calli (va_runV (As := [.int be, .int x_4]) (rest := [.int su]) ⟨hx, hb, hml, hown, hts⟩ (f_X12_costOf l dC dI cI cS H.size oM mT mS mX mL mB mD m1 m2 mR x1 x2 x3 mH mY mE mW mO y1 y2 y3 y4 mZ zt zp zf zh zr zc zy za zb zs zq zw ze zn zm zl zk zd ec1 ec2 ec3 be x_4 (g_zt) (g_zp) (g_zf) (g_zh) (g_zr) (g_zc) (g_zy) (g_za) (g_zb) (g_zs) (g_zq) (g_zn) (g_zm) (g_zk) (g_be) (by omega) (hV)) (cwV 2 hts gX12_costOf__X12_costOf rfl rfl rfl (by decide +kernel) ⟨Nat.le_of_ble_eq_true rfl, Nat.le_of_ble_eq_true rfl⟩) ⟨fun a U g mk q => by obtain ⟨q0, q1, qP, qK, qD⟩ := q; exact ⟨q0, q1, qP, va_K.moved (u := U) (U := U.calling g mk a) (Vm.Alike.refl U.vm) qK, qD⟩, va_recv hK hPc (ci := 12) (q0 := 0) rfl rfl, fun U hU hW => ⟨rfl, by rw [hU], by rw [hU]; exact hPc, va_K.moved hW.alike hK, hDc.weaken (fun _ _ _ _ => trivial)⟩⟩ rfl rfl hl.1 rfl (lv_room (Nat.le_of_ble_eq_true rfl)) dX12_costOf__25 ⟨Nat.le_of_ble_eq_true rfl, Nat.le_of_ble_eq_true rfl⟩) hS (fun q _ h => hFc q h) hFc (fun r_5 u t H1 locs ht hvm hw hB hz1 hk1 hSn => ?_)
        subst hw
        obtain ⟨hP1, hD1, hf5_0, hf5_1⟩ := hB
        rw [ht] at hP1
        obtain ⟨hPn, hDn⟩ := va_join (wr := [(rw, .inl (cI, cw, .inl fr))]) (w1 := [(oM, .inr (12, [.ref mT, .int zt, .ref mS, .ref mX, .int zp, .int zf, .ref mL, .ref mB, .ref mD, .ref m1, .ref m2, .int zh, .ref mR, .int zr, .ref x1, .ref x2, .ref x3, .int zc, .ref mH, .int zy, .int za, .int zb, .int zs, .int zq, .int zw, .int ze, .ref mY, .int zn, .ref mE, .int zm, .int zl, .ref mW, .int zk, .ref mO, .int zd, .ref y1, .ref y2, .ref y3, .ref y4, .ref mZ])), (x1, .inl (cI, 300, .inl ec1)), (x2, .inl (cI, 300, .inl ec2)), (x3, .inl (cI, 300, .inl ec3))]) hP hD [0, 1, 2, 3] [4] rfl rfl (by decide +kernel) (by decide +kernel) hk1 hFc hP1 hD1
        clear hP hD hS hPc hDc hFc hk1 hz1 hvm ht hP1 hD1
        generalize H1 = H at hPn hSn ⊢
        have hP : va_P (dC, dI) vwCl [(rw, .inl (cI, cw, .inl fr)), (oM, .inr (12, [.ref mT, .int zt, .ref mS, .ref mX, .int zp, .int zf, .ref mL, .ref mB, .ref mD, .ref m1, .ref m2, .int zh, .ref mR, .int zr, .ref x1, .ref x2, .ref x3, .int zc, .ref mH, .int zy, .int za, .int zb, .int zs, .int zq, .int zw, .int ze, .ref mY, .int zn, .ref mE, .int zm, .int zl, .ref mW, .int zk, .ref mO, .int zd, .ref y1, .ref y2, .ref y3, .ref y4, .ref mZ])), (x1, .inl (cI, 300, .inl ec1)), (x2, .inl (cI, 300, .inl ec2)), (x3, .inl (cI, 300, .inl ec3))] H := hPn
        have hD : va_D A [(rw, .inl (cI, cw, .inl fr)), (oM, .inr (12, [.ref mT, .int zt, .ref mS, .ref mX, .int zp, .int zf, .ref mL, .ref mB, .ref mD, .ref m1, .ref m2, .int zh, .ref mR, .int zr, .ref x1, .ref x2, .ref x3, .int zc, .ref mH, .int zy, .int za, .int zb, .int zs, .int zq, .int zw, .int ze, .ref mY, .int zn, .ref mE, .int zm, .int zl, .ref mW, .int zk, .ref mO, .int zd, .ref y1, .ref y2, .ref y3, .ref y4, .ref mZ])), (x1, .inl (cI, 300, .inl ec1)), (x2, .inl (cI, 300, .inl ec2)), (x3, .inl (cI, 300, .inl ec3))] := hDn
        have hS := hSn
        clear hPn hDn hSn
        refine lv_iadd hx hb dX12_costOf__28 ?_
        refine lv_topi (fun x_6 ex_6 => ?_)
        have tx_6 : x_6.toInt = su.toInt + r_5.toInt := v_add ex_6 (by show -2147483648 ≤ su.toInt + r_5.toInt; omega) (by show su.toInt + r_5.toInt < 2147483648; omega)
        refine lv_istore (lv' := [(4, .int x_6), (6, .int k), (5, .int be), (0, .ref oM), (1, .ref rw), (2, .int fo), (3, .int to_)]) hx hb dX12_costOf__29 hl (by decide) rfl (fun ls hl => ?_)
        refine lv_aload_n hx hb dX12_costOf__31 rfl (lv_at hl 4 rfl) ?_
        refine lv_iload hx hb dX12_costOf__32 (lv_at hl 1 rfl) ?_
        refine va_iald hx hb hK hP 0 0 rfl rfl (v_in (by omega)) dX12_costOf__34 ?_
        refine k_i (y := x_4) ex_4.symm ?_
        refine lv_istore (lv' := [(5, .int x_4), (4, .int x_6), (6, .int k), (0, .ref oM), (1, .ref rw), (2, .int fo), (3, .int to_)]) hx hb dX12_costOf__35 hl (by decide) rfl (fun ls hl => ?_)
        obtain ⟨x_7, ex_7⟩ : ∃ y : Int32, y = k + 1 := ⟨_, rfl⟩
        have tx_7 : x_7.toInt = k.toInt + 1 := v_add ex_7 (by show -2147483648 ≤ k.toInt + 1; omega) (by show k.toInt + 1 < 2147483648; omega)
        refine lv_iinc (v := x_7) (lv' := [(6, .int x_7), (5, .int x_4), (4, .int x_6), (0, .ref oM), (1, .ref rw), (2, .int fo), (3, .int to_)]) hx hb dX12_costOf__37 hl (k := 2) rfl (by rw [ex_7]; rfl) (by decide) rfl (fun ls hl => ?_)
        refine lv_goto (tgt := 10) hx hb dX12_costOf__40 (by decide) ?_
        exact ih_10 x_6 x_4 x_7 _ _ _ (ms_lt hm_10 (by show ((300 - x_7.toInt : Int)) < 300 - k.toInt; omega) (by show (0 : Int) < 300 - k.toInt; omega)) (by show 0 ≤ x_6.toInt ∧ x_6.toInt ≤ 60200; omega) (by show 0 ≤ x_4.toInt ∧ x_4.toInt ≤ 65535; omega) (by show 0 ≤ x_7.toInt ∧ x_7.toInt ≤ 300; omega) (by show x_7.toInt ≤ to_.toInt; omega) (by show x_6.toInt ≤ 200 * x_7.toInt; omega) ((cs_s hsu hbe ex_4 hf5_1 (by omega) (by omega) (by omega)).1) ((cs_s hsu hbe ex_4 hf5_1 (by omega) (by omega) (by omega)).2) (hP.sub [1, 2, 3, 4, 0] rfl) (hD.sub [1, 2, 3, 4, 0] (by decide +kernel) rfl) hS (lv_sub hl [0, 1, 2, 3, 4, 5, 6] rfl)
  exact LOOP_10 _ 0 32 fo _ _ _ (ms_s _) (by decide) (by decide) (by show 0 ≤ fo.toInt ∧ fo.toInt ≤ 300; omega) (by show fo.toInt ≤ to_.toInt; omega) (by show 0 ≤ 200 * fo.toInt; omega) (by rw [ix_eq (x := fo) (N := 0) (by omega)]; rfl) (by rw [ix_eq (x := fo) (N := 0) (by omega)]; rfl) hP hD hS (lv_sub hl [0, 1, 2, 3, 4, 5, 6] rfl)

end

/-! 59n.a.rows -/
section
theorem dX7_passRoughly_0 : decode cX7_passRoughly 0 = .ok (.aload_n 0, 1) := by decide +kernel
theorem dX7_passRoughly_1 : decode cX7_passRoughly 1 = .ok (.iload_n 1, 1) := by decide +kernel
theorem dX7_passRoughly_2 : decode cX7_passRoughly 2 = .ok (.aload_n 3, 1) := by decide +kernel
set_option maxRecDepth 20000 in
theorem ggX7_passRoughly_X7_write : GoodIn wsX7_passRoughly wsX7_write := goodIn_r _ [12, 13, 1, 2, 14, 15, 16, 17, 18, 19, 20, 21, 22, 23, 24, 25, 26, 27, 28, 29, 30, 31, 32, 33, 34, 35, 36, 37, 38, 39, 40, 41, 42, 43, 44, 45, 46, 47, 48, 49, 50, 51, 52, 53, 54, 55, 56, 57, 58, 59, 60, 61, 62, 63, 64, 101, 102, 103, 104, 105, 106, 107, 108, 109, 110, 111] rfl (by decide +kernel)
set_option maxRecDepth 20000 in
theorem gX7_passRoughly_X7_write : GoodIn wsX7_passRoughly (wsV RX7 65 RX7 yX7_write wsX7_write) := goodIn_app (goodIn_r _ [8, 9, 10, 11] rfl (by decide +kernel)) ggX7_passRoughly_X7_write
theorem dX7_passRoughly_3 : decode cX7_passRoughly 3 = .ok (.invokevirtual 65, 3) := by decide +kernel
theorem dX7_passRoughly_6 : decode cX7_passRoughly 6 = .ok (.ifCond .eq 16, 3) := by decide +kernel
theorem dX7_passRoughly_22 : decode cX7_passRoughly 22 = .ok (.iconst (-1), 1) := by decide +kernel
theorem dX7_passRoughly_23 : decode cX7_passRoughly 23 = .ok (.ireturn, 1) := by decide +kernel
theorem dX7_passRoughly_9 : decode cX7_passRoughly 9 = .ok (.aload_n 0, 1) := by decide +kernel
theorem dX7_passRoughly_10 : decode cX7_passRoughly 10 = .ok (.getfield 14, 3) := by decide +kernel
set_option maxRecDepth 20000 in
theorem ggX7_passRoughly_X5_length : GoodIn wsX7_passRoughly wsX5_length := goodIn_r _ [23, 19, 104, 105] rfl (by decide +kernel)
set_option maxRecDepth 20000 in
theorem gX7_passRoughly_X5_length : GoodIn wsX7_passRoughly (wsV RX7 31 RX5 yX5_length wsX5_length) := goodIn_app (goodIn_r _ [20, 21, 22, 17] rfl (by decide +kernel)) ggX7_passRoughly_X5_length
theorem dX7_passRoughly_13 : decode cX7_passRoughly 13 = .ok (.invokevirtual 31, 3) := by decide +kernel
theorem dX7_passRoughly_16 : decode cX7_passRoughly 16 = .ok (.sipush 900, 3) := by decide +kernel
theorem dX7_passRoughly_19 : decode cX7_passRoughly 19 = .ok (.if_icmp .le 5, 3) := by decide +kernel
theorem dX7_passRoughly_24 : decode cX7_passRoughly 24 = .ok (.aload 4, 2) := by decide +kernel
theorem dX7_passRoughly_26 : decode cX7_passRoughly 26 = .ok (.iconst 0, 1) := by decide +kernel
set_option maxRecDepth 20000 in
theorem ggX7_passRoughly_X5_cut : GoodIn wsX7_passRoughly wsX5_cut := goodIn_r _ [18, 19, 104, 105] rfl (by decide +kernel)
set_option maxRecDepth 20000 in
theorem gX7_passRoughly_X5_cut : GoodIn wsX7_passRoughly (wsV RX7 28 RX5 yX5_cut wsX5_cut) := goodIn_app (goodIn_r _ [14, 15, 16, 17] rfl (by decide +kernel)) ggX7_passRoughly_X5_cut
theorem dX7_passRoughly_27 : decode cX7_passRoughly 27 = .ok (.invokevirtual 28, 3) := by decide +kernel
theorem dX7_passRoughly_30 : decode cX7_passRoughly 30 = .ok (.iconst 0, 1) := by decide +kernel
theorem dX7_passRoughly_31 : decode cX7_passRoughly 31 = .ok (.istore 5, 2) := by decide +kernel
theorem dX7_passRoughly_33 : decode cX7_passRoughly 33 = .ok (.iconst 0, 1) := by decide +kernel
theorem dX7_passRoughly_34 : decode cX7_passRoughly 34 = .ok (.istore 6, 2) := by decide +kernel
theorem dX7_passRoughly_36 : decode cX7_passRoughly 36 = .ok (.iload 6, 2) := by decide +kernel
theorem dX7_passRoughly_38 : decode cX7_passRoughly 38 = .ok (.aload_n 0, 1) := by decide +kernel
theorem dX7_passRoughly_39 : decode cX7_passRoughly 39 = .ok (.getfield 14, 3) := by decide +kernel
theorem dX7_passRoughly_42 : decode cX7_passRoughly 42 = .ok (.invokevirtual 31, 3) := by decide +kernel
theorem dX7_passRoughly_45 : decode cX7_passRoughly 45 = .ok (.if_icmp .ge 95, 3) := by decide +kernel
theorem dX7_passRoughly_140 : decode cX7_passRoughly 140 = .ok (.iload 5, 2) := by decide +kernel
theorem dX7_passRoughly_142 : decode cX7_passRoughly 142 = .ok (.ireturn, 1) := by decide +kernel
theorem dX7_passRoughly_48 : decode cX7_passRoughly 48 = .ok (.aload_n 0, 1) := by decide +kernel
theorem dX7_passRoughly_49 : decode cX7_passRoughly 49 = .ok (.getfield 20, 3) := by decide +kernel
theorem dX7_passRoughly_52 : decode cX7_passRoughly 52 = .ok (.iload_n 2, 1) := by decide +kernel
theorem dX7_passRoughly_53 : decode cX7_passRoughly 53 = .ok (.aload_n 0, 1) := by decide +kernel
theorem dX7_passRoughly_54 : decode cX7_passRoughly 54 = .ok (.getfield 14, 3) := by decide +kernel
theorem dX7_passRoughly_57 : decode cX7_passRoughly 57 = .ok (.iload 6, 2) := by decide +kernel
theorem dX7_passRoughly_59 : decode cX7_passRoughly 59 = .ok (.aload_n 0, 1) := by decide +kernel
theorem dX7_passRoughly_60 : decode cX7_passRoughly 60 = .ok (.getfield 14, 3) := by decide +kernel
theorem dX7_passRoughly_63 : decode cX7_passRoughly 63 = .ok (.invokevirtual 31, 3) := by decide +kernel
set_option maxRecDepth 20000 in
theorem ggX7_passRoughly_X2_decode : GoodIn wsX7_passRoughly wsX2_decode := goodIn_r _ [68, 69, 25, 26, 17, 27, 19, 28, 70, 71, 72, 32, 73, 47, 48, 49, 50, 51, 52, 74, 75, 76, 56, 77, 78, 79, 80, 81, 82, 83, 84, 85, 86, 87, 88, 89, 90, 91, 92, 93, 41, 42, 43, 104, 105, 106, 107, 108, 109, 110, 111] rfl (by decide +kernel)
set_option maxRecDepth 20000 in
theorem gX7_passRoughly_X2_decode : GoodIn wsX7_passRoughly (wsV RX7 45 RX2 yX2_decode wsX2_decode) := goodIn_app (goodIn_r _ [65, 66, 67, 32] rfl (by decide +kernel)) ggX7_passRoughly_X2_decode
theorem dX7_passRoughly_66 : decode cX7_passRoughly 66 = .ok (.invokevirtual 45, 3) := by decide +kernel
theorem dX7_passRoughly_69 : decode cX7_passRoughly 69 = .ok (.istore 7, 2) := by decide +kernel
theorem dX7_passRoughly_71 : decode cX7_passRoughly 71 = .ok (.aload 4, 2) := by decide +kernel
theorem dX7_passRoughly_73 : decode cX7_passRoughly 73 = .ok (.iload 7, 2) := by decide +kernel
theorem dX7_passRoughly_75 : decode cX7_passRoughly 75 = .ok (.iconst (-1), 1) := by decide +kernel
theorem dX7_passRoughly_76 : decode cX7_passRoughly 76 = .ok (.if_icmp .ne 8, 3) := by decide +kernel
theorem dX7_passRoughly_84 : decode cX7_passRoughly 84 = .ok (.iload 7, 2) := by decide +kernel
set_option maxRecDepth 20000 in
theorem ggX7_passRoughly_X2_letterIn : GoodIn wsX7_passRoughly wsX2_letterIn := goodIn_r _ [96] rfl (by decide +kernel)
set_option maxRecDepth 20000 in
theorem gX7_passRoughly_X2_letterIn : GoodIn wsX7_passRoughly (va_wsS RX7 49 yX2_letterIn wsX2_letterIn) := goodIn_app (goodIn_r _ [94, 95, 32] rfl (by decide +kernel)) ggX7_passRoughly_X2_letterIn
theorem dX7_passRoughly_86 : decode cX7_passRoughly 86 = .ok (.invokestatic 49, 3) := by decide +kernel
set_option maxRecDepth 20000 in
theorem ggX7_passRoughly_X5_add : GoodIn wsX7_passRoughly wsX5_add := goodIn_r _ [37, 19, 28, 104, 105] rfl (by decide +kernel)
set_option maxRecDepth 20000 in
theorem gX7_passRoughly_X5_add : GoodIn wsX7_passRoughly (wsV RX7 52 RX5 yX5_add wsX5_add) := goodIn_app (goodIn_r _ [97, 35, 36, 17] rfl (by decide +kernel)) ggX7_passRoughly_X5_add
theorem dX7_passRoughly_89 : decode cX7_passRoughly 89 = .ok (.invokevirtual 52, 3) := by decide +kernel
theorem dX7_passRoughly_92 : decode cX7_passRoughly 92 = .ok (.ifCond .ne 5, 3) := by decide +kernel
theorem dX7_passRoughly_97 : decode cX7_passRoughly 97 = .ok (.iload 5, 2) := by decide +kernel
theorem dX7_passRoughly_99 : decode cX7_passRoughly 99 = .ok (.iload 7, 2) := by decide +kernel
theorem dX7_passRoughly_101 : decode cX7_passRoughly 101 = .ok (.iconst (-1), 1) := by decide +kernel
theorem dX7_passRoughly_102 : decode cX7_passRoughly 102 = .ok (.if_icmp .ne 7, 3) := by decide +kernel
theorem dX7_passRoughly_109 : decode cX7_passRoughly 109 = .ok (.iconst 0, 1) := by decide +kernel
theorem dX7_passRoughly_110 : decode cX7_passRoughly 110 = .ok (.iadd, 1) := by decide +kernel
theorem dX7_passRoughly_111 : decode cX7_passRoughly 111 = .ok (.istore 5, 2) := by decide +kernel
theorem dX7_passRoughly_113 : decode cX7_passRoughly 113 = .ok (.iload 6, 2) := by decide +kernel
theorem dX7_passRoughly_115 : decode cX7_passRoughly 115 = .ok (.iload 7, 2) := by decide +kernel
theorem dX7_passRoughly_117 : decode cX7_passRoughly 117 = .ok (.iconst (-1), 1) := by decide +kernel
theorem dX7_passRoughly_118 : decode cX7_passRoughly 118 = .ok (.if_icmp .ne 7, 3) := by decide +kernel
theorem dX7_passRoughly_125 : decode cX7_passRoughly 125 = .ok (.iconst 1, 1) := by decide +kernel
theorem dX7_passRoughly_126 : decode cX7_passRoughly 126 = .ok (.iload 7, 2) := by decide +kernel
set_option maxRecDepth 20000 in
theorem ggX7_passRoughly_X2_bytesIn : GoodIn wsX7_passRoughly wsX2_bytesIn := goodIn_r _ [100] rfl (by decide +kernel)
set_option maxRecDepth 20000 in
theorem gX7_passRoughly_X2_bytesIn : GoodIn wsX7_passRoughly (va_wsS RX7 56 yX2_bytesIn wsX2_bytesIn) := goodIn_app (goodIn_r _ [98, 99, 32] rfl (by decide +kernel)) ggX7_passRoughly_X2_bytesIn
theorem dX7_passRoughly_128 : decode cX7_passRoughly 128 = .ok (.invokestatic 56, 3) := by decide +kernel
theorem dX7_passRoughly_131 : decode cX7_passRoughly 131 = .ok (.invokestatic 59, 3) := by decide +kernel
theorem dX7_passRoughly_134 : decode cX7_passRoughly 134 = .ok (.iadd, 1) := by decide +kernel
theorem dX7_passRoughly_135 : decode cX7_passRoughly 135 = .ok (.istore 6, 2) := by decide +kernel
theorem dX7_passRoughly_137 : decode cX7_passRoughly 137 = .ok (.goto (-101), 3) := by decide +kernel
theorem dX7_passRoughly_95 : decode cX7_passRoughly 95 = .ok (.iconst (-1), 1) := by decide +kernel
theorem dX7_passRoughly_96 : decode cX7_passRoughly 96 = .ok (.ireturn, 1) := by decide +kernel
theorem dX7_passRoughly_79 : decode cX7_passRoughly 79 = .ok (.ldc 73, 2) := by decide +kernel
theorem dX7_passRoughly_81 : decode cX7_passRoughly 81 = .ok (.goto 8, 3) := by decide +kernel
theorem dX7_passRoughly_105 : decode cX7_passRoughly 105 = .ok (.iconst 1, 1) := by decide +kernel
theorem dX7_passRoughly_106 : decode cX7_passRoughly 106 = .ok (.goto 4, 3) := by decide +kernel
theorem dX7_passRoughly_121 : decode cX7_passRoughly 121 = .ok (.iconst 1, 1) := by decide +kernel
theorem dX7_passRoughly_122 : decode cX7_passRoughly 122 = .ok (.goto 12, 3) := by decide +kernel
theorem dX11_rough_0 : decode cX11_rough 0 = .ok (.aload_n 0, 1) := by decide +kernel
theorem dX11_rough_1 : decode cX11_rough 1 = .ok (.iconst (-1), 1) := by decide +kernel
theorem dX11_rough_2 : decode cX11_rough 2 = .ok (.putfield 90, 3) := by decide +kernel
theorem dX11_rough_5 : decode cX11_rough 5 = .ok (.iload_n 1, 1) := by decide +kernel
set_option maxRecDepth 20000 in
theorem ggX11_rough_X2_known : GoodIn wsX11_rough wsX2_known := goodIn_r _ [8] rfl (by decide +kernel)
set_option maxRecDepth 20000 in
theorem gX11_rough_X2_known : GoodIn wsX11_rough (va_wsS RX11 117 yX2_known wsX2_known) := goodIn_app (goodIn_r _ [5, 6, 7] rfl (by decide +kernel)) ggX11_rough_X2_known
theorem dX11_rough_6 : decode cX11_rough 6 = .ok (.invokestatic 117, 3) := by decide +kernel
theorem dX11_rough_9 : decode cX11_rough 9 = .ok (.ifCond .eq 10, 3) := by decide +kernel
theorem dX11_rough_19 : decode cX11_rough 19 = .ok (.iconst (-1), 1) := by decide +kernel
theorem dX11_rough_20 : decode cX11_rough 20 = .ok (.ireturn, 1) := by decide +kernel
theorem dX11_rough_12 : decode cX11_rough 12 = .ok (.iload_n 2, 1) := by decide +kernel
theorem dX11_rough_13 : decode cX11_rough 13 = .ok (.invokestatic 117, 3) := by decide +kernel
theorem dX11_rough_16 : decode cX11_rough 16 = .ok (.ifCond .ne 5, 3) := by decide +kernel
theorem dX11_rough_21 : decode cX11_rough 21 = .ok (.aload_n 0, 1) := by decide +kernel
theorem dX11_rough_22 : decode cX11_rough 22 = .ok (.getfield 44, 3) := by decide +kernel
theorem dX11_rough_25 : decode cX11_rough 25 = .ok (.iload_n 1, 1) := by decide +kernel
theorem dX11_rough_26 : decode cX11_rough 26 = .ok (.iload_n 2, 1) := by decide +kernel
theorem dX11_rough_27 : decode cX11_rough 27 = .ok (.aload_n 0, 1) := by decide +kernel
theorem dX11_rough_28 : decode cX11_rough 28 = .ok (.getfield 34, 3) := by decide +kernel
theorem dX11_rough_31 : decode cX11_rough 31 = .ok (.aload_n 0, 1) := by decide +kernel
theorem dX11_rough_32 : decode cX11_rough 32 = .ok (.getfield 37, 3) := by decide +kernel
set_option maxRecDepth 20000 in
theorem ggX11_rough_X7_passRoughly : GoodIn wsX11_rough wsX7_passRoughly := goodIn_r _ [13, 14, 15, 16, 17, 18, 19, 20, 21, 22, 23, 12, 24, 25, 26, 27, 28, 29, 30, 31, 32, 33, 34, 35, 36, 37, 38, 39, 40, 41, 42, 43, 7, 44, 45, 46, 47, 48, 49, 50, 51, 52, 53, 54, 55, 56, 57, 58, 59, 60, 61, 62, 63, 64, 65, 66, 67, 68, 69, 70, 71, 72, 73, 74, 75, 76, 77, 78, 79, 80, 81, 82, 83, 84, 85, 86, 87, 88, 89, 90, 91, 92, 93, 94, 95, 96, 97, 98, 99, 100, 101, 102, 103, 104, 105, 106, 107, 108, 109, 110, 111, 167, 168, 169, 170, 171, 172, 173, 174, 175, 176, 177] rfl (by decide +kernel)
set_option maxRecDepth 20000 in
theorem gX11_rough_X7_passRoughly : GoodIn wsX11_rough (wsV RX11 181 RX7 yX7_passRoughly wsX7_passRoughly) := goodIn_app (goodIn_r _ [9, 10, 11, 12] rfl (by decide +kernel)) ggX11_rough_X7_passRoughly
theorem dX11_rough_35 : decode cX11_rough 35 = .ok (.invokevirtual 181, 3) := by decide +kernel
theorem dX11_rough_38 : decode cX11_rough 38 = .ok (.istore_n 3, 1) := by decide +kernel
theorem dX11_rough_39 : decode cX11_rough 39 = .ok (.aload_n 0, 1) := by decide +kernel
theorem dX11_rough_40 : decode cX11_rough 40 = .ok (.aload_n 0, 1) := by decide +kernel
theorem dX11_rough_41 : decode cX11_rough 41 = .ok (.getfield 44, 3) := by decide +kernel
set_option maxRecDepth 20000 in
theorem ggX11_rough_X7_fault : GoodIn wsX11_rough wsX7_fault := goodIn_r _ [115, 25, 167, 168, 169] rfl (by decide +kernel)
set_option maxRecDepth 20000 in
theorem gX11_rough_X7_fault : GoodIn wsX11_rough (wsV RX11 127 RX7 yX7_fault wsX7_fault) := goodIn_app (goodIn_r _ [112, 113, 114, 12] rfl (by decide +kernel)) ggX11_rough_X7_fault
theorem dX11_rough_44 : decode cX11_rough 44 = .ok (.invokevirtual 127, 3) := by decide +kernel
theorem dX11_rough_47 : decode cX11_rough 47 = .ok (.putfield 90, 3) := by decide +kernel
theorem dX11_rough_50 : decode cX11_rough 50 = .ok (.iload_n 3, 1) := by decide +kernel
theorem dX11_rough_51 : decode cX11_rough 51 = .ok (.iconst (-1), 1) := by decide +kernel
theorem dX11_rough_52 : decode cX11_rough 52 = .ok (.if_icmp .ne 5, 3) := by decide +kernel
theorem dX11_rough_57 : decode cX11_rough 57 = .ok (.aload_n 0, 1) := by decide +kernel
theorem dX11_rough_58 : decode cX11_rough 58 = .ok (.aload_n 0, 1) := by decide +kernel
theorem dX11_rough_59 : decode cX11_rough 59 = .ok (.getfield 37, 3) := by decide +kernel
set_option maxRecDepth 20000 in
theorem ggX11_rough_X11_become : GoodIn wsX11_rough wsX11_become := goodIn_r _ [119, 120, 3, 121, 122, 123, 124, 125, 126, 127, 128, 19, 129, 130, 131, 132, 133, 134, 33, 34, 29, 35, 31, 135, 37, 38, 39, 40, 136, 137, 138, 139, 140, 141, 142, 143, 144, 145, 146, 147, 148, 149, 150, 151, 152, 153, 154, 155, 156, 157, 158, 159, 160, 161, 162, 163, 164, 165, 166, 178, 179, 180, 181, 170, 171, 182, 183, 184, 185, 186, 187, 188, 189, 190, 191, 192, 193, 194, 195, 196, 197, 198, 199, 200, 201] rfl (by decide +kernel)
set_option maxRecDepth 20000 in
theorem gX11_rough_X11_become : GoodIn wsX11_rough (wsV RX11 113 RX11 yX11_become wsX11_become) := goodIn_app (goodIn_r _ [116, 117, 118, 97] rfl (by decide +kernel)) ggX11_rough_X11_become
theorem dX11_rough_62 : decode cX11_rough 62 = .ok (.invokevirtual 113, 3) := by decide +kernel
theorem dX11_rough_65 : decode cX11_rough 65 = .ok (.pop, 1) := by decide +kernel
theorem dX11_rough_66 : decode cX11_rough 66 = .ok (.iload_n 3, 1) := by decide +kernel
theorem dX11_rough_67 : decode cX11_rough 67 = .ok (.ireturn, 1) := by decide +kernel
theorem dX11_rough_55 : decode cX11_rough 55 = .ok (.iconst (-1), 1) := by decide +kernel
theorem dX11_rough_56 : decode cX11_rough 56 = .ok (.ireturn, 1) := by decide +kernel

end
