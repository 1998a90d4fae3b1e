/-! 59e.dec -/
section
set_option maxHeartbeats 40000000 in
set_option maxRecDepth 100000 in
theorem f_X12_read (l : Launch) (dC : Nat → ClassId) (dI : Nat → Nat → Nat) (cI cS : ClassId) (sz : Nat) (oM : Nat) (mT : Nat) (mS : Nat) (mX : Nat) (mL : Nat) (mB : Nat) (mD : Nat) (m1 : Nat) (m2 : Nat) (mR : Nat) (x1 : Nat) (x2 : Nat) (x3 : Nat) (mH : Nat) (mY : Nat) (mE : Nat) (mW : Nat) (mO : Nat) (y1 : Nat) (y2 : Nat) (y3 : Nat) (y4 : Nat) (mZ : Nat) (zt : Int32) (zp : Int32) (zf : Int32) (zh : Int32) (zr : Int32) (zc : Int32) (zy : Int32) (za : Int32) (zb : Int32) (zs : Int32) (zq : Int32) (zw : Int32) (ze : Int32) (zn : Int32) (zm : Int32) (zl : Int32) (zk : Int32) (zd : Int32) (eY : Nat → Int32) (eL : Nat → Int32) (eE : Nat → Int32) (cd : Int32) (ro : Int32) (g_zt : 0 ≤ zt.toInt ∧ zt.toInt ≤ 900) (g_zp : 0 ≤ zp.toInt ∧ zp.toInt ≤ 20) (g_zf : 0 ≤ zf.toInt ∧ zf.toInt ≤ 19) (g_zh : 0 ≤ zh.toInt ∧ zh.toInt ≤ 6) (g_zr : 0 ≤ zr.toInt ∧ zr.toInt ≤ 258) (g_zc : 0 ≤ zc.toInt ∧ zc.toInt ≤ 300) (g_zy : 0 ≤ zy.toInt ∧ zy.toInt ≤ 65536) (g_za : 0 ≤ za.toInt ∧ za.toInt ≤ 5) (g_zb : 0 ≤ zb.toInt ∧ zb.toInt ≤ 5) (g_zs : 0 ≤ zs.toInt ∧ zs.toInt ≤ 2000000) (g_zq : -1 ≤ zq.toInt ∧ zq.toInt ≤ 2000000) (g_zn : 0 ≤ zn.toInt ∧ zn.toInt ≤ 2600) (g_zm : 0 ≤ zm.toInt ∧ zm.toInt ≤ 2600) (g_zk : 0 ≤ zk.toInt ∧ zk.toInt ≤ 300) (g_eY : rg 0 255 eY) (g_eL : rg (-1) 65535 eL) (g_eE : rg 0 65535 eE) (g_cd : 0 ≤ cd.toInt ∧ cd.toInt ≤ 5) (hro : ro.toInt = 0) : Met l yX12_read wsX12_read ({ frames := 2, cells := 0, slots := 0, locals := 47 } : Room) (va_Pc [.ref oM, .int cd, .int ro] (fun U => U.heap.size = sz ∧ va_P (dC, dI) vwCl [(oM, .inr (12, [.ref mT, .int zt, .ref mS, .ref mX, .int zp, .int zf, .ref mL, .ref mB, .ref mD, .ref m1, .ref m2, .int zh, .ref mR, .int zr, .ref x1, .ref x2, .ref x3, .int zc, .ref mH, .int zy, .int za, .int zb, .int zs, .int zq, .int zw, .int ze, .ref mY, .int zn, .ref mE, .int zm, .int zl, .ref mW, .int zk, .ref mO, .int zd, .ref y1, .ref y2, .ref y3, .ref y4, .ref mZ])), (mY, .inl (cI, 2600, .inl eY)), (mL, .inl (cI, 512, .inl eL)), (mE, .inl (cI, 2600, .inl eE))] U.heap ∧ va_K (dC, dI) vwCl [(cI, .int), (cS, .short)] U ∧ va_D (fun _ => True) [(oM, .inr (12, [.ref mT, .int zt, .ref mS, .ref mX, .int zp, .int zf, .ref mL, .ref mB, .ref mD, .ref m1, .ref m2, .int zh, .ref mR, .int zr, .ref x1, .ref x2, .ref x3, .int zc, .ref mH, .int zy, .int za, .int zb, .int zs, .int zq, .int zw, .int ze, .ref mY, .int zn, .ref mE, .int zm, .int zl, .ref mW, .int zk, .ref mO, .int zd, .ref y1, .ref y2, .ref y3, .ref y4, .ref mZ])), (mY, .inl (cI, 2600, .inl eY)), (mL, .inl (cI, 512, .inl eL)), (mE, .inl (cI, 2600, .inl eE))])) (va_Qi (fun (r : Int32) (u : Int32) => r = u) (fun (r : Int32) t => ∃ (zd' : Int32) (zm' : Int32) (zl' : Int32) (eE' : Nat → Int32), va_P (dC, dI) vwCl [(oM, .inr (12, [.ref mT, .int zt, .ref mS, .ref mX, .int zp, .int zf, .ref mL, .ref mB, .ref mD, .ref m1, .ref m2, .int zh, .ref mR, .int zr, .ref x1, .ref x2, .ref x3, .int zc, .ref mH, .int zy, .int za, .int zb, .int zs, .int zq, .int zw, .int ze, .ref mY, .int zn, .ref mE, .int zm', .int zl', .ref mW, .int zk, .ref mO, .int zd', .ref y1, .ref y2, .ref y3, .ref y4, .ref mZ])), (mY, .inl (cI, 2600, .inl eY)), (mL, .inl (cI, 512, .inl eL)), (mE, .inl (cI, 2600, .inl eE'))] t.heap ∧ va_D (va_A [(oM, .inr (12, [.ref mT, .int zt, .ref mS, .ref mX, .int zp, .int zf, .ref mL, .ref mB, .ref mD, .ref m1, .ref m2, .int zh, .ref mR, .int zr, .ref x1, .ref x2, .ref x3, .int zc, .ref mH, .int zy, .int za, .int zb, .int zs, .int zq, .int zw, .int ze, .ref mY, .int zn, .ref mE, .int zm, .int zl, .ref mW, .int zk, .ref mO, .int zd, .ref y1, .ref y2, .ref y3, .ref y4, .ref mZ])), (mY, .inl (cI, 2600, .inl eY)), (mL, .inl (cI, 512, .inl eL)), (mE, .inl (cI, 2600, .inl eE))] sz) [(oM, .inr (12, [.ref mT, .int zt, .ref mS, .ref mX, .int zp, .int zf, .ref mL, .ref mB, .ref mD, .ref m1, .ref m2, .int zh, .ref mR, .int zr, .ref x1, .ref x2, .ref x3, .int zc, .ref mH, .int zy, .int za, .int zb, .int zs, .int zq, .int zw, .int ze, .ref mY, .int zn, .ref mE, .int zm', .int zl', .ref mW, .int zk, .ref mO, .int zd', .ref y1, .ref y2, .ref y3, .ref y4, .ref mZ])), (mY, .inl (cI, 2600, .inl eY)), (mL, .inl (cI, 512, .inl eL)), (mE, .inl (cI, 2600, .inl eE'))] ∧ (0 ≤ zm'.toInt ∧ zm'.toInt ≤ 2600) ∧ (rg 0 65535 eE') ∧ (0 ≤ r.toInt ∧ r.toInt ≤ 1) ∧ (zm'.toInt ≤ zn.toInt) ∧ (F_rr r zm' zl' eE' (dl cd (fun k => eL k) (fun k => eL (256 + k)) eY zn.toInt) (dx cd (fun k => eL k) (fun k => eL (256 + k)) eY zn.toInt) zn.toInt)) (va_A [(oM, .inr (12, [.ref mT, .int zt, .ref mS, .ref mX, .int zp, .int zf, .ref mL, .ref mB, .ref mD, .ref m1, .ref m2, .int zh, .ref mR, .int zr, .ref x1, .ref x2, .ref x3, .int zc, .ref mH, .int zy, .int za, .int zb, .int zs, .int zq, .int zw, .int ze, .ref mY, .int zn, .ref mE, .int zm, .int zl, .ref mW, .int zk, .ref mO, .int zd, .ref y1, .ref y2, .ref y3, .ref y4, .ref mZ])), (mY, .inl (cI, 2600, .inl eY)), (mL, .inl (cI, 512, .inl eL)), (mE, .inl (cI, 2600, .inl eE))] sz)) 0 0 (va_A [(oM, .inr (12, [.ref mT, .int zt, .ref mS, .ref mX, .int zp, .int zf, .ref mL, .ref mB, .ref mD, .ref m1, .ref m2, .int zh, .ref mR, .int zr, .ref x1, .ref x2, .ref x3, .int zc, .ref mH, .int zy, .int za, .int zb, .int zs, .int zq, .int zw, .int ze, .ref mY, .int zn, .ref mE, .int zm, .int zl, .ref mW, .int zk, .ref mO, .int zd, .ref y1, .ref y2, .ref y3, .ref y4, .ref mZ])), (mY, .inl (cI, 2600, .inl eY)), (mL, .inl (cI, 512, .inl eL)), (mE, .inl (cI, 2600, .inl eE))] sz) := by
  refine Met.ofW (cc := cX12_read) (maxL := 5) (ret := (some .boolean)) (by decide) rfl ?_
  intro p e s m args below meth c s₁ B hml hv
  obtain ⟨rfl, hsz, hP, hK, hD0⟩ := hv
  have hx := B.exec
  have hb := B.bytes
  have hr := B.returns
  have hts := atoms_spec (ws := wsX12_read) B.pre
  have hown : s.vm.findClass RX12 = some m.cls := findClass_of_methodNamed B.named
  have hlocks := B.notSynchronized
  have in_X12 : ∀ w ∈ wsX120, w ∈ wsX12_read := fun _ h => List.mem_cons_of_mem _ (List.mem_append_right _ (h))
  subst hsz
  have hD := hD0.self (sz := s.heap.size)
  generalize hAe : va_A [(oM, .inr (12, [.ref mT, .int zt, .ref mS, .ref mX, .int zp, .int zf, .ref mL, .ref mB, .ref mD, .ref m1, .ref m2, .int zh, .ref mR, .int zr, .ref x1, .ref x2, .ref x3, .int zc, .ref mH, .int zy, .int za, .int zb, .int zs, .int zq, .int zw, .int ze, .ref mY, .int zn, .ref mE, .int zm, .int zl, .ref mW, .int zk, .ref mO, .int zd, .ref y1, .ref y2, .ref y3, .ref y4, .ref mZ])), (mY, .inl (cI, 2600, .inl eY)), (mL, .inl (cI, 512, .inl eL)), (mE, .inl (cI, 2600, .inl eE))] s.heap.size = A at hD ⊢
  have hA : ∀ q : Nat, s.heap.size ≤ q → A q := fun q h => by rw [← hAe]; exact Or.inr h
  have hS : va_S A s.heap s.heap [] := va_S.rf
  have hP : va_P (dC, dI) vwCl [(oM, .inr (12, [.ref mT, .int zt, .ref mS, .ref mX, .int zp, .int zf, .ref mL, .ref mB, .ref mD, .ref m1, .ref m2, .int zh, .ref mR, .int zr, .ref x1, .ref x2, .ref x3, .int zc, .ref mH, .int zy, .int za, .int zb, .int zs, .int zq, .int zw, .int ze, .ref mY, .int zn, .ref mE, .int zm, .int zl, .ref mW, .int zk, .ref mO, .int zd, .ref y1, .ref y2, .ref y3, .ref y4, .ref mZ])), (mY, .inl (cI, 2600, .inl eY)), (mL, .inl (cI, 512, .inl eL)), (mE, .inl (cI, 2600, .inl eE))] s.heap := hP
  have hl := lv_entry ([.ref oM, .int cd, .int ro]) (n := 5) (Nat.le_of_ble_eq_true rfl)
  rw [lg_entry_eq]
  generalize (lg_sl ([.ref oM, .int cd, .int ro]) ++ List.replicate (5 - (lg_sl ([.ref oM, .int cd, .int ro])).length) Slot.unset).toArray = ls at hl ⊢
  have hl : lv_has ls 5 [(0, .ref oM), (1, .int cd), (2, .int ro)] := hl
  obtain ⟨QQ, hQQ⟩ : ∃ QQ : Array Value → State → Outcome → State → Prop, QQ = va_Qi (fun (r : Int32) (u : Int32) => r = u) (fun (r : Int32) t => ∃ (zd' : Int32) (zm' : Int32) (zl' : Int32) (eE' : Nat → Int32), va_P (dC, dI) vwCl [(oM, .inr (12, [.ref mT, .int zt, .ref mS, .ref mX, .int zp, .int zf, .ref mL, .ref mB, .ref mD, .ref m1, .ref m2, .int zh, .ref mR, .int zr, .ref x1, .ref x2, .ref x3, .int zc, .ref mH, .int zy, .int za, .int zb, .int zs, .int zq, .int zw, .int ze, .ref mY, .int zn, .ref mE, .int zm', .int zl', .ref mW, .int zk, .ref mO, .int zd', .ref y1, .ref y2, .ref y3, .ref y4, .ref mZ])), (mY, .inl (cI, 2600, .inl eY)), (mL, .inl (cI, 512, .inl eL)), (mE, .inl (cI, 2600, .inl eE'))] t.heap ∧ va_D A [(oM, .inr (12, [.ref mT, .int zt, .ref mS, .ref mX, .int zp, .int zf, .ref mL, .ref mB, .ref mD, .ref m1, .ref m2, .int zh, .ref mR, .int zr, .ref x1, .ref x2, .ref x3, .int zc, .ref mH, .int zy, .int za, .int zb, .int zs, .int zq, .int zw, .int ze, .ref mY, .int zn, .ref mE, .int zm', .int zl', .ref mW, .int zk, .ref mO, .int zd', .ref y1, .ref y2, .ref y3, .ref y4, .ref mZ])), (mY, .inl (cI, 2600, .inl eY)), (mL, .inl (cI, 512, .inl eL)), (mE, .inl (cI, 2600, .inl eE'))] ∧ (0 ≤ zm'.toInt ∧ zm'.toInt ≤ 2600) ∧ (rg 0 65535 eE') ∧ (0 ≤ r.toInt ∧ r.toInt ≤ 1) ∧ (zm'.toInt ≤ zn.toInt) ∧ (F_rr r zm' zl' eE' (dl cd (fun k => eL k) (fun k => eL (256 + k)) eY zn.toInt) (dx cd (fun k => eL k) (fun k => eL (256 + k)) eY zn.toInt) zn.toInt)) A := ⟨_, rfl⟩
  rw [← hQQ]
  refine lv_aload_n hx hb dX12_read_0 rfl (lv_at hl 0 rfl) ?_
  refine lv_iconst (v := 0) hx hb dX12_read_1 (by decide) ?_
  refine va_put (D := (dC, dI)) (ci := 12) (v := .int 0) (ty := .int) (C := RX12) (T := TX12) (N := 40) hx hb hts in_X12 tyX12 tyX12_ok nmX12 hown hK hP hD hS 0 rfl rfl 29 (by decide) (hts (.fieldLink RX12 119 "TextMenderModel" "cameMany" "I") (List.mem_of_getElem? (i := 1) rfl)) (fun _ h9 => h9) rfl (by decide +kernel) rfl rfl (Nat.le_of_ble_eq_true rfl) dX12_read_2 (fun H locs hPn hDn hSn => ?_)
  clear hP hD hS
  have hP : va_P (dC, dI) vwCl [(oM, .inr (12, [.ref mT, .int zt, .ref mS, .ref mX, .int zp, .int zf, .ref mL, .ref mB, .ref mD, .ref m1, .ref m2, .int zh, .ref mR, .int zr, .ref x1, .ref x2, .ref x3, .int zc, .ref mH, .int zy, .int za, .int zb, .int zs, .int zq, .int zw, .int ze, .ref mY, .int zn, .ref mE, .int 0, .int zl, .ref mW, .int zk, .ref mO, .int zd, .ref y1, .ref y2, .ref y3, .ref y4, .ref mZ])), (mY, .inl (cI, 2600, .inl eY)), (mL, .inl (cI, 512, .inl eL)), (mE, .inl (cI, 2600, .inl eE))] H := hPn
  have hD : va_D A [(oM, .inr (12, [.ref mT, .int zt, .ref mS, .ref mX, .int zp, .int zf, .ref mL, .ref mB, .ref mD, .ref m1, .ref m2, .int zh, .ref mR, .int zr, .ref x1, .ref x2, .ref x3, .int zc, .ref mH, .int zy, .int za, .int zb, .int zs, .int zq, .int zw, .int ze, .ref mY, .int zn, .ref mE, .int 0, .int zl, .ref mW, .int zk, .ref mO, .int zd, .ref y1, .ref y2, .ref y3, .ref y4, .ref mZ])), (mY, .inl (cI, 2600, .inl eY)), (mL, .inl (cI, 512, .inl eL)), (mE, .inl (cI, 2600, .inl eE))] := hDn
  have hS := hSn
  clear hPn hDn hSn
  refine lv_iconst (v := 0) hx hb dX12_read_5 (by decide) ?_
  refine lv_istore_n (lv' := [(3, .int 0), (0, .ref oM), (1, .int cd), (2, .int ro)]) hx hb dX12_read_6 rfl hl (by decide) rfl (fun ls hl => ?_)
  have LOOP_7 : ∀ (k_7 : Nat) (p_ : Int32) (zma : Int32) (zda : Int32) (zla : Int32) (eEa : Nat → Int32) (H : Heap) (locs : List Loc) (ls : Array Slot), MSd (2608 - p_.toInt : Int) k_7 → (0 ≤ p_.toInt ∧ p_.toInt ≤ zn.toInt) → (0 ≤ zma.toInt ∧ zma.toInt ≤ p_.toInt) → (rg 0 65535 eEa) → (RR p_ zma eEa (dl cd (fun k => eL k) (fun k => eL (256 + k)) eY zn.toInt) (dx cd (fun k => eL k) (fun k => eL (256 + k)) eY zn.toInt)) → va_P (dC, dI) vwCl [(oM, .inr (12, [.ref mT, .int zt, .ref mS, .ref mX, .int zp, .int zf, .ref mL, .ref mB, .ref mD, .ref m1, .ref m2, .int zh, .ref mR, .int zr, .ref x1, .ref x2, .ref x3, .int zc, .ref mH, .int zy, .int za, .int zb, .int zs, .int zq, .int zw, .int ze, .ref mY, .int zn, .ref mE, .int zma, .int zla, .ref mW, .int zk, .ref mO, .int zda, .ref y1, .ref y2, .ref y3, .ref y4, .ref mZ])), (mY, .inl (cI, 2600, .inl eY)), (mL, .inl (cI, 512, .inl eL)), (mE, .inl (cI, 2600, .inl eEa))] H → va_D A [(oM, .inr (12, [.ref mT, .int zt, .ref mS, .ref mX, .int zp, .int zf, .ref mL, .ref mB, .ref mD, .ref m1, .ref m2, .int zh, .ref mR, .int zr, .ref x1, .ref x2, .ref x3, .int zc, .ref mH, .int zy, .int za, .int zb, .int zs, .int zq, .int zw, .int ze, .ref mY, .int zn, .ref mE, .int zma, .int zla, .ref mW, .int zk, .ref mO, .int zda, .ref y1, .ref y2, .ref y3, .ref y4, .ref mZ])), (mY, .inl (cI, 2600, .inl eY)), (mL, .inl (cI, 512, .inl eL)), (mE, .inl (cI, 2600, .inl eEa))] → va_S A s.heap H locs → lv_has ls 5 [(3, .int p_), (0, .ref oM), (1, .int cd), (2, .int ro)] → W p l e (headSpec wsX12_read ({ frames := 2, cells := 0, slots := 0, locals := 47 } : Room)).room s m ([.ref oM, .int cd, .int ro] : List Value).toArray below meth c H locs 0 0 (MQ below QQ ([.ref oM, .int cd, .int ro] : List Value).toArray s 0 0 A) (F0 m 7 ls []) := by
    clear hP hD hS hl
    intro k_7
    induction k_7 with
    | zero =>
      intro p_ zma zda zla eEa H locs ls hm_7 g_p_ g_zma g_eEa hrr hP hD hS hl
      exact ms_0 hm_7
    | succ k_7 ih_7 =>
      intro p_ zma zda zla eEa H locs ls hm_7 g_p_ g_zma g_eEa hrr hP hD hS hl
      refine lv_iload_n hx hb dX12_read_7 rfl (lv_at hl 0 rfl) ?_
      refine lv_aload_n hx hb dX12_read_8 rfl (lv_at hl 1 rfl) ?_
      refine va_get (D := (dC, dI)) (ci := 12) (v := .int zn) (C := RX12) (T := TX12) (N := 40) hx hb hts in_X12 hown hK hP 0 rfl rfl 27 (by decide) (hts (.fieldLink RX12 91 "TextMenderModel" "byteMany" "I") (List.mem_of_getElem? (i := 2) rfl)) (fun _ h9 => h9) rfl dX12_read_9 ?_
      refine lv_icmp_ge (tgt := 89) hx hb dX12_read_12 (by decide) (fun c_1 => ?_) (fun c_1 => ?_)
      · have tc_1 : zn.toInt ≤ p_.toInt := v_le c_1
        refine lv_iconst (v := 1) hx hb dX12_read_89 (by decide) ?_
        have hP9 := hP.sub (ws' := [(oM, .inr (12, [.ref mT, .int zt, .ref mS, .ref mX, .int zp, .int zf, .ref mL, .ref mB, .ref mD, .ref m1, .ref m2, .int zh, .ref mR, .int zr, .ref x1, .ref x2, .ref x3, .int zc, .ref mH, .int zy, .int za, .int zb, .int zs, .int zq, .int zw, .int ze, .ref mY, .int zn, .ref mE, .int zma, .int zla, .ref mW, .int zk, .ref mO, .int zda, .ref y1, .ref y2, .ref y3, .ref y4, .ref mZ])), (mY, .inl (cI, 2600, .inl eY)), (mL, .inl (cI, 512, .inl eL)), (mE, .inl (cI, 2600, .inl eEa))]) [0, 1, 2, 3] rfl
        have hD9 := hD.sub (ws' := [(oM, .inr (12, [.ref mT, .int zt, .ref mS, .ref mX, .int zp, .int zf, .ref mL, .ref mB, .ref mD, .ref m1, .ref m2, .int zh, .ref mR, .int zr, .ref x1, .ref x2, .ref x3, .int zc, .ref mH, .int zy, .int za, .int zb, .int zs, .int zq, .int zw, .int ze, .ref mY, .int zn, .ref mE, .int zma, .int zla, .ref mW, .int zk, .ref mO, .int zda, .ref y1, .ref y2, .ref y3, .ref y4, .ref mZ])), (mY, .inl (cI, 2600, .inl eY)), (mL, .inl (cI, 512, .inl eL)), (mE, .inl (cI, 2600, .inl eEa))]) [0, 1, 2, 3] (by decide +kernel) rfl
        rw [hQQ]
        exact W.zret (v := 1) (ty := .boolean) hx hb hr (rfl) (fun t ht hW => ⟨⟨1, 1, rfl, rfl, ⟨zda, zma, zla, eEa, by rw [ht]; exact hP9, hD9, by omega, g_eEa, by decide, by show zma.toInt ≤ zn.toInt; omega, RR_end hrr (by omega)⟩⟩, hS.F ht⟩) hS.2.2 dX12_read_90
      · have tc_1 : p_.toInt < zn.toInt := v_nle c_1
        refine lv_aload_n hx hb dX12_read_15 rfl (lv_at hl 1 rfl) ?_
        refine lv_iload_n hx hb dX12_read_16 rfl (lv_at hl 2 rfl) ?_
        refine lv_iload_n hx hb dX12_read_17 rfl (lv_at hl 0 rfl) ?_
        have hPc := hP.sub (ws' := [(oM, .inr (12, [.ref mT, .int zt, .ref mS, .ref mX, .int zp, .int zf, .ref mL, .ref mB, .ref mD, .ref m1, .ref m2, .int zh, .ref mR, .int zr, .ref x1, .ref x2, .ref x3, .int zc, .ref mH, .int zy, .int za, .int zb, .int zs, .int zq, .int zw, .int ze, .ref mY, .int zn, .ref mE, .int zma, .int zla, .ref mW, .int zk, .ref mO, .int zda, .ref y1, .ref y2, .ref y3, .ref y4, .ref mZ])), (mY, .inl (cI, 2600, .inl eY)), (mL, .inl (cI, 512, .inl eL))]) [0, 1, 2] rfl
        have hDc := hD.sub (ws' := [(oM, .inr (12, [.ref mT, .int zt, .ref mS, .ref mX, .int zp, .int zf, .ref mL, .ref mB, .ref mD, .ref m1, .ref m2, .int zh, .ref mR, .int zr, .ref x1, .ref x2, .ref x3, .int zc, .ref mH, .int zy, .int za, .int zb, .int zs, .int zq, .int zw, .int ze, .ref mY, .int zn, .ref mE, .int zma, .int zla, .ref mW, .int zk, .ref mO, .int zda, .ref y1, .ref y2, .ref y3, .ref y4, .ref mZ])), (mY, .inl (cI, 2600, .inl eY)), (mL, .inl (cI, 512, .inl eL))]) [0, 1, 2] (by decide +kernel) rfl
        have hFc := va_free (wc := [(oM, .inr (12, [.ref mT, .int zt, .ref mS, .ref mX, .int zp, .int zf, .ref mL, .ref mB, .ref mD, .ref m1, .ref m2, .int zh, .ref mR, .int zr, .ref x1, .ref x2, .ref x3, .int zc, .ref mH, .int zy, .int za, .int zb, .int zs, .int zq, .int zw, .int ze, .ref mY, .int zn, .ref mE, .int zma, .int zla, .ref mW, .int zk, .ref mO, .int zda, .ref y1, .ref y2, .ref y3, .ref y4, .ref mZ])), (mY, .inl (cI, 2600, .inl eY)), (mL, .inl (cI, 512, .inl eL))]) hD hS hA [0, 1, 2] rfl
        refine va_calli (va_runV (As := [.int cd, .int p_]) (rest := []) ⟨hx, hb, hml, hown, hts⟩ (f_X12_readAt l dC dI cI cS H.size oM mT mS mX mL mB mD m1 m2 mR x1 x2 x3 mH mY mE mW mO y1 y2 y3 y4 mZ zt zp zf zh zr zc zy za zb zs zq zw ze zn zma zla zk zda eY eL cd p_ (g_zt) (g_zp) (g_zf) (g_zh) (g_zr) (g_zc) (g_zy) (g_za) (g_zb) (g_zs) (g_zq) (g_zn) (by omega) (g_zk) (g_eY) (g_eL) (g_cd) (by omega) (by omega)) (cwV 2 hts gX12_read_X12_readAt rfl rfl rfl (by decide +kernel) ⟨Nat.le_of_ble_eq_true rfl, Nat.le_of_ble_eq_true rfl⟩) ⟨fun a U g mk q => by obtain ⟨q0, q1, qP, qK, qD⟩ := q; exact ⟨q0, q1, qP, va_K.moved (u := U) (U := U.calling g mk a) (Vm.Alike.refl U.vm) qK, qD⟩, va_recv hK hPc (ci := 12) (q0 := 0) rfl rfl, fun U hU hW => ⟨rfl, by rw [hU], by rw [hU]; exact hPc, va_K.moved hW.alike hK, hDc.weaken (fun _ _ _ _ => trivial)⟩⟩ rfl rfl hl.1 rfl (lv_room (Nat.le_of_ble_eq_true rfl)) dX12_read_18 ⟨Nat.le_of_ble_eq_true rfl, Nat.le_of_ble_eq_true rfl⟩) hS (fun q _ h => hFc q h) hFc (fun r_2 u t H1 locs ht hvm hw hB hz1 hk1 hSn => ?_)
        subst hw
        obtain ⟨zd_2, hP1, hD1, hf2_0, hf2_1, hf2_2⟩ := hB
        rw [ht] at hP1
        obtain ⟨hPn, hDn⟩ := va_join (wr := [(mE, .inl (cI, 2600, .inl eEa))]) (w1 := [(oM, .inr (12, [.ref mT, .int zt, .ref mS, .ref mX, .int zp, .int zf, .ref mL, .ref mB, .ref mD, .ref m1, .ref m2, .int zh, .ref mR, .int zr, .ref x1, .ref x2, .ref x3, .int zc, .ref mH, .int zy, .int za, .int zb, .int zs, .int zq, .int zw, .int ze, .ref mY, .int zn, .ref mE, .int zma, .int zla, .ref mW, .int zk, .ref mO, .int zd_2, .ref y1, .ref y2, .ref y3, .ref y4, .ref mZ])), (mY, .inl (cI, 2600, .inl eY)), (mL, .inl (cI, 512, .inl eL))]) hP hD [0, 1, 2] [3] rfl rfl (by decide +kernel) (by decide +kernel) hk1 hFc hP1 hD1
        clear hP hD hS hPc hDc hFc hk1 hz1 hvm ht hP1 hD1
        generalize H1 = H at hPn hSn ⊢
        have hP : va_P (dC, dI) vwCl [(mE, .inl (cI, 2600, .inl eEa)), (oM, .inr (12, [.ref mT, .int zt, .ref mS, .ref mX, .int zp, .int zf, .ref mL, .ref mB, .ref mD, .ref m1, .ref m2, .int zh, .ref mR, .int zr, .ref x1, .ref x2, .ref x3, .int zc, .ref mH, .int zy, .int za, .int zb, .int zs, .int zq, .int zw, .int ze, .ref mY, .int zn, .ref mE, .int zma, .int zla, .ref mW, .int zk, .ref mO, .int zd_2, .ref y1, .ref y2, .ref y3, .ref y4, .ref mZ])), (mY, .inl (cI, 2600, .inl eY)), (mL, .inl (cI, 512, .inl eL))] H := hPn
        have hD : va_D A [(mE, .inl (cI, 2600, .inl eEa)), (oM, .inr (12, [.ref mT, .int zt, .ref mS, .ref mX, .int zp, .int zf, .ref mL, .ref mB, .ref mD, .ref m1, .ref m2, .int zh, .ref mR, .int zr, .ref x1, .ref x2, .ref x3, .int zc, .ref mH, .int zy, .int za, .int zb, .int zs, .int zq, .int zw, .int ze, .ref mY, .int zn, .ref mE, .int zma, .int zla, .ref mW, .int zk, .ref mO, .int zd_2, .ref y1, .ref y2, .ref y3, .ref y4, .ref mZ])), (mY, .inl (cI, 2600, .inl eY)), (mL, .inl (cI, 512, .inl eL))] := hDn
        have hS := hSn
        clear hPn hDn hSn
        refine lv_istore (lv' := [(4, .int r_2), (3, .int p_), (0, .ref oM), (1, .int cd), (2, .int ro)]) hx hb dX12_read_21 hl (by decide) rfl (fun ls hl => ?_)
        refine lv_iload hx hb dX12_read_23 (lv_at hl 0 rfl) ?_
        refine lv_if_ne (tgt := 39) hx hb dX12_read_25 (by decide) (fun c_3 => ?_) (fun c_3 => ?_)
        · have tc_3 : ¬ r_2.toInt = 0 := v_ne c_3
          have cp9 := v_clamp (x := p_) (by omega)
          have hu9 := (F_ra_1 hf2_2 (by omega)).2.2.2
          refine lv_aload_n hx hb dX12_read_39 rfl (lv_at hl 2 rfl) ?_
          refine va_get (D := (dC, dI)) (ci := 12) (v := .ref mE) (C := RX12) (T := TX12) (N := 40) hx hb hts in_X12 hown hK hP 1 rfl rfl 28 (by decide) (hts (.fieldLink RX12 61 "TextMenderModel" "came" "[I") (List.mem_of_getElem? (i := 4) rfl)) (fun _ h9 => h9) rfl dX12_read_40 ?_
          refine lv_aload_n hx hb dX12_read_43 rfl (lv_at hl 2 rfl) ?_
          refine va_get (D := (dC, dI)) (ci := 12) (v := .int zma) (C := RX12) (T := TX12) (N := 40) hx hb hts in_X12 hown hK hP 1 rfl rfl 29 (by decide) (hts (.fieldLink RX12 119 "TextMenderModel" "cameMany" "I") (List.mem_of_getElem? (i := 1) rfl)) (fun _ h9 => h9) rfl dX12_read_44 ?_
          refine lv_iload hx hb dX12_read_47 (lv_at hl 0 rfl) ?_
          refine lv_if_ne (tgt := 57) hx hb dX12_read_49 (by decide) (fun c_4 => ?_) (fun c_4 => by exfalso; have tc_4 : r_2.toInt = 0 := v_eq c_4; omega)
          have tc_4 : ¬ r_2.toInt = 0 := v_ne c_4
          refine lv_aload_n hx hb dX12_read_57 rfl (lv_at hl 2 rfl) ?_
          refine va_get (D := (dC, dI)) (ci := 12) (v := .int zd_2) (C := RX12) (T := TX12) (N := 40) hx hb hts in_X12 hown hK hP 1 rfl rfl 34 (by decide) (hts (.fieldLink RX12 105 "TextMenderModel" "readLetter" "I") (List.mem_of_getElem? (i := 6) rfl)) (fun _ h9 => h9) rfl dX12_read_58 ?_
          refine va_iast hx hb hK hP hD hS 0 0 rfl rfl (v_in (by omega)) dX12_read_61 (fun H locs hPn hDn hSn => ?_)
          clear hP hD hS
          have hP : va_P (dC, dI) vwCl [(mE, .inl (cI, 2600, .inl (upd eEa (zma : Int32).toNatClampNeg zd_2))), (oM, .inr (12, [.ref mT, .int zt, .ref mS, .ref mX, .int zp, .int zf, .ref mL, .ref mB, .ref mD, .ref m1, .ref m2, .int zh, .ref mR, .int zr, .ref x1, .ref x2, .ref x3, .int zc, .ref mH, .int zy, .int za, .int zb, .int zs, .int zq, .int zw, .int ze, .ref mY, .int zn, .ref mE, .int zma, .int zla, .ref mW, .int zk, .ref mO, .int zd_2, .ref y1, .ref y2, .ref y3, .ref y4, .ref mZ])), (mY, .inl (cI, 2600, .inl eY)), (mL, .inl (cI, 512, .inl eL))] H := hPn
          have hD : va_D A [(mE, .inl (cI, 2600, .inl (upd eEa (zma : Int32).toNatClampNeg zd_2))), (oM, .inr (12, [.ref mT, .int zt, .ref mS, .ref mX, .int zp, .int zf, .ref mL, .ref mB, .ref mD, .ref m1, .ref m2, .int zh, .ref mR, .int zr, .ref x1, .ref x2, .ref x3, .int zc, .ref mH, .int zy, .int za, .int zb, .int zs, .int zq, .int zw, .int ze, .ref mY, .int zn, .ref mE, .int zma, .int zla, .ref mW, .int zk, .ref mO, .int zd_2, .ref y1, .ref y2, .ref y3, .ref y4, .ref mZ])), (mY, .inl (cI, 2600, .inl eY)), (mL, .inl (cI, 512, .inl eL))] := hDn
          have hS := hSn
          clear hPn hDn hSn
          obtain ⟨f_5, ef_5⟩ : ∃ g : Nat → Int32, g = upd eEa (zma : Int32).toNatClampNeg zd_2 := ⟨_, rfl⟩
          rw [← ef_5] at hP hD
          have g_f5 : rg 0 65535 f_5 := rg_upd ef_5 g_eEa (by omega)
          refine lv_aload_n hx hb dX12_read_62 rfl (lv_at hl 2 rfl) ?_
          refine lv_dup hx hb dX12_read_63 rfl ?_
          refine va_get (D := (dC, dI)) (ci := 12) (v := .int zma) (C := RX12) (T := TX12) (N := 40) hx hb hts in_X12 hown hK hP 1 rfl rfl 29 (by decide) (hts (.fieldLink RX12 119 "TextMenderModel" "cameMany" "I") (List.mem_of_getElem? (i := 1) rfl)) (fun _ h9 => h9) rfl dX12_read_64 ?_
          refine lv_iconst (v := 1) hx hb dX12_read_67 (by decide) ?_
          refine lv_iadd hx hb dX12_read_68 ?_
          refine lv_topi (fun x_6 ex_6 => ?_)
          have tx_6 : x_6.toInt = zma.toInt + 1 := v_add ex_6 (by show -2147483648 ≤ zma.toInt + 1; omega) (by show zma.toInt + 1 < 2147483648; omega)
          refine va_put (D := (dC, dI)) (ci := 12) (v := .int x_6) (ty := .int) (C := RX12) (T := TX12) (N := 40) hx hb hts in_X12 tyX12 tyX12_ok nmX12 hown hK hP hD hS 1 rfl rfl 29 (by decide) (hts (.fieldLink RX12 119 "TextMenderModel" "cameMany" "I") (List.mem_of_getElem? (i := 1) rfl)) (fun _ h9 => h9) rfl (by decide +kernel) rfl rfl (Nat.le_of_ble_eq_true rfl) dX12_read_69 (fun H locs hPn hDn hSn => ?_)
          clear hP hD hS
          have hP : va_P (dC, dI) vwCl [(mE, .inl (cI, 2600, .inl f_5)), (oM, .inr (12, [.ref mT, .int zt, .ref mS, .ref mX, .int zp, .int zf, .ref mL, .ref mB, .ref mD, .ref m1, .ref m2, .int zh, .ref mR, .int zr, .ref x1, .ref x2, .ref x3, .int zc, .ref mH, .int zy, .int za, .int zb, .int zs, .int zq, .int zw, .int ze, .ref mY, .int zn, .ref mE, .int x_6, .int zla, .ref mW, .int zk, .ref mO, .int zd_2, .ref y1, .ref y2, .ref y3, .ref y4, .ref mZ])), (mY, .inl (cI, 2600, .inl eY)), (mL, .inl (cI, 512, .inl eL))] H := hPn
          have hD : va_D A [(mE, .inl (cI, 2600, .inl f_5)), (oM, .inr (12, [.ref mT, .int zt, .ref mS, .ref mX, .int zp, .int zf, .ref mL, .ref mB, .ref mD, .ref m1, .ref m2, .int zh, .ref mR, .int zr, .ref x1, .ref x2, .ref x3, .int zc, .ref mH, .int zy, .int za, .int zb, .int zs, .int zq, .int zw, .int ze, .ref mY, .int zn, .ref mE, .int x_6, .int zla, .ref mW, .int zk, .ref mO, .int zd_2, .ref y1, .ref y2, .ref y3, .ref y4, .ref mZ])), (mY, .inl (cI, 2600, .inl eY)), (mL, .inl (cI, 512, .inl eL))] := hDn
          have hS := hSn
          clear hPn hDn hSn
          refine lv_iload_n hx hb dX12_read_72 rfl (lv_at hl 1 rfl) ?_
          refine lv_iload hx hb dX12_read_73 (lv_at hl 0 rfl) ?_
          refine lv_if_ne (tgt := 82) hx hb dX12_read_75 (by decide) (fun c_7 => ?_) (fun c_7 => by exfalso; have tc_7 : r_2.toInt = 0 := v_eq c_7; omega)
          have tc_7 : ¬ r_2.toInt = 0 := v_ne c_7
          refine lv_iload hx hb dX12_read_82 (lv_at hl 0 rfl) ?_
          refine lv_iadd hx hb dX12_read_84 ?_
          refine lv_topi (fun x_8 ex_8 => ?_)
          have tx_8 : x_8.toInt = p_.toInt + r_2.toInt := v_add ex_8 (by show -2147483648 ≤ p_.toInt + r_2.toInt; omega) (by show p_.toInt + r_2.toInt < 2147483648; omega)
          refine lv_istore_n (lv' := [(3, .int x_8), (4, .int r_2), (0, .ref oM), (1, .int cd), (2, .int ro)]) hx hb dX12_read_85 rfl hl (by decide) rfl (fun ls hl => ?_)
          refine lv_goto (tgt := 7) hx hb dX12_read_86 (by decide) ?_
          exact ih_7 x_8 x_6 zd_2 zla f_5 _ _ _ (ms_lt hm_7 (by show ((2608 - x_8.toInt : Int)) < 2608 - p_.toInt; omega) (by show (0 : Int) < 2608 - p_.toInt; omega)) (by show 0 ≤ x_8.toInt ∧ x_8.toInt ≤ zn.toInt; omega) (by show 0 ≤ x_6.toInt ∧ x_6.toInt ≤ x_8.toInt; omega) (g_f5) (RR_s hrr rfl (F_ra_1 hf2_2 (by omega)).2.1 (F_ra_1 hf2_2 (by omega)).2.2.1 ef_5 (by omega) (by have u9 := (F_ra_1 hf2_2 (by omega)).1; omega)) (hP.sub [1, 2, 3, 0] rfl) (hD.sub [1, 2, 3, 0] (by decide +kernel) rfl) hS (lv_sub hl [0, 2, 3, 4] rfl)
        · have tc_3 : r_2.toInt = 0 := v_eq c_3
          refine lv_iload_n hx hb dX12_read_28 rfl (lv_at hl 4 rfl) ?_
          refine lv_if_ne (tgt := 39) hx hb dX12_read_29 (by decide) (fun c_9 => by exfalso; have tc_9 : ¬ ro.toInt = 0 := v_ne c_9; omega) (fun c_9 => ?_)
          have tc_9 : ro.toInt = 0 := v_eq c_9
          refine lv_aload_n hx hb dX12_read_32 rfl (lv_at hl 2 rfl) ?_
          refine lv_iload_n hx hb dX12_read_33 rfl (lv_at hl 1 rfl) ?_
          refine va_put (D := (dC, dI)) (ci := 12) (v := .int p_) (ty := .int) (C := RX12) (T := TX12) (N := 40) hx hb hts in_X12 tyX12 tyX12_ok nmX12 hown hK hP hD hS 1 rfl rfl 30 (by decide) (hts (.fieldLink RX12 102 "TextMenderModel" "faultAt" "I") (List.mem_of_getElem? (i := 3) rfl)) (fun _ h9 => h9) rfl (by decide +kernel) rfl rfl (Nat.le_of_ble_eq_true rfl) dX12_read_34 (fun H locs hPn hDn hSn => ?_)
          clear hP hD hS
          have hP : va_P (dC, dI) vwCl [(mE, .inl (cI, 2600, .inl eEa)), (oM, .inr (12, [.ref mT, .int zt, .ref mS, .ref mX, .int zp, .int zf, .ref mL, .ref mB, .ref mD, .ref m1, .ref m2, .int zh, .ref mR, .int zr, .ref x1, .ref x2, .ref x3, .int zc, .ref mH, .int zy, .int za, .int zb, .int zs, .int zq, .int zw, .int ze, .ref mY, .int zn, .ref mE, .int zma, .int p_, .ref mW, .int zk, .ref mO, .int zd_2, .ref y1, .ref y2, .ref y3, .ref y4, .ref mZ])), (mY, .inl (cI, 2600, .inl eY)), (mL, .inl (cI, 512, .inl eL))] H := hPn
          have hD : va_D A [(mE, .inl (cI, 2600, .inl eEa)), (oM, .inr (12, [.ref mT, .int zt, .ref mS, .ref mX, .int zp, .int zf, .ref mL, .ref mB, .ref mD, .ref m1, .ref m2, .int zh, .ref mR, .int zr, .ref x1, .ref x2, .ref x3, .int zc, .ref mH, .int zy, .int za, .int zb, .int zs, .int zq, .int zw, .int ze, .ref mY, .int zn, .ref mE, .int zma, .int p_, .ref mW, .int zk, .ref mO, .int zd_2, .ref y1, .ref y2, .ref y3, .ref y4, .ref mZ])), (mY, .inl (cI, 2600, .inl eY)), (mL, .inl (cI, 512, .inl eL))] := hDn
          have hS := hSn
          clear hPn hDn hSn
          refine lv_iconst (v := 0) hx hb dX12_read_37 (by decide) ?_
          have hP9 := hP.sub (ws' := [(oM, .inr (12, [.ref mT, .int zt, .ref mS, .ref mX, .int zp, .int zf, .ref mL, .ref mB, .ref mD, .ref m1, .ref m2, .int zh, .ref mR, .int zr, .ref x1, .ref x2, .ref x3, .int zc, .ref mH, .int zy, .int za, .int zb, .int zs, .int zq, .int zw, .int ze, .ref mY, .int zn, .ref mE, .int zma, .int p_, .ref mW, .int zk, .ref mO, .int zd_2, .ref y1, .ref y2, .ref y3, .ref y4, .ref mZ])), (mY, .inl (cI, 2600, .inl eY)), (mL, .inl (cI, 512, .inl eL)), (mE, .inl (cI, 2600, .inl eEa))]) [1, 2, 3, 0] rfl
          have hD9 := hD.sub (ws' := [(oM, .inr (12, [.ref mT, .int zt, .ref mS, .ref mX, .int zp, .int zf, .ref mL, .ref mB, .ref mD, .ref m1, .ref m2, .int zh, .ref mR, .int zr, .ref x1, .ref x2, .ref x3, .int zc, .ref mH, .int zy, .int za, .int zb, .int zs, .int zq, .int zw, .int ze, .ref mY, .int zn, .ref mE, .int zma, .int p_, .ref mW, .int zk, .ref mO, .int zd_2, .ref y1, .ref y2, .ref y3, .ref y4, .ref mZ])), (mY, .inl (cI, 2600, .inl eY)), (mL, .inl (cI, 512, .inl eL)), (mE, .inl (cI, 2600, .inl eEa))]) [1, 2, 3, 0] (by decide +kernel) rfl
          rw [hQQ]
          exact W.zret (v := 0) (ty := .boolean) hx hb hr (rfl) (fun t ht hW => ⟨⟨0, 0, rfl, rfl, ⟨zd_2, zma, p_, eEa, by rw [ht]; exact hP9, hD9, by omega, g_eEa, by decide, by show zma.toInt ≤ zn.toInt; omega, RR_bad hrr (by omega) (F_ra_0 hf2_2 (by omega))⟩⟩, hS.F ht⟩) hS.2.2 dX12_read_38
  exact LOOP_7 _ 0 0 zd zl eE _ _ _ (ms_s _) (by show 0 ≤ (0 : Int) ∧ (0 : Int) ≤ zn.toInt; omega) (by show 0 ≤ (0 : Int) ∧ (0 : Int) ≤ 0; omega) (g_eE) (RR_0 rfl rfl) hP hD hS (lv_sub hl [0, 1, 2, 3] rfl)

def cpT (k : Int) (g e : Nat → Int32) : Prop := ∀ j : Nat, (j : Int) < k → g j = e j ∧ 0 ≤ (e j).toInt ∧ (e j).toInt ≤ 255
theorem cpT_s {k k' x : Int32} {g g' e : Nat → Int32} (h : cpT k.toInt g e) (ex : x = e k.toNatClampNeg) (eg : g' = upd g k.toNatClampNeg x) (hk : 0 ≤ k.toInt) (hk' : k'.toInt = k.toInt + 1) (hx : 0 ≤ x.toInt ∧ x.toInt ≤ 255) : cpT k'.toInt g' e := by
  intro j hj
  have q := v_clamp hk
  by_cases z : j = k.toNatClampNeg
  · rw [eg, z, pk_us, ← ex]; exact ⟨rfl, hx⟩
  · rw [eg, pk_un z]; exact h j (by omega)

def F_allB (l r : Int32) (f : Nat → Int32) : Prop := (r = 1 ∧ prg l.toInt 0 255 f) ∨ (r = 0 ∧ ¬ prg l.toInt 0 255 f)
theorem F_allB_1 {l r : Int32} {f : Nat → Int32} (h : F_allB l r f) (e : ¬ r.toInt = 0) : prg l.toInt 0 255 f := h.elim (fun z => z.2) (fun z => absurd (by rw [z.1]; rfl) e)
theorem F_allB_0 {l r : Int32} {f : Nat → Int32} (h : F_allB l r f) (e : r.toInt = 0) : ¬ prg l.toInt 0 255 f := by
  rcases h with z | z
  · rw [z.1] at e; exact absurd e (by decide)
  · exact z.2

set_option maxHeartbeats 40000000 in
set_option maxRecDepth 100000 in
theorem f_X11_tapeHoldsBytes (l : Launch) (dC : Nat → ClassId) (dI : Nat → Nat → Nat) (cI cS : ClassId) (sz : Nat) (oX : Nat) (nT : Nat) (nL : Nat) (nM : Nat) (oC : Nat) (oP : Nat) (oH : Nat) (oK : Nat) (oG : Nat) (oR : Nat) (oQ : Nat) (oW : Nat) (aT : Nat) (fa : Int32) (lT : Int32) (fT : Nat → Int32) (g_lT : 0 ≤ lT.toInt ∧ lT.toInt ≤ 900) : Met l yX11_tapeHoldsBytes wsX11_tapeHoldsBytes ({ frames := 1, cells := 0, slots := 0, locals := 21 } : Room) (va_Pc [.ref oX] (fun U => U.heap.size = sz ∧ va_P (dC, dI) vwCl [(oX, .inr (11, [.ref nT, .ref nL, .ref nM, .ref oC, .ref oP, .ref oH, .ref oK, .ref oG, .ref oR, .ref oQ, .ref oW, .int fa])), (nT, .inr (5, [.ref aT, .int lT])), (aT, .inl (cI, 900, .inl fT))] U.heap ∧ va_K (dC, dI) vwCl [(cI, .int), (cS, .short)] U ∧ va_D (fun _ => True) [(oX, .inr (11, [.ref nT, .ref nL, .ref nM, .ref oC, .ref oP, .ref oH, .ref oK, .ref oG, .ref oR, .ref oQ, .ref oW, .int fa])), (nT, .inr (5, [.ref aT, .int lT])), (aT, .inl (cI, 900, .inl fT))])) (va_Qi (fun (r : Int32) (u : Int32) => r = u) (fun (r : Int32) t => ∃ (fa' : Int32), va_P (dC, dI) vwCl [(oX, .inr (11, [.ref nT, .ref nL, .ref nM, .ref oC, .ref oP, .ref oH, .ref oK, .ref oG, .ref oR, .ref oQ, .ref oW, .int fa'])), (nT, .inr (5, [.ref aT, .int lT])), (aT, .inl (cI, 900, .inl fT))] t.heap ∧ va_D (va_A [(oX, .inr (11, [.ref nT, .ref nL, .ref nM, .ref oC, .ref oP, .ref oH, .ref oK, .ref oG, .ref oR, .ref oQ, .ref oW, .int fa])), (nT, .inr (5, [.ref aT, .int lT])), (aT, .inl (cI, 900, .inl fT))] sz) [(oX, .inr (11, [.ref nT, .ref nL, .ref nM, .ref oC, .ref oP, .ref oH, .ref oK, .ref oG, .ref oR, .ref oQ, .ref oW, .int fa'])), (nT, .inr (5, [.ref aT, .int lT])), (aT, .inl (cI, 900, .inl fT))] ∧ (0 ≤ r.toInt ∧ r.toInt ≤ 1) ∧ (F_allB lT r fT)) (va_A [(oX, .inr (11, [.ref nT, .ref nL, .ref nM, .ref oC, .ref oP, .ref oH, .ref oK, .ref oG, .ref oR, .ref oQ, .ref oW, .int fa])), (nT, .inr (5, [.ref aT, .int lT])), (aT, .inl (cI, 900, .inl fT))] sz)) 0 0 (va_A [(oX, .inr (11, [.ref nT, .ref nL, .ref nM, .ref oC, .ref oP, .ref oH, .ref oK, .ref oG, .ref oR, .ref oQ, .ref oW, .int fa])), (nT, .inr (5, [.ref aT, .int lT])), (aT, .inl (cI, 900, .inl fT))] sz) := by
  refine Met.ofW (cc := cX11_tapeHoldsBytes) (maxL := 3) (ret := (some .boolean)) (by decide) rfl ?_
  intro p e s m args below meth c s₁ B hml hv
  obtain ⟨rfl, hsz, hP, hK, hD0⟩ := hv
  have hx := B.exec
  have hb := B.bytes
  have hr := B.returns
  have hts := atoms_spec (ws := wsX11_tapeHoldsBytes) B.pre
  have hown : s.vm.findClass RX11 = some m.cls := findClass_of_methodNamed B.named
  have hlocks := B.notSynchronized
  have in_X11 : ∀ w ∈ wsX110, w ∈ wsX11_tapeHoldsBytes := fun _ h => List.mem_cons_of_mem _ (List.mem_append_left _ (List.mem_append_right _ (h)))
  subst hsz
  have hD := hD0.self (sz := s.heap.size)
  generalize hAe : va_A [(oX, .inr (11, [.ref nT, .ref nL, .ref nM, .ref oC, .ref oP, .ref oH, .ref oK, .ref oG, .ref oR, .ref oQ, .ref oW, .int fa])), (nT, .inr (5, [.ref aT, .int lT])), (aT, .inl (cI, 900, .inl fT))] s.heap.size = A at hD ⊢
  have hA : ∀ q : Nat, s.heap.size ≤ q → A q := fun q h => by rw [← hAe]; exact Or.inr h
  have hS : va_S A s.heap s.heap [] := va_S.rf
  have hP : va_P (dC, dI) vwCl [(oX, .inr (11, [.ref nT, .ref nL, .ref nM, .ref oC, .ref oP, .ref oH, .ref oK, .ref oG, .ref oR, .ref oQ, .ref oW, .int fa])), (nT, .inr (5, [.ref aT, .int lT])), (aT, .inl (cI, 900, .inl fT))] s.heap := hP
  have hl := lv_entry ([.ref oX]) (n := 3) (Nat.le_of_ble_eq_true rfl)
  rw [lg_entry_eq]
  generalize (lg_sl ([.ref oX]) ++ List.replicate (3 - (lg_sl ([.ref oX])).length) Slot.unset).toArray = ls at hl ⊢
  have hl : lv_has ls 3 [(0, .ref oX)] := hl
  obtain ⟨QQ, hQQ⟩ : ∃ QQ : Array Value → State → Outcome → State → Prop, QQ = va_Qi (fun (r : Int32) (u : Int32) => r = u) (fun (r : Int32) t => ∃ (fa' : Int32), va_P (dC, dI) vwCl [(oX, .inr (11, [.ref nT, .ref nL, .ref nM, .ref oC, .ref oP, .ref oH, .ref oK, .ref oG, .ref oR, .ref oQ, .ref oW, .int fa'])), (nT, .inr (5, [.ref aT, .int lT])), (aT, .inl (cI, 900, .inl fT))] t.heap ∧ va_D A [(oX, .inr (11, [.ref nT, .ref nL, .ref nM, .ref oC, .ref oP, .ref oH, .ref oK, .ref oG, .ref oR, .ref oQ, .ref oW, .int fa'])), (nT, .inr (5, [.ref aT, .int lT])), (aT, .inl (cI, 900, .inl fT))] ∧ (0 ≤ r.toInt ∧ r.toInt ≤ 1) ∧ (F_allB lT r fT)) A := ⟨_, rfl⟩
  rw [← hQQ]
  refine lv_iconst (v := 0) hx hb dX11_tapeHoldsBytes_0 (by decide) ?_
  refine lv_istore_n (lv' := [(1, .int 0), (0, .ref oX)]) hx hb dX11_tapeHoldsBytes_1 rfl hl (by decide) rfl (fun ls hl => ?_)
  have LOOP_2 : ∀ (k_2 : Nat) (i : Int32) (H : Heap) (locs : List Loc) (ls : Array Slot), MSd (900 - i.toInt : Int) k_2 → (0 ≤ i.toInt ∧ i.toInt ≤ 900) → (prg i.toInt 0 255 fT) → va_P (dC, dI) vwCl [(oX, .inr (11, [.ref nT, .ref nL, .ref nM, .ref oC, .ref oP, .ref oH, .ref oK, .ref oG, .ref oR, .ref oQ, .ref oW, .int fa])), (nT, .inr (5, [.ref aT, .int lT])), (aT, .inl (cI, 900, .inl fT))] H → va_D A [(oX, .inr (11, [.ref nT, .ref nL, .ref nM, .ref oC, .ref oP, .ref oH, .ref oK, .ref oG, .ref oR, .ref oQ, .ref oW, .int fa])), (nT, .inr (5, [.ref aT, .int lT])), (aT, .inl (cI, 900, .inl fT))] → va_S A s.heap H locs → lv_has ls 3 [(1, .int i), (0, .ref oX)] → W p l e (headSpec wsX11_tapeHoldsBytes ({ frames := 1, cells := 0, slots := 0, locals := 21 } : Room)).room s m ([.ref oX] : List Value).toArray below meth c H locs 0 0 (MQ below QQ ([.ref oX] : List Value).toArray s 0 0 A) (F0 m 2 ls []) := by
    clear hP hD hS hl
    intro k_2
    induction k_2 with
    | zero =>
      intro i H locs ls hm_2 g_i hal hP hD hS hl
      exact ms_0 hm_2
    | succ k_2 ih_2 =>
      intro i H locs ls hm_2 g_i hal hP hD hS hl
      refine lv_iload_n hx hb dX11_tapeHoldsBytes_2 rfl (lv_at hl 0 rfl) ?_
      refine lv_aload_n hx hb dX11_tapeHoldsBytes_3 rfl (lv_at hl 1 rfl) ?_
      refine va_get (D := (dC, dI)) (ci := 11) (v := .ref nT) (C := RX11) (T := TX11) (N := 12) hx hb hts in_X11 hown hK hP 0 rfl rfl 0 (by decide) (hts (.fieldLink RX11 30 "TextMender" "tape" "LTextMender$Numbers;") (List.mem_of_getElem? (i := 1) rfl)) (fun _ h9 => h9) rfl dX11_tapeHoldsBytes_4 ?_
      have hPc := hP.sub (ws' := [(nT, .inr (5, [.ref aT, .int lT]))]) [1] rfl
      have hDc := hD.sub (ws' := [(nT, .inr (5, [.ref aT, .int lT]))]) [1] (by decide +kernel) rfl
      have hFc := va_free (wc := [(nT, .inr (5, [.ref aT, .int lT]))]) hD hS hA [1] rfl
      refine va_calli (va_runV (As := []) (rest := [.int i]) ⟨hx, hb, hml, hown, hts⟩ (m_X5_length l dC dI cI cS H.size nT aT lT ) (cwV 0 hts gX11_tapeHoldsBytes_X5_length rfl rfl rfl (by decide +kernel) ⟨Nat.le_of_ble_eq_true rfl, Nat.le_of_ble_eq_true rfl⟩) ⟨fun a U g mk q => by obtain ⟨q0, q1, qP, qK, qD⟩ := q; exact ⟨q0, q1, qP, va_K.moved (u := U) (U := U.calling g mk a) (Vm.Alike.refl U.vm) qK, qD⟩, va_recv hK hPc (ci := 5) (q0 := 0) rfl rfl, fun U hU hW => ⟨rfl, by rw [hU], by rw [hU]; exact hPc, va_K.moved hW.alike hK, hDc.weaken (fun _ _ _ _ => trivial)⟩⟩ rfl rfl hl.1 rfl (lv_room (Nat.le_of_ble_eq_true rfl)) dX11_tapeHoldsBytes_7 ⟨Nat.le_of_ble_eq_true rfl, Nat.le_of_ble_eq_true rfl⟩) hS (fun q _ h => hFc q h) hFc (fun r_1 u t H1 locs ht hvm hw hB hz1 hk1 hSn => ?_)
      subst hw
      obtain ⟨hP1, hD1, hf1_0⟩ := hB
      rw [ht] at hP1
      obtain ⟨hPn, hDn⟩ := va_join (wr := [(oX, .inr (11, [.ref nT, .ref nL, .ref nM, .ref oC, .ref oP, .ref oH, .ref oK, .ref oG, .ref oR, .ref oQ, .ref oW, .int fa])), (aT, .inl (cI, 900, .inl fT))]) (w1 := [(nT, .inr (5, [.ref aT, .int lT]))]) hP hD [1] [0, 2] rfl rfl (by decide +kernel) (by decide +kernel) hk1 hFc hP1 hD1
      clear hP hD hS hPc hDc hFc hk1 hz1 hvm ht hP1 hD1
      generalize H1 = H at hPn hSn ⊢
      have hP : va_P (dC, dI) vwCl [(oX, .inr (11, [.ref nT, .ref nL, .ref nM, .ref oC, .ref oP, .ref oH, .ref oK, .ref oG, .ref oR, .ref oQ, .ref oW, .int fa])), (aT, .inl (cI, 900, .inl fT)), (nT, .inr (5, [.ref aT, .int lT]))] H := hPn
      have hD : va_D A [(oX, .inr (11, [.ref nT, .ref nL, .ref nM, .ref oC, .ref oP, .ref oH, .ref oK, .ref oG, .ref oR, .ref oQ, .ref oW, .int fa])), (aT, .inl (cI, 900, .inl fT)), (nT, .inr (5, [.ref aT, .int lT]))] := hDn
      have hS := hSn
      clear hPn hDn hSn
      rw [hf1_0]
      refine lv_icmp_ge (tgt := 46) hx hb dX11_tapeHoldsBytes_10 (by decide) (fun c_2 => ?_) (fun c_2 => ?_)
      · have tc_2 : lT.toInt ≤ i.toInt := v_le c_2
        refine lv_iconst (v := 1) hx hb dX11_tapeHoldsBytes_46 (by decide) ?_
        have hP9 := hP.sub (ws' := [(oX, .inr (11, [.ref nT, .ref nL, .ref nM, .ref oC, .ref oP, .ref oH, .ref oK, .ref oG, .ref oR, .ref oQ, .ref oW, .int fa])), (nT, .inr (5, [.ref aT, .int lT])), (aT, .inl (cI, 900, .inl fT))]) [0, 2, 1] rfl
        have hD9 := hD.sub (ws' := [(oX, .inr (11, [.ref nT, .ref nL, .ref nM, .ref oC, .ref oP, .ref oH, .ref oK, .ref oG, .ref oR, .ref oQ, .ref oW, .int fa])), (nT, .inr (5, [.ref aT, .int lT])), (aT, .inl (cI, 900, .inl fT))]) [0, 2, 1] (by decide +kernel) rfl
        rw [hQQ]
        exact W.zret (v := 1) (ty := .boolean) hx hb hr (rfl) (fun t ht hW => ⟨⟨1, 1, rfl, rfl, ⟨fa, by rw [ht]; exact hP9, hD9, by decide, Or.inl ⟨rfl, fun j hj => hal j (by omega)⟩⟩⟩, hS.F ht⟩) hS.2.2 dX11_tapeHoldsBytes_47
      · have tc_2 : i.toInt < lT.toInt := v_nle c_2
        refine lv_aload_n hx hb dX11_tapeHoldsBytes_13 rfl (lv_at hl 1 rfl) ?_
        refine va_get (D := (dC, dI)) (ci := 11) (v := .ref nT) (C := RX11) (T := TX11) (N := 12) hx hb hts in_X11 hown hK hP 0 rfl rfl 0 (by decide) (hts (.fieldLink RX11 30 "TextMender" "tape" "LTextMender$Numbers;") (List.mem_of_getElem? (i := 1) rfl)) (fun _ h9 => h9) rfl dX11_tapeHoldsBytes_14 ?_
        refine lv_iload_n hx hb dX11_tapeHoldsBytes_17 rfl (lv_at hl 0 rfl) ?_
        have hPc := hP.sub (ws' := [(nT, .inr (5, [.ref aT, .int lT])), (aT, .inl (cI, 900, .inl fT))]) [2, 1] rfl
        have hDc := hD.sub (ws' := [(nT, .inr (5, [.ref aT, .int lT])), (aT, .inl (cI, 900, .inl fT))]) [2, 1] (by decide +kernel) rfl
        have hFc := va_free (wc := [(nT, .inr (5, [.ref aT, .int lT])), (aT, .inl (cI, 900, .inl fT))]) hD hS hA [2, 1] rfl
        refine va_calli (va_runV (As := [.int i]) (rest := []) ⟨hx, hb, hml, hown, hts⟩ (m_X5_get l dC dI cI cS H.size nT aT 900 lT fT i (by omega) (by omega)) (cwV 1 hts gX11_tapeHoldsBytes_X5_get rfl rfl rfl (by decide +kernel) ⟨Nat.le_of_ble_eq_true rfl, Nat.le_of_ble_eq_true rfl⟩) ⟨fun a U g mk q => by obtain ⟨q0, q1, qP, qK, qD⟩ := q; exact ⟨q0, q1, qP, va_K.moved (u := U) (U := U.calling g mk a) (Vm.Alike.refl U.vm) qK, qD⟩, va_recv hK hPc (ci := 5) (q0 := 0) rfl rfl, fun U hU hW => ⟨rfl, by rw [hU], by rw [hU]; exact hPc, va_K.moved hW.alike hK, hDc.weaken (fun _ _ _ _ => trivial)⟩⟩ rfl rfl hl.1 rfl (lv_room (Nat.le_of_ble_eq_true rfl)) dX11_tapeHoldsBytes_18 ⟨Nat.le_of_ble_eq_true rfl, Nat.le_of_ble_eq_true rfl⟩) hS (fun q _ h => hFc q h) hFc (fun r_3 u t H1 locs ht hvm hw hB hz1 hk1 hSn => ?_)
        subst hw
        obtain ⟨hP1, hD1, hf3_0⟩ := hB
        rw [ht] at hP1
        obtain ⟨hPn, hDn⟩ := va_join (wr := [(oX, .inr (11, [.ref nT, .ref nL, .ref nM, .ref oC, .ref oP, .ref oH, .ref oK, .ref oG, .ref oR, .ref oQ, .ref oW, .int fa]))]) (w1 := [(nT, .inr (5, [.ref aT, .int lT])), (aT, .inl (cI, 900, .inl fT))]) hP hD [2, 1] [0] rfl rfl (by decide +kernel) (by decide +kernel) hk1 hFc hP1 hD1
        clear hP hD hS hPc hDc hFc hk1 hz1 hvm ht hP1 hD1
        generalize H1 = H at hPn hSn ⊢
        have hP : va_P (dC, dI) vwCl [(oX, .inr (11, [.ref nT, .ref nL, .ref nM, .ref oC, .ref oP, .ref oH, .ref oK, .ref oG, .ref oR, .ref oQ, .ref oW, .int fa])), (nT, .inr (5, [.ref aT, .int lT])), (aT, .inl (cI, 900, .inl fT))] H := hPn
        have hD : va_D A [(oX, .inr (11, [.ref nT, .ref nL, .ref nM, .ref oC, .ref oP, .ref oH, .ref oK, .ref oG, .ref oR, .ref oQ, .ref oW, .int fa])), (nT, .inr (5, [.ref aT, .int lT])), (aT, .inl (cI, 900, .inl fT))] := hDn
        have hS := hSn
        clear hPn hDn hSn
        have hg3 : r_3 = fT i.toNatClampNeg := F_get_f hf3_0 (by omega) (by omega)
        refine lv_istore_n (lv' := [(2, .int r_3), (1, .int i), (0, .ref oX)]) hx hb dX11_tapeHoldsBytes_21 rfl hl (by decide) rfl (fun ls hl => ?_)
        refine lv_iload_n hx hb dX11_tapeHoldsBytes_22 rfl (lv_at hl 0 rfl) ?_
        refine lv_if_lt (tgt := 33) hx hb dX11_tapeHoldsBytes_23 (by decide) (fun c_4 => ?_) (fun c_4 => ?_)
        · have tc_4 : r_3.toInt < 0 := v_lt c_4
          refine lv_aload_n hx hb dX11_tapeHoldsBytes_33 rfl (lv_at hl 2 rfl) ?_
          refine lv_iload_n hx hb dX11_tapeHoldsBytes_34 rfl (lv_at hl 1 rfl) ?_
          refine va_put (D := (dC, dI)) (ci := 11) (v := .int i) (ty := .int) (C := RX11) (T := TX11) (N := 12) hx hb hts in_X11 tyX11 tyX11_ok nmX11 hown hK hP hD hS 0 rfl rfl 11 (by decide) (hts (.fieldLink RX11 90 "TextMender" "fault" "I") (List.mem_of_getElem? (i := 2) rfl)) (fun _ h9 => h9) rfl (by decide +kernel) rfl rfl (Nat.le_of_ble_eq_true rfl) dX11_tapeHoldsBytes_35 (fun H locs hPn hDn hSn => ?_)
          clear hP hD hS
          have hP : va_P (dC, dI) vwCl [(oX, .inr (11, [.ref nT, .ref nL, .ref nM, .ref oC, .ref oP, .ref oH, .ref oK, .ref oG, .ref oR, .ref oQ, .ref oW, .int i])), (nT, .inr (5, [.ref aT, .int lT])), (aT, .inl (cI, 900, .inl fT))] H := hPn
          have hD : va_D A [(oX, .inr (11, [.ref nT, .ref nL, .ref nM, .ref oC, .ref oP, .ref oH, .ref oK, .ref oG, .ref oR, .ref oQ, .ref oW, .int i])), (nT, .inr (5, [.ref aT, .int lT])), (aT, .inl (cI, 900, .inl fT))] := hDn
          have hS := hSn
          clear hPn hDn hSn
          refine lv_iconst (v := 0) hx hb dX11_tapeHoldsBytes_38 (by decide) ?_
          have hP9 := hP.sub (ws' := [(oX, .inr (11, [.ref nT, .ref nL, .ref nM, .ref oC, .ref oP, .ref oH, .ref oK, .ref oG, .ref oR, .ref oQ, .ref oW, .int i])), (nT, .inr (5, [.ref aT, .int lT])), (aT, .inl (cI, 900, .inl fT))]) [0, 1, 2] rfl
          have hD9 := hD.sub (ws' := [(oX, .inr (11, [.ref nT, .ref nL, .ref nM, .ref oC, .ref oP, .ref oH, .ref oK, .ref oG, .ref oR, .ref oQ, .ref oW, .int i])), (nT, .inr (5, [.ref aT, .int lT])), (aT, .inl (cI, 900, .inl fT))]) [0, 1, 2] (by decide +kernel) rfl
          rw [hQQ]
          exact W.zret (v := 0) (ty := .boolean) hx hb hr (rfl) (fun t ht hW => ⟨⟨0, 0, rfl, rfl, ⟨i, by rw [ht]; exact hP9, hD9, by decide, Or.inr ⟨rfl, prg_no hg3 (by omega) (by omega) (by omega)⟩⟩⟩, hS.F ht⟩) hS.2.2 dX11_tapeHoldsBytes_39
        · have tc_4 : 0 ≤ r_3.toInt := v_nlt c_4
          refine lv_iload_n hx hb dX11_tapeHoldsBytes_26 rfl (lv_at hl 0 rfl) ?_
          refine lv_sipush (v := 256) hx hb dX11_tapeHoldsBytes_27 (by decide) ?_
          refine lv_icmp_lt (tgt := 40) hx hb dX11_tapeHoldsBytes_30 (by decide) (fun c_5 => ?_) (fun c_5 => ?_)
          · have tc_5 : r_3.toInt < 256 := v_lt c_5
            obtain ⟨x_6, ex_6⟩ : ∃ y : Int32, y = i + 1 := ⟨_, rfl⟩
            have tx_6 : x_6.toInt = i.toInt + 1 := v_add ex_6 (by show -2147483648 ≤ i.toInt + 1; omega) (by show i.toInt + 1 < 2147483648; omega)
            refine lv_iinc (v := x_6) (lv' := [(1, .int x_6), (2, .int r_3), (0, .ref oX)]) hx hb dX11_tapeHoldsBytes_40 hl (k := 1) rfl (by rw [ex_6]; rfl) (by decide) rfl (fun ls hl => ?_)
            refine lv_goto (tgt := 2) hx hb dX11_tapeHoldsBytes_43 (by decide) ?_
            exact ih_2 x_6 _ _ _ (ms_lt hm_2 (by show ((900 - x_6.toInt : Int)) < 900 - i.toInt; omega) (by show (0 : Int) < 900 - i.toInt; omega)) (by show 0 ≤ x_6.toInt ∧ x_6.toInt ≤ 900; omega) (prg_step hal hg3 (by omega) (by omega) (by omega)) hP hD hS (lv_sub hl [0, 2] rfl)
          · have tc_5 : 256 ≤ r_3.toInt := v_nlt c_5
            refine lv_aload_n hx hb dX11_tapeHoldsBytes_33 rfl (lv_at hl 2 rfl) ?_
            refine lv_iload_n hx hb dX11_tapeHoldsBytes_34 rfl (lv_at hl 1 rfl) ?_
            refine va_put (D := (dC, dI)) (ci := 11) (v := .int i) (ty := .int) (C := RX11) (T := TX11) (N := 12) hx hb hts in_X11 tyX11 tyX11_ok nmX11 hown hK hP hD hS 0 rfl rfl 11 (by decide) (hts (.fieldLink RX11 90 "TextMender" "fault" "I") (List.mem_of_getElem? (i := 2) rfl)) (fun _ h9 => h9) rfl (by decide +kernel) rfl rfl (Nat.le_of_ble_eq_true rfl) dX11_tapeHoldsBytes_35 (fun H locs hPn hDn hSn => ?_)
            clear hP hD hS
            have hP : va_P (dC, dI) vwCl [(oX, .inr (11, [.ref nT, .ref nL, .ref nM, .ref oC, .ref oP, .ref oH, .ref oK, .ref oG, .ref oR, .ref oQ, .ref oW, .int i])), (nT, .inr (5, [.ref aT, .int lT])), (aT, .inl (cI, 900, .inl fT))] H := hPn
            have hD : va_D A [(oX, .inr (11, [.ref nT, .ref nL, .ref nM, .ref oC, .ref oP, .ref oH, .ref oK, .ref oG, .ref oR, .ref oQ, .ref oW, .int i])), (nT, .inr (5, [.ref aT, .int lT])), (aT, .inl (cI, 900, .inl fT))] := hDn
            have hS := hSn
            clear hPn hDn hSn
            refine lv_iconst (v := 0) hx hb dX11_tapeHoldsBytes_38 (by decide) ?_
            have hP9 := hP.sub (ws' := [(oX, .inr (11, [.ref nT, .ref nL, .ref nM, .ref oC, .ref oP, .ref oH, .ref oK, .ref oG, .ref oR, .ref oQ, .ref oW, .int i])), (nT, .inr (5, [.ref aT, .int lT])), (aT, .inl (cI, 900, .inl fT))]) [0, 1, 2] rfl
            have hD9 := hD.sub (ws' := [(oX, .inr (11, [.ref nT, .ref nL, .ref nM, .ref oC, .ref oP, .ref oH, .ref oK, .ref oG, .ref oR, .ref oQ, .ref oW, .int i])), (nT, .inr (5, [.ref aT, .int lT])), (aT, .inl (cI, 900, .inl fT))]) [0, 1, 2] (by decide +kernel) rfl
            rw [hQQ]
            exact W.zret (v := 0) (ty := .boolean) hx hb hr (rfl) (fun t ht hW => ⟨⟨0, 0, rfl, rfl, ⟨i, by rw [ht]; exact hP9, hD9, by decide, Or.inr ⟨rfl, prg_no hg3 (by omega) (by omega) (by omega)⟩⟩⟩, hS.F ht⟩) hS.2.2 dX11_tapeHoldsBytes_39
  exact LOOP_2 _ 0 _ _ _ (ms_s _) (by decide) (prg_0 (by decide)) hP hD hS (lv_sub hl [0, 1] rfl)

end

/-! 59f.enc -/
section
set_option maxHeartbeats 40000000 in
set_option maxRecDepth 100000 in
theorem f_X2_encodeMany (l : Launch) (dC : Nat → ClassId) (dI : Nat → Nat → Nat) (cI cS : ClassId) (sz : Nat) (nu : Nat) (au : Nat) (cap : Nat) (lu : Int32) (fu : Nat → Int32) (le : Int32) (g_lu : 0 ≤ lu.toInt ∧ lu.toInt ≤ (cap : Int)) (g_le : 0 ≤ le.toInt ∧ le.toInt ≤ 65535) (hcap : cap ≤ 2400) (hrm : lu.toInt + 8 ≤ (cap : Int)) : Met l yX2_encodeMany wsX2_encodeMany ({ frames := 1, cells := 0, slots := 0, locals := 21 } : Room) (va_Pc [.int le, .ref nu] (fun U => U.heap.size = sz ∧ va_P (dC, dI) vwCl [(nu, .inr (5, [.ref au, .int lu])), (au, .inl (cI, cap, .inl fu))] U.heap ∧ va_K (dC, dI) vwCl [(cI, .int), (cS, .short)] U ∧ va_D (fun _ => True) [(nu, .inr (5, [.ref au, .int lu])), (au, .inl (cI, cap, .inl fu))])) (va_Qi (fun (r : Int32) (u : Int32) => r = u) (fun (r : Int32) t => ∃ (lu' : Int32) (fu' : Nat → Int32), va_P (dC, dI) vwCl [(nu, .inr (5, [.ref au, .int lu'])), (au, .inl (cI, cap, .inl fu'))] t.heap ∧ va_D (va_A [(nu, .inr (5, [.ref au, .int lu])), (au, .inl (cI, cap, .inl fu))] sz) [(nu, .inr (5, [.ref au, .int lu'])), (au, .inl (cI, cap, .inl fu'))] ∧ (0 ≤ lu'.toInt ∧ lu'.toInt ≤ (cap : Int)) ∧ (0 ≤ r.toInt ∧ r.toInt ≤ 1) ∧ (F_en r 2 le (-1) lu lu' fu fu')) (va_A [(nu, .inr (5, [.ref au, .int lu])), (au, .inl (cI, cap, .inl fu))] sz)) 0 0 (va_A [(nu, .inr (5, [.ref au, .int lu])), (au, .inl (cI, cap, .inl fu))] sz) := by
  refine Met.ofW (cc := cX2_encodeMany) (maxL := 3) (ret := (some .boolean)) (by decide) rfl ?_
  intro p e s m args below meth c s₁ B hml hv
  obtain ⟨rfl, hsz, hP, hK, hD0⟩ := hv
  have hx := B.exec
  have hb := B.bytes
  have hr := B.returns
  have hts := atoms_spec (ws := wsX2_encodeMany) B.pre
  have hown : s.vm.findClass RX2 = some m.cls := findClass_of_methodNamed B.named
  have hlocks := B.notSynchronized
  subst hsz
  have hD := hD0.self (sz := s.heap.size)
  generalize hAe : va_A [(nu, .inr (5, [.ref au, .int lu])), (au, .inl (cI, cap, .inl fu))] s.heap.size = A at hD ⊢
  have hA : ∀ q : Nat, s.heap.size ≤ q → A q := fun q h => by rw [← hAe]; exact Or.inr h
  have hS : va_S A s.heap s.heap [] := va_S.rf
  have hP : va_P (dC, dI) vwCl [(nu, .inr (5, [.ref au, .int lu])), (au, .inl (cI, cap, .inl fu))] s.heap := hP
  have hl := lv_entry ([.int le, .ref nu]) (n := 3) (Nat.le_of_ble_eq_true rfl)
  rw [lg_entry_eq]
  generalize (lg_sl ([.int le, .ref nu]) ++ List.replicate (3 - (lg_sl ([.int le, .ref nu])).length) Slot.unset).toArray = ls at hl ⊢
  have hl : lv_has ls 3 [(0, .int le), (1, .ref nu)] := hl
  obtain ⟨QQ, hQQ⟩ : ∃ QQ : Array Value → State → Outcome → State → Prop, QQ = va_Qi (fun (r : Int32) (u : Int32) => r = u) (fun (r : Int32) t => ∃ (lu' : Int32) (fu' : Nat → Int32), va_P (dC, dI) vwCl [(nu, .inr (5, [.ref au, .int lu'])), (au, .inl (cI, cap, .inl fu'))] t.heap ∧ va_D A [(nu, .inr (5, [.ref au, .int lu'])), (au, .inl (cI, cap, .inl fu'))] ∧ (0 ≤ lu'.toInt ∧ lu'.toInt ≤ (cap : Int)) ∧ (0 ≤ r.toInt ∧ r.toInt ≤ 1) ∧ (F_en r 2 le (-1) lu lu' fu fu')) A := ⟨_, rfl⟩
  rw [← hQQ]
  have z2 : (2 : Int32).toInt = 2 := rfl
  have z3 : (3 : Int32).toInt = 3 := rfl
  have z35 : (35 : Int32).toInt = 35 := rfl
  have z38 : (38 : Int32).toInt = 38 := rfl
  have z59 : (59 : Int32).toInt = 59 := rfl
  refine lv_iload_n hx hb dX2_encodeMany_0 rfl (lv_at hl 0 rfl) ?_
  refine lv_sipush (v := 128) hx hb dX2_encodeMany_1 (by decide) ?_
  refine lv_icmp_ge (tgt := 13) hx hb dX2_encodeMany_4 (by decide) (fun c_1 => ?_) (fun c_1 => ?_)
  · have tc_1 : 128 ≤ le.toInt := v_le c_1
    refine lv_iload_n hx hb dX2_encodeMany_13 rfl (lv_at hl 0 rfl) ?_
    refine lv_sipush (v := 2048) hx hb dX2_encodeMany_14 (by decide) ?_
    refine lv_icmp_ge (tgt := 36) hx hb dX2_encodeMany_17 (by decide) (fun c_2 => ?_) (fun c_2 => ?_)
    · have tc_2 : 2048 ≤ le.toInt := v_le c_2
      refine lv_aload_n hx hb dX2_encodeMany_36 rfl (lv_at hl 1 rfl) ?_
      refine lv_sipush (v := 224) hx hb dX2_encodeMany_37 (by decide) ?_
      refine lv_iload_n hx hb dX2_encodeMany_40 rfl (lv_at hl 0 rfl) ?_
      refine lv_bipush (v := 12) hx hb dX2_encodeMany_41 (by decide) ?_
      refine lv_ishr hx hb dX2_encodeMany_43 ?_
      refine lv_topi (fun x_3 ex_3 => ?_)
      have tx_3 : x_3.toInt = le.toInt / 4096 := v_shr 12 ex_3 (by decide)
      refine lv_iadd hx hb dX2_encodeMany_44 ?_
      refine lv_topi (fun x_4 ex_4 => ?_)
      have tx_4 : x_4.toInt = 224 + x_3.toInt := v_add ex_4 (by show -2147483648 ≤ 224 + x_3.toInt; omega) (by show 224 + x_3.toInt < 2147483648; omega)
      have hPc := hP.sub (ws' := [(nu, .inr (5, [.ref au, .int lu])), (au, .inl (cI, cap, .inl fu))]) [0, 1] rfl
      have hDc := hD.sub (ws' := [(nu, .inr (5, [.ref au, .int lu])), (au, .inl (cI, cap, .inl fu))]) [0, 1] (by decide +kernel) rfl
      have hFc := va_free (wc := [(nu, .inr (5, [.ref au, .int lu])), (au, .inl (cI, cap, .inl fu))]) hD hS hA [0, 1] rfl
      refine va_calli (va_runV (As := [.int x_4]) (rest := []) ⟨hx, hb, hml, hown, hts⟩ (m_X5_add l dC dI cI cS s.heap.size nu au cap lu fu x_4 (g_lu) (by omega)) (cwV 1 hts gX2_encodeMany_X5_add rfl rfl rfl (by decide +kernel) ⟨Nat.le_of_ble_eq_true rfl, Nat.le_of_ble_eq_true rfl⟩) ⟨fun a U g mk q => by obtain ⟨q0, q1, qP, qK, qD⟩ := q; exact ⟨q0, q1, qP, va_K.moved (u := U) (U := U.calling g mk a) (Vm.Alike.refl U.vm) qK, qD⟩, va_recv hK hPc (ci := 5) (q0 := 0) rfl rfl, fun U hU hW => ⟨rfl, by rw [hU], by rw [hU]; exact hPc, va_K.moved hW.alike hK, hDc.weaken (fun _ _ _ _ => trivial)⟩⟩ rfl rfl hl.1 rfl (lv_room (Nat.le_of_ble_eq_true rfl)) dX2_encodeMany_45 ⟨Nat.le_of_ble_eq_true rfl, Nat.le_of_ble_eq_true rfl⟩) hS (fun q _ h => hFc q h) hFc (fun r_5 u t H1 locs ht hvm hw hB hz1 hk1 hSn => ?_)
      subst hw
      obtain ⟨lu_5, fu_5, hP1, hD1, hf5_0, hf5_1, hf5_2⟩ := hB
      rw [ht] at hP1
      obtain ⟨hPn, hDn⟩ := va_join (wr := []) (w1 := [(nu, .inr (5, [.ref au, .int lu_5])), (au, .inl (cI, cap, .inl fu_5))]) hP hD [0, 1] [] rfl rfl (by decide +kernel) (by decide +kernel) hk1 hFc hP1 hD1
      clear hP hD hS hPc hDc hFc hk1 hz1 hvm ht hP1 hD1
      generalize H1 = H at hPn hSn ⊢
      have hP : va_P (dC, dI) vwCl [(nu, .inr (5, [.ref au, .int lu_5])), (au, .inl (cI, cap, .inl fu_5))] H := hPn
      have hD : va_D A [(nu, .inr (5, [.ref au, .int lu_5])), (au, .inl (cI, cap, .inl fu_5))] := hDn
      have hS := hSn
      clear hPn hDn hSn
      have ha5 : lu_5.toInt = lu.toInt + 1 := F_add_l hf5_2 (by omega)
      have hr5 : r_5.toInt = 1 := F_add_r hf5_2 (by omega)
      have hap5 : AP lu lu_5 fu fu_5 [(x_4 : Int32).toInt] := AP_s (AP_0 (l := lu) (f := fu)) (by omega) hf5_2 (by omega)
      refine lv_if_eq (tgt := 73) hx hb dX2_encodeMany_48 (by decide) (fun c_6 => by exfalso; have tc_6 : r_5.toInt = 0 := v_eq c_6; omega) (fun c_6 => ?_)
      have tc_6 : ¬ r_5.toInt = 0 := v_ne c_6
      refine lv_aload_n hx hb dX2_encodeMany_51 rfl (lv_at hl 1 rfl) ?_
      refine lv_sipush (v := 128) hx hb dX2_encodeMany_52 (by decide) ?_
      refine lv_iload_n hx hb dX2_encodeMany_55 rfl (lv_at hl 0 rfl) ?_
      refine lv_bipush (v := 6) hx hb dX2_encodeMany_56 (by decide) ?_
      refine lv_ishr hx hb dX2_encodeMany_58 ?_
      refine lv_topi (fun x_7 ex_7 => ?_)
      have tx_7 : x_7.toInt = le.toInt / 64 := v_shr 6 ex_7 (by decide)
      refine lv_bipush (v := 63) hx hb dX2_encodeMany_59 (by decide) ?_
      refine lv_iand hx hb dX2_encodeMany_61 ?_
      refine lv_topi (fun x_8 ex_8 => ?_)
      have tx_8 : 0 ≤ x_8.toInt ∧ x_8.toInt < 64 := v_and 6 ex_8 (by decide) (by decide)
      have tm_x_8 : x_8.toInt = x_7.toInt % 64 := v_and63 ex_8 (by omega)
      refine lv_iadd hx hb dX2_encodeMany_62 ?_
      refine lv_topi (fun x_9 ex_9 => ?_)
      have tx_9 : x_9.toInt = 128 + x_8.toInt := v_add ex_9 (by show -2147483648 ≤ 128 + x_8.toInt; omega) (by show 128 + x_8.toInt < 2147483648; omega)
      have hPc := hP.sub (ws' := [(nu, .inr (5, [.ref au, .int lu_5])), (au, .inl (cI, cap, .inl fu_5))]) [0, 1] rfl
      have hDc := hD.sub (ws' := [(nu, .inr (5, [.ref au, .int lu_5])), (au, .inl (cI, cap, .inl fu_5))]) [0, 1] (by decide +kernel) rfl
      have hFc := va_free (wc := [(nu, .inr (5, [.ref au, .int lu_5])), (au, .inl (cI, cap, .inl fu_5))]) hD hS hA [0, 1] rfl
      refine va_calli (va_runV (As := [.int x_9]) (rest := []) ⟨hx, hb, hml, hown, hts⟩ (m_X5_add l dC dI cI cS H.size nu au cap lu_5 fu_5 x_9 (hf5_0) (by omega)) (cwV 1 hts gX2_encodeMany_X5_add rfl rfl rfl (by decide +kernel) ⟨Nat.le_of_ble_eq_true rfl, Nat.le_of_ble_eq_true rfl⟩) ⟨fun a U g mk q => by obtain ⟨q0, q1, qP, qK, qD⟩ := q; exact ⟨q0, q1, qP, va_K.moved (u := U) (U := U.calling g mk a) (Vm.Alike.refl U.vm) qK, qD⟩, va_recv hK hPc (ci := 5) (q0 := 0) rfl rfl, fun U hU hW => ⟨rfl, by rw [hU], by rw [hU]; exact hPc, va_K.moved hW.alike hK, hDc.weaken (fun _ _ _ _ => trivial)⟩⟩ rfl rfl hl.1 rfl (lv_room (Nat.le_of_ble_eq_true rfl)) dX2_encodeMany_63 ⟨Nat.le_of_ble_eq_true rfl, Nat.le_of_ble_eq_true rfl⟩) hS (fun q _ h => hFc q h) hFc (fun r_10 u t H1 locs ht hvm hw hB hz1 hk1 hSn => ?_)
      subst hw
      obtain ⟨lu_10, fu_10, hP1, hD1, hf10_0, hf10_1, hf10_2⟩ := hB
      rw [ht] at hP1
      obtain ⟨hPn, hDn⟩ := va_join (wr := []) (w1 := [(nu, .inr (5, [.ref au, .int lu_10])), (au, .inl (cI, cap, .inl fu_10))]) hP hD [0, 1] [] rfl rfl (by decide +kernel) (by decide +kernel) hk1 hFc hP1 hD1
      clear hP hD hS hPc hDc hFc hk1 hz1 hvm ht hP1 hD1
      generalize H1 = H at hPn hSn ⊢
      have hP : va_P (dC, dI) vwCl [(nu, .inr (5, [.ref au, .int lu_10])), (au, .inl (cI, cap, .inl fu_10))] H := hPn
      have hD : va_D A [(nu, .inr (5, [.ref au, .int lu_10])), (au, .inl (cI, cap, .inl fu_10))] := hDn
      have hS := hSn
      clear hPn hDn hSn
      have ha10 : lu_10.toInt = lu_5.toInt + 1 := F_add_l hf10_2 (by omega)
      have hr10 : r_10.toInt = 1 := F_add_r hf10_2 (by omega)
      have hap10 : AP lu lu_10 fu fu_10 [(x_4 : Int32).toInt, (x_9 : Int32).toInt] := AP_s hap5 (by omega) hf10_2 (by omega)
      refine lv_if_eq (tgt := 73) hx hb dX2_encodeMany_66 (by decide) (fun c_11 => by exfalso; have tc_11 : r_10.toInt = 0 := v_eq c_11; omega) (fun c_11 => ?_)
      have tc_11 : ¬ r_10.toInt = 0 := v_ne c_11
      refine lv_iconst (v := 1) hx hb dX2_encodeMany_69 (by decide) ?_
      refine lv_goto (tgt := 74) hx hb dX2_encodeMany_70 (by decide) ?_
      refine lv_istore_n (lv' := [(2, .int 1), (0, .int le), (1, .ref nu)]) hx hb dX2_encodeMany_74 rfl hl (by decide) rfl (fun ls hl => ?_)
      refine lv_iload_n hx hb dX2_encodeMany_75 rfl (lv_at hl 0 rfl) ?_
      refine lv_if_eq (tgt := 98) hx hb dX2_encodeMany_76 (by decide) (fun c_12 => absurd c_12 (by decide)) (fun c_12 => ?_)
      refine lv_aload_n hx hb dX2_encodeMany_79 rfl (lv_at hl 2 rfl) ?_
      refine lv_sipush (v := 128) hx hb dX2_encodeMany_80 (by decide) ?_
      refine lv_iload_n hx hb dX2_encodeMany_83 rfl (lv_at hl 1 rfl) ?_
      refine lv_bipush (v := 63) hx hb dX2_encodeMany_84 (by decide) ?_
      refine lv_iand hx hb dX2_encodeMany_86 ?_
      refine lv_topi (fun x_13 ex_13 => ?_)
      have tx_13 : 0 ≤ x_13.toInt ∧ x_13.toInt < 64 := v_and 6 ex_13 (by decide) (by decide)
      have tm_x_13 : x_13.toInt = le.toInt % 64 := v_and63 ex_13 (by omega)
      refine lv_iadd hx hb dX2_encodeMany_87 ?_
      refine lv_topi (fun x_14 ex_14 => ?_)
      have tx_14 : x_14.toInt = 128 + x_13.toInt := v_add ex_14 (by show -2147483648 ≤ 128 + x_13.toInt; omega) (by show 128 + x_13.toInt < 2147483648; omega)
      have hPc := hP.sub (ws' := [(nu, .inr (5, [.ref au, .int lu_10])), (au, .inl (cI, cap, .inl fu_10))]) [0, 1] rfl
      have hDc := hD.sub (ws' := [(nu, .inr (5, [.ref au, .int lu_10])), (au, .inl (cI, cap, .inl fu_10))]) [0, 1] (by decide +kernel) rfl
      have hFc := va_free (wc := [(nu, .inr (5, [.ref au, .int lu_10])), (au, .inl (cI, cap, .inl fu_10))]) hD hS hA [0, 1] rfl
      refine va_calli (va_runV (As := [.int x_14]) (rest := []) ⟨hx, hb, hml, hown, hts⟩ (m_X5_add l dC dI cI cS H.size nu au cap lu_10 fu_10 x_14 (hf10_0) (by omega)) (cwV 1 hts gX2_encodeMany_X5_add rfl rfl rfl (by decide +kernel) ⟨Nat.le_of_ble_eq_true rfl, Nat.le_of_ble_eq_true rfl⟩) ⟨fun a U g mk q => by obtain ⟨q0, q1, qP, qK, qD⟩ := q; exact ⟨q0, q1, qP, va_K.moved (u := U) (U := U.calling g mk a) (Vm.Alike.refl U.vm) qK, qD⟩, va_recv hK hPc (ci := 5) (q0 := 0) rfl rfl, fun U hU hW => ⟨rfl, by rw [hU], by rw [hU]; exact hPc, va_K.moved hW.alike hK, hDc.weaken (fun _ _ _ _ => trivial)⟩⟩ rfl rfl hl.1 rfl (lv_room (Nat.le_of_ble_eq_true rfl)) dX2_encodeMany_88 ⟨Nat.le_of_ble_eq_true rfl, Nat.le_of_ble_eq_true rfl⟩) hS (fun q _ h => hFc q h) hFc (fun r_15 u t H1 locs ht hvm hw hB hz1 hk1 hSn => ?_)
      subst hw
      obtain ⟨lu_15, fu_15, hP1, hD1, hf15_0, hf15_1, hf15_2⟩ := hB
      rw [ht] at hP1
      obtain ⟨hPn, hDn⟩ := va_join (wr := []) (w1 := [(nu, .inr (5, [.ref au, .int lu_15])), (au, .inl (cI, cap, .inl fu_15))]) hP hD [0, 1] [] rfl rfl (by decide +kernel) (by decide +kernel) hk1 hFc hP1 hD1
      clear hP hD hS hPc hDc hFc hk1 hz1 hvm ht hP1 hD1
      generalize H1 = H at hPn hSn ⊢
      have hP : va_P (dC, dI) vwCl [(nu, .inr (5, [.ref au, .int lu_15])), (au, .inl (cI, cap, .inl fu_15))] H := hPn
      have hD : va_D A [(nu, .inr (5, [.ref au, .int lu_15])), (au, .inl (cI, cap, .inl fu_15))] := hDn
      have hS := hSn
      clear hPn hDn hSn
      have ha15 : lu_15.toInt = lu_10.toInt + 1 := F_add_l hf15_2 (by omega)
      have hr15 : r_15.toInt = 1 := F_add_r hf15_2 (by omega)
      have hap15 : AP lu lu_15 fu fu_15 [(x_4 : Int32).toInt, (x_9 : Int32).toInt, (x_14 : Int32).toInt] := AP_s hap10 (by omega) hf15_2 (by omega)
      refine lv_if_eq (tgt := 98) hx hb dX2_encodeMany_91 (by decide) (fun c_16 => by exfalso; have tc_16 : r_15.toInt = 0 := v_eq c_16; omega) (fun c_16 => ?_)
      have tc_16 : ¬ r_15.toInt = 0 := v_ne c_16
      refine lv_iconst (v := 1) hx hb dX2_encodeMany_94 (by decide) ?_
      refine lv_goto (tgt := 99) hx hb dX2_encodeMany_95 (by decide) ?_
      have hP9 := hP.sub (ws' := [(nu, .inr (5, [.ref au, .int lu_15])), (au, .inl (cI, cap, .inl fu_15))]) [0, 1] rfl
      have hD9 := hD.sub (ws' := [(nu, .inr (5, [.ref au, .int lu_15])), (au, .inl (cI, cap, .inl fu_15))]) [0, 1] (by decide +kernel) rfl
      rw [hQQ]
      exact W.zret (v := 1) (ty := .boolean) hx hb hr (rfl) (fun t ht hW => ⟨⟨1, 1, rfl, rfl, ⟨lu_15, fu_15, by rw [ht]; exact hP9, hD9, hf15_0, by decide, F_en_y (by first | omega | rfl) hap15 (by first | (unfold enc; (repeat (first | rw [if_pos (by omega)] | rw [if_neg (by omega)])) <;> exact L3 (by first | omega | rfl) (by first | omega | rfl) (by first | omega | rfl)) | (exfalso; omega))⟩⟩, hS.F ht⟩) hS.2.2 dX2_encodeMany_99
    · have tc_2 : le.toInt < 2048 := v_nle c_2
      refine lv_aload_n hx hb dX2_encodeMany_20 rfl (lv_at hl 1 rfl) ?_
      refine lv_sipush (v := 192) hx hb dX2_encodeMany_21 (by decide) ?_
      refine lv_iload_n hx hb dX2_encodeMany_24 rfl (lv_at hl 0 rfl) ?_
      refine lv_bipush (v := 6) hx hb dX2_encodeMany_25 (by decide) ?_
      refine lv_ishr hx hb dX2_encodeMany_27 ?_
      refine lv_topi (fun x_17 ex_17 => ?_)
      have tx_17 : x_17.toInt = le.toInt / 64 := v_shr 6 ex_17 (by decide)
      refine lv_iadd hx hb dX2_encodeMany_28 ?_
      refine lv_topi (fun x_18 ex_18 => ?_)
      have tx_18 : x_18.toInt = 192 + x_17.toInt := v_add ex_18 (by show -2147483648 ≤ 192 + x_17.toInt; omega) (by show 192 + x_17.toInt < 2147483648; omega)
      have hPc := hP.sub (ws' := [(nu, .inr (5, [.ref au, .int lu])), (au, .inl (cI, cap, .inl fu))]) [0, 1] rfl
      have hDc := hD.sub (ws' := [(nu, .inr (5, [.ref au, .int lu])), (au, .inl (cI, cap, .inl fu))]) [0, 1] (by decide +kernel) rfl
      have hFc := va_free (wc := [(nu, .inr (5, [.ref au, .int lu])), (au, .inl (cI, cap, .inl fu))]) hD hS hA [0, 1] rfl
      refine va_calli (va_runV (As := [.int x_18]) (rest := []) ⟨hx, hb, hml, hown, hts⟩ (m_X5_add l dC dI cI cS s.heap.size nu au cap lu fu x_18 (g_lu) (by omega)) (cwV 1 hts gX2_encodeMany_X5_add rfl rfl rfl (by decide +kernel) ⟨Nat.le_of_ble_eq_true rfl, Nat.le_of_ble_eq_true rfl⟩) ⟨fun a U g mk q => by obtain ⟨q0, q1, qP, qK, qD⟩ := q; exact ⟨q0, q1, qP, va_K.moved (u := U) (U := U.calling g mk a) (Vm.Alike.refl U.vm) qK, qD⟩, va_recv hK hPc (ci := 5) (q0 := 0) rfl rfl, fun U hU hW => ⟨rfl, by rw [hU], by rw [hU]; exact hPc, va_K.moved hW.alike hK, hDc.weaken (fun _ _ _ _ => trivial)⟩⟩ rfl rfl hl.1 rfl (lv_room (Nat.le_of_ble_eq_true rfl)) dX2_encodeMany_29 ⟨Nat.le_of_ble_eq_true rfl, Nat.le_of_ble_eq_true rfl⟩) hS (fun q _ h => hFc q h) hFc (fun r_19 u t H1 locs ht hvm hw hB hz1 hk1 hSn => ?_)
      subst hw
      obtain ⟨lu_19, fu_19, hP1, hD1, hf19_0, hf19_1, hf19_2⟩ := hB
      rw [ht] at hP1
      obtain ⟨hPn, hDn⟩ := va_join (wr := []) (w1 := [(nu, .inr (5, [.ref au, .int lu_19])), (au, .inl (cI, cap, .inl fu_19))]) hP hD [0, 1] [] rfl rfl (by decide +kernel) (by decide +kernel) hk1 hFc hP1 hD1
      clear hP hD hS hPc hDc hFc hk1 hz1 hvm ht hP1 hD1
      generalize H1 = H at hPn hSn ⊢
      have hP : va_P (dC, dI) vwCl [(nu, .inr (5, [.ref au, .int lu_19])), (au, .inl (cI, cap, .inl fu_19))] H := hPn
      have hD : va_D A [(nu, .inr (5, [.ref au, .int lu_19])), (au, .inl (cI, cap, .inl fu_19))] := hDn
      have hS := hSn
      clear hPn hDn hSn
      have ha19 : lu_19.toInt = lu.toInt + 1 := F_add_l hf19_2 (by omega)
      have hr19 : r_19.toInt = 1 := F_add_r hf19_2 (by omega)
      have hap19 : AP lu lu_19 fu fu_19 [(x_18 : Int32).toInt] := AP_s (AP_0 (l := lu) (f := fu)) (by omega) hf19_2 (by omega)
      refine lv_istore_n (lv' := [(2, .int r_19), (0, .int le), (1, .ref nu)]) hx hb dX2_encodeMany_32 rfl hl (by decide) rfl (fun ls hl => ?_)
      refine lv_goto (tgt := 75) hx hb dX2_encodeMany_33 (by decide) ?_
      refine lv_iload_n hx hb dX2_encodeMany_75 rfl (lv_at hl 0 rfl) ?_
      refine lv_if_eq (tgt := 98) hx hb dX2_encodeMany_76 (by decide) (fun c_20 => by exfalso; have tc_20 : r_19.toInt = 0 := v_eq c_20; omega) (fun c_20 => ?_)
      have tc_20 : ¬ r_19.toInt = 0 := v_ne c_20
      refine lv_aload_n hx hb dX2_encodeMany_79 rfl (lv_at hl 2 rfl) ?_
      refine lv_sipush (v := 128) hx hb dX2_encodeMany_80 (by decide) ?_
      refine lv_iload_n hx hb dX2_encodeMany_83 rfl (lv_at hl 1 rfl) ?_
      refine lv_bipush (v := 63) hx hb dX2_encodeMany_84 (by decide) ?_
      refine lv_iand hx hb dX2_encodeMany_86 ?_
      refine lv_topi (fun x_21 ex_21 => ?_)
      have tx_21 : 0 ≤ x_21.toInt ∧ x_21.toInt < 64 := v_and 6 ex_21 (by decide) (by decide)
      have tm_x_21 : x_21.toInt = le.toInt % 64 := v_and63 ex_21 (by omega)
      refine lv_iadd hx hb dX2_encodeMany_87 ?_
      refine lv_topi (fun x_22 ex_22 => ?_)
      have tx_22 : x_22.toInt = 128 + x_21.toInt := v_add ex_22 (by show -2147483648 ≤ 128 + x_21.toInt; omega) (by show 128 + x_21.toInt < 2147483648; omega)
      have hPc := hP.sub (ws' := [(nu, .inr (5, [.ref au, .int lu_19])), (au, .inl (cI, cap, .inl fu_19))]) [0, 1] rfl
      have hDc := hD.sub (ws' := [(nu, .inr (5, [.ref au, .int lu_19])), (au, .inl (cI, cap, .inl fu_19))]) [0, 1] (by decide +kernel) rfl
      have hFc := va_free (wc := [(nu, .inr (5, [.ref au, .int lu_19])), (au, .inl (cI, cap, .inl fu_19))]) hD hS hA [0, 1] rfl
      refine va_calli (va_runV (As := [.int x_22]) (rest := []) ⟨hx, hb, hml, hown, hts⟩ (m_X5_add l dC dI cI cS H.size nu au cap lu_19 fu_19 x_22 (hf19_0) (by omega)) (cwV 1 hts gX2_encodeMany_X5_add rfl rfl rfl (by decide +kernel) ⟨Nat.le_of_ble_eq_true rfl, Nat.le_of_ble_eq_true rfl⟩) ⟨fun a U g mk q => by obtain ⟨q0, q1, qP, qK, qD⟩ := q; exact ⟨q0, q1, qP, va_K.moved (u := U) (U := U.calling g mk a) (Vm.Alike.refl U.vm) qK, qD⟩, va_recv hK hPc (ci := 5) (q0 := 0) rfl rfl, fun U hU hW => ⟨rfl, by rw [hU], by rw [hU]; exact hPc, va_K.moved hW.alike hK, hDc.weaken (fun _ _ _ _ => trivial)⟩⟩ rfl rfl hl.1 rfl (lv_room (Nat.le_of_ble_eq_true rfl)) dX2_encodeMany_88 ⟨Nat.le_of_ble_eq_true rfl, Nat.le_of_ble_eq_true rfl⟩) hS (fun q _ h => hFc q h) hFc (fun r_23 u t H1 locs ht hvm hw hB hz1 hk1 hSn => ?_)
      subst hw
      obtain ⟨lu_23, fu_23, hP1, hD1, hf23_0, hf23_1, hf23_2⟩ := hB
      rw [ht] at hP1
      obtain ⟨hPn, hDn⟩ := va_join (wr := []) (w1 := [(nu, .inr (5, [.ref au, .int lu_23])), (au, .inl (cI, cap, .inl fu_23))]) hP hD [0, 1] [] rfl rfl (by decide +kernel) (by decide +kernel) hk1 hFc hP1 hD1
      clear hP hD hS hPc hDc hFc hk1 hz1 hvm ht hP1 hD1
      generalize H1 = H at hPn hSn ⊢
      have hP : va_P (dC, dI) vwCl [(nu, .inr (5, [.ref au, .int lu_23])), (au, .inl (cI, cap, .inl fu_23))] H := hPn
      have hD : va_D A [(nu, .inr (5, [.ref au, .int lu_23])), (au, .inl (cI, cap, .inl fu_23))] := hDn
      have hS := hSn
      clear hPn hDn hSn
      have ha23 : lu_23.toInt = lu_19.toInt + 1 := F_add_l hf23_2 (by omega)
      have hr23 : r_23.toInt = 1 := F_add_r hf23_2 (by omega)
      have hap23 : AP lu lu_23 fu fu_23 [(x_18 : Int32).toInt, (x_22 : Int32).toInt] := AP_s hap19 (by omega) hf23_2 (by omega)
      refine lv_if_eq (tgt := 98) hx hb dX2_encodeMany_91 (by decide) (fun c_24 => by exfalso; have tc_24 : r_23.toInt = 0 := v_eq c_24; omega) (fun c_24 => ?_)
      have tc_24 : ¬ r_23.toInt = 0 := v_ne c_24
      refine lv_iconst (v := 1) hx hb dX2_encodeMany_94 (by decide) ?_
      refine lv_goto (tgt := 99) hx hb dX2_encodeMany_95 (by decide) ?_
      have hP9 := hP.sub (ws' := [(nu, .inr (5, [.ref au, .int lu_23])), (au, .inl (cI, cap, .inl fu_23))]) [0, 1] rfl
      have hD9 := hD.sub (ws' := [(nu, .inr (5, [.ref au, .int lu_23])), (au, .inl (cI, cap, .inl fu_23))]) [0, 1] (by decide +kernel) rfl
      rw [hQQ]
      exact W.zret (v := 1) (ty := .boolean) hx hb hr (rfl) (fun t ht hW => ⟨⟨1, 1, rfl, rfl, ⟨lu_23, fu_23, by rw [ht]; exact hP9, hD9, hf23_0, by decide, F_en_y (by first | omega | rfl) hap23 (by first | (unfold enc; (repeat (first | rw [if_pos (by omega)] | rw [if_neg (by omega)])) <;> exact L2 (by first | omega | rfl) (by first | omega | rfl)) | (exfalso; omega))⟩⟩, hS.F ht⟩) hS.2.2 dX2_encodeMany_99
  · have tc_1 : le.toInt < 128 := v_nle c_1
    refine lv_aload_n hx hb dX2_encodeMany_7 rfl (lv_at hl 1 rfl) ?_
    refine lv_iload_n hx hb dX2_encodeMany_8 rfl (lv_at hl 0 rfl) ?_
    have hPc := hP.sub (ws' := [(nu, .inr (5, [.ref au, .int lu])), (au, .inl (cI, cap, .inl fu))]) [0, 1] rfl
    have hDc := hD.sub (ws' := [(nu, .inr (5, [.ref au, .int lu])), (au, .inl (cI, cap, .inl fu))]) [0, 1] (by decide +kernel) rfl
    have hFc := va_free (wc := [(nu, .inr (5, [.ref au, .int lu])), (au, .inl (cI, cap, .inl fu))]) hD hS hA [0, 1] rfl
    refine va_calli (va_runV (As := [.int le]) (rest := []) ⟨hx, hb, hml, hown, hts⟩ (m_X5_add l dC dI cI cS s.heap.size nu au cap lu fu le (g_lu) (by omega)) (cwV 1 hts gX2_encodeMany_X5_add rfl rfl rfl (by decide +kernel) ⟨Nat.le_of_ble_eq_true rfl, Nat.le_of_ble_eq_true rfl⟩) ⟨fun a U g mk q => by obtain ⟨q0, q1, qP, qK, qD⟩ := q; exact ⟨q0, q1, qP, va_K.moved (u := U) (U := U.calling g mk a) (Vm.Alike.refl U.vm) qK, qD⟩, va_recv hK hPc (ci := 5) (q0 := 0) rfl rfl, fun U hU hW => ⟨rfl, by rw [hU], by rw [hU]; exact hPc, va_K.moved hW.alike hK, hDc.weaken (fun _ _ _ _ => trivial)⟩⟩ rfl rfl hl.1 rfl (lv_room (Nat.le_of_ble_eq_true rfl)) dX2_encodeMany_9 ⟨Nat.le_of_ble_eq_true rfl, Nat.le_of_ble_eq_true rfl⟩) hS (fun q _ h => hFc q h) hFc (fun r_25 u t H1 locs ht hvm hw hB hz1 hk1 hSn => ?_)
    subst hw
    obtain ⟨lu_25, fu_25, hP1, hD1, hf25_0, hf25_1, hf25_2⟩ := hB
    rw [ht] at hP1
    obtain ⟨hPn, hDn⟩ := va_join (wr := []) (w1 := [(nu, .inr (5, [.ref au, .int lu_25])), (au, .inl (cI, cap, .inl fu_25))]) hP hD [0, 1] [] rfl rfl (by decide +kernel) (by decide +kernel) hk1 hFc hP1 hD1
    clear hP hD hS hPc hDc hFc hk1 hz1 hvm ht hP1 hD1
    generalize H1 = H at hPn hSn ⊢
    have hP : va_P (dC, dI) vwCl [(nu, .inr (5, [.ref au, .int lu_25])), (au, .inl (cI, cap, .inl fu_25))] H := hPn
    have hD : va_D A [(nu, .inr (5, [.ref au, .int lu_25])), (au, .inl (cI, cap, .inl fu_25))] := hDn
    have hS := hSn
    clear hPn hDn hSn
    have ha25 : lu_25.toInt = lu.toInt + 1 := F_add_l hf25_2 (by omega)
    have hr25 : r_25.toInt = 1 := F_add_r hf25_2 (by omega)
    have hap25 : AP lu lu_25 fu fu_25 [(le : Int32).toInt] := AP_s (AP_0 (l := lu) (f := fu)) (by omega) hf25_2 (by omega)
    have hP9 := hP.sub (ws' := [(nu, .inr (5, [.ref au, .int lu_25])), (au, .inl (cI, cap, .inl fu_25))]) [0, 1] rfl
    have hD9 := hD.sub (ws' := [(nu, .inr (5, [.ref au, .int lu_25])), (au, .inl (cI, cap, .inl fu_25))]) [0, 1] (by decide +kernel) rfl
    rw [hQQ]
    exact W.zret (v := r_25) (ty := .boolean) hx hb hr (v_bool (by omega)) (fun t ht hW => ⟨⟨r_25, r_25, rfl, rfl, ⟨lu_25, fu_25, by rw [ht]; exact hP9, hD9, hf25_0, hf25_1, F_en_y (by first | omega | rfl) hap25 (by first | (unfold enc; (repeat (first | rw [if_pos (by omega)] | rw [if_neg (by omega)])) <;> exact L1 (by first | omega | rfl)) | (exfalso; omega))⟩⟩, hS.F ht⟩) hS.2.2 dX2_encodeMany_12

set_option maxHeartbeats 40000000 in
set_option maxRecDepth 100000 in
theorem f_X2_encodeNumber (l : Launch) (dC : Nat → ClassId) (dI : Nat → Nat → Nat) (cI cS : ClassId) (sz : Nat) (nu : Nat) (au : Nat) (cap : Nat) (lu : Int32) (fu : Nat → Int32) (le : Int32) (g_lu : 0 ≤ lu.toInt ∧ lu.toInt ≤ (cap : Int)) (g_le : 0 ≤ le.toInt ∧ le.toInt ≤ 65535) (hcap : cap ≤ 2400) (hrm : lu.toInt + 8 ≤ (cap : Int)) (hnm : 128 ≤ le.toInt ∨ le.toInt = 38) : Met l yX2_encodeNumber wsX2_encodeNumber ({ frames := 1, cells := 0, slots := 0, locals := 21 } : Room) (va_Pc [.int le, .ref nu] (fun U => U.heap.size = sz ∧ va_P (dC, dI) vwCl [(nu, .inr (5, [.ref au, .int lu])), (au, .inl (cI, cap, .inl fu))] U.heap ∧ va_K (dC, dI) vwCl [(cI, .int), (cS, .short)] U ∧ va_D (fun _ => True) [(nu, .inr (5, [.ref au, .int lu])), (au, .inl (cI, cap, .inl fu))])) (va_Qi (fun (r : Int32) (u : Int32) => r = u) (fun (r : Int32) t => ∃ (lu' : Int32) (fu' : Nat → Int32), va_P (dC, dI) vwCl [(nu, .inr (5, [.ref au, .int lu'])), (au, .inl (cI, cap, .inl fu'))] t.heap ∧ va_D (va_A [(nu, .inr (5, [.ref au, .int lu])), (au, .inl (cI, cap, .inl fu))] sz) [(nu, .inr (5, [.ref au, .int lu'])), (au, .inl (cI, cap, .inl fu'))] ∧ (0 ≤ lu'.toInt ∧ lu'.toInt ≤ (cap : Int)) ∧ (0 ≤ r.toInt ∧ r.toInt ≤ 1) ∧ (F_en r 3 le (-1) lu lu' fu fu')) (va_A [(nu, .inr (5, [.ref au, .int lu])), (au, .inl (cI, cap, .inl fu))] sz)) 0 0 (va_A [(nu, .inr (5, [.ref au, .int lu])), (au, .inl (cI, cap, .inl fu))] sz) := by
  refine Met.ofW (cc := cX2_encodeNumber) (maxL := 6) (ret := (some .boolean)) (by decide) rfl ?_
  intro p e s m args below meth c s₁ B hml hv
  obtain ⟨rfl, hsz, hP, hK, hD0⟩ := hv
  have hx := B.exec
  have hb := B.bytes
  have hr := B.returns
  have hts := atoms_spec (ws := wsX2_encodeNumber) B.pre
  have hown : s.vm.findClass RX2 = some m.cls := findClass_of_methodNamed B.named
  have hlocks := B.notSynchronized
  subst hsz
  have hD := hD0.self (sz := s.heap.size)
  generalize hAe : va_A [(nu, .inr (5, [.ref au, .int lu])), (au, .inl (cI, cap, .inl fu))] s.heap.size = A at hD ⊢
  have hA : ∀ q : Nat, s.heap.size ≤ q → A q := fun q h => by rw [← hAe]; exact Or.inr h
  have hS : va_S A s.heap s.heap [] := va_S.rf
  have hP : va_P (dC, dI) vwCl [(nu, .inr (5, [.ref au, .int lu])), (au, .inl (cI, cap, .inl fu))] s.heap := hP
  have hl := lv_entry ([.int le, .ref nu]) (n := 6) (Nat.le_of_ble_eq_true rfl)
  rw [lg_entry_eq]
  generalize (lg_sl ([.int le, .ref nu]) ++ List.replicate (6 - (lg_sl ([.int le, .ref nu])).length) Slot.unset).toArray = ls at hl ⊢
  have hl : lv_has ls 6 [(0, .int le), (1, .ref nu)] := hl
  obtain ⟨QQ, hQQ⟩ : ∃ QQ : Array Value → State → Outcome → State → Prop, QQ = va_Qi (fun (r : Int32) (u : Int32) => r = u) (fun (r : Int32) t => ∃ (lu' : Int32) (fu' : Nat → Int32), va_P (dC, dI) vwCl [(nu, .inr (5, [.ref au, .int lu'])), (au, .inl (cI, cap, .inl fu'))] t.heap ∧ va_D A [(nu, .inr (5, [.ref au, .int lu'])), (au, .inl (cI, cap, .inl fu'))] ∧ (0 ≤ lu'.toInt ∧ lu'.toInt ≤ (cap : Int)) ∧ (0 ≤ r.toInt ∧ r.toInt ≤ 1) ∧ (F_en r 3 le (-1) lu lu' fu fu')) A := ⟨_, rfl⟩
  rw [← hQQ]
  have z2 : (2 : Int32).toInt = 2 := rfl
  have z3 : (3 : Int32).toInt = 3 := rfl
  have z35 : (35 : Int32).toInt = 35 := rfl
  have z38 : (38 : Int32).toInt = 38 := rfl
  have z59 : (59 : Int32).toInt = 59 := rfl
  refine lv_aload_n hx hb dX2_encodeNumber_0 rfl (lv_at hl 1 rfl) ?_
  refine lv_bipush (v := 38) hx hb dX2_encodeNumber_1 (by decide) ?_
  have hPc := hP.sub (ws' := [(nu, .inr (5, [.ref au, .int lu])), (au, .inl (cI, cap, .inl fu))]) [0, 1] rfl
  have hDc := hD.sub (ws' := [(nu, .inr (5, [.ref au, .int lu])), (au, .inl (cI, cap, .inl fu))]) [0, 1] (by decide +kernel) rfl
  have hFc := va_free (wc := [(nu, .inr (5, [.ref au, .int lu])), (au, .inl (cI, cap, .inl fu))]) hD hS hA [0, 1] rfl
  refine va_calli (va_runV (As := [.int 38]) (rest := []) ⟨hx, hb, hml, hown, hts⟩ (m_X5_add l dC dI cI cS s.heap.size nu au cap lu fu 38 (g_lu) (by omega)) (cwV 1 hts gX2_encodeNumber_X5_add rfl rfl rfl (by decide +kernel) ⟨Nat.le_of_ble_eq_true rfl, Nat.le_of_ble_eq_true rfl⟩) ⟨fun a U g mk q => by obtain ⟨q0, q1, qP, qK, qD⟩ := q; exact ⟨q0, q1, qP, va_K.moved (u := U) (U := U.calling g mk a) (Vm.Alike.refl U.vm) qK, qD⟩, va_recv hK hPc (ci := 5) (q0 := 0) rfl rfl, fun U hU hW => ⟨rfl, by rw [hU], by rw [hU]; exact hPc, va_K.moved hW.alike hK, hDc.weaken (fun _ _ _ _ => trivial)⟩⟩ rfl rfl hl.1 rfl (lv_room (Nat.le_of_ble_eq_true rfl)) dX2_encodeNumber_3 ⟨Nat.le_of_ble_eq_true rfl, Nat.le_of_ble_eq_true rfl⟩) hS (fun q _ h => hFc q h) hFc (fun r_1 u t H1 locs ht hvm hw hB hz1 hk1 hSn => ?_)
  subst hw
  obtain ⟨lu_1, fu_1, hP1, hD1, hf1_0, hf1_1, hf1_2⟩ := hB
  rw [ht] at hP1
  obtain ⟨hPn, hDn⟩ := va_join (wr := []) (w1 := [(nu, .inr (5, [.ref au, .int lu_1])), (au, .inl (cI, cap, .inl fu_1))]) hP hD [0, 1] [] rfl rfl (by decide +kernel) (by decide +kernel) hk1 hFc hP1 hD1
  clear hP hD hS hPc hDc hFc hk1 hz1 hvm ht hP1 hD1
  generalize H1 = H at hPn hSn ⊢
  have hP : va_P (dC, dI) vwCl [(nu, .inr (5, [.ref au, .int lu_1])), (au, .inl (cI, cap, .inl fu_1))] H := hPn
  have hD : va_D A [(nu, .inr (5, [.ref au, .int lu_1])), (au, .inl (cI, cap, .inl fu_1))] := hDn
  have hS := hSn
  clear hPn hDn hSn
  have ha1 : lu_1.toInt = lu.toInt + 1 := F_add_l hf1_2 (by omega)
  have hr1 : r_1.toInt = 1 := F_add_r hf1_2 (by omega)
  have hap1 : AP lu lu_1 fu fu_1 [(38 : Int32).toInt] := AP_s (AP_0 (l := lu) (f := fu)) (by omega) hf1_2 (by omega)
  refine lv_if_eq (tgt := 22) hx hb dX2_encodeNumber_6 (by decide) (fun c_2 => by exfalso; have tc_2 : r_1.toInt = 0 := v_eq c_2; omega) (fun c_2 => ?_)
  have tc_2 : ¬ r_1.toInt = 0 := v_ne c_2
  refine lv_aload_n hx hb dX2_encodeNumber_9 rfl (lv_at hl 1 rfl) ?_
  refine lv_bipush (v := 35) hx hb dX2_encodeNumber_10 (by decide) ?_
  have hPc := hP.sub (ws' := [(nu, .inr (5, [.ref au, .int lu_1])), (au, .inl (cI, cap, .inl fu_1))]) [0, 1] rfl
  have hDc := hD.sub (ws' := [(nu, .inr (5, [.ref au, .int lu_1])), (au, .inl (cI, cap, .inl fu_1))]) [0, 1] (by decide +kernel) rfl
  have hFc := va_free (wc := [(nu, .inr (5, [.ref au, .int lu_1])), (au, .inl (cI, cap, .inl fu_1))]) hD hS hA [0, 1] rfl
  refine va_calli (va_runV (As := [.int 35]) (rest := []) ⟨hx, hb, hml, hown, hts⟩ (m_X5_add l dC dI cI cS H.size nu au cap lu_1 fu_1 35 (hf1_0) (by omega)) (cwV 1 hts gX2_encodeNumber_X5_add rfl rfl rfl (by decide +kernel) ⟨Nat.le_of_ble_eq_true rfl, Nat.le_of_ble_eq_true rfl⟩) ⟨fun a U g mk q => by obtain ⟨q0, q1, qP, qK, qD⟩ := q; exact ⟨q0, q1, qP, va_K.moved (u := U) (U := U.calling g mk a) (Vm.Alike.refl U.vm) qK, qD⟩, va_recv hK hPc (ci := 5) (q0 := 0) rfl rfl, fun U hU hW => ⟨rfl, by rw [hU], by rw [hU]; exact hPc, va_K.moved hW.alike hK, hDc.weaken (fun _ _ _ _ => trivial)⟩⟩ rfl rfl hl.1 rfl (lv_room (Nat.le_of_ble_eq_true rfl)) dX2_encodeNumber_12 ⟨Nat.le_of_ble_eq_true rfl, Nat.le_of_ble_eq_true rfl⟩) hS (fun q _ h => hFc q h) hFc (fun r_3 u t H1 locs ht hvm hw hB hz1 hk1 hSn => ?_)
  subst hw
  obtain ⟨lu_3, fu_3, hP1, hD1, hf3_0, hf3_1, hf3_2⟩ := hB
  rw [ht] at hP1
  obtain ⟨hPn, hDn⟩ := va_join (wr := []) (w1 := [(nu, .inr (5, [.ref au, .int lu_3])), (au, .inl (cI, cap, .inl fu_3))]) hP hD [0, 1] [] rfl rfl (by decide +kernel) (by decide +kernel) hk1 hFc hP1 hD1
  clear hP hD hS hPc hDc hFc hk1 hz1 hvm ht hP1 hD1
  generalize H1 = H at hPn hSn ⊢
  have hP : va_P (dC, dI) vwCl [(nu, .inr (5, [.ref au, .int lu_3])), (au, .inl (cI, cap, .inl fu_3))] H := hPn
  have hD : va_D A [(nu, .inr (5, [.ref au, .int lu_3])), (au, .inl (cI, cap, .inl fu_3))] := hDn
  have hS := hSn
  clear hPn hDn hSn
  have ha3 : lu_3.toInt = lu_1.toInt + 1 := F_add_l hf3_2 (by omega)
  have hr3 : r_3.toInt = 1 := F_add_r hf3_2 (by omega)
  have hap3 : AP lu lu_3 fu fu_3 [(38 : Int32).toInt, (35 : Int32).toInt] := AP_s hap1 (by omega) hf3_2 (by omega)
  refine lv_if_eq (tgt := 22) hx hb dX2_encodeNumber_15 (by decide) (fun c_4 => by exfalso; have tc_4 : r_3.toInt = 0 := v_eq c_4; omega) (fun c_4 => ?_)
  have tc_4 : ¬ r_3.toInt = 0 := v_ne c_4
  refine lv_iconst (v := 1) hx hb dX2_encodeNumber_18 (by decide) ?_
  refine lv_goto (tgt := 23) hx hb dX2_encodeNumber_19 (by decide) ?_
  refine lv_istore_n (lv' := [(2, .int 1), (0, .int le), (1, .ref nu)]) hx hb dX2_encodeNumber_23 rfl hl (by decide) rfl (fun ls hl => ?_)
  refine lv_iconst (v := 0) hx hb dX2_encodeNumber_24 (by decide) ?_
  refine lv_istore_n (lv' := [(3, .int 0), (2, .int 1), (0, .int le), (1, .ref nu)]) hx hb dX2_encodeNumber_25 rfl hl (by decide) rfl (fun ls hl => ?_)
  refine lv_sipush (v := 10000) hx hb dX2_encodeNumber_26 (by decide) ?_
  refine lv_istore (lv' := [(4, .int 10000), (3, .int 0), (2, .int 1), (0, .int le), (1, .ref nu)]) hx hb dX2_encodeNumber_29 hl (by decide) rfl (fun ls hl => ?_)
  refine lv_iload hx hb dX2_encodeNumber_31 (lv_at hl 0 rfl) ?_
  refine lv_if_le (tgt := 96) hx hb dX2_encodeNumber_33 (by decide) (fun c_5 => absurd c_5 (by decide)) (fun c_5 => ?_)
  refine lv_iload_n hx hb dX2_encodeNumber_36 rfl (lv_at hl 3 rfl) ?_
  refine lv_iload hx hb dX2_encodeNumber_37 (lv_at hl 0 rfl) ?_
  refine lv_idiv hx hb dX2_encodeNumber_39 (by decide) ?_
  refine lv_topi (fun x_6 ex_6 => ?_)
  have tx_6 : x_6.toInt = le.toInt / 10000 := v_div ex_6 (by omega) (by decide)
  refine lv_bipush (v := 10) hx hb dX2_encodeNumber_40 (by decide) ?_
  refine lv_irem hx hb dX2_encodeNumber_42 (by decide) ?_
  refine lv_topi (fun x_7 ex_7 => ?_)
  have tx_7 : x_7.toInt = x_6.toInt % 10 := v_rem ex_7 (by omega) (by decide)
  refine lv_istore (lv' := [(5, .int x_7), (4, .int 10000), (3, .int 0), (2, .int 1), (0, .int le), (1, .ref nu)]) hx hb dX2_encodeNumber_43 hl (by decide) rfl (fun ls hl => ?_)
  refine lv_iload_n hx hb dX2_encodeNumber_45 rfl (lv_at hl 2 rfl) ?_
  refine lv_if_ne (tgt := 54) hx hb dX2_encodeNumber_46 (by decide) (fun c_8 => absurd c_8 (by decide)) (fun c_8 => ?_)
  refine lv_iload hx hb dX2_encodeNumber_49 (lv_at hl 0 rfl) ?_
  refine lv_if_eq (tgt := 58) hx hb dX2_encodeNumber_51 (by decide) (fun c_9 => ?_) (fun c_9 => ?_)
  · have tc_9 : x_7.toInt = 0 := v_eq c_9
    refine lv_iconst (v := 0) hx hb dX2_encodeNumber_58 (by decide) ?_
    refine lv_istore_n (lv' := [(3, .int 0), (5, .int x_7), (4, .int 10000), (2, .int 1), (0, .int le), (1, .ref nu)]) hx hb dX2_encodeNumber_59 rfl hl (by decide) rfl (fun ls hl => ?_)
    refine lv_iload_n hx hb dX2_encodeNumber_60 rfl (lv_at hl 0 rfl) ?_
    refine lv_if_eq (tgt := 86) hx hb dX2_encodeNumber_61 (by decide) (fun c_10 => ?_) (fun c_10 => absurd c_10 (by decide))
    refine lv_iload hx hb dX2_encodeNumber_86 (lv_at hl 2 rfl) ?_
    refine lv_bipush (v := 10) hx hb dX2_encodeNumber_88 (by decide) ?_
    refine lv_idiv hx hb dX2_encodeNumber_90 (by decide) ?_
    refine k_i (y := 1000) (by decide) ?_
    refine lv_istore (lv' := [(4, .int 1000), (3, .int 0), (5, .int x_7), (2, .int 1), (0, .int le), (1, .ref nu)]) hx hb dX2_encodeNumber_91 hl (by decide) rfl (fun ls hl => ?_)
    refine lv_goto (tgt := 31) hx hb dX2_encodeNumber_93 (by decide) ?_
    refine lv_iload hx hb dX2_encodeNumber_31 (lv_at hl 0 rfl) ?_
    refine lv_if_le (tgt := 96) hx hb dX2_encodeNumber_33 (by decide) (fun c_11 => absurd c_11 (by decide)) (fun c_11 => ?_)
    refine lv_iload_n hx hb dX2_encodeNumber_36 rfl (lv_at hl 4 rfl) ?_
    refine lv_iload hx hb dX2_encodeNumber_37 (lv_at hl 0 rfl) ?_
    refine lv_idiv hx hb dX2_encodeNumber_39 (by decide) ?_
    refine lv_topi (fun x_12 ex_12 => ?_)
    have tx_12 : x_12.toInt = le.toInt / 1000 := v_div ex_12 (by omega) (by decide)
    refine lv_bipush (v := 10) hx hb dX2_encodeNumber_40 (by decide) ?_
    refine lv_irem hx hb dX2_encodeNumber_42 (by decide) ?_
    refine lv_topi (fun x_13 ex_13 => ?_)
    have tx_13 : x_13.toInt = x_12.toInt % 10 := v_rem ex_13 (by omega) (by decide)
    refine lv_istore (lv' := [(5, .int x_13), (4, .int 1000), (3, .int 0), (2, .int 1), (0, .int le), (1, .ref nu)]) hx hb dX2_encodeNumber_43 hl (by decide) rfl (fun ls hl => ?_)
    refine lv_iload_n hx hb dX2_encodeNumber_45 rfl (lv_at hl 2 rfl) ?_
    refine lv_if_ne (tgt := 54) hx hb dX2_encodeNumber_46 (by decide) (fun c_14 => absurd c_14 (by decide)) (fun c_14 => ?_)
    refine lv_iload hx hb dX2_encodeNumber_49 (lv_at hl 0 rfl) ?_
    refine lv_if_eq (tgt := 58) hx hb dX2_encodeNumber_51 (by decide) (fun c_15 => ?_) (fun c_15 => ?_)
    · have tc_15 : x_13.toInt = 0 := v_eq c_15
      refine lv_iconst (v := 0) hx hb dX2_encodeNumber_58 (by decide) ?_
      refine lv_istore_n (lv' := [(3, .int 0), (5, .int x_13), (4, .int 1000), (2, .int 1), (0, .int le), (1, .ref nu)]) hx hb dX2_encodeNumber_59 rfl hl (by decide) rfl (fun ls hl => ?_)
      refine lv_iload_n hx hb dX2_encodeNumber_60 rfl (lv_at hl 0 rfl) ?_
      refine lv_if_eq (tgt := 86) hx hb dX2_encodeNumber_61 (by decide) (fun c_16 => ?_) (fun c_16 => absurd c_16 (by decide))
      refine lv_iload hx hb dX2_encodeNumber_86 (lv_at hl 2 rfl) ?_
      refine lv_bipush (v := 10) hx hb dX2_encodeNumber_88 (by decide) ?_
      refine lv_idiv hx hb dX2_encodeNumber_90 (by decide) ?_
      refine k_i (y := 100) (by decide) ?_
      refine lv_istore (lv' := [(4, .int 100), (3, .int 0), (5, .int x_13), (2, .int 1), (0, .int le), (1, .ref nu)]) hx hb dX2_encodeNumber_91 hl (by decide) rfl (fun ls hl => ?_)
      refine lv_goto (tgt := 31) hx hb dX2_encodeNumber_93 (by decide) ?_
      refine lv_iload hx hb dX2_encodeNumber_31 (lv_at hl 0 rfl) ?_
      refine lv_if_le (tgt := 96) hx hb dX2_encodeNumber_33 (by decide) (fun c_17 => absurd c_17 (by decide)) (fun c_17 => ?_)
      refine lv_iload_n hx hb dX2_encodeNumber_36 rfl (lv_at hl 4 rfl) ?_
      refine lv_iload hx hb dX2_encodeNumber_37 (lv_at hl 0 rfl) ?_
      refine lv_idiv hx hb dX2_encodeNumber_39 (by decide) ?_
      refine lv_topi (fun x_18 ex_18 => ?_)
      have tx_18 : x_18.toInt = le.toInt / 100 := v_div ex_18 (by omega) (by decide)
      refine lv_bipush (v := 10) hx hb dX2_encodeNumber_40 (by decide) ?_
      refine lv_irem hx hb dX2_encodeNumber_42 (by decide) ?_
      refine lv_topi (fun x_19 ex_19 => ?_)
      have tx_19 : x_19.toInt = x_18.toInt % 10 := v_rem ex_19 (by omega) (by decide)
      refine lv_istore (lv' := [(5, .int x_19), (4, .int 100), (3, .int 0), (2, .int 1), (0, .int le), (1, .ref nu)]) hx hb dX2_encodeNumber_43 hl (by decide) rfl (fun ls hl => ?_)
      refine lv_iload_n hx hb dX2_encodeNumber_45 rfl (lv_at hl 2 rfl) ?_
      refine lv_if_ne (tgt := 54) hx hb dX2_encodeNumber_46 (by decide) (fun c_20 => absurd c_20 (by decide)) (fun c_20 => ?_)
      refine lv_iload hx hb dX2_encodeNumber_49 (lv_at hl 0 rfl) ?_
      refine lv_if_eq (tgt := 58) hx hb dX2_encodeNumber_51 (by decide) (fun c_21 => ?_) (fun c_21 => ?_)
      · have tc_21 : x_19.toInt = 0 := v_eq c_21
        refine lv_iconst (v := 0) hx hb dX2_encodeNumber_58 (by decide) ?_
        refine lv_istore_n (lv' := [(3, .int 0), (5, .int x_19), (4, .int 100), (2, .int 1), (0, .int le), (1, .ref nu)]) hx hb dX2_encodeNumber_59 rfl hl (by decide) rfl (fun ls hl => ?_)
        refine lv_iload_n hx hb dX2_encodeNumber_60 rfl (lv_at hl 0 rfl) ?_
        refine lv_if_eq (tgt := 86) hx hb dX2_encodeNumber_61 (by decide) (fun c_22 => ?_) (fun c_22 => absurd c_22 (by decide))
        refine lv_iload hx hb dX2_encodeNumber_86 (lv_at hl 2 rfl) ?_
        refine lv_bipush (v := 10) hx hb dX2_encodeNumber_88 (by decide) ?_
        refine lv_idiv hx hb dX2_encodeNumber_90 (by decide) ?_
        refine k_i (y := 10) (by decide) ?_
        refine lv_istore (lv' := [(4, .int 10), (3, .int 0), (5, .int x_19), (2, .int 1), (0, .int le), (1, .ref nu)]) hx hb dX2_encodeNumber_91 hl (by decide) rfl (fun ls hl => ?_)
        refine lv_goto (tgt := 31) hx hb dX2_encodeNumber_93 (by decide) ?_
        refine lv_iload hx hb dX2_encodeNumber_31 (lv_at hl 0 rfl) ?_
        refine lv_if_le (tgt := 96) hx hb dX2_encodeNumber_33 (by decide) (fun c_23 => absurd c_23 (by decide)) (fun c_23 => ?_)
        refine lv_iload_n hx hb dX2_encodeNumber_36 rfl (lv_at hl 4 rfl) ?_
        refine lv_iload hx hb dX2_encodeNumber_37 (lv_at hl 0 rfl) ?_
        refine lv_idiv hx hb dX2_encodeNumber_39 (by decide) ?_
        refine lv_topi (fun x_24 ex_24 => ?_)
        have tx_24 : x_24.toInt = le.toInt / 10 := v_div ex_24 (by omega) (by decide)
        refine lv_bipush (v := 10) hx hb dX2_encodeNumber_40 (by decide) ?_
        refine lv_irem hx hb dX2_encodeNumber_42 (by decide) ?_
        refine lv_topi (fun x_25 ex_25 => ?_)
        have tx_25 : x_25.toInt = x_24.toInt % 10 := v_rem ex_25 (by omega) (by decide)
        refine lv_istore (lv' := [(5, .int x_25), (4, .int 10), (3, .int 0), (2, .int 1), (0, .int le), (1, .ref nu)]) hx hb dX2_encodeNumber_43 hl (by decide) rfl (fun ls hl => ?_)
        refine lv_iload_n hx hb dX2_encodeNumber_45 rfl (lv_at hl 2 rfl) ?_
        refine lv_if_ne (tgt := 54) hx hb dX2_encodeNumber_46 (by decide) (fun c_26 => absurd c_26 (by decide)) (fun c_26 => ?_)
        refine lv_iload hx hb dX2_encodeNumber_49 (lv_at hl 0 rfl) ?_
        refine lv_if_eq (tgt := 58) hx hb dX2_encodeNumber_51 (by decide) (fun c_27 => ?_) (fun c_27 => ?_)
        · have tc_27 : x_25.toInt = 0 := v_eq c_27
          refine lv_iconst (v := 0) hx hb dX2_encodeNumber_58 (by decide) ?_
          refine lv_istore_n (lv' := [(3, .int 0), (5, .int x_25), (4, .int 10), (2, .int 1), (0, .int le), (1, .ref nu)]) hx hb dX2_encodeNumber_59 rfl hl (by decide) rfl (fun ls hl => ?_)
          refine lv_iload_n hx hb dX2_encodeNumber_60 rfl (lv_at hl 0 rfl) ?_
          refine lv_if_eq (tgt := 86) hx hb dX2_encodeNumber_61 (by decide) (fun c_28 => ?_) (fun c_28 => absurd c_28 (by decide))
          refine lv_iload hx hb dX2_encodeNumber_86 (lv_at hl 2 rfl) ?_
          refine lv_bipush (v := 10) hx hb dX2_encodeNumber_88 (by decide) ?_
          refine lv_idiv hx hb dX2_encodeNumber_90 (by decide) ?_
          refine k_i (y := 1) (by decide) ?_
          refine lv_istore (lv' := [(4, .int 1), (3, .int 0), (5, .int x_25), (2, .int 1), (0, .int le), (1, .ref nu)]) hx hb dX2_encodeNumber_91 hl (by decide) rfl (fun ls hl => ?_)
          refine lv_goto (tgt := 31) hx hb dX2_encodeNumber_93 (by decide) ?_
          refine lv_iload hx hb dX2_encodeNumber_31 (lv_at hl 0 rfl) ?_
          refine lv_if_le (tgt := 96) hx hb dX2_encodeNumber_33 (by decide) (fun c_29 => absurd c_29 (by decide)) (fun c_29 => ?_)
          refine lv_iload_n hx hb dX2_encodeNumber_36 rfl (lv_at hl 4 rfl) ?_
          refine lv_iload hx hb dX2_encodeNumber_37 (lv_at hl 0 rfl) ?_
          refine lv_idiv hx hb dX2_encodeNumber_39 (by decide) ?_
          refine lv_topi (fun x_30 ex_30 => ?_)
          have tx_30 : x_30.toInt = le.toInt / 1 := v_div ex_30 (by omega) (by decide)
          refine lv_bipush (v := 10) hx hb dX2_encodeNumber_40 (by decide) ?_
          refine lv_irem hx hb dX2_encodeNumber_42 (by decide) ?_
          refine lv_topi (fun x_31 ex_31 => ?_)
          have tx_31 : x_31.toInt = x_30.toInt % 10 := v_rem ex_31 (by omega) (by decide)
          refine lv_istore (lv' := [(5, .int x_31), (4, .int 1), (3, .int 0), (2, .int 1), (0, .int le), (1, .ref nu)]) hx hb dX2_encodeNumber_43 hl (by decide) rfl (fun ls hl => ?_)
          refine lv_iload_n hx hb dX2_encodeNumber_45 rfl (lv_at hl 2 rfl) ?_
          refine lv_if_ne (tgt := 54) hx hb dX2_encodeNumber_46 (by decide) (fun c_32 => absurd c_32 (by decide)) (fun c_32 => ?_)
          refine lv_iload hx hb dX2_encodeNumber_49 (lv_at hl 0 rfl) ?_
          refine lv_if_eq (tgt := 58) hx hb dX2_encodeNumber_51 (by decide) (fun c_33 => ?_) (fun c_33 => ?_)
          · have tc_33 : x_31.toInt = 0 := v_eq c_33
            refine lv_iconst (v := 0) hx hb dX2_encodeNumber_58 (by decide) ?_
            refine lv_istore_n (lv' := [(3, .int 0), (5, .int x_31), (4, .int 1), (2, .int 1), (0, .int le), (1, .ref nu)]) hx hb dX2_encodeNumber_59 rfl hl (by decide) rfl (fun ls hl => ?_)
            refine lv_iload_n hx hb dX2_encodeNumber_60 rfl (lv_at hl 0 rfl) ?_
            refine lv_if_eq (tgt := 86) hx hb dX2_encodeNumber_61 (by decide) (fun c_34 => ?_) (fun c_34 => absurd c_34 (by decide))
            refine lv_iload hx hb dX2_encodeNumber_86 (lv_at hl 2 rfl) ?_
            refine lv_bipush (v := 10) hx hb dX2_encodeNumber_88 (by decide) ?_
            refine lv_idiv hx hb dX2_encodeNumber_90 (by decide) ?_
            refine k_i (y := 0) (by decide) ?_
            refine lv_istore (lv' := [(4, .int 0), (3, .int 0), (5, .int x_31), (2, .int 1), (0, .int le), (1, .ref nu)]) hx hb dX2_encodeNumber_91 hl (by decide) rfl (fun ls hl => ?_)
            refine lv_goto (tgt := 31) hx hb dX2_encodeNumber_93 (by decide) ?_
            refine lv_iload hx hb dX2_encodeNumber_31 (lv_at hl 0 rfl) ?_
            refine lv_if_le (tgt := 96) hx hb dX2_encodeNumber_33 (by decide) (fun c_35 => ?_) (fun c_35 => absurd c_35 (by decide))
            refine lv_iload_n hx hb dX2_encodeNumber_96 rfl (lv_at hl 3 rfl) ?_
            refine lv_if_eq (tgt := 113) hx hb dX2_encodeNumber_97 (by decide) (fun c_36 => absurd c_36 (by decide)) (fun c_36 => ?_)
            refine lv_aload_n hx hb dX2_encodeNumber_100 rfl (lv_at hl 5 rfl) ?_
            refine lv_bipush (v := 59) hx hb dX2_encodeNumber_101 (by decide) ?_
            have hPc := hP.sub (ws' := [(nu, .inr (5, [.ref au, .int lu_3])), (au, .inl (cI, cap, .inl fu_3))]) [0, 1] rfl
            have hDc := hD.sub (ws' := [(nu, .inr (5, [.ref au, .int lu_3])), (au, .inl (cI, cap, .inl fu_3))]) [0, 1] (by decide +kernel) rfl
            have hFc := va_free (wc := [(nu, .inr (5, [.ref au, .int lu_3])), (au, .inl (cI, cap, .inl fu_3))]) hD hS hA [0, 1] rfl
            refine va_calli (va_runV (As := [.int 59]) (rest := []) ⟨hx, hb, hml, hown, hts⟩ (m_X5_add l dC dI cI cS H.size nu au cap lu_3 fu_3 59 (hf3_0) (by omega)) (cwV 1 hts gX2_encodeNumber_X5_add rfl rfl rfl (by decide +kernel) ⟨Nat.le_of_ble_eq_true rfl, Nat.le_of_ble_eq_true rfl⟩) ⟨fun a U g mk q => by obtain ⟨q0, q1, qP, qK, qD⟩ := q; exact ⟨q0, q1, qP, va_K.moved (u := U) (U := U.calling g mk a) (Vm.Alike.refl U.vm) qK, qD⟩, va_recv hK hPc (ci := 5) (q0 := 0) rfl rfl, fun U hU hW => ⟨rfl, by rw [hU], by rw [hU]; exact hPc, va_K.moved hW.alike hK, hDc.weaken (fun _ _ _ _ => trivial)⟩⟩ rfl rfl hl.1 rfl (lv_room (Nat.le_of_ble_eq_true rfl)) dX2_encodeNumber_103 ⟨Nat.le_of_ble_eq_true rfl, Nat.le_of_ble_eq_true rfl⟩) hS (fun q _ h => hFc q h) hFc (fun r_37 u t H1 locs ht hvm hw hB hz1 hk1 hSn => ?_)
            subst hw
            obtain ⟨lu_37, fu_37, hP1, hD1, hf37_0, hf37_1, hf37_2⟩ := hB
            rw [ht] at hP1
            obtain ⟨hPn, hDn⟩ := va_join (wr := []) (w1 := [(nu, .inr (5, [.ref au, .int lu_37])), (au, .inl (cI, cap, .inl fu_37))]) hP hD [0, 1] [] rfl rfl (by decide +kernel) (by decide +kernel) hk1 hFc hP1 hD1
            clear hP hD hS hPc hDc hFc hk1 hz1 hvm ht hP1 hD1
            generalize H1 = H at hPn hSn ⊢
            have hP : va_P (dC, dI) vwCl [(nu, .inr (5, [.ref au, .int lu_37])), (au, .inl (cI, cap, .inl fu_37))] H := hPn
            have hD : va_D A [(nu, .inr (5, [.ref au, .int lu_37])), (au, .inl (cI, cap, .inl fu_37))] := hDn
            have hS := hSn
            clear hPn hDn hSn
            have ha37 : lu_37.toInt = lu_3.toInt + 1 := F_add_l hf37_2 (by omega)
            have hr37 : r_37.toInt = 1 := F_add_r hf37_2 (by omega)
            have hap37 : AP lu lu_37 fu fu_37 [(38 : Int32).toInt, (35 : Int32).toInt, (59 : Int32).toInt] := AP_s hap3 (by omega) hf37_2 (by omega)
            refine lv_if_eq (tgt := 113) hx hb dX2_encodeNumber_106 (by decide) (fun c_38 => by exfalso; have tc_38 : r_37.toInt = 0 := v_eq c_38; omega) (fun c_38 => ?_)
            have tc_38 : ¬ r_37.toInt = 0 := v_ne c_38
            refine lv_iconst (v := 1) hx hb dX2_encodeNumber_109 (by decide) ?_
            refine lv_goto (tgt := 114) hx hb dX2_encodeNumber_110 (by decide) ?_
            have hP9 := hP.sub (ws' := [(nu, .inr (5, [.ref au, .int lu_37])), (au, .inl (cI, cap, .inl fu_37))]) [0, 1] rfl
            have hD9 := hD.sub (ws' := [(nu, .inr (5, [.ref au, .int lu_37])), (au, .inl (cI, cap, .inl fu_37))]) [0, 1] (by decide +kernel) rfl
            rw [hQQ]
            exact W.zret (v := 1) (ty := .boolean) hx hb hr (rfl) (fun t ht hW => ⟨⟨1, 1, rfl, rfl, ⟨lu_37, fu_37, by rw [ht]; exact hP9, hD9, hf37_0, by decide, F_en_y (by first | omega | rfl) hap37 (by first | (unfold enc; (repeat (first | rw [if_pos (by omega)] | rw [if_neg (by omega)])); unfold encN; (repeat (first | rw [if_pos (by omega)] | rw [if_neg (by omega)])) <;> exact L3 (by first | omega | rfl) (by first | omega | rfl) (by first | omega | rfl)) | (exfalso; omega))⟩⟩, hS.F ht⟩) hS.2.2 dX2_encodeNumber_114
          · have tc_33 : ¬ x_31.toInt = 0 := v_ne c_33
            refine lv_iconst (v := 1) hx hb dX2_encodeNumber_54 (by decide) ?_
            refine lv_goto (tgt := 59) hx hb dX2_encodeNumber_55 (by decide) ?_
            refine lv_istore_n (lv' := [(3, .int 1), (5, .int x_31), (4, .int 1), (2, .int 1), (0, .int le), (1, .ref nu)]) hx hb dX2_encodeNumber_59 rfl hl (by decide) rfl (fun ls hl => ?_)
            refine lv_iload_n hx hb dX2_encodeNumber_60 rfl (lv_at hl 0 rfl) ?_
            refine lv_if_eq (tgt := 86) hx hb dX2_encodeNumber_61 (by decide) (fun c_39 => absurd c_39 (by decide)) (fun c_39 => ?_)
            refine lv_iload_n hx hb dX2_encodeNumber_64 rfl (lv_at hl 3 rfl) ?_
            refine lv_if_eq (tgt := 84) hx hb dX2_encodeNumber_65 (by decide) (fun c_40 => absurd c_40 (by decide)) (fun c_40 => ?_)
            refine lv_aload_n hx hb dX2_encodeNumber_68 rfl (lv_at hl 5 rfl) ?_
            refine lv_bipush (v := 48) hx hb dX2_encodeNumber_69 (by decide) ?_
            refine lv_iload hx hb dX2_encodeNumber_71 (lv_at hl 1 rfl) ?_
            refine lv_iadd hx hb dX2_encodeNumber_73 ?_
            refine lv_topi (fun x_41 ex_41 => ?_)
            have tx_41 : x_41.toInt = 48 + x_31.toInt := v_add ex_41 (by show -2147483648 ≤ 48 + x_31.toInt; omega) (by show 48 + x_31.toInt < 2147483648; omega)
            have hPc := hP.sub (ws' := [(nu, .inr (5, [.ref au, .int lu_3])), (au, .inl (cI, cap, .inl fu_3))]) [0, 1] rfl
            have hDc := hD.sub (ws' := [(nu, .inr (5, [.ref au, .int lu_3])), (au, .inl (cI, cap, .inl fu_3))]) [0, 1] (by decide +kernel) rfl
            have hFc := va_free (wc := [(nu, .inr (5, [.ref au, .int lu_3])), (au, .inl (cI, cap, .inl fu_3))]) hD hS hA [0, 1] rfl
            refine va_calli (va_runV (As := [.int x_41]) (rest := []) ⟨hx, hb, hml, hown, hts⟩ (m_X5_add l dC dI cI cS H.size nu au cap lu_3 fu_3 x_41 (hf3_0) (by omega)) (cwV 1 hts gX2_encodeNumber_X5_add rfl rfl rfl (by decide +kernel) ⟨Nat.le_of_ble_eq_true rfl, Nat.le_of_ble_eq_true rfl⟩) ⟨fun a U g mk q => by obtain ⟨q0, q1, qP, qK, qD⟩ := q; exact ⟨q0, q1, qP, va_K.moved (u := U) (U := U.calling g mk a) (Vm.Alike.refl U.vm) qK, qD⟩, va_recv hK hPc (ci := 5) (q0 := 0) rfl rfl, fun U hU hW => ⟨rfl, by rw [hU], by rw [hU]; exact hPc, va_K.moved hW.alike hK, hDc.weaken (fun _ _ _ _ => trivial)⟩⟩ rfl rfl hl.1 rfl (lv_room (Nat.le_of_ble_eq_true rfl)) dX2_encodeNumber_74 ⟨Nat.le_of_ble_eq_true rfl, Nat.le_of_ble_eq_true rfl⟩) hS (fun q _ h => hFc q h) hFc (fun r_42 u t H1 locs ht hvm hw hB hz1 hk1 hSn => ?_)
            subst hw
            obtain ⟨lu_42, fu_42, hP1, hD1, hf42_0, hf42_1, hf42_2⟩ := hB
            rw [ht] at hP1
            obtain ⟨hPn, hDn⟩ := va_join (wr := []) (w1 := [(nu, .inr (5, [.ref au, .int lu_42])), (au, .inl (cI, cap, .inl fu_42))]) hP hD [0, 1] [] rfl rfl (by decide +kernel) (by decide +kernel) hk1 hFc hP1 hD1
            clear hP hD hS hPc hDc hFc hk1 hz1 hvm ht hP1 hD1
            generalize H1 = H at hPn hSn ⊢
            have hP : va_P (dC, dI) vwCl [(nu, .inr (5, [.ref au, .int lu_42])), (au, .inl (cI, cap, .inl fu_42))] H := hPn
            have hD : va_D A [(nu, .inr (5, [.ref au, .int lu_42])), (au, .inl (cI, cap, .inl fu_42))] := hDn
            have hS := hSn
            clear hPn hDn hSn
            have ha42 : lu_42.toInt = lu_3.toInt + 1 := F_add_l hf42_2 (by omega)
            have hr42 : r_42.toInt = 1 := F_add_r hf42_2 (by omega)
            have hap42 : AP lu lu_42 fu fu_42 [(38 : Int32).toInt, (35 : Int32).toInt, (x_41 : Int32).toInt] := AP_s hap3 (by omega) hf42_2 (by omega)
            refine lv_if_eq (tgt := 84) hx hb dX2_encodeNumber_77 (by decide) (fun c_43 => by exfalso; have tc_43 : r_42.toInt = 0 := v_eq c_43; omega) (fun c_43 => ?_)
            have tc_43 : ¬ r_42.toInt = 0 := v_ne c_43
            refine lv_iconst (v := 1) hx hb dX2_encodeNumber_80 (by decide) ?_
            refine lv_goto (tgt := 85) hx hb dX2_encodeNumber_81 (by decide) ?_
            refine lv_istore_n (lv' := [(2, .int 1), (3, .int 1), (5, .int x_31), (4, .int 1), (0, .int le), (1, .ref nu)]) hx hb dX2_encodeNumber_85 rfl hl (by decide) rfl (fun ls hl => ?_)
            refine lv_iload hx hb dX2_encodeNumber_86 (lv_at hl 3 rfl) ?_
            refine lv_bipush (v := 10) hx hb dX2_encodeNumber_88 (by decide) ?_
            refine lv_idiv hx hb dX2_encodeNumber_90 (by decide) ?_
            refine k_i (y := 0) (by decide) ?_
            refine lv_istore (lv' := [(4, .int 0), (2, .int 1), (3, .int 1), (5, .int x_31), (0, .int le), (1, .ref nu)]) hx hb dX2_encodeNumber_91 hl (by decide) rfl (fun ls hl => ?_)
            refine lv_goto (tgt := 31) hx hb dX2_encodeNumber_93 (by decide) ?_
            refine lv_iload hx hb dX2_encodeNumber_31 (lv_at hl 0 rfl) ?_
            refine lv_if_le (tgt := 96) hx hb dX2_encodeNumber_33 (by decide) (fun c_44 => ?_) (fun c_44 => absurd c_44 (by decide))
            refine lv_iload_n hx hb dX2_encodeNumber_96 rfl (lv_at hl 1 rfl) ?_
            refine lv_if_eq (tgt := 113) hx hb dX2_encodeNumber_97 (by decide) (fun c_45 => absurd c_45 (by decide)) (fun c_45 => ?_)
            refine lv_aload_n hx hb dX2_encodeNumber_100 rfl (lv_at hl 5 rfl) ?_
            refine lv_bipush (v := 59) hx hb dX2_encodeNumber_101 (by decide) ?_
            have hPc := hP.sub (ws' := [(nu, .inr (5, [.ref au, .int lu_42])), (au, .inl (cI, cap, .inl fu_42))]) [0, 1] rfl
            have hDc := hD.sub (ws' := [(nu, .inr (5, [.ref au, .int lu_42])), (au, .inl (cI, cap, .inl fu_42))]) [0, 1] (by decide +kernel) rfl
            have hFc := va_free (wc := [(nu, .inr (5, [.ref au, .int lu_42])), (au, .inl (cI, cap, .inl fu_42))]) hD hS hA [0, 1] rfl
            refine va_calli (va_runV (As := [.int 59]) (rest := []) ⟨hx, hb, hml, hown, hts⟩ (m_X5_add l dC dI cI cS H.size nu au cap lu_42 fu_42 59 (hf42_0) (by omega)) (cwV 1 hts gX2_encodeNumber_X5_add rfl rfl rfl (by decide +kernel) ⟨Nat.le_of_ble_eq_true rfl, Nat.le_of_ble_eq_true rfl⟩) ⟨fun a U g mk q => by obtain ⟨q0, q1, qP, qK, qD⟩ := q; exact ⟨q0, q1, qP, va_K.moved (u := U) (U := U.calling g mk a) (Vm.Alike.refl U.vm) qK, qD⟩, va_recv hK hPc (ci := 5) (q0 := 0) rfl rfl, fun U hU hW => ⟨rfl, by rw [hU], by rw [hU]; exact hPc, va_K.moved hW.alike hK, hDc.weaken (fun _ _ _ _ => trivial)⟩⟩ rfl rfl hl.1 rfl (lv_room (Nat.le_of_ble_eq_true rfl)) dX2_encodeNumber_103 ⟨Nat.le_of_ble_eq_true rfl, Nat.le_of_ble_eq_true rfl⟩) hS (fun q _ h => hFc q h) hFc (fun r_46 u t H1 locs ht hvm hw hB hz1 hk1 hSn => ?_)
            subst hw
            obtain ⟨lu_46, fu_46, hP1, hD1, hf46_0, hf46_1, hf46_2⟩ := hB
            rw [ht] at hP1
            obtain ⟨hPn, hDn⟩ := va_join (wr := []) (w1 := [(nu, .inr (5, [.ref au, .int lu_46])), (au, .inl (cI, cap, .inl fu_46))]) hP hD [0, 1] [] rfl rfl (by decide +kernel) (by decide +kernel) hk1 hFc hP1 hD1
            clear hP hD hS hPc hDc hFc hk1 hz1 hvm ht hP1 hD1
            generalize H1 = H at hPn hSn ⊢
            have hP : va_P (dC, dI) vwCl [(nu, .inr (5, [.ref au, .int lu_46])), (au, .inl (cI, cap, .inl fu_46))] H := hPn
            have hD : va_D A [(nu, .inr (5, [.ref au, .int lu_46])), (au, .inl (cI, cap, .inl fu_46))] := hDn
            have hS := hSn
            clear hPn hDn hSn
            have ha46 : lu_46.toInt = lu_42.toInt + 1 := F_add_l hf46_2 (by omega)
            have hr46 : r_46.toInt = 1 := F_add_r hf46_2 (by omega)
            have hap46 : AP lu lu_46 fu fu_46 [(38 : Int32).toInt, (35 : Int32).toInt, (x_41 : Int32).toInt, (59 : Int32).toInt] := AP_s hap42 (by omega) hf46_2 (by omega)
            refine lv_if_eq (tgt := 113) hx hb dX2_encodeNumber_106 (by decide) (fun c_47 => by exfalso; have tc_47 : r_46.toInt = 0 := v_eq c_47; omega) (fun c_47 => ?_)
            have tc_47 : ¬ r_46.toInt = 0 := v_ne c_47
            refine lv_iconst (v := 1) hx hb dX2_encodeNumber_109 (by decide) ?_
            refine lv_goto (tgt := 114) hx hb dX2_encodeNumber_110 (by decide) ?_
            have hP9 := hP.sub (ws' := [(nu, .inr (5, [.ref au, .int lu_46])), (au, .inl (cI, cap, .inl fu_46))]) [0, 1] rfl
            have hD9 := hD.sub (ws' := [(nu, .inr (5, [.ref au, .int lu_46])), (au, .inl (cI, cap, .inl fu_46))]) [0, 1] (by decide +kernel) rfl
            rw [hQQ]
            exact W.zret (v := 1) (ty := .boolean) hx hb hr (rfl) (fun t ht hW => ⟨⟨1, 1, rfl, rfl, ⟨lu_46, fu_46, by rw [ht]; exact hP9, hD9, hf46_0, by decide, F_en_y (by first | omega | rfl) hap46 (by first | (unfold enc; (repeat (first | rw [if_pos (by omega)] | rw [if_neg (by omega)])); unfold encN; (repeat (first | rw [if_pos (by omega)] | rw [if_neg (by omega)])) <;> exact L4 (by first | omega | rfl) (by first | omega | rfl) (by first | omega | rfl) (by first | omega | rfl)) | (exfalso; omega))⟩⟩, hS.F ht⟩) hS.2.2 dX2_encodeNumber_114
        · have tc_27 : ¬ x_25.toInt = 0 := v_ne c_27
          refine lv_iconst (v := 1) hx hb dX2_encodeNumber_54 (by decide) ?_
          refine lv_goto (tgt := 59) hx hb dX2_encodeNumber_55 (by decide) ?_
          refine lv_istore_n (lv' := [(3, .int 1), (5, .int x_25), (4, .int 10), (2, .int 1), (0, .int le), (1, .ref nu)]) hx hb dX2_encodeNumber_59 rfl hl (by decide) rfl (fun ls hl => ?_)
          refine lv_iload_n hx hb dX2_encodeNumber_60 rfl (lv_at hl 0 rfl) ?_
          refine lv_if_eq (tgt := 86) hx hb dX2_encodeNumber_61 (by decide) (fun c_48 => absurd c_48 (by decide)) (fun c_48 => ?_)
          refine lv_iload_n hx hb dX2_encodeNumber_64 rfl (lv_at hl 3 rfl) ?_
          refine lv_if_eq (tgt := 84) hx hb dX2_encodeNumber_65 (by decide) (fun c_49 => absurd c_49 (by decide)) (fun c_49 => ?_)
          refine lv_aload_n hx hb dX2_encodeNumber_68 rfl (lv_at hl 5 rfl) ?_
          refine lv_bipush (v := 48) hx hb dX2_encodeNumber_69 (by decide) ?_
          refine lv_iload hx hb dX2_encodeNumber_71 (lv_at hl 1 rfl) ?_
          refine lv_iadd hx hb dX2_encodeNumber_73 ?_
          refine lv_topi (fun x_50 ex_50 => ?_)
          have tx_50 : x_50.toInt = 48 + x_25.toInt := v_add ex_50 (by show -2147483648 ≤ 48 + x_25.toInt; omega) (by show 48 + x_25.toInt < 2147483648; omega)
          have hPc := hP.sub (ws' := [(nu, .inr (5, [.ref au, .int lu_3])), (au, .inl (cI, cap, .inl fu_3))]) [0, 1] rfl
          have hDc := hD.sub (ws' := [(nu, .inr (5, [.ref au, .int lu_3])), (au, .inl (cI, cap, .inl fu_3))]) [0, 1] (by decide +kernel) rfl
          have hFc := va_free (wc := [(nu, .inr (5, [.ref au, .int lu_3])), (au, .inl (cI, cap, .inl fu_3))]) hD hS hA [0, 1] rfl
          refine va_calli (va_runV (As := [.int x_50]) (rest := []) ⟨hx, hb, hml, hown, hts⟩ (m_X5_add l dC dI cI cS H.size nu au cap lu_3 fu_3 x_50 (hf3_0) (by omega)) (cwV 1 hts gX2_encodeNumber_X5_add rfl rfl rfl (by decide +kernel) ⟨Nat.le_of_ble_eq_true rfl, Nat.le_of_ble_eq_true rfl⟩) ⟨fun a U g mk q => by obtain ⟨q0, q1, qP, qK, qD⟩ := q; exact ⟨q0, q1, qP, va_K.moved (u := U) (U := U.calling g mk a) (Vm.Alike.refl U.vm) qK, qD⟩, va_recv hK hPc (ci := 5) (q0 := 0) rfl rfl, fun U hU hW => ⟨rfl, by rw [hU], by rw [hU]; exact hPc, va_K.moved hW.alike hK, hDc.weaken (fun _ _ _ _ => trivial)⟩⟩ rfl rfl hl.1 rfl (lv_room (Nat.le_of_ble_eq_true rfl)) dX2_encodeNumber_74 ⟨Nat.le_of_ble_eq_true rfl, Nat.le_of_ble_eq_true rfl⟩) hS (fun q _ h => hFc q h) hFc (fun r_51 u t H1 locs ht hvm hw hB hz1 hk1 hSn => ?_)
          subst hw
          obtain ⟨lu_51, fu_51, hP1, hD1, hf51_0, hf51_1, hf51_2⟩ := hB
          rw [ht] at hP1
          obtain ⟨hPn, hDn⟩ := va_join (wr := []) (w1 := [(nu, .inr (5, [.ref au, .int lu_51])), (au, .inl (cI, cap, .inl fu_51))]) hP hD [0, 1] [] rfl rfl (by decide +kernel) (by decide +kernel) hk1 hFc hP1 hD1
          clear hP hD hS hPc hDc hFc hk1 hz1 hvm ht hP1 hD1
          generalize H1 = H at hPn hSn ⊢
          have hP : va_P (dC, dI) vwCl [(nu, .inr (5, [.ref au, .int lu_51])), (au, .inl (cI, cap, .inl fu_51))] H := hPn
          have hD : va_D A [(nu, .inr (5, [.ref au, .int lu_51])), (au, .inl (cI, cap, .inl fu_51))] := hDn
          have hS := hSn
          clear hPn hDn hSn
          have ha51 : lu_51.toInt = lu_3.toInt + 1 := F_add_l hf51_2 (by omega)
          have hr51 : r_51.toInt = 1 := F_add_r hf51_2 (by omega)
          have hap51 : AP lu lu_51 fu fu_51 [(38 : Int32).toInt, (35 : Int32).toInt, (x_50 : Int32).toInt] := AP_s hap3 (by omega) hf51_2 (by omega)
          refine lv_if_eq (tgt := 84) hx hb dX2_encodeNumber_77 (by decide) (fun c_52 => by exfalso; have tc_52 : r_51.toInt = 0 := v_eq c_52; omega) (fun c_52 => ?_)
          have tc_52 : ¬ r_51.toInt = 0 := v_ne c_52
          refine lv_iconst (v := 1) hx hb dX2_encodeNumber_80 (by decide) ?_
          refine lv_goto (tgt := 85) hx hb dX2_encodeNumber_81 (by decide) ?_
          refine lv_istore_n (lv' := [(2, .int 1), (3, .int 1), (5, .int x_25), (4, .int 10), (0, .int le), (1, .ref nu)]) hx hb dX2_encodeNumber_85 rfl hl (by decide) rfl (fun ls hl => ?_)
          refine lv_iload hx hb dX2_encodeNumber_86 (lv_at hl 3 rfl) ?_
          refine lv_bipush (v := 10) hx hb dX2_encodeNumber_88 (by decide) ?_
          refine lv_idiv hx hb dX2_encodeNumber_90 (by decide) ?_
          refine k_i (y := 1) (by decide) ?_
          refine lv_istore (lv' := [(4, .int 1), (2, .int 1), (3, .int 1), (5, .int x_25), (0, .int le), (1, .ref nu)]) hx hb dX2_encodeNumber_91 hl (by decide) rfl (fun ls hl => ?_)
          refine lv_goto (tgt := 31) hx hb dX2_encodeNumber_93 (by decide) ?_
          refine lv_iload hx hb dX2_encodeNumber_31 (lv_at hl 0 rfl) ?_
          refine lv_if_le (tgt := 96) hx hb dX2_encodeNumber_33 (by decide) (fun c_53 => absurd c_53 (by decide)) (fun c_53 => ?_)
          refine lv_iload_n hx hb dX2_encodeNumber_36 rfl (lv_at hl 4 rfl) ?_
          refine lv_iload hx hb dX2_encodeNumber_37 (lv_at hl 0 rfl) ?_
          refine lv_idiv hx hb dX2_encodeNumber_39 (by decide) ?_
          refine lv_topi (fun x_54 ex_54 => ?_)
          have tx_54 : x_54.toInt = le.toInt / 1 := v_div ex_54 (by omega) (by decide)
          refine lv_bipush (v := 10) hx hb dX2_encodeNumber_40 (by decide) ?_
          refine lv_irem hx hb dX2_encodeNumber_42 (by decide) ?_
          refine lv_topi (fun x_55 ex_55 => ?_)
          have tx_55 : x_55.toInt = x_54.toInt % 10 := v_rem ex_55 (by omega) (by decide)
          refine lv_istore (lv' := [(5, .int x_55), (4, .int 1), (2, .int 1), (3, .int 1), (0, .int le), (1, .ref nu)]) hx hb dX2_encodeNumber_43 hl (by decide) rfl (fun ls hl => ?_)
          refine lv_iload_n hx hb dX2_encodeNumber_45 rfl (lv_at hl 3 rfl) ?_
          refine lv_if_ne (tgt := 54) hx hb dX2_encodeNumber_46 (by decide) (fun c_56 => ?_) (fun c_56 => absurd c_56 (by decide))
          refine lv_iconst (v := 1) hx hb dX2_encodeNumber_54 (by decide) ?_
          refine lv_goto (tgt := 59) hx hb dX2_encodeNumber_55 (by decide) ?_
          refine lv_istore_n (lv' := [(3, .int 1), (5, .int x_55), (4, .int 1), (2, .int 1), (0, .int le), (1, .ref nu)]) hx hb dX2_encodeNumber_59 rfl hl (by decide) rfl (fun ls hl => ?_)
          refine lv_iload_n hx hb dX2_encodeNumber_60 rfl (lv_at hl 0 rfl) ?_
          refine lv_if_eq (tgt := 86) hx hb dX2_encodeNumber_61 (by decide) (fun c_57 => absurd c_57 (by decide)) (fun c_57 => ?_)
          refine lv_iload_n hx hb dX2_encodeNumber_64 rfl (lv_at hl 3 rfl) ?_
          refine lv_if_eq (tgt := 84) hx hb dX2_encodeNumber_65 (by decide) (fun c_58 => absurd c_58 (by decide)) (fun c_58 => ?_)
          refine lv_aload_n hx hb dX2_encodeNumber_68 rfl (lv_at hl 5 rfl) ?_
          refine lv_bipush (v := 48) hx hb dX2_encodeNumber_69 (by decide) ?_
          refine lv_iload hx hb dX2_encodeNumber_71 (lv_at hl 1 rfl) ?_
          refine lv_iadd hx hb dX2_encodeNumber_73 ?_
          refine lv_topi (fun x_59 ex_59 => ?_)
          have tx_59 : x_59.toInt = 48 + x_55.toInt := v_add ex_59 (by show -2147483648 ≤ 48 + x_55.toInt; omega) (by show 48 + x_55.toInt < 2147483648; omega)
          have hPc := hP.sub (ws' := [(nu, .inr (5, [.ref au, .int lu_51])), (au, .inl (cI, cap, .inl fu_51))]) [0, 1] rfl
          have hDc := hD.sub (ws' := [(nu, .inr (5, [.ref au, .int lu_51])), (au, .inl (cI, cap, .inl fu_51))]) [0, 1] (by decide +kernel) rfl
          have hFc := va_free (wc := [(nu, .inr (5, [.ref au, .int lu_51])), (au, .inl (cI, cap, .inl fu_51))]) hD hS hA [0, 1] rfl
          refine va_calli (va_runV (As := [.int x_59]) (rest := []) ⟨hx, hb, hml, hown, hts⟩ (m_X5_add l dC dI cI cS H.size nu au cap lu_51 fu_51 x_59 (hf51_0) (by omega)) (cwV 1 hts gX2_encodeNumber_X5_add rfl rfl rfl (by decide +kernel) ⟨Nat.le_of_ble_eq_true rfl, Nat.le_of_ble_eq_true rfl⟩) ⟨fun a U g mk q => by obtain ⟨q0, q1, qP, qK, qD⟩ := q; exact ⟨q0, q1, qP, va_K.moved (u := U) (U := U.calling g mk a) (Vm.Alike.refl U.vm) qK, qD⟩, va_recv hK hPc (ci := 5) (q0 := 0) rfl rfl, fun U hU hW => ⟨rfl, by rw [hU], by rw [hU]; exact hPc, va_K.moved hW.alike hK, hDc.weaken (fun _ _ _ _ => trivial)⟩⟩ rfl rfl hl.1 rfl (lv_room (Nat.le_of_ble_eq_true rfl)) dX2_encodeNumber_74 ⟨Nat.le_of_ble_eq_true rfl, Nat.le_of_ble_eq_true rfl⟩) hS (fun q _ h => hFc q h) hFc (fun r_60 u t H1 locs ht hvm hw hB hz1 hk1 hSn => ?_)
          subst hw
          obtain ⟨lu_60, fu_60, hP1, hD1, hf60_0, hf60_1, hf60_2⟩ := hB
          rw [ht] at hP1
          obtain ⟨hPn, hDn⟩ := va_join (wr := []) (w1 := [(nu, .inr (5, [.ref au, .int lu_60])), (au, .inl (cI, cap, .inl fu_60))]) hP hD [0, 1] [] rfl rfl (by decide +kernel) (by decide +kernel) hk1 hFc hP1 hD1
          clear hP hD hS hPc hDc hFc hk1 hz1 hvm ht hP1 hD1
          generalize H1 = H at hPn hSn ⊢
          have hP : va_P (dC, dI) vwCl [(nu, .inr (5, [.ref au, .int lu_60])), (au, .inl (cI, cap, .inl fu_60))] H := hPn
          have hD : va_D A [(nu, .inr (5, [.ref au, .int lu_60])), (au, .inl (cI, cap, .inl fu_60))] := hDn
          have hS := hSn
          clear hPn hDn hSn
          have ha60 : lu_60.toInt = lu_51.toInt + 1 := F_add_l hf60_2 (by omega)
          have hr60 : r_60.toInt = 1 := F_add_r hf60_2 (by omega)
          have hap60 : AP lu lu_60 fu fu_60 [(38 : Int32).toInt, (35 : Int32).toInt, (x_50 : Int32).toInt, (x_59 : Int32).toInt] := AP_s hap51 (by omega) hf60_2 (by omega)
          refine lv_if_eq (tgt := 84) hx hb dX2_encodeNumber_77 (by decide) (fun c_61 => by exfalso; have tc_61 : r_60.toInt = 0 := v_eq c_61; omega) (fun c_61 => ?_)
          have tc_61 : ¬ r_60.toInt = 0 := v_ne c_61
          refine lv_iconst (v := 1) hx hb dX2_encodeNumber_80 (by decide) ?_
          refine lv_goto (tgt := 85) hx hb dX2_encodeNumber_81 (by decide) ?_
          refine lv_istore_n (lv' := [(2, .int 1), (3, .int 1), (5, .int x_55), (4, .int 1), (0, .int le), (1, .ref nu)]) hx hb dX2_encodeNumber_85 rfl hl (by decide) rfl (fun ls hl => ?_)
          refine lv_iload hx hb dX2_encodeNumber_86 (lv_at hl 3 rfl) ?_
          refine lv_bipush (v := 10) hx hb dX2_encodeNumber_88 (by decide) ?_
          refine lv_idiv hx hb dX2_encodeNumber_90 (by decide) ?_
          refine k_i (y := 0) (by decide) ?_
          refine lv_istore (lv' := [(4, .int 0), (2, .int 1), (3, .int 1), (5, .int x_55), (0, .int le), (1, .ref nu)]) hx hb dX2_encodeNumber_91 hl (by decide) rfl (fun ls hl => ?_)
          refine lv_goto (tgt := 31) hx hb dX2_encodeNumber_93 (by decide) ?_
          refine lv_iload hx hb dX2_encodeNumber_31 (lv_at hl 0 rfl) ?_
          refine lv_if_le (tgt := 96) hx hb dX2_encodeNumber_33 (by decide) (fun c_62 => ?_) (fun c_62 => absurd c_62 (by decide))
          refine lv_iload_n hx hb dX2_encodeNumber_96 rfl (lv_at hl 1 rfl) ?_
          refine lv_if_eq (tgt := 113) hx hb dX2_encodeNumber_97 (by decide) (fun c_63 => absurd c_63 (by decide)) (fun c_63 => ?_)
          refine lv_aload_n hx hb dX2_encodeNumber_100 rfl (lv_at hl 5 rfl) ?_
          refine lv_bipush (v := 59) hx hb dX2_encodeNumber_101 (by decide) ?_
          have hPc := hP.sub (ws' := [(nu, .inr (5, [.ref au, .int lu_60])), (au, .inl (cI, cap, .inl fu_60))]) [0, 1] rfl
          have hDc := hD.sub (ws' := [(nu, .inr (5, [.ref au, .int lu_60])), (au, .inl (cI, cap, .inl fu_60))]) [0, 1] (by decide +kernel) rfl
          have hFc := va_free (wc := [(nu, .inr (5, [.ref au, .int lu_60])), (au, .inl (cI, cap, .inl fu_60))]) hD hS hA [0, 1] rfl
          refine va_calli (va_runV (As := [.int 59]) (rest := []) ⟨hx, hb, hml, hown, hts⟩ (m_X5_add l dC dI cI cS H.size nu au cap lu_60 fu_60 59 (hf60_0) (by omega)) (cwV 1 hts gX2_encodeNumber_X5_add rfl rfl rfl (by decide +kernel) ⟨Nat.le_of_ble_eq_true rfl, Nat.le_of_ble_eq_true rfl⟩) ⟨fun a U g mk q => by obtain ⟨q0, q1, qP, qK, qD⟩ := q; exact ⟨q0, q1, qP, va_K.moved (u := U) (U := U.calling g mk a) (Vm.Alike.refl U.vm) qK, qD⟩, va_recv hK hPc (ci := 5) (q0 := 0) rfl rfl, fun U hU hW => ⟨rfl, by rw [hU], by rw [hU]; exact hPc, va_K.moved hW.alike hK, hDc.weaken (fun _ _ _ _ => trivial)⟩⟩ rfl rfl hl.1 rfl (lv_room (Nat.le_of_ble_eq_true rfl)) dX2_encodeNumber_103 ⟨Nat.le_of_ble_eq_true rfl, Nat.le_of_ble_eq_true rfl⟩) hS (fun q _ h => hFc q h) hFc (fun r_64 u t H1 locs ht hvm hw hB hz1 hk1 hSn => ?_)
          subst hw
          obtain ⟨lu_64, fu_64, hP1, hD1, hf64_0, hf64_1, hf64_2⟩ := hB
          rw [ht] at hP1
          obtain ⟨hPn, hDn⟩ := va_join (wr := []) (w1 := [(nu, .inr (5, [.ref au, .int lu_64])), (au, .inl (cI, cap, .inl fu_64))]) hP hD [0, 1] [] rfl rfl (by decide +kernel) (by decide +kernel) hk1 hFc hP1 hD1
          clear hP hD hS hPc hDc hFc hk1 hz1 hvm ht hP1 hD1
          generalize H1 = H at hPn hSn ⊢
          have hP : va_P (dC, dI) vwCl [(nu, .inr (5, [.ref au, .int lu_64])), (au, .inl (cI, cap, .inl fu_64))] H := hPn
          have hD : va_D A [(nu, .inr (5, [.ref au, .int lu_64])), (au, .inl (cI, cap, .inl fu_64))] := hDn
          have hS := hSn
          clear hPn hDn hSn
          have ha64 : lu_64.toInt = lu_60.toInt + 1 := F_add_l hf64_2 (by omega)
          have hr64 : r_64.toInt = 1 := F_add_r hf64_2 (by omega)
          have hap64 : AP lu lu_64 fu fu_64 [(38 : Int32).toInt, (35 : Int32).toInt, (x_50 : Int32).toInt, (x_59 : Int32).toInt, (59 : Int32).toInt] := AP_s hap60 (by omega) hf64_2 (by omega)
          refine lv_if_eq (tgt := 113) hx hb dX2_encodeNumber_106 (by decide) (fun c_65 => by exfalso; have tc_65 : r_64.toInt = 0 := v_eq c_65; omega) (fun c_65 => ?_)
          have tc_65 : ¬ r_64.toInt = 0 := v_ne c_65
          refine lv_iconst (v := 1) hx hb dX2_encodeNumber_109 (by decide) ?_
          refine lv_goto (tgt := 114) hx hb dX2_encodeNumber_110 (by decide) ?_
          have hP9 := hP.sub (ws' := [(nu, .inr (5, [.ref au, .int lu_64])), (au, .inl (cI, cap, .inl fu_64))]) [0, 1] rfl
          have hD9 := hD.sub (ws' := [(nu, .inr (5, [.ref au, .int lu_64])), (au, .inl (cI, cap, .inl fu_64))]) [0, 1] (by decide +kernel) rfl
          rw [hQQ]
          exact W.zret (v := 1) (ty := .boolean) hx hb hr (rfl) (fun t ht hW => ⟨⟨1, 1, rfl, rfl, ⟨lu_64, fu_64, by rw [ht]; exact hP9, hD9, hf64_0, by decide, F_en_y (by first | omega | rfl) hap64 (by first | (unfold enc; (repeat (first | rw [if_pos (by omega)] | rw [if_neg (by omega)])); unfold encN; (repeat (first | rw [if_pos (by omega)] | rw [if_neg (by omega)])) <;> exact L5 (by first | omega | rfl) (by first | omega | rfl) (by first | omega | rfl) (by first | omega | rfl) (by first | omega | rfl)) | (exfalso; omega))⟩⟩, hS.F ht⟩) hS.2.2 dX2_encodeNumber_114
      · have tc_21 : ¬ x_19.toInt = 0 := v_ne c_21
        refine lv_iconst (v := 1) hx hb dX2_encodeNumber_54 (by decide) ?_
        refine lv_goto (tgt := 59) hx hb dX2_encodeNumber_55 (by decide) ?_
        refine lv_istore_n (lv' := [(3, .int 1), (5, .int x_19), (4, .int 100), (2, .int 1), (0, .int le), (1, .ref nu)]) hx hb dX2_encodeNumber_59 rfl hl (by decide) rfl (fun ls hl => ?_)
        refine lv_iload_n hx hb dX2_encodeNumber_60 rfl (lv_at hl 0 rfl) ?_
        refine lv_if_eq (tgt := 86) hx hb dX2_encodeNumber_61 (by decide) (fun c_66 => absurd c_66 (by decide)) (fun c_66 => ?_)
        refine lv_iload_n hx hb dX2_encodeNumber_64 rfl (lv_at hl 3 rfl) ?_
        refine lv_if_eq (tgt := 84) hx hb dX2_encodeNumber_65 (by decide) (fun c_67 => absurd c_67 (by decide)) (fun c_67 => ?_)
        refine lv_aload_n hx hb dX2_encodeNumber_68 rfl (lv_at hl 5 rfl) ?_
        refine lv_bipush (v := 48) hx hb dX2_encodeNumber_69 (by decide) ?_
        refine lv_iload hx hb dX2_encodeNumber_71 (lv_at hl 1 rfl) ?_
        refine lv_iadd hx hb dX2_encodeNumber_73 ?_
        refine lv_topi (fun x_68 ex_68 => ?_)
        have tx_68 : x_68.toInt = 48 + x_19.toInt := v_add ex_68 (by show -2147483648 ≤ 48 + x_19.toInt; omega) (by show 48 + x_19.toInt < 2147483648; omega)
        have hPc := hP.sub (ws' := [(nu, .inr (5, [.ref au, .int lu_3])), (au, .inl (cI, cap, .inl fu_3))]) [0, 1] rfl
        have hDc := hD.sub (ws' := [(nu, .inr (5, [.ref au, .int lu_3])), (au, .inl (cI, cap, .inl fu_3))]) [0, 1] (by decide +kernel) rfl
        have hFc := va_free (wc := [(nu, .inr (5, [.ref au, .int lu_3])), (au, .inl (cI, cap, .inl fu_3))]) hD hS hA [0, 1] rfl
        refine va_calli (va_runV (As := [.int x_68]) (rest := []) ⟨hx, hb, hml, hown, hts⟩ (m_X5_add l dC dI cI cS H.size nu au cap lu_3 fu_3 x_68 (hf3_0) (by omega)) (cwV 1 hts gX2_encodeNumber_X5_add rfl rfl rfl (by decide +kernel) ⟨Nat.le_of_ble_eq_true rfl, Nat.le_of_ble_eq_true rfl⟩) ⟨fun a U g mk q => by obtain ⟨q0, q1, qP, qK, qD⟩ := q; exact ⟨q0, q1, qP, va_K.moved (u := U) (U := U.calling g mk a) (Vm.Alike.refl U.vm) qK, qD⟩, va_recv hK hPc (ci := 5) (q0 := 0) rfl rfl, fun U hU hW => ⟨rfl, by rw [hU], by rw [hU]; exact hPc, va_K.moved hW.alike hK, hDc.weaken (fun _ _ _ _ => trivial)⟩⟩ rfl rfl hl.1 rfl (lv_room (Nat.le_of_ble_eq_true rfl)) dX2_encodeNumber_74 ⟨Nat.le_of_ble_eq_true rfl, Nat.le_of_ble_eq_true rfl⟩) hS (fun q _ h => hFc q h) hFc (fun r_69 u t H1 locs ht hvm hw hB hz1 hk1 hSn => ?_)
        subst hw
        obtain ⟨lu_69, fu_69, hP1, hD1, hf69_0, hf69_1, hf69_2⟩ := hB
        rw [ht] at hP1
        obtain ⟨hPn, hDn⟩ := va_join (wr := []) (w1 := [(nu, .inr (5, [.ref au, .int lu_69])), (au, .inl (cI, cap, .inl fu_69))]) hP hD [0, 1] [] rfl rfl (by decide +kernel) (by decide +kernel) hk1 hFc hP1 hD1
        clear hP hD hS hPc hDc hFc hk1 hz1 hvm ht hP1 hD1
        generalize H1 = H at hPn hSn ⊢
        have hP : va_P (dC, dI) vwCl [(nu, .inr (5, [.ref au, .int lu_69])), (au, .inl (cI, cap, .inl fu_69))] H := hPn
        have hD : va_D A [(nu, .inr (5, [.ref au, .int lu_69])), (au, .inl (cI, cap, .inl fu_69))] := hDn
        have hS := hSn
        clear hPn hDn hSn
        have ha69 : lu_69.toInt = lu_3.toInt + 1 := F_add_l hf69_2 (by omega)
        have hr69 : r_69.toInt = 1 := F_add_r hf69_2 (by omega)
        have hap69 : AP lu lu_69 fu fu_69 [(38 : Int32).toInt, (35 : Int32).toInt, (x_68 : Int32).toInt] := AP_s hap3 (by omega) hf69_2 (by omega)
        refine lv_if_eq (tgt := 84) hx hb dX2_encodeNumber_77 (by decide) (fun c_70 => by exfalso; have tc_70 : r_69.toInt = 0 := v_eq c_70; omega) (fun c_70 => ?_)
        have tc_70 : ¬ r_69.toInt = 0 := v_ne c_70
        refine lv_iconst (v := 1) hx hb dX2_encodeNumber_80 (by decide) ?_
        refine lv_goto (tgt := 85) hx hb dX2_encodeNumber_81 (by decide) ?_
        refine lv_istore_n (lv' := [(2, .int 1), (3, .int 1), (5, .int x_19), (4, .int 100), (0, .int le), (1, .ref nu)]) hx hb dX2_encodeNumber_85 rfl hl (by decide) rfl (fun ls hl => ?_)
        refine lv_iload hx hb dX2_encodeNumber_86 (lv_at hl 3 rfl) ?_
        refine lv_bipush (v := 10) hx hb dX2_encodeNumber_88 (by decide) ?_
        refine lv_idiv hx hb dX2_encodeNumber_90 (by decide) ?_
        refine k_i (y := 10) (by decide) ?_
        refine lv_istore (lv' := [(4, .int 10), (2, .int 1), (3, .int 1), (5, .int x_19), (0, .int le), (1, .ref nu)]) hx hb dX2_encodeNumber_91 hl (by decide) rfl (fun ls hl => ?_)
        refine lv_goto (tgt := 31) hx hb dX2_encodeNumber_93 (by decide) ?_
        refine lv_iload hx hb dX2_encodeNumber_31 (lv_at hl 0 rfl) ?_
        refine lv_if_le (tgt := 96) hx hb dX2_encodeNumber_33 (by decide) (fun c_71 => absurd c_71 (by decide)) (fun c_71 => ?_)
        refine lv_iload_n hx hb dX2_encodeNumber_36 rfl (lv_at hl 4 rfl) ?_
        refine lv_iload hx hb dX2_encodeNumber_37 (lv_at hl 0 rfl) ?_
        refine lv_idiv hx hb dX2_encodeNumber_39 (by decide) ?_
        refine lv_topi (fun x_72 ex_72 => ?_)
        have tx_72 : x_72.toInt = le.toInt / 10 := v_div ex_72 (by omega) (by decide)
        refine lv_bipush (v := 10) hx hb dX2_encodeNumber_40 (by decide) ?_
        refine lv_irem hx hb dX2_encodeNumber_42 (by decide) ?_
        refine lv_topi (fun x_73 ex_73 => ?_)
        have tx_73 : x_73.toInt = x_72.toInt % 10 := v_rem ex_73 (by omega) (by decide)
        refine lv_istore (lv' := [(5, .int x_73), (4, .int 10), (2, .int 1), (3, .int 1), (0, .int le), (1, .ref nu)]) hx hb dX2_encodeNumber_43 hl (by decide) rfl (fun ls hl => ?_)
        refine lv_iload_n hx hb dX2_encodeNumber_45 rfl (lv_at hl 3 rfl) ?_
        refine lv_if_ne (tgt := 54) hx hb dX2_encodeNumber_46 (by decide) (fun c_74 => ?_) (fun c_74 => absurd c_74 (by decide))
        refine lv_iconst (v := 1) hx hb dX2_encodeNumber_54 (by decide) ?_
        refine lv_goto (tgt := 59) hx hb dX2_encodeNumber_55 (by decide) ?_
        refine lv_istore_n (lv' := [(3, .int 1), (5, .int x_73), (4, .int 10), (2, .int 1), (0, .int le), (1, .ref nu)]) hx hb dX2_encodeNumber_59 rfl hl (by decide) rfl (fun ls hl => ?_)
        refine lv_iload_n hx hb dX2_encodeNumber_60 rfl (lv_at hl 0 rfl) ?_
        refine lv_if_eq (tgt := 86) hx hb dX2_encodeNumber_61 (by decide) (fun c_75 => absurd c_75 (by decide)) (fun c_75 => ?_)
        refine lv_iload_n hx hb dX2_encodeNumber_64 rfl (lv_at hl 3 rfl) ?_
        refine lv_if_eq (tgt := 84) hx hb dX2_encodeNumber_65 (by decide) (fun c_76 => absurd c_76 (by decide)) (fun c_76 => ?_)
        refine lv_aload_n hx hb dX2_encodeNumber_68 rfl (lv_at hl 5 rfl) ?_
        refine lv_bipush (v := 48) hx hb dX2_encodeNumber_69 (by decide) ?_
        refine lv_iload hx hb dX2_encodeNumber_71 (lv_at hl 1 rfl) ?_
        refine lv_iadd hx hb dX2_encodeNumber_73 ?_
        refine lv_topi (fun x_77 ex_77 => ?_)
        have tx_77 : x_77.toInt = 48 + x_73.toInt := v_add ex_77 (by show -2147483648 ≤ 48 + x_73.toInt; omega) (by show 48 + x_73.toInt < 2147483648; omega)
        have hPc := hP.sub (ws' := [(nu, .inr (5, [.ref au, .int lu_69])), (au, .inl (cI, cap, .inl fu_69))]) [0, 1] rfl
        have hDc := hD.sub (ws' := [(nu, .inr (5, [.ref au, .int lu_69])), (au, .inl (cI, cap, .inl fu_69))]) [0, 1] (by decide +kernel) rfl
        have hFc := va_free (wc := [(nu, .inr (5, [.ref au, .int lu_69])), (au, .inl (cI, cap, .inl fu_69))]) hD hS hA [0, 1] rfl
        refine va_calli (va_runV (As := [.int x_77]) (rest := []) ⟨hx, hb, hml, hown, hts⟩ (m_X5_add l dC dI cI cS H.size nu au cap lu_69 fu_69 x_77 (hf69_0) (by omega)) (cwV 1 hts gX2_encodeNumber_X5_add rfl rfl rfl (by decide +kernel) ⟨Nat.le_of_ble_eq_true rfl, Nat.le_of_ble_eq_true rfl⟩) ⟨fun a U g mk q => by obtain ⟨q0, q1, qP, qK, qD⟩ := q; exact ⟨q0, q1, qP, va_K.moved (u := U) (U := U.calling g mk a) (Vm.Alike.refl U.vm) qK, qD⟩, va_recv hK hPc (ci := 5) (q0 := 0) rfl rfl, fun U hU hW => ⟨rfl, by rw [hU], by rw [hU]; exact hPc, va_K.moved hW.alike hK, hDc.weaken (fun _ _ _ _ => trivial)⟩⟩ rfl rfl hl.1 rfl (lv_room (Nat.le_of_ble_eq_true rfl)) dX2_encodeNumber_74 ⟨Nat.le_of_ble_eq_true rfl, Nat.le_of_ble_eq_true rfl⟩) hS (fun q _ h => hFc q h) hFc (fun r_78 u t H1 locs ht hvm hw hB hz1 hk1 hSn => ?_)
        subst hw
        obtain ⟨lu_78, fu_78, hP1, hD1, hf78_0, hf78_1, hf78_2⟩ := hB
        rw [ht] at hP1
        obtain ⟨hPn, hDn⟩ := va_join (wr := []) (w1 := [(nu, .inr (5, [.ref au, .int lu_78])), (au, .inl (cI, cap, .inl fu_78))]) hP hD [0, 1] [] rfl rfl (by decide +kernel) (by decide +kernel) hk1 hFc hP1 hD1
        clear hP hD hS hPc hDc hFc hk1 hz1 hvm ht hP1 hD1
        generalize H1 = H at hPn hSn ⊢
        have hP : va_P (dC, dI) vwCl [(nu, .inr (5, [.ref au, .int lu_78])), (au, .inl (cI, cap, .inl fu_78))] H := hPn
        have hD : va_D A [(nu, .inr (5, [.ref au, .int lu_78])), (au, .inl (cI, cap, .inl fu_78))] := hDn
        have hS := hSn
        clear hPn hDn hSn
        have ha78 : lu_78.toInt = lu_69.toInt + 1 := F_add_l hf78_2 (by omega)
        have hr78 : r_78.toInt = 1 := F_add_r hf78_2 (by omega)
        have hap78 : AP lu lu_78 fu fu_78 [(38 : Int32).toInt, (35 : Int32).toInt, (x_68 : Int32).toInt, (x_77 : Int32).toInt] := AP_s hap69 (by omega) hf78_2 (by omega)
        refine lv_if_eq (tgt := 84) hx hb dX2_encodeNumber_77 (by decide) (fun c_79 => by exfalso; have tc_79 : r_78.toInt = 0 := v_eq c_79; omega) (fun c_79 => ?_)
        have tc_79 : ¬ r_78.toInt = 0 := v_ne c_79
        refine lv_iconst (v := 1) hx hb dX2_encodeNumber_80 (by decide) ?_
        refine lv_goto (tgt := 85) hx hb dX2_encodeNumber_81 (by decide) ?_
        refine lv_istore_n (lv' := [(2, .int 1), (3, .int 1), (5, .int x_73), (4, .int 10), (0, .int le), (1, .ref nu)]) hx hb dX2_encodeNumber_85 rfl hl (by decide) rfl (fun ls hl => ?_)
        refine lv_iload hx hb dX2_encodeNumber_86 (lv_at hl 3 rfl) ?_
        refine lv_bipush (v := 10) hx hb dX2_encodeNumber_88 (by decide) ?_
        refine lv_idiv hx hb dX2_encodeNumber_90 (by decide) ?_
        refine k_i (y := 1) (by decide) ?_
        refine lv_istore (lv' := [(4, .int 1), (2, .int 1), (3, .int 1), (5, .int x_73), (0, .int le), (1, .ref nu)]) hx hb dX2_encodeNumber_91 hl (by decide) rfl (fun ls hl => ?_)
        refine lv_goto (tgt := 31) hx hb dX2_encodeNumber_93 (by decide) ?_
        refine lv_iload hx hb dX2_encodeNumber_31 (lv_at hl 0 rfl) ?_
        refine lv_if_le (tgt := 96) hx hb dX2_encodeNumber_33 (by decide) (fun c_80 => absurd c_80 (by decide)) (fun c_80 => ?_)
        refine lv_iload_n hx hb dX2_encodeNumber_36 rfl (lv_at hl 4 rfl) ?_
        refine lv_iload hx hb dX2_encodeNumber_37 (lv_at hl 0 rfl) ?_
        refine lv_idiv hx hb dX2_encodeNumber_39 (by decide) ?_
        refine lv_topi (fun x_81 ex_81 => ?_)
        have tx_81 : x_81.toInt = le.toInt / 1 := v_div ex_81 (by omega) (by decide)
        refine lv_bipush (v := 10) hx hb dX2_encodeNumber_40 (by decide) ?_
        refine lv_irem hx hb dX2_encodeNumber_42 (by decide) ?_
        refine lv_topi (fun x_82 ex_82 => ?_)
        have tx_82 : x_82.toInt = x_81.toInt % 10 := v_rem ex_82 (by omega) (by decide)
        refine lv_istore (lv' := [(5, .int x_82), (4, .int 1), (2, .int 1), (3, .int 1), (0, .int le), (1, .ref nu)]) hx hb dX2_encodeNumber_43 hl (by decide) rfl (fun ls hl => ?_)
        refine lv_iload_n hx hb dX2_encodeNumber_45 rfl (lv_at hl 3 rfl) ?_
        refine lv_if_ne (tgt := 54) hx hb dX2_encodeNumber_46 (by decide) (fun c_83 => ?_) (fun c_83 => absurd c_83 (by decide))
        refine lv_iconst (v := 1) hx hb dX2_encodeNumber_54 (by decide) ?_
        refine lv_goto (tgt := 59) hx hb dX2_encodeNumber_55 (by decide) ?_
        refine lv_istore_n (lv' := [(3, .int 1), (5, .int x_82), (4, .int 1), (2, .int 1), (0, .int le), (1, .ref nu)]) hx hb dX2_encodeNumber_59 rfl hl (by decide) rfl (fun ls hl => ?_)
        refine lv_iload_n hx hb dX2_encodeNumber_60 rfl (lv_at hl 0 rfl) ?_
        refine lv_if_eq (tgt := 86) hx hb dX2_encodeNumber_61 (by decide) (fun c_84 => absurd c_84 (by decide)) (fun c_84 => ?_)
        refine lv_iload_n hx hb dX2_encodeNumber_64 rfl (lv_at hl 3 rfl) ?_
        refine lv_if_eq (tgt := 84) hx hb dX2_encodeNumber_65 (by decide) (fun c_85 => absurd c_85 (by decide)) (fun c_85 => ?_)
        refine lv_aload_n hx hb dX2_encodeNumber_68 rfl (lv_at hl 5 rfl) ?_
        refine lv_bipush (v := 48) hx hb dX2_encodeNumber_69 (by decide) ?_
        refine lv_iload hx hb dX2_encodeNumber_71 (lv_at hl 1 rfl) ?_
        refine lv_iadd hx hb dX2_encodeNumber_73 ?_
        refine lv_topi (fun x_86 ex_86 => ?_)
        have tx_86 : x_86.toInt = 48 + x_82.toInt := v_add ex_86 (by show -2147483648 ≤ 48 + x_82.toInt; omega) (by show 48 + x_82.toInt < 2147483648; omega)
        have hPc := hP.sub (ws' := [(nu, .inr (5, [.ref au, .int lu_78])), (au, .inl (cI, cap, .inl fu_78))]) [0, 1] rfl
        have hDc := hD.sub (ws' := [(nu, .inr (5, [.ref au, .int lu_78])), (au, .inl (cI, cap, .inl fu_78))]) [0, 1] (by decide +kernel) rfl
        have hFc := va_free (wc := [(nu, .inr (5, [.ref au, .int lu_78])), (au, .inl (cI, cap, .inl fu_78))]) hD hS hA [0, 1] rfl
        refine va_calli (va_runV (As := [.int x_86]) (rest := []) ⟨hx, hb, hml, hown, hts⟩ (m_X5_add l dC dI cI cS H.size nu au cap lu_78 fu_78 x_86 (hf78_0) (by omega)) (cwV 1 hts gX2_encodeNumber_X5_add rfl rfl rfl (by decide +kernel) ⟨Nat.le_of_ble_eq_true rfl, Nat.le_of_ble_eq_true rfl⟩) ⟨fun a U g mk q => by obtain ⟨q0, q1, qP, qK, qD⟩ := q; exact ⟨q0, q1, qP, va_K.moved (u := U) (U := U.calling g mk a) (Vm.Alike.refl U.vm) qK, qD⟩, va_recv hK hPc (ci := 5) (q0 := 0) rfl rfl, fun U hU hW => ⟨rfl, by rw [hU], by rw [hU]; exact hPc, va_K.moved hW.alike hK, hDc.weaken (fun _ _ _ _ => trivial)⟩⟩ rfl rfl hl.1 rfl (lv_room (Nat.le_of_ble_eq_true rfl)) dX2_encodeNumber_74 ⟨Nat.le_of_ble_eq_true rfl, Nat.le_of_ble_eq_true rfl⟩) hS (fun q _ h => hFc q h) hFc (fun r_87 u t H1 locs ht hvm hw hB hz1 hk1 hSn => ?_)
        subst hw
        obtain ⟨lu_87, fu_87, hP1, hD1, hf87_0, hf87_1, hf87_2⟩ := hB
        rw [ht] at hP1
        obtain ⟨hPn, hDn⟩ := va_join (wr := []) (w1 := [(nu, .inr (5, [.ref au, .int lu_87])), (au, .inl (cI, cap, .inl fu_87))]) hP hD [0, 1] [] rfl rfl (by decide +kernel) (by decide +kernel) hk1 hFc hP1 hD1
        clear hP hD hS hPc hDc hFc hk1 hz1 hvm ht hP1 hD1
        generalize H1 = H at hPn hSn ⊢
        have hP : va_P (dC, dI) vwCl [(nu, .inr (5, [.ref au, .int lu_87])), (au, .inl (cI, cap, .inl fu_87))] H := hPn
        have hD : va_D A [(nu, .inr (5, [.ref au, .int lu_87])), (au, .inl (cI, cap, .inl fu_87))] := hDn
        have hS := hSn
        clear hPn hDn hSn
        have ha87 : lu_87.toInt = lu_78.toInt + 1 := F_add_l hf87_2 (by omega)
        have hr87 : r_87.toInt = 1 := F_add_r hf87_2 (by omega)
        have hap87 : AP lu lu_87 fu fu_87 [(38 : Int32).toInt, (35 : Int32).toInt, (x_68 : Int32).toInt, (x_77 : Int32).toInt, (x_86 : Int32).toInt] := AP_s hap78 (by omega) hf87_2 (by omega)
        refine lv_if_eq (tgt := 84) hx hb dX2_encodeNumber_77 (by decide) (fun c_88 => by exfalso; have tc_88 : r_87.toInt = 0 := v_eq c_88; omega) (fun c_88 => ?_)
        have tc_88 : ¬ r_87.toInt = 0 := v_ne c_88
        refine lv_iconst (v := 1) hx hb dX2_encodeNumber_80 (by decide) ?_
        refine lv_goto (tgt := 85) hx hb dX2_encodeNumber_81 (by decide) ?_
        refine lv_istore_n (lv' := [(2, .int 1), (3, .int 1), (5, .int x_82), (4, .int 1), (0, .int le), (1, .ref nu)]) hx hb dX2_encodeNumber_85 rfl hl (by decide) rfl (fun ls hl => ?_)
        refine lv_iload hx hb dX2_encodeNumber_86 (lv_at hl 3 rfl) ?_
        refine lv_bipush (v := 10) hx hb dX2_encodeNumber_88 (by decide) ?_
        refine lv_idiv hx hb dX2_encodeNumber_90 (by decide) ?_
        refine k_i (y := 0) (by decide) ?_
        refine lv_istore (lv' := [(4, .int 0), (2, .int 1), (3, .int 1), (5, .int x_82), (0, .int le), (1, .ref nu)]) hx hb dX2_encodeNumber_91 hl (by decide) rfl (fun ls hl => ?_)
        refine lv_goto (tgt := 31) hx hb dX2_encodeNumber_93 (by decide) ?_
        refine lv_iload hx hb dX2_encodeNumber_31 (lv_at hl 0 rfl) ?_
        refine lv_if_le (tgt := 96) hx hb dX2_encodeNumber_33 (by decide) (fun c_89 => ?_) (fun c_89 => absurd c_89 (by decide))
        refine lv_iload_n hx hb dX2_encodeNumber_96 rfl (lv_at hl 1 rfl) ?_
        refine lv_if_eq (tgt := 113) hx hb dX2_encodeNumber_97 (by decide) (fun c_90 => absurd c_90 (by decide)) (fun c_90 => ?_)
        refine lv_aload_n hx hb dX2_encodeNumber_100 rfl (lv_at hl 5 rfl) ?_
        refine lv_bipush (v := 59) hx hb dX2_encodeNumber_101 (by decide) ?_
        have hPc := hP.sub (ws' := [(nu, .inr (5, [.ref au, .int lu_87])), (au, .inl (cI, cap, .inl fu_87))]) [0, 1] rfl
        have hDc := hD.sub (ws' := [(nu, .inr (5, [.ref au, .int lu_87])), (au, .inl (cI, cap, .inl fu_87))]) [0, 1] (by decide +kernel) rfl
        have hFc := va_free (wc := [(nu, .inr (5, [.ref au, .int lu_87])), (au, .inl (cI, cap, .inl fu_87))]) hD hS hA [0, 1] rfl
        refine va_calli (va_runV (As := [.int 59]) (rest := []) ⟨hx, hb, hml, hown, hts⟩ (m_X5_add l dC dI cI cS H.size nu au cap lu_87 fu_87 59 (hf87_0) (by omega)) (cwV 1 hts gX2_encodeNumber_X5_add rfl rfl rfl (by decide +kernel) ⟨Nat.le_of_ble_eq_true rfl, Nat.le_of_ble_eq_true rfl⟩) ⟨fun a U g mk q => by obtain ⟨q0, q1, qP, qK, qD⟩ := q; exact ⟨q0, q1, qP, va_K.moved (u := U) (U := U.calling g mk a) (Vm.Alike.refl U.vm) qK, qD⟩, va_recv hK hPc (ci := 5) (q0 := 0) rfl rfl, fun U hU hW => ⟨rfl, by rw [hU], by rw [hU]; exact hPc, va_K.moved hW.alike hK, hDc.weaken (fun _ _ _ _ => trivial)⟩⟩ rfl rfl hl.1 rfl (lv_room (Nat.le_of_ble_eq_true rfl)) dX2_encodeNumber_103 ⟨Nat.le_of_ble_eq_true rfl, Nat.le_of_ble_eq_true rfl⟩) hS (fun q _ h => hFc q h) hFc (fun r_91 u t H1 locs ht hvm hw hB hz1 hk1 hSn => ?_)
        subst hw
        obtain ⟨lu_91, fu_91, hP1, hD1, hf91_0, hf91_1, hf91_2⟩ := hB
        rw [ht] at hP1
        obtain ⟨hPn, hDn⟩ := va_join (wr := []) (w1 := [(nu, .inr (5, [.ref au, .int lu_91])), (au, .inl (cI, cap, .inl fu_91))]) hP hD [0, 1] [] rfl rfl (by decide +kernel) (by decide +kernel) hk1 hFc hP1 hD1
        clear hP hD hS hPc hDc hFc hk1 hz1 hvm ht hP1 hD1
        generalize H1 = H at hPn hSn ⊢
        have hP : va_P (dC, dI) vwCl [(nu, .inr (5, [.ref au, .int lu_91])), (au, .inl (cI, cap, .inl fu_91))] H := hPn
        have hD : va_D A [(nu, .inr (5, [.ref au, .int lu_91])), (au, .inl (cI, cap, .inl fu_91))] := hDn
        have hS := hSn
        clear hPn hDn hSn
        have ha91 : lu_91.toInt = lu_87.toInt + 1 := F_add_l hf91_2 (by omega)
        have hr91 : r_91.toInt = 1 := F_add_r hf91_2 (by omega)
        have hap91 : AP lu lu_91 fu fu_91 [(38 : Int32).toInt, (35 : Int32).toInt, (x_68 : Int32).toInt, (x_77 : Int32).toInt, (x_86 : Int32).toInt, (59 : Int32).toInt] := AP_s hap87 (by omega) hf91_2 (by omega)
        refine lv_if_eq (tgt := 113) hx hb dX2_encodeNumber_106 (by decide) (fun c_92 => by exfalso; have tc_92 : r_91.toInt = 0 := v_eq c_92; omega) (fun c_92 => ?_)
        have tc_92 : ¬ r_91.toInt = 0 := v_ne c_92
        refine lv_iconst (v := 1) hx hb dX2_encodeNumber_109 (by decide) ?_
        refine lv_goto (tgt := 114) hx hb dX2_encodeNumber_110 (by decide) ?_
        have hP9 := hP.sub (ws' := [(nu, .inr (5, [.ref au, .int lu_91])), (au, .inl (cI, cap, .inl fu_91))]) [0, 1] rfl
        have hD9 := hD.sub (ws' := [(nu, .inr (5, [.ref au, .int lu_91])), (au, .inl (cI, cap, .inl fu_91))]) [0, 1] (by decide +kernel) rfl
        rw [hQQ]
        exact W.zret (v := 1) (ty := .boolean) hx hb hr (rfl) (fun t ht hW => ⟨⟨1, 1, rfl, rfl, ⟨lu_91, fu_91, by rw [ht]; exact hP9, hD9, hf91_0, by decide, F_en_y (by first | omega | rfl) hap91 (by first | (unfold enc; (repeat (first | rw [if_pos (by omega)] | rw [if_neg (by omega)])); unfold encN; (repeat (first | rw [if_pos (by omega)] | rw [if_neg (by omega)])) <;> exact L6 (by first | omega | rfl) (by first | omega | rfl) (by first | omega | rfl) (by first | omega | rfl) (by first | omega | rfl) (by first | omega | rfl)) | (exfalso; omega))⟩⟩, hS.F ht⟩) hS.2.2 dX2_encodeNumber_114
    · have tc_15 : ¬ x_13.toInt = 0 := v_ne c_15
      refine lv_iconst (v := 1) hx hb dX2_encodeNumber_54 (by decide) ?_
      refine lv_goto (tgt := 59) hx hb dX2_encodeNumber_55 (by decide) ?_
      refine lv_istore_n (lv' := [(3, .int 1), (5, .int x_13), (4, .int 1000), (2, .int 1), (0, .int le), (1, .ref nu)]) hx hb dX2_encodeNumber_59 rfl hl (by decide) rfl (fun ls hl => ?_)
      refine lv_iload_n hx hb dX2_encodeNumber_60 rfl (lv_at hl 0 rfl) ?_
      refine lv_if_eq (tgt := 86) hx hb dX2_encodeNumber_61 (by decide) (fun c_93 => absurd c_93 (by decide)) (fun c_93 => ?_)
      refine lv_iload_n hx hb dX2_encodeNumber_64 rfl (lv_at hl 3 rfl) ?_
      refine lv_if_eq (tgt := 84) hx hb dX2_encodeNumber_65 (by decide) (fun c_94 => absurd c_94 (by decide)) (fun c_94 => ?_)
      refine lv_aload_n hx hb dX2_encodeNumber_68 rfl (lv_at hl 5 rfl) ?_
      refine lv_bipush (v := 48) hx hb dX2_encodeNumber_69 (by decide) ?_
      refine lv_iload hx hb dX2_encodeNumber_71 (lv_at hl 1 rfl) ?_
      refine lv_iadd hx hb dX2_encodeNumber_73 ?_
      refine lv_topi (fun x_95 ex_95 => ?_)
      have tx_95 : x_95.toInt = 48 + x_13.toInt := v_add ex_95 (by show -2147483648 ≤ 48 + x_13.toInt; omega) (by show 48 + x_13.toInt < 2147483648; omega)
      have hPc := hP.sub (ws' := [(nu, .inr (5, [.ref au, .int lu_3])), (au, .inl (cI, cap, .inl fu_3))]) [0, 1] rfl
      have hDc := hD.sub (ws' := [(nu, .inr (5, [.ref au, .int lu_3])), (au, .inl (cI, cap, .inl fu_3))]) [0, 1] (by decide +kernel) rfl
      have hFc := va_free (wc := [(nu, .inr (5, [.ref au, .int lu_3])), (au, .inl (cI, cap, .inl fu_3))]) hD hS hA [0, 1] rfl
      refine va_calli (va_runV (As := [.int x_95]) (rest := []) ⟨hx, hb, hml, hown, hts⟩ (m_X5_add l dC dI cI cS H.size nu au cap lu_3 fu_3 x_95 (hf3_0) (by omega)) (cwV 1 hts gX2_encodeNumber_X5_add rfl rfl rfl (by decide +kernel) ⟨Nat.le_of_ble_eq_true rfl, Nat.le_of_ble_eq_true rfl⟩) ⟨fun a U g mk q => by obtain ⟨q0, q1, qP, qK, qD⟩ := q; exact ⟨q0, q1, qP, va_K.moved (u := U) (U := U.calling g mk a) (Vm.Alike.refl U.vm) qK, qD⟩, va_recv hK hPc (ci := 5) (q0 := 0) rfl rfl, fun U hU hW => ⟨rfl, by rw [hU], by rw [hU]; exact hPc, va_K.moved hW.alike hK, hDc.weaken (fun _ _ _ _ => trivial)⟩⟩ rfl rfl hl.1 rfl (lv_room (Nat.le_of_ble_eq_true rfl)) dX2_encodeNumber_74 ⟨Nat.le_of_ble_eq_true rfl, Nat.le_of_ble_eq_true rfl⟩) hS (fun q _ h => hFc q h) hFc (fun r_96 u t H1 locs ht hvm hw hB hz1 hk1 hSn => ?_)
      subst hw
      obtain ⟨lu_96, fu_96, hP1, hD1, hf96_0, hf96_1, hf96_2⟩ := hB
      rw [ht] at hP1
      obtain ⟨hPn, hDn⟩ := va_join (wr := []) (w1 := [(nu, .inr (5, [.ref au, .int lu_96])), (au, .inl (cI, cap, .inl fu_96))]) hP hD [0, 1] [] rfl rfl (by decide +kernel) (by decide +kernel) hk1 hFc hP1 hD1
      clear hP hD hS hPc hDc hFc hk1 hz1 hvm ht hP1 hD1
      generalize H1 = H at hPn hSn ⊢
      have hP : va_P (dC, dI) vwCl [(nu, .inr (5, [.ref au, .int lu_96])), (au, .inl (cI, cap, .inl fu_96))] H := hPn
      have hD : va_D A [(nu, .inr (5, [.ref au, .int lu_96])), (au, .inl (cI, cap, .inl fu_96))] := hDn
      have hS := hSn
      clear hPn hDn hSn
      have ha96 : lu_96.toInt = lu_3.toInt + 1 := F_add_l hf96_2 (by omega)
      have hr96 : r_96.toInt = 1 := F_add_r hf96_2 (by omega)
      have hap96 : AP lu lu_96 fu fu_96 [(38 : Int32).toInt, (35 : Int32).toInt, (x_95 : Int32).toInt] := AP_s hap3 (by omega) hf96_2 (by omega)
      refine lv_if_eq (tgt := 84) hx hb dX2_encodeNumber_77 (by decide) (fun c_97 => by exfalso; have tc_97 : r_96.toInt = 0 := v_eq c_97; omega) (fun c_97 => ?_)
      have tc_97 : ¬ r_96.toInt = 0 := v_ne c_97
      refine lv_iconst (v := 1) hx hb dX2_encodeNumber_80 (by decide) ?_
      refine lv_goto (tgt := 85) hx hb dX2_encodeNumber_81 (by decide) ?_
      refine lv_istore_n (lv' := [(2, .int 1), (3, .int 1), (5, .int x_13), (4, .int 1000), (0, .int le), (1, .ref nu)]) hx hb dX2_encodeNumber_85 rfl hl (by decide) rfl (fun ls hl => ?_)
      refine lv_iload hx hb dX2_encodeNumber_86 (lv_at hl 3 rfl) ?_
      refine lv_bipush (v := 10) hx hb dX2_encodeNumber_88 (by decide) ?_
      refine lv_idiv hx hb dX2_encodeNumber_90 (by decide) ?_
      refine k_i (y := 100) (by decide) ?_
      refine lv_istore (lv' := [(4, .int 100), (2, .int 1), (3, .int 1), (5, .int x_13), (0, .int le), (1, .ref nu)]) hx hb dX2_encodeNumber_91 hl (by decide) rfl (fun ls hl => ?_)
      refine lv_goto (tgt := 31) hx hb dX2_encodeNumber_93 (by decide) ?_
      refine lv_iload hx hb dX2_encodeNumber_31 (lv_at hl 0 rfl) ?_
      refine lv_if_le (tgt := 96) hx hb dX2_encodeNumber_33 (by decide) (fun c_98 => absurd c_98 (by decide)) (fun c_98 => ?_)
      refine lv_iload_n hx hb dX2_encodeNumber_36 rfl (lv_at hl 4 rfl) ?_
      refine lv_iload hx hb dX2_encodeNumber_37 (lv_at hl 0 rfl) ?_
      refine lv_idiv hx hb dX2_encodeNumber_39 (by decide) ?_
      refine lv_topi (fun x_99 ex_99 => ?_)
      have tx_99 : x_99.toInt = le.toInt / 100 := v_div ex_99 (by omega) (by decide)
      refine lv_bipush (v := 10) hx hb dX2_encodeNumber_40 (by decide) ?_
      refine lv_irem hx hb dX2_encodeNumber_42 (by decide) ?_
      refine lv_topi (fun x_100 ex_100 => ?_)
      have tx_100 : x_100.toInt = x_99.toInt % 10 := v_rem ex_100 (by omega) (by decide)
      refine lv_istore (lv' := [(5, .int x_100), (4, .int 100), (2, .int 1), (3, .int 1), (0, .int le), (1, .ref nu)]) hx hb dX2_encodeNumber_43 hl (by decide) rfl (fun ls hl => ?_)
      refine lv_iload_n hx hb dX2_encodeNumber_45 rfl (lv_at hl 3 rfl) ?_
      refine lv_if_ne (tgt := 54) hx hb dX2_encodeNumber_46 (by decide) (fun c_101 => ?_) (fun c_101 => absurd c_101 (by decide))
      refine lv_iconst (v := 1) hx hb dX2_encodeNumber_54 (by decide) ?_
      refine lv_goto (tgt := 59) hx hb dX2_encodeNumber_55 (by decide) ?_
      refine lv_istore_n (lv' := [(3, .int 1), (5, .int x_100), (4, .int 100), (2, .int 1), (0, .int le), (1, .ref nu)]) hx hb dX2_encodeNumber_59 rfl hl (by decide) rfl (fun ls hl => ?_)
      refine lv_iload_n hx hb dX2_encodeNumber_60 rfl (lv_at hl 0 rfl) ?_
      refine lv_if_eq (tgt := 86) hx hb dX2_encodeNumber_61 (by decide) (fun c_102 => absurd c_102 (by decide)) (fun c_102 => ?_)
      refine lv_iload_n hx hb dX2_encodeNumber_64 rfl (lv_at hl 3 rfl) ?_
      refine lv_if_eq (tgt := 84) hx hb dX2_encodeNumber_65 (by decide) (fun c_103 => absurd c_103 (by decide)) (fun c_103 => ?_)
      refine lv_aload_n hx hb dX2_encodeNumber_68 rfl (lv_at hl 5 rfl) ?_
      refine lv_bipush (v := 48) hx hb dX2_encodeNumber_69 (by decide) ?_
      refine lv_iload hx hb dX2_encodeNumber_71 (lv_at hl 1 rfl) ?_
      refine lv_iadd hx hb dX2_encodeNumber_73 ?_
      refine lv_topi (fun x_104 ex_104 => ?_)
      have tx_104 : x_104.toInt = 48 + x_100.toInt := v_add ex_104 (by show -2147483648 ≤ 48 + x_100.toInt; omega) (by show 48 + x_100.toInt < 2147483648; omega)
      have hPc := hP.sub (ws' := [(nu, .inr (5, [.ref au, .int lu_96])), (au, .inl (cI, cap, .inl fu_96))]) [0, 1] rfl
      have hDc := hD.sub (ws' := [(nu, .inr (5, [.ref au, .int lu_96])), (au, .inl (cI, cap, .inl fu_96))]) [0, 1] (by decide +kernel) rfl
      have hFc := va_free (wc := [(nu, .inr (5, [.ref au, .int lu_96])), (au, .inl (cI, cap, .inl fu_96))]) hD hS hA [0, 1] rfl
      refine va_calli (va_runV (As := [.int x_104]) (rest := []) ⟨hx, hb, hml, hown, hts⟩ (m_X5_add l dC dI cI cS H.size nu au cap lu_96 fu_96 x_104 (hf96_0) (by omega)) (cwV 1 hts gX2_encodeNumber_X5_add rfl rfl rfl (by decide +kernel) ⟨Nat.le_of_ble_eq_true rfl, Nat.le_of_ble_eq_true rfl⟩) ⟨fun a U g mk q => by obtain ⟨q0, q1, qP, qK, qD⟩ := q; exact ⟨q0, q1, qP, va_K.moved (u := U) (U := U.calling g mk a) (Vm.Alike.refl U.vm) qK, qD⟩, va_recv hK hPc (ci := 5) (q0 := 0) rfl rfl, fun U hU hW => ⟨rfl, by rw [hU], by rw [hU]; exact hPc, va_K.moved hW.alike hK, hDc.weaken (fun _ _ _ _ => trivial)⟩⟩ rfl rfl hl.1 rfl (lv_room (Nat.le_of_ble_eq_true rfl)) dX2_encodeNumber_74 ⟨Nat.le_of_ble_eq_true rfl, Nat.le_of_ble_eq_true rfl⟩) hS (fun q _ h => hFc q h) hFc (fun r_105 u t H1 locs ht hvm hw hB hz1 hk1 hSn => ?_)
      subst hw
      obtain ⟨lu_105, fu_105, hP1, hD1, hf105_0, hf105_1, hf105_2⟩ := hB
      rw [ht] at hP1
      obtain ⟨hPn, hDn⟩ := va_join (wr := []) (w1 := [(nu, .inr (5, [.ref au, .int lu_105])), (au, .inl (cI, cap, .inl fu_105))]) hP hD [0, 1] [] rfl rfl (by decide +kernel) (by decide +kernel) hk1 hFc hP1 hD1
      clear hP hD hS hPc hDc hFc hk1 hz1 hvm ht hP1 hD1
      generalize H1 = H at hPn hSn ⊢
      have hP : va_P (dC, dI) vwCl [(nu, .inr (5, [.ref au, .int lu_105])), (au, .inl (cI, cap, .inl fu_105))] H := hPn
      have hD : va_D A [(nu, .inr (5, [.ref au, .int lu_105])), (au, .inl (cI, cap, .inl fu_105))] := hDn
      have hS := hSn
      clear hPn hDn hSn
      have ha105 : lu_105.toInt = lu_96.toInt + 1 := F_add_l hf105_2 (by omega)
      have hr105 : r_105.toInt = 1 := F_add_r hf105_2 (by omega)
      have hap105 : AP lu lu_105 fu fu_105 [(38 : Int32).toInt, (35 : Int32).toInt, (x_95 : Int32).toInt, (x_104 : Int32).toInt] := AP_s hap96 (by omega) hf105_2 (by omega)
      refine lv_if_eq (tgt := 84) hx hb dX2_encodeNumber_77 (by decide) (fun c_106 => by exfalso; have tc_106 : r_105.toInt = 0 := v_eq c_106; omega) (fun c_106 => ?_)
      have tc_106 : ¬ r_105.toInt = 0 := v_ne c_106
      refine lv_iconst (v := 1) hx hb dX2_encodeNumber_80 (by decide) ?_
      refine lv_goto (tgt := 85) hx hb dX2_encodeNumber_81 (by decide) ?_
      refine lv_istore_n (lv' := [(2, .int 1), (3, .int 1), (5, .int x_100), (4, .int 100), (0, .int le), (1, .ref nu)]) hx hb dX2_encodeNumber_85 rfl hl (by decide) rfl (fun ls hl => ?_)
      refine lv_iload hx hb dX2_encodeNumber_86 (lv_at hl 3 rfl) ?_
      refine lv_bipush (v := 10) hx hb dX2_encodeNumber_88 (by decide) ?_
      refine lv_idiv hx hb dX2_encodeNumber_90 (by decide) ?_
      refine k_i (y := 10) (by decide) ?_
      refine lv_istore (lv' := [(4, .int 10), (2, .int 1), (3, .int 1), (5, .int x_100), (0, .int le), (1, .ref nu)]) hx hb dX2_encodeNumber_91 hl (by decide) rfl (fun ls hl => ?_)
      refine lv_goto (tgt := 31) hx hb dX2_encodeNumber_93 (by decide) ?_
      refine lv_iload hx hb dX2_encodeNumber_31 (lv_at hl 0 rfl) ?_
      refine lv_if_le (tgt := 96) hx hb dX2_encodeNumber_33 (by decide) (fun c_107 => absurd c_107 (by decide)) (fun c_107 => ?_)
      refine lv_iload_n hx hb dX2_encodeNumber_36 rfl (lv_at hl 4 rfl) ?_
      refine lv_iload hx hb dX2_encodeNumber_37 (lv_at hl 0 rfl) ?_
      refine lv_idiv hx hb dX2_encodeNumber_39 (by decide) ?_
      refine lv_topi (fun x_108 ex_108 => ?_)
      have tx_108 : x_108.toInt = le.toInt / 10 := v_div ex_108 (by omega) (by decide)
      refine lv_bipush (v := 10) hx hb dX2_encodeNumber_40 (by decide) ?_
      refine lv_irem hx hb dX2_encodeNumber_42 (by decide) ?_
      refine lv_topi (fun x_109 ex_109 => ?_)
      have tx_109 : x_109.toInt = x_108.toInt % 10 := v_rem ex_109 (by omega) (by decide)
      refine lv_istore (lv' := [(5, .int x_109), (4, .int 10), (2, .int 1), (3, .int 1), (0, .int le), (1, .ref nu)]) hx hb dX2_encodeNumber_43 hl (by decide) rfl (fun ls hl => ?_)
      refine lv_iload_n hx hb dX2_encodeNumber_45 rfl (lv_at hl 3 rfl) ?_
      refine lv_if_ne (tgt := 54) hx hb dX2_encodeNumber_46 (by decide) (fun c_110 => ?_) (fun c_110 => absurd c_110 (by decide))
      refine lv_iconst (v := 1) hx hb dX2_encodeNumber_54 (by decide) ?_
      refine lv_goto (tgt := 59) hx hb dX2_encodeNumber_55 (by decide) ?_
      refine lv_istore_n (lv' := [(3, .int 1), (5, .int x_109), (4, .int 10), (2, .int 1), (0, .int le), (1, .ref nu)]) hx hb dX2_encodeNumber_59 rfl hl (by decide) rfl (fun ls hl => ?_)
      refine lv_iload_n hx hb dX2_encodeNumber_60 rfl (lv_at hl 0 rfl) ?_
      refine lv_if_eq (tgt := 86) hx hb dX2_encodeNumber_61 (by decide) (fun c_111 => absurd c_111 (by decide)) (fun c_111 => ?_)
      refine lv_iload_n hx hb dX2_encodeNumber_64 rfl (lv_at hl 3 rfl) ?_
      refine lv_if_eq (tgt := 84) hx hb dX2_encodeNumber_65 (by decide) (fun c_112 => absurd c_112 (by decide)) (fun c_112 => ?_)
      refine lv_aload_n hx hb dX2_encodeNumber_68 rfl (lv_at hl 5 rfl) ?_
      refine lv_bipush (v := 48) hx hb dX2_encodeNumber_69 (by decide) ?_
      refine lv_iload hx hb dX2_encodeNumber_71 (lv_at hl 1 rfl) ?_
      refine lv_iadd hx hb dX2_encodeNumber_73 ?_
      refine lv_topi (fun x_113 ex_113 => ?_)
      have tx_113 : x_113.toInt = 48 + x_109.toInt := v_add ex_113 (by show -2147483648 ≤ 48 + x_109.toInt; omega) (by show 48 + x_109.toInt < 2147483648; omega)
      have hPc := hP.sub (ws' := [(nu, .inr (5, [.ref au, .int lu_105])), (au, .inl (cI, cap, .inl fu_105))]) [0, 1] rfl
      have hDc := hD.sub (ws' := [(nu, .inr (5, [.ref au, .int lu_105])), (au, .inl (cI, cap, .inl fu_105))]) [0, 1] (by decide +kernel) rfl
      have hFc := va_free (wc := [(nu, .inr (5, [.ref au, .int lu_105])), (au, .inl (cI, cap, .inl fu_105))]) hD hS hA [0, 1] rfl
      refine va_calli (va_runV (As := [.int x_113]) (rest := []) ⟨hx, hb, hml, hown, hts⟩ (m_X5_add l dC dI cI cS H.size nu au cap lu_105 fu_105 x_113 (hf105_0) (by omega)) (cwV 1 hts gX2_encodeNumber_X5_add rfl rfl rfl (by decide +kernel) ⟨Nat.le_of_ble_eq_true rfl, Nat.le_of_ble_eq_true rfl⟩) ⟨fun a U g mk q => by obtain ⟨q0, q1, qP, qK, qD⟩ := q; exact ⟨q0, q1, qP, va_K.moved (u := U) (U := U.calling g mk a) (Vm.Alike.refl U.vm) qK, qD⟩, va_recv hK hPc (ci := 5) (q0 := 0) rfl rfl, fun U hU hW => ⟨rfl, by rw [hU], by rw [hU]; exact hPc, va_K.moved hW.alike hK, hDc.weaken (fun _ _ _ _ => trivial)⟩⟩ rfl rfl hl.1 rfl (lv_room (Nat.le_of_ble_eq_true rfl)) dX2_encodeNumber_74 ⟨Nat.le_of_ble_eq_true rfl, Nat.le_of_ble_eq_true rfl⟩) hS (fun q _ h => hFc q h) hFc (fun r_114 u t H1 locs ht hvm hw hB hz1 hk1 hSn => ?_)
      subst hw
      obtain ⟨lu_114, fu_114, hP1, hD1, hf114_0, hf114_1, hf114_2⟩ := hB
      rw [ht] at hP1
      obtain ⟨hPn, hDn⟩ := va_join (wr := []) (w1 := [(nu, .inr (5, [.ref au, .int lu_114])), (au, .inl (cI, cap, .inl fu_114))]) hP hD [0, 1] [] rfl rfl (by decide +kernel) (by decide +kernel) hk1 hFc hP1 hD1
      clear hP hD hS hPc hDc hFc hk1 hz1 hvm ht hP1 hD1
      generalize H1 = H at hPn hSn ⊢
      have hP : va_P (dC, dI) vwCl [(nu, .inr (5, [.ref au, .int lu_114])), (au, .inl (cI, cap, .inl fu_114))] H := hPn
      have hD : va_D A [(nu, .inr (5, [.ref au, .int lu_114])), (au, .inl (cI, cap, .inl fu_114))] := hDn
      have hS := hSn
      clear hPn hDn hSn
      have ha114 : lu_114.toInt = lu_105.toInt + 1 := F_add_l hf114_2 (by omega)
      have hr114 : r_114.toInt = 1 := F_add_r hf114_2 (by omega)
      have hap114 : AP lu lu_114 fu fu_114 [(38 : Int32).toInt, (35 : Int32).toInt, (x_95 : Int32).toInt, (x_104 : Int32).toInt, (x_113 : Int32).toInt] := AP_s hap105 (by omega) hf114_2 (by omega)
      refine lv_if_eq (tgt := 84) hx hb dX2_encodeNumber_77 (by decide) (fun c_115 => by exfalso; have tc_115 : r_114.toInt = 0 := v_eq c_115; omega) (fun c_115 => ?_)
      have tc_115 : ¬ r_114.toInt = 0 := v_ne c_115
      refine lv_iconst (v := 1) hx hb dX2_encodeNumber_80 (by decide) ?_
      refine lv_goto (tgt := 85) hx hb dX2_encodeNumber_81 (by decide) ?_
      refine lv_istore_n (lv' := [(2, .int 1), (3, .int 1), (5, .int x_109), (4, .int 10), (0, .int le), (1, .ref nu)]) hx hb dX2_encodeNumber_85 rfl hl (by decide) rfl (fun ls hl => ?_)
      refine lv_iload hx hb dX2_encodeNumber_86 (lv_at hl 3 rfl) ?_
      refine lv_bipush (v := 10) hx hb dX2_encodeNumber_88 (by decide) ?_
      refine lv_idiv hx hb dX2_encodeNumber_90 (by decide) ?_
      refine k_i (y := 1) (by decide) ?_
      refine lv_istore (lv' := [(4, .int 1), (2, .int 1), (3, .int 1), (5, .int x_109), (0, .int le), (1, .ref nu)]) hx hb dX2_encodeNumber_91 hl (by decide) rfl (fun ls hl => ?_)
      refine lv_goto (tgt := 31) hx hb dX2_encodeNumber_93 (by decide) ?_
      refine lv_iload hx hb dX2_encodeNumber_31 (lv_at hl 0 rfl) ?_
      refine lv_if_le (tgt := 96) hx hb dX2_encodeNumber_33 (by decide) (fun c_116 => absurd c_116 (by decide)) (fun c_116 => ?_)
      refine lv_iload_n hx hb dX2_encodeNumber_36 rfl (lv_at hl 4 rfl) ?_
      refine lv_iload hx hb dX2_encodeNumber_37 (lv_at hl 0 rfl) ?_
      refine lv_idiv hx hb dX2_encodeNumber_39 (by decide) ?_
      refine lv_topi (fun x_117 ex_117 => ?_)
      have tx_117 : x_117.toInt = le.toInt / 1 := v_div ex_117 (by omega) (by decide)
      refine lv_bipush (v := 10) hx hb dX2_encodeNumber_40 (by decide) ?_
      refine lv_irem hx hb dX2_encodeNumber_42 (by decide) ?_
      refine lv_topi (fun x_118 ex_118 => ?_)
      have tx_118 : x_118.toInt = x_117.toInt % 10 := v_rem ex_118 (by omega) (by decide)
      refine lv_istore (lv' := [(5, .int x_118), (4, .int 1), (2, .int 1), (3, .int 1), (0, .int le), (1, .ref nu)]) hx hb dX2_encodeNumber_43 hl (by decide) rfl (fun ls hl => ?_)
      refine lv_iload_n hx hb dX2_encodeNumber_45 rfl (lv_at hl 3 rfl) ?_
      refine lv_if_ne (tgt := 54) hx hb dX2_encodeNumber_46 (by decide) (fun c_119 => ?_) (fun c_119 => absurd c_119 (by decide))
      refine lv_iconst (v := 1) hx hb dX2_encodeNumber_54 (by decide) ?_
      refine lv_goto (tgt := 59) hx hb dX2_encodeNumber_55 (by decide) ?_
      refine lv_istore_n (lv' := [(3, .int 1), (5, .int x_118), (4, .int 1), (2, .int 1), (0, .int le), (1, .ref nu)]) hx hb dX2_encodeNumber_59 rfl hl (by decide) rfl (fun ls hl => ?_)
      refine lv_iload_n hx hb dX2_encodeNumber_60 rfl (lv_at hl 0 rfl) ?_
      refine lv_if_eq (tgt := 86) hx hb dX2_encodeNumber_61 (by decide) (fun c_120 => absurd c_120 (by decide)) (fun c_120 => ?_)
      refine lv_iload_n hx hb dX2_encodeNumber_64 rfl (lv_at hl 3 rfl) ?_
      refine lv_if_eq (tgt := 84) hx hb dX2_encodeNumber_65 (by decide) (fun c_121 => absurd c_121 (by decide)) (fun c_121 => ?_)
      refine lv_aload_n hx hb dX2_encodeNumber_68 rfl (lv_at hl 5 rfl) ?_
      refine lv_bipush (v := 48) hx hb dX2_encodeNumber_69 (by decide) ?_
      refine lv_iload hx hb dX2_encodeNumber_71 (lv_at hl 1 rfl) ?_
      refine lv_iadd hx hb dX2_encodeNumber_73 ?_
      refine lv_topi (fun x_122 ex_122 => ?_)
      have tx_122 : x_122.toInt = 48 + x_118.toInt := v_add ex_122 (by show -2147483648 ≤ 48 + x_118.toInt; omega) (by show 48 + x_118.toInt < 2147483648; omega)
      have hPc := hP.sub (ws' := [(nu, .inr (5, [.ref au, .int lu_114])), (au, .inl (cI, cap, .inl fu_114))]) [0, 1] rfl
      have hDc := hD.sub (ws' := [(nu, .inr (5, [.ref au, .int lu_114])), (au, .inl (cI, cap, .inl fu_114))]) [0, 1] (by decide +kernel) rfl
      have hFc := va_free (wc := [(nu, .inr (5, [.ref au, .int lu_114])), (au, .inl (cI, cap, .inl fu_114))]) hD hS hA [0, 1] rfl
      refine va_calli (va_runV (As := [.int x_122]) (rest := []) ⟨hx, hb, hml, hown, hts⟩ (m_X5_add l dC dI cI cS H.size nu au cap lu_114 fu_114 x_122 (hf114_0) (by omega)) (cwV 1 hts gX2_encodeNumber_X5_add rfl rfl rfl (by decide +kernel) ⟨Nat.le_of_ble_eq_true rfl, Nat.le_of_ble_eq_true rfl⟩) ⟨fun a U g mk q => by obtain ⟨q0, q1, qP, qK, qD⟩ := q; exact ⟨q0, q1, qP, va_K.moved (u := U) (U := U.calling g mk a) (Vm.Alike.refl U.vm) qK, qD⟩, va_recv hK hPc (ci := 5) (q0 := 0) rfl rfl, fun U hU hW => ⟨rfl, by rw [hU], by rw [hU]; exact hPc, va_K.moved hW.alike hK, hDc.weaken (fun _ _ _ _ => trivial)⟩⟩ rfl rfl hl.1 rfl (lv_room (Nat.le_of_ble_eq_true rfl)) dX2_encodeNumber_74 ⟨Nat.le_of_ble_eq_true rfl, Nat.le_of_ble_eq_true rfl⟩) hS (fun q _ h => hFc q h) hFc (fun r_123 u t H1 locs ht hvm hw hB hz1 hk1 hSn => ?_)
      subst hw
      obtain ⟨lu_123, fu_123, hP1, hD1, hf123_0, hf123_1, hf123_2⟩ := hB
      rw [ht] at hP1
      obtain ⟨hPn, hDn⟩ := va_join (wr := []) (w1 := [(nu, .inr (5, [.ref au, .int lu_123])), (au, .inl (cI, cap, .inl fu_123))]) hP hD [0, 1] [] rfl rfl (by decide +kernel) (by decide +kernel) hk1 hFc hP1 hD1
      clear hP hD hS hPc hDc hFc hk1 hz1 hvm ht hP1 hD1
      generalize H1 = H at hPn hSn ⊢
      have hP : va_P (dC, dI) vwCl [(nu, .inr (5, [.ref au, .int lu_123])), (au, .inl (cI, cap, .inl fu_123))] H := hPn
      have hD : va_D A [(nu, .inr (5, [.ref au, .int lu_123])), (au, .inl (cI, cap, .inl fu_123))] := hDn
      have hS := hSn
      clear hPn hDn hSn
      have ha123 : lu_123.toInt = lu_114.toInt + 1 := F_add_l hf123_2 (by omega)
      have hr123 : r_123.toInt = 1 := F_add_r hf123_2 (by omega)
      have hap123 : AP lu lu_123 fu fu_123 [(38 : Int32).toInt, (35 : Int32).toInt, (x_95 : Int32).toInt, (x_104 : Int32).toInt, (x_113 : Int32).toInt, (x_122 : Int32).toInt] := AP_s hap114 (by omega) hf123_2 (by omega)
      refine lv_if_eq (tgt := 84) hx hb dX2_encodeNumber_77 (by decide) (fun c_124 => by exfalso; have tc_124 : r_123.toInt = 0 := v_eq c_124; omega) (fun c_124 => ?_)
      have tc_124 : ¬ r_123.toInt = 0 := v_ne c_124
      refine lv_iconst (v := 1) hx hb dX2_encodeNumber_80 (by decide) ?_
      refine lv_goto (tgt := 85) hx hb dX2_encodeNumber_81 (by decide) ?_
      refine lv_istore_n (lv' := [(2, .int 1), (3, .int 1), (5, .int x_118), (4, .int 1), (0, .int le), (1, .ref nu)]) hx hb dX2_encodeNumber_85 rfl hl (by decide) rfl (fun ls hl => ?_)
      refine lv_iload hx hb dX2_encodeNumber_86 (lv_at hl 3 rfl) ?_
      refine lv_bipush (v := 10) hx hb dX2_encodeNumber_88 (by decide) ?_
      refine lv_idiv hx hb dX2_encodeNumber_90 (by decide) ?_
      refine k_i (y := 0) (by decide) ?_
      refine lv_istore (lv' := [(4, .int 0), (2, .int 1), (3, .int 1), (5, .int x_118), (0, .int le), (1, .ref nu)]) hx hb dX2_encodeNumber_91 hl (by decide) rfl (fun ls hl => ?_)
      refine lv_goto (tgt := 31) hx hb dX2_encodeNumber_93 (by decide) ?_
      refine lv_iload hx hb dX2_encodeNumber_31 (lv_at hl 0 rfl) ?_
      refine lv_if_le (tgt := 96) hx hb dX2_encodeNumber_33 (by decide) (fun c_125 => ?_) (fun c_125 => absurd c_125 (by decide))
      refine lv_iload_n hx hb dX2_encodeNumber_96 rfl (lv_at hl 1 rfl) ?_
      refine lv_if_eq (tgt := 113) hx hb dX2_encodeNumber_97 (by decide) (fun c_126 => absurd c_126 (by decide)) (fun c_126 => ?_)
      refine lv_aload_n hx hb dX2_encodeNumber_100 rfl (lv_at hl 5 rfl) ?_
      refine lv_bipush (v := 59) hx hb dX2_encodeNumber_101 (by decide) ?_
      have hPc := hP.sub (ws' := [(nu, .inr (5, [.ref au, .int lu_123])), (au, .inl (cI, cap, .inl fu_123))]) [0, 1] rfl
      have hDc := hD.sub (ws' := [(nu, .inr (5, [.ref au, .int lu_123])), (au, .inl (cI, cap, .inl fu_123))]) [0, 1] (by decide +kernel) rfl
      have hFc := va_free (wc := [(nu, .inr (5, [.ref au, .int lu_123])), (au, .inl (cI, cap, .inl fu_123))]) hD hS hA [0, 1] rfl
      refine va_calli (va_runV (As := [.int 59]) (rest := []) ⟨hx, hb, hml, hown, hts⟩ (m_X5_add l dC dI cI cS H.size nu au cap lu_123 fu_123 59 (hf123_0) (by omega)) (cwV 1 hts gX2_encodeNumber_X5_add rfl rfl rfl (by decide +kernel) ⟨Nat.le_of_ble_eq_true rfl, Nat.le_of_ble_eq_true rfl⟩) ⟨fun a U g mk q => by obtain ⟨q0, q1, qP, qK, qD⟩ := q; exact ⟨q0, q1, qP, va_K.moved (u := U) (U := U.calling g mk a) (Vm.Alike.refl U.vm) qK, qD⟩, va_recv hK hPc (ci := 5) (q0 := 0) rfl rfl, fun U hU hW => ⟨rfl, by rw [hU], by rw [hU]; exact hPc, va_K.moved hW.alike hK, hDc.weaken (fun _ _ _ _ => trivial)⟩⟩ rfl rfl hl.1 rfl (lv_room (Nat.le_of_ble_eq_true rfl)) dX2_encodeNumber_103 ⟨Nat.le_of_ble_eq_true rfl, Nat.le_of_ble_eq_true rfl⟩) hS (fun q _ h => hFc q h) hFc (fun r_127 u t H1 locs ht hvm hw hB hz1 hk1 hSn => ?_)
      subst hw
      obtain ⟨lu_127, fu_127, hP1, hD1, hf127_0, hf127_1, hf127_2⟩ := hB
      rw [ht] at hP1
      obtain ⟨hPn, hDn⟩ := va_join (wr := []) (w1 := [(nu, .inr (5, [.ref au, .int lu_127])), (au, .inl (cI, cap, .inl fu_127))]) hP hD [0, 1] [] rfl rfl (by decide +kernel) (by decide +kernel) hk1 hFc hP1 hD1
      clear hP hD hS hPc hDc hFc hk1 hz1 hvm ht hP1 hD1
      generalize H1 = H at hPn hSn ⊢
      have hP : va_P (dC, dI) vwCl [(nu, .inr (5, [.ref au, .int lu_127])), (au, .inl (cI, cap, .inl fu_127))] H := hPn
      have hD : va_D A [(nu, .inr (5, [.ref au, .int lu_127])), (au, .inl (cI, cap, .inl fu_127))] := hDn
      have hS := hSn
      clear hPn hDn hSn
      have ha127 : lu_127.toInt = lu_123.toInt + 1 := F_add_l hf127_2 (by omega)
      have hr127 : r_127.toInt = 1 := F_add_r hf127_2 (by omega)
      have hap127 : AP lu lu_127 fu fu_127 [(38 : Int32).toInt, (35 : Int32).toInt, (x_95 : Int32).toInt, (x_104 : Int32).toInt, (x_113 : Int32).toInt, (x_122 : Int32).toInt, (59 : Int32).toInt] := AP_s hap123 (by omega) hf127_2 (by omega)
      refine lv_if_eq (tgt := 113) hx hb dX2_encodeNumber_106 (by decide) (fun c_128 => by exfalso; have tc_128 : r_127.toInt = 0 := v_eq c_128; omega) (fun c_128 => ?_)
      have tc_128 : ¬ r_127.toInt = 0 := v_ne c_128
      refine lv_iconst (v := 1) hx hb dX2_encodeNumber_109 (by decide) ?_
      refine lv_goto (tgt := 114) hx hb dX2_encodeNumber_110 (by decide) ?_
      have hP9 := hP.sub (ws' := [(nu, .inr (5, [.ref au, .int lu_127])), (au, .inl (cI, cap, .inl fu_127))]) [0, 1] rfl
      have hD9 := hD.sub (ws' := [(nu, .inr (5, [.ref au, .int lu_127])), (au, .inl (cI, cap, .inl fu_127))]) [0, 1] (by decide +kernel) rfl
      rw [hQQ]
      exact W.zret (v := 1) (ty := .boolean) hx hb hr (rfl) (fun t ht hW => ⟨⟨1, 1, rfl, rfl, ⟨lu_127, fu_127, by rw [ht]; exact hP9, hD9, hf127_0, by decide, F_en_y (by first | omega | rfl) hap127 (by first | (unfold enc; (repeat (first | rw [if_pos (by omega)] | rw [if_neg (by omega)])); unfold encN; (repeat (first | rw [if_pos (by omega)] | rw [if_neg (by omega)])) <;> exact L7 (by first | omega | rfl) (by first | omega | rfl) (by first | omega | rfl) (by first | omega | rfl) (by first | omega | rfl) (by first | omega | rfl) (by first | omega | rfl)) | (exfalso; omega))⟩⟩, hS.F ht⟩) hS.2.2 dX2_encodeNumber_114
  · have tc_9 : ¬ x_7.toInt = 0 := v_ne c_9
    refine lv_iconst (v := 1) hx hb dX2_encodeNumber_54 (by decide) ?_
    refine lv_goto (tgt := 59) hx hb dX2_encodeNumber_55 (by decide) ?_
    refine lv_istore_n (lv' := [(3, .int 1), (5, .int x_7), (4, .int 10000), (2, .int 1), (0, .int le), (1, .ref nu)]) hx hb dX2_encodeNumber_59 rfl hl (by decide) rfl (fun ls hl => ?_)
    refine lv_iload_n hx hb dX2_encodeNumber_60 rfl (lv_at hl 0 rfl) ?_
    refine lv_if_eq (tgt := 86) hx hb dX2_encodeNumber_61 (by decide) (fun c_129 => absurd c_129 (by decide)) (fun c_129 => ?_)
    refine lv_iload_n hx hb dX2_encodeNumber_64 rfl (lv_at hl 3 rfl) ?_
    refine lv_if_eq (tgt := 84) hx hb dX2_encodeNumber_65 (by decide) (fun c_130 => absurd c_130 (by decide)) (fun c_130 => ?_)
    refine lv_aload_n hx hb dX2_encodeNumber_68 rfl (lv_at hl 5 rfl) ?_
    refine lv_bipush (v := 48) hx hb dX2_encodeNumber_69 (by decide) ?_
    refine lv_iload hx hb dX2_encodeNumber_71 (lv_at hl 1 rfl) ?_
    refine lv_iadd hx hb dX2_encodeNumber_73 ?_
    refine lv_topi (fun x_131 ex_131 => ?_)
    have tx_131 : x_131.toInt = 48 + x_7.toInt := v_add ex_131 (by show -2147483648 ≤ 48 + x_7.toInt; omega) (by show 48 + x_7.toInt < 2147483648; omega)
    have hPc := hP.sub (ws' := [(nu, .inr (5, [.ref au, .int lu_3])), (au, .inl (cI, cap, .inl fu_3))]) [0, 1] rfl
    have hDc := hD.sub (ws' := [(nu, .inr (5, [.ref au, .int lu_3])), (au, .inl (cI, cap, .inl fu_3))]) [0, 1] (by decide +kernel) rfl
    have hFc := va_free (wc := [(nu, .inr (5, [.ref au, .int lu_3])), (au, .inl (cI, cap, .inl fu_3))]) hD hS hA [0, 1] rfl
    refine va_calli (va_runV (As := [.int x_131]) (rest := []) ⟨hx, hb, hml, hown, hts⟩ (m_X5_add l dC dI cI cS H.size nu au cap lu_3 fu_3 x_131 (hf3_0) (by omega)) (cwV 1 hts gX2_encodeNumber_X5_add rfl rfl rfl (by decide +kernel) ⟨Nat.le_of_ble_eq_true rfl, Nat.le_of_ble_eq_true rfl⟩) ⟨fun a U g mk q => by obtain ⟨q0, q1, qP, qK, qD⟩ := q; exact ⟨q0, q1, qP, va_K.moved (u := U) (U := U.calling g mk a) (Vm.Alike.refl U.vm) qK, qD⟩, va_recv hK hPc (ci := 5) (q0 := 0) rfl rfl, fun U hU hW => ⟨rfl, by rw [hU], by rw [hU]; exact hPc, va_K.moved hW.alike hK, hDc.weaken (fun _ _ _ _ => trivial)⟩⟩ rfl rfl hl.1 rfl (lv_room (Nat.le_of_ble_eq_true rfl)) dX2_encodeNumber_74 ⟨Nat.le_of_ble_eq_true rfl, Nat.le_of_ble_eq_true rfl⟩) hS (fun q _ h => hFc q h) hFc (fun r_132 u t H1 locs ht hvm hw hB hz1 hk1 hSn => ?_)
    subst hw
    obtain ⟨lu_132, fu_132, hP1, hD1, hf132_0, hf132_1, hf132_2⟩ := hB
    rw [ht] at hP1
    obtain ⟨hPn, hDn⟩ := va_join (wr := []) (w1 := [(nu, .inr (5, [.ref au, .int lu_132])), (au, .inl (cI, cap, .inl fu_132))]) hP hD [0, 1] [] rfl rfl (by decide +kernel) (by decide +kernel) hk1 hFc hP1 hD1
    clear hP hD hS hPc hDc hFc hk1 hz1 hvm ht hP1 hD1
    generalize H1 = H at hPn hSn ⊢
    have hP : va_P (dC, dI) vwCl [(nu, .inr (5, [.ref au, .int lu_132])), (au, .inl (cI, cap, .inl fu_132))] H := hPn
    have hD : va_D A [(nu, .inr (5, [.ref au, .int lu_132])), (au, .inl (cI, cap, .inl fu_132))] := hDn
    have hS := hSn
    clear hPn hDn hSn
    have ha132 : lu_132.toInt = lu_3.toInt + 1 := F_add_l hf132_2 (by omega)
    have hr132 : r_132.toInt = 1 := F_add_r hf132_2 (by omega)
    have hap132 : AP lu lu_132 fu fu_132 [(38 : Int32).toInt, (35 : Int32).toInt, (x_131 : Int32).toInt] := AP_s hap3 (by omega) hf132_2 (by omega)
    refine lv_if_eq (tgt := 84) hx hb dX2_encodeNumber_77 (by decide) (fun c_133 => by exfalso; have tc_133 : r_132.toInt = 0 := v_eq c_133; omega) (fun c_133 => ?_)
    have tc_133 : ¬ r_132.toInt = 0 := v_ne c_133
    refine lv_iconst (v := 1) hx hb dX2_encodeNumber_80 (by decide) ?_
    refine lv_goto (tgt := 85) hx hb dX2_encodeNumber_81 (by decide) ?_
    refine lv_istore_n (lv' := [(2, .int 1), (3, .int 1), (5, .int x_7), (4, .int 10000), (0, .int le), (1, .ref nu)]) hx hb dX2_encodeNumber_85 rfl hl (by decide) rfl (fun ls hl => ?_)
    refine lv_iload hx hb dX2_encodeNumber_86 (lv_at hl 3 rfl) ?_
    refine lv_bipush (v := 10) hx hb dX2_encodeNumber_88 (by decide) ?_
    refine lv_idiv hx hb dX2_encodeNumber_90 (by decide) ?_
    refine k_i (y := 1000) (by decide) ?_
    refine lv_istore (lv' := [(4, .int 1000), (2, .int 1), (3, .int 1), (5, .int x_7), (0, .int le), (1, .ref nu)]) hx hb dX2_encodeNumber_91 hl (by decide) rfl (fun ls hl => ?_)
    refine lv_goto (tgt := 31) hx hb dX2_encodeNumber_93 (by decide) ?_
    refine lv_iload hx hb dX2_encodeNumber_31 (lv_at hl 0 rfl) ?_
    refine lv_if_le (tgt := 96) hx hb dX2_encodeNumber_33 (by decide) (fun c_134 => absurd c_134 (by decide)) (fun c_134 => ?_)
    refine lv_iload_n hx hb dX2_encodeNumber_36 rfl (lv_at hl 4 rfl) ?_
    refine lv_iload hx hb dX2_encodeNumber_37 (lv_at hl 0 rfl) ?_
    refine lv_idiv hx hb dX2_encodeNumber_39 (by decide) ?_
    refine lv_topi (fun x_135 ex_135 => ?_)
    have tx_135 : x_135.toInt = le.toInt / 1000 := v_div ex_135 (by omega) (by decide)
    refine lv_bipush (v := 10) hx hb dX2_encodeNumber_40 (by decide) ?_
    refine lv_irem hx hb dX2_encodeNumber_42 (by decide) ?_
    refine lv_topi (fun x_136 ex_136 => ?_)
    have tx_136 : x_136.toInt = x_135.toInt % 10 := v_rem ex_136 (by omega) (by decide)
    refine lv_istore (lv' := [(5, .int x_136), (4, .int 1000), (2, .int 1), (3, .int 1), (0, .int le), (1, .ref nu)]) hx hb dX2_encodeNumber_43 hl (by decide) rfl (fun ls hl => ?_)
    refine lv_iload_n hx hb dX2_encodeNumber_45 rfl (lv_at hl 3 rfl) ?_
    refine lv_if_ne (tgt := 54) hx hb dX2_encodeNumber_46 (by decide) (fun c_137 => ?_) (fun c_137 => absurd c_137 (by decide))
    refine lv_iconst (v := 1) hx hb dX2_encodeNumber_54 (by decide) ?_
    refine lv_goto (tgt := 59) hx hb dX2_encodeNumber_55 (by decide) ?_
    refine lv_istore_n (lv' := [(3, .int 1), (5, .int x_136), (4, .int 1000), (2, .int 1), (0, .int le), (1, .ref nu)]) hx hb dX2_encodeNumber_59 rfl hl (by decide) rfl (fun ls hl => ?_)
    refine lv_iload_n hx hb dX2_encodeNumber_60 rfl (lv_at hl 0 rfl) ?_
    refine lv_if_eq (tgt := 86) hx hb dX2_encodeNumber_61 (by decide) (fun c_138 => absurd c_138 (by decide)) (fun c_138 => ?_)
    refine lv_iload_n hx hb dX2_encodeNumber_64 rfl (lv_at hl 3 rfl) ?_
    refine lv_if_eq (tgt := 84) hx hb dX2_encodeNumber_65 (by decide) (fun c_139 => absurd c_139 (by decide)) (fun c_139 => ?_)
    refine lv_aload_n hx hb dX2_encodeNumber_68 rfl (lv_at hl 5 rfl) ?_
    refine lv_bipush (v := 48) hx hb dX2_encodeNumber_69 (by decide) ?_
    refine lv_iload hx hb dX2_encodeNumber_71 (lv_at hl 1 rfl) ?_
    refine lv_iadd hx hb dX2_encodeNumber_73 ?_
    refine lv_topi (fun x_140 ex_140 => ?_)
    have tx_140 : x_140.toInt = 48 + x_136.toInt := v_add ex_140 (by show -2147483648 ≤ 48 + x_136.toInt; omega) (by show 48 + x_136.toInt < 2147483648; omega)
    have hPc := hP.sub (ws' := [(nu, .inr (5, [.ref au, .int lu_132])), (au, .inl (cI, cap, .inl fu_132))]) [0, 1] rfl
    have hDc := hD.sub (ws' := [(nu, .inr (5, [.ref au, .int lu_132])), (au, .inl (cI, cap, .inl fu_132))]) [0, 1] (by decide +kernel) rfl
    have hFc := va_free (wc := [(nu, .inr (5, [.ref au, .int lu_132])), (au, .inl (cI, cap, .inl fu_132))]) hD hS hA [0, 1] rfl
    refine va_calli (va_runV (As := [.int x_140]) (rest := []) ⟨hx, hb, hml, hown, hts⟩ (m_X5_add l dC dI cI cS H.size nu au cap lu_132 fu_132 x_140 (hf132_0) (by omega)) (cwV 1 hts gX2_encodeNumber_X5_add rfl rfl rfl (by decide +kernel) ⟨Nat.le_of_ble_eq_true rfl, Nat.le_of_ble_eq_true rfl⟩) ⟨fun a U g mk q => by obtain ⟨q0, q1, qP, qK, qD⟩ := q; exact ⟨q0, q1, qP, va_K.moved (u := U) (U := U.calling g mk a) (Vm.Alike.refl U.vm) qK, qD⟩, va_recv hK hPc (ci := 5) (q0 := 0) rfl rfl, fun U hU hW => ⟨rfl, by rw [hU], by rw [hU]; exact hPc, va_K.moved hW.alike hK, hDc.weaken (fun _ _ _ _ => trivial)⟩⟩ rfl rfl hl.1 rfl (lv_room (Nat.le_of_ble_eq_true rfl)) dX2_encodeNumber_74 ⟨Nat.le_of_ble_eq_true rfl, Nat.le_of_ble_eq_true rfl⟩) hS (fun q _ h => hFc q h) hFc (fun r_141 u t H1 locs ht hvm hw hB hz1 hk1 hSn => ?_)
    subst hw
    obtain ⟨lu_141, fu_141, hP1, hD1, hf141_0, hf141_1, hf141_2⟩ := hB
    rw [ht] at hP1
    obtain ⟨hPn, hDn⟩ := va_join (wr := []) (w1 := [(nu, .inr (5, [.ref au, .int lu_141])), (au, .inl (cI, cap, .inl fu_141))]) hP hD [0, 1] [] rfl rfl (by decide +kernel) (by decide +kernel) hk1 hFc hP1 hD1
    clear hP hD hS hPc hDc hFc hk1 hz1 hvm ht hP1 hD1
    generalize H1 = H at hPn hSn ⊢
    have hP : va_P (dC, dI) vwCl [(nu, .inr (5, [.ref au, .int lu_141])), (au, .inl (cI, cap, .inl fu_141))] H := hPn
    have hD : va_D A [(nu, .inr (5, [.ref au, .int lu_141])), (au, .inl (cI, cap, .inl fu_141))] := hDn
    have hS := hSn
    clear hPn hDn hSn
    have ha141 : lu_141.toInt = lu_132.toInt + 1 := F_add_l hf141_2 (by omega)
    have hr141 : r_141.toInt = 1 := F_add_r hf141_2 (by omega)
    have hap141 : AP lu lu_141 fu fu_141 [(38 : Int32).toInt, (35 : Int32).toInt, (x_131 : Int32).toInt, (x_140 : Int32).toInt] := AP_s hap132 (by omega) hf141_2 (by omega)
    refine lv_if_eq (tgt := 84) hx hb dX2_encodeNumber_77 (by decide) (fun c_142 => by exfalso; have tc_142 : r_141.toInt = 0 := v_eq c_142; omega) (fun c_142 => ?_)
    have tc_142 : ¬ r_141.toInt = 0 := v_ne c_142
    refine lv_iconst (v := 1) hx hb dX2_encodeNumber_80 (by decide) ?_
    refine lv_goto (tgt := 85) hx hb dX2_encodeNumber_81 (by decide) ?_
    refine lv_istore_n (lv' := [(2, .int 1), (3, .int 1), (5, .int x_136), (4, .int 1000), (0, .int le), (1, .ref nu)]) hx hb dX2_encodeNumber_85 rfl hl (by decide) rfl (fun ls hl => ?_)
    refine lv_iload hx hb dX2_encodeNumber_86 (lv_at hl 3 rfl) ?_
    refine lv_bipush (v := 10) hx hb dX2_encodeNumber_88 (by decide) ?_
    refine lv_idiv hx hb dX2_encodeNumber_90 (by decide) ?_
    refine k_i (y := 100) (by decide) ?_
    refine lv_istore (lv' := [(4, .int 100), (2, .int 1), (3, .int 1), (5, .int x_136), (0, .int le), (1, .ref nu)]) hx hb dX2_encodeNumber_91 hl (by decide) rfl (fun ls hl => ?_)
    refine lv_goto (tgt := 31) hx hb dX2_encodeNumber_93 (by decide) ?_
    refine lv_iload hx hb dX2_encodeNumber_31 (lv_at hl 0 rfl) ?_
    refine lv_if_le (tgt := 96) hx hb dX2_encodeNumber_33 (by decide) (fun c_143 => absurd c_143 (by decide)) (fun c_143 => ?_)
    refine lv_iload_n hx hb dX2_encodeNumber_36 rfl (lv_at hl 4 rfl) ?_
    refine lv_iload hx hb dX2_encodeNumber_37 (lv_at hl 0 rfl) ?_
    refine lv_idiv hx hb dX2_encodeNumber_39 (by decide) ?_
    refine lv_topi (fun x_144 ex_144 => ?_)
    have tx_144 : x_144.toInt = le.toInt / 100 := v_div ex_144 (by omega) (by decide)
    refine lv_bipush (v := 10) hx hb dX2_encodeNumber_40 (by decide) ?_
    refine lv_irem hx hb dX2_encodeNumber_42 (by decide) ?_
    refine lv_topi (fun x_145 ex_145 => ?_)
    have tx_145 : x_145.toInt = x_144.toInt % 10 := v_rem ex_145 (by omega) (by decide)
    refine lv_istore (lv' := [(5, .int x_145), (4, .int 100), (2, .int 1), (3, .int 1), (0, .int le), (1, .ref nu)]) hx hb dX2_encodeNumber_43 hl (by decide) rfl (fun ls hl => ?_)
    refine lv_iload_n hx hb dX2_encodeNumber_45 rfl (lv_at hl 3 rfl) ?_
    refine lv_if_ne (tgt := 54) hx hb dX2_encodeNumber_46 (by decide) (fun c_146 => ?_) (fun c_146 => absurd c_146 (by decide))
    refine lv_iconst (v := 1) hx hb dX2_encodeNumber_54 (by decide) ?_
    refine lv_goto (tgt := 59) hx hb dX2_encodeNumber_55 (by decide) ?_
    refine lv_istore_n (lv' := [(3, .int 1), (5, .int x_145), (4, .int 100), (2, .int 1), (0, .int le), (1, .ref nu)]) hx hb dX2_encodeNumber_59 rfl hl (by decide) rfl (fun ls hl => ?_)
    refine lv_iload_n hx hb dX2_encodeNumber_60 rfl (lv_at hl 0 rfl) ?_
    refine lv_if_eq (tgt := 86) hx hb dX2_encodeNumber_61 (by decide) (fun c_147 => absurd c_147 (by decide)) (fun c_147 => ?_)
    refine lv_iload_n hx hb dX2_encodeNumber_64 rfl (lv_at hl 3 rfl) ?_
    refine lv_if_eq (tgt := 84) hx hb dX2_encodeNumber_65 (by decide) (fun c_148 => absurd c_148 (by decide)) (fun c_148 => ?_)
    refine lv_aload_n hx hb dX2_encodeNumber_68 rfl (lv_at hl 5 rfl) ?_
    refine lv_bipush (v := 48) hx hb dX2_encodeNumber_69 (by decide) ?_
    refine lv_iload hx hb dX2_encodeNumber_71 (lv_at hl 1 rfl) ?_
    refine lv_iadd hx hb dX2_encodeNumber_73 ?_
    refine lv_topi (fun x_149 ex_149 => ?_)
    have tx_149 : x_149.toInt = 48 + x_145.toInt := v_add ex_149 (by show -2147483648 ≤ 48 + x_145.toInt; omega) (by show 48 + x_145.toInt < 2147483648; omega)
    have hPc := hP.sub (ws' := [(nu, .inr (5, [.ref au, .int lu_141])), (au, .inl (cI, cap, .inl fu_141))]) [0, 1] rfl
    have hDc := hD.sub (ws' := [(nu, .inr (5, [.ref au, .int lu_141])), (au, .inl (cI, cap, .inl fu_141))]) [0, 1] (by decide +kernel) rfl
    have hFc := va_free (wc := [(nu, .inr (5, [.ref au, .int lu_141])), (au, .inl (cI, cap, .inl fu_141))]) hD hS hA [0, 1] rfl
    refine va_calli (va_runV (As := [.int x_149]) (rest := []) ⟨hx, hb, hml, hown, hts⟩ (m_X5_add l dC dI cI cS H.size nu au cap lu_141 fu_141 x_149 (hf141_0) (by omega)) (cwV 1 hts gX2_encodeNumber_X5_add rfl rfl rfl (by decide +kernel) ⟨Nat.le_of_ble_eq_true rfl, Nat.le_of_ble_eq_true rfl⟩) ⟨fun a U g mk q => by obtain ⟨q0, q1, qP, qK, qD⟩ := q; exact ⟨q0, q1, qP, va_K.moved (u := U) (U := U.calling g mk a) (Vm.Alike.refl U.vm) qK, qD⟩, va_recv hK hPc (ci := 5) (q0 := 0) rfl rfl, fun U hU hW => ⟨rfl, by rw [hU], by rw [hU]; exact hPc, va_K.moved hW.alike hK, hDc.weaken (fun _ _ _ _ => trivial)⟩⟩ rfl rfl hl.1 rfl (lv_room (Nat.le_of_ble_eq_true rfl)) dX2_encodeNumber_74 ⟨Nat.le_of_ble_eq_true rfl, Nat.le_of_ble_eq_true rfl⟩) hS (fun q _ h => hFc q h) hFc (fun r_150 u t H1 locs ht hvm hw hB hz1 hk1 hSn => ?_)
    subst hw
    obtain ⟨lu_150, fu_150, hP1, hD1, hf150_0, hf150_1, hf150_2⟩ := hB
    rw [ht] at hP1
    obtain ⟨hPn, hDn⟩ := va_join (wr := []) (w1 := [(nu, .inr (5, [.ref au, .int lu_150])), (au, .inl (cI, cap, .inl fu_150))]) hP hD [0, 1] [] rfl rfl (by decide +kernel) (by decide +kernel) hk1 hFc hP1 hD1
    clear hP hD hS hPc hDc hFc hk1 hz1 hvm ht hP1 hD1
    generalize H1 = H at hPn hSn ⊢
    have hP : va_P (dC, dI) vwCl [(nu, .inr (5, [.ref au, .int lu_150])), (au, .inl (cI, cap, .inl fu_150))] H := hPn
    have hD : va_D A [(nu, .inr (5, [.ref au, .int lu_150])), (au, .inl (cI, cap, .inl fu_150))] := hDn
    have hS := hSn
    clear hPn hDn hSn
    have ha150 : lu_150.toInt = lu_141.toInt + 1 := F_add_l hf150_2 (by omega)
    have hr150 : r_150.toInt = 1 := F_add_r hf150_2 (by omega)
    have hap150 : AP lu lu_150 fu fu_150 [(38 : Int32).toInt, (35 : Int32).toInt, (x_131 : Int32).toInt, (x_140 : Int32).toInt, (x_149 : Int32).toInt] := AP_s hap141 (by omega) hf150_2 (by omega)
    refine lv_if_eq (tgt := 84) hx hb dX2_encodeNumber_77 (by decide) (fun c_151 => by exfalso; have tc_151 : r_150.toInt = 0 := v_eq c_151; omega) (fun c_151 => ?_)
    have tc_151 : ¬ r_150.toInt = 0 := v_ne c_151
    refine lv_iconst (v := 1) hx hb dX2_encodeNumber_80 (by decide) ?_
    refine lv_goto (tgt := 85) hx hb dX2_encodeNumber_81 (by decide) ?_
    refine lv_istore_n (lv' := [(2, .int 1), (3, .int 1), (5, .int x_145), (4, .int 100), (0, .int le), (1, .ref nu)]) hx hb dX2_encodeNumber_85 rfl hl (by decide) rfl (fun ls hl => ?_)
    refine lv_iload hx hb dX2_encodeNumber_86 (lv_at hl 3 rfl) ?_
    refine lv_bipush (v := 10) hx hb dX2_encodeNumber_88 (by decide) ?_
    refine lv_idiv hx hb dX2_encodeNumber_90 (by decide) ?_
    refine k_i (y := 10) (by decide) ?_
    refine lv_istore (lv' := [(4, .int 10), (2, .int 1), (3, .int 1), (5, .int x_145), (0, .int le), (1, .ref nu)]) hx hb dX2_encodeNumber_91 hl (by decide) rfl (fun ls hl => ?_)
    refine lv_goto (tgt := 31) hx hb dX2_encodeNumber_93 (by decide) ?_
    refine lv_iload hx hb dX2_encodeNumber_31 (lv_at hl 0 rfl) ?_
    refine lv_if_le (tgt := 96) hx hb dX2_encodeNumber_33 (by decide) (fun c_152 => absurd c_152 (by decide)) (fun c_152 => ?_)
    refine lv_iload_n hx hb dX2_encodeNumber_36 rfl (lv_at hl 4 rfl) ?_
    refine lv_iload hx hb dX2_encodeNumber_37 (lv_at hl 0 rfl) ?_
    refine lv_idiv hx hb dX2_encodeNumber_39 (by decide) ?_
    refine lv_topi (fun x_153 ex_153 => ?_)
    have tx_153 : x_153.toInt = le.toInt / 10 := v_div ex_153 (by omega) (by decide)
    refine lv_bipush (v := 10) hx hb dX2_encodeNumber_40 (by decide) ?_
    refine lv_irem hx hb dX2_encodeNumber_42 (by decide) ?_
    refine lv_topi (fun x_154 ex_154 => ?_)
    have tx_154 : x_154.toInt = x_153.toInt % 10 := v_rem ex_154 (by omega) (by decide)
    refine lv_istore (lv' := [(5, .int x_154), (4, .int 10), (2, .int 1), (3, .int 1), (0, .int le), (1, .ref nu)]) hx hb dX2_encodeNumber_43 hl (by decide) rfl (fun ls hl => ?_)
    refine lv_iload_n hx hb dX2_encodeNumber_45 rfl (lv_at hl 3 rfl) ?_
    refine lv_if_ne (tgt := 54) hx hb dX2_encodeNumber_46 (by decide) (fun c_155 => ?_) (fun c_155 => absurd c_155 (by decide))
    refine lv_iconst (v := 1) hx hb dX2_encodeNumber_54 (by decide) ?_
    refine lv_goto (tgt := 59) hx hb dX2_encodeNumber_55 (by decide) ?_
    refine lv_istore_n (lv' := [(3, .int 1), (5, .int x_154), (4, .int 10), (2, .int 1), (0, .int le), (1, .ref nu)]) hx hb dX2_encodeNumber_59 rfl hl (by decide) rfl (fun ls hl => ?_)
    refine lv_iload_n hx hb dX2_encodeNumber_60 rfl (lv_at hl 0 rfl) ?_
    refine lv_if_eq (tgt := 86) hx hb dX2_encodeNumber_61 (by decide) (fun c_156 => absurd c_156 (by decide)) (fun c_156 => ?_)
    refine lv_iload_n hx hb dX2_encodeNumber_64 rfl (lv_at hl 3 rfl) ?_
    refine lv_if_eq (tgt := 84) hx hb dX2_encodeNumber_65 (by decide) (fun c_157 => absurd c_157 (by decide)) (fun c_157 => ?_)
    refine lv_aload_n hx hb dX2_encodeNumber_68 rfl (lv_at hl 5 rfl) ?_
    refine lv_bipush (v := 48) hx hb dX2_encodeNumber_69 (by decide) ?_
    refine lv_iload hx hb dX2_encodeNumber_71 (lv_at hl 1 rfl) ?_
    refine lv_iadd hx hb dX2_encodeNumber_73 ?_
    refine lv_topi (fun x_158 ex_158 => ?_)
    have tx_158 : x_158.toInt = 48 + x_154.toInt := v_add ex_158 (by show -2147483648 ≤ 48 + x_154.toInt; omega) (by show 48 + x_154.toInt < 2147483648; omega)
    have hPc := hP.sub (ws' := [(nu, .inr (5, [.ref au, .int lu_150])), (au, .inl (cI, cap, .inl fu_150))]) [0, 1] rfl
    have hDc := hD.sub (ws' := [(nu, .inr (5, [.ref au, .int lu_150])), (au, .inl (cI, cap, .inl fu_150))]) [0, 1] (by decide +kernel) rfl
    have hFc := va_free (wc := [(nu, .inr (5, [.ref au, .int lu_150])), (au, .inl (cI, cap, .inl fu_150))]) hD hS hA [0, 1] rfl
    refine va_calli (va_runV (As := [.int x_158]) (rest := []) ⟨hx, hb, hml, hown, hts⟩ (m_X5_add l dC dI cI cS H.size nu au cap lu_150 fu_150 x_158 (hf150_0) (by omega)) (cwV 1 hts gX2_encodeNumber_X5_add rfl rfl rfl (by decide +kernel) ⟨Nat.le_of_ble_eq_true rfl, Nat.le_of_ble_eq_true rfl⟩) ⟨fun a U g mk q => by obtain ⟨q0, q1, qP, qK, qD⟩ := q; exact ⟨q0, q1, qP, va_K.moved (u := U) (U := U.calling g mk a) (Vm.Alike.refl U.vm) qK, qD⟩, va_recv hK hPc (ci := 5) (q0 := 0) rfl rfl, fun U hU hW => ⟨rfl, by rw [hU], by rw [hU]; exact hPc, va_K.moved hW.alike hK, hDc.weaken (fun _ _ _ _ => trivial)⟩⟩ rfl rfl hl.1 rfl (lv_room (Nat.le_of_ble_eq_true rfl)) dX2_encodeNumber_74 ⟨Nat.le_of_ble_eq_true rfl, Nat.le_of_ble_eq_true rfl⟩) hS (fun q _ h => hFc q h) hFc (fun r_159 u t H1 locs ht hvm hw hB hz1 hk1 hSn => ?_)
    subst hw
    obtain ⟨lu_159, fu_159, hP1, hD1, hf159_0, hf159_1, hf159_2⟩ := hB
    rw [ht] at hP1
    obtain ⟨hPn, hDn⟩ := va_join (wr := []) (w1 := [(nu, .inr (5, [.ref au, .int lu_159])), (au, .inl (cI, cap, .inl fu_159))]) hP hD [0, 1] [] rfl rfl (by decide +kernel) (by decide +kernel) hk1 hFc hP1 hD1
    clear hP hD hS hPc hDc hFc hk1 hz1 hvm ht hP1 hD1
    generalize H1 = H at hPn hSn ⊢
    have hP : va_P (dC, dI) vwCl [(nu, .inr (5, [.ref au, .int lu_159])), (au, .inl (cI, cap, .inl fu_159))] H := hPn
    have hD : va_D A [(nu, .inr (5, [.ref au, .int lu_159])), (au, .inl (cI, cap, .inl fu_159))] := hDn
    have hS := hSn
    clear hPn hDn hSn
    have ha159 : lu_159.toInt = lu_150.toInt + 1 := F_add_l hf159_2 (by omega)
    have hr159 : r_159.toInt = 1 := F_add_r hf159_2 (by omega)
    have hap159 : AP lu lu_159 fu fu_159 [(38 : Int32).toInt, (35 : Int32).toInt, (x_131 : Int32).toInt, (x_140 : Int32).toInt, (x_149 : Int32).toInt, (x_158 : Int32).toInt] := AP_s hap150 (by omega) hf159_2 (by omega)
    refine lv_if_eq (tgt := 84) hx hb dX2_encodeNumber_77 (by decide) (fun c_160 => by exfalso; have tc_160 : r_159.toInt = 0 := v_eq c_160; omega) (fun c_160 => ?_)
    have tc_160 : ¬ r_159.toInt = 0 := v_ne c_160
    refine lv_iconst (v := 1) hx hb dX2_encodeNumber_80 (by decide) ?_
    refine lv_goto (tgt := 85) hx hb dX2_encodeNumber_81 (by decide) ?_
    refine lv_istore_n (lv' := [(2, .int 1), (3, .int 1), (5, .int x_154), (4, .int 10), (0, .int le), (1, .ref nu)]) hx hb dX2_encodeNumber_85 rfl hl (by decide) rfl (fun ls hl => ?_)
    refine lv_iload hx hb dX2_encodeNumber_86 (lv_at hl 3 rfl) ?_
    refine lv_bipush (v := 10) hx hb dX2_encodeNumber_88 (by decide) ?_
    refine lv_idiv hx hb dX2_encodeNumber_90 (by decide) ?_
    refine k_i (y := 1) (by decide) ?_
    refine lv_istore (lv' := [(4, .int 1), (2, .int 1), (3, .int 1), (5, .int x_154), (0, .int le), (1, .ref nu)]) hx hb dX2_encodeNumber_91 hl (by decide) rfl (fun ls hl => ?_)
    refine lv_goto (tgt := 31) hx hb dX2_encodeNumber_93 (by decide) ?_
    refine lv_iload hx hb dX2_encodeNumber_31 (lv_at hl 0 rfl) ?_
    refine lv_if_le (tgt := 96) hx hb dX2_encodeNumber_33 (by decide) (fun c_161 => absurd c_161 (by decide)) (fun c_161 => ?_)
    refine lv_iload_n hx hb dX2_encodeNumber_36 rfl (lv_at hl 4 rfl) ?_
    refine lv_iload hx hb dX2_encodeNumber_37 (lv_at hl 0 rfl) ?_
    refine lv_idiv hx hb dX2_encodeNumber_39 (by decide) ?_
    refine lv_topi (fun x_162 ex_162 => ?_)
    have tx_162 : x_162.toInt = le.toInt / 1 := v_div ex_162 (by omega) (by decide)
    refine lv_bipush (v := 10) hx hb dX2_encodeNumber_40 (by decide) ?_
    refine lv_irem hx hb dX2_encodeNumber_42 (by decide) ?_
    refine lv_topi (fun x_163 ex_163 => ?_)
    have tx_163 : x_163.toInt = x_162.toInt % 10 := v_rem ex_163 (by omega) (by decide)
    refine lv_istore (lv' := [(5, .int x_163), (4, .int 1), (2, .int 1), (3, .int 1), (0, .int le), (1, .ref nu)]) hx hb dX2_encodeNumber_43 hl (by decide) rfl (fun ls hl => ?_)
    refine lv_iload_n hx hb dX2_encodeNumber_45 rfl (lv_at hl 3 rfl) ?_
    refine lv_if_ne (tgt := 54) hx hb dX2_encodeNumber_46 (by decide) (fun c_164 => ?_) (fun c_164 => absurd c_164 (by decide))
    refine lv_iconst (v := 1) hx hb dX2_encodeNumber_54 (by decide) ?_
    refine lv_goto (tgt := 59) hx hb dX2_encodeNumber_55 (by decide) ?_
    refine lv_istore_n (lv' := [(3, .int 1), (5, .int x_163), (4, .int 1), (2, .int 1), (0, .int le), (1, .ref nu)]) hx hb dX2_encodeNumber_59 rfl hl (by decide) rfl (fun ls hl => ?_)
    refine lv_iload_n hx hb dX2_encodeNumber_60 rfl (lv_at hl 0 rfl) ?_
    refine lv_if_eq (tgt := 86) hx hb dX2_encodeNumber_61 (by decide) (fun c_165 => absurd c_165 (by decide)) (fun c_165 => ?_)
    refine lv_iload_n hx hb dX2_encodeNumber_64 rfl (lv_at hl 3 rfl) ?_
    refine lv_if_eq (tgt := 84) hx hb dX2_encodeNumber_65 (by decide) (fun c_166 => absurd c_166 (by decide)) (fun c_166 => ?_)
    refine lv_aload_n hx hb dX2_encodeNumber_68 rfl (lv_at hl 5 rfl) ?_
    refine lv_bipush (v := 48) hx hb dX2_encodeNumber_69 (by decide) ?_
    refine lv_iload hx hb dX2_encodeNumber_71 (lv_at hl 1 rfl) ?_
    refine lv_iadd hx hb dX2_encodeNumber_73 ?_
    refine lv_topi (fun x_167 ex_167 => ?_)
    have tx_167 : x_167.toInt = 48 + x_163.toInt := v_add ex_167 (by show -2147483648 ≤ 48 + x_163.toInt; omega) (by show 48 + x_163.toInt < 2147483648; omega)
    have hPc := hP.sub (ws' := [(nu, .inr (5, [.ref au, .int lu_159])), (au, .inl (cI, cap, .inl fu_159))]) [0, 1] rfl
    have hDc := hD.sub (ws' := [(nu, .inr (5, [.ref au, .int lu_159])), (au, .inl (cI, cap, .inl fu_159))]) [0, 1] (by decide +kernel) rfl
    have hFc := va_free (wc := [(nu, .inr (5, [.ref au, .int lu_159])), (au, .inl (cI, cap, .inl fu_159))]) hD hS hA [0, 1] rfl
    refine va_calli (va_runV (As := [.int x_167]) (rest := []) ⟨hx, hb, hml, hown, hts⟩ (m_X5_add l dC dI cI cS H.size nu au cap lu_159 fu_159 x_167 (hf159_0) (by omega)) (cwV 1 hts gX2_encodeNumber_X5_add rfl rfl rfl (by decide +kernel) ⟨Nat.le_of_ble_eq_true rfl, Nat.le_of_ble_eq_true rfl⟩) ⟨fun a U g mk q => by obtain ⟨q0, q1, qP, qK, qD⟩ := q; exact ⟨q0, q1, qP, va_K.moved (u := U) (U := U.calling g mk a) (Vm.Alike.refl U.vm) qK, qD⟩, va_recv hK hPc (ci := 5) (q0 := 0) rfl rfl, fun U hU hW => ⟨rfl, by rw [hU], by rw [hU]; exact hPc, va_K.moved hW.alike hK, hDc.weaken (fun _ _ _ _ => trivial)⟩⟩ rfl rfl hl.1 rfl (lv_room (Nat.le_of_ble_eq_true rfl)) dX2_encodeNumber_74 ⟨Nat.le_of_ble_eq_true rfl, Nat.le_of_ble_eq_true rfl⟩) hS (fun q _ h => hFc q h) hFc (fun r_168 u t H1 locs ht hvm hw hB hz1 hk1 hSn => ?_)
    subst hw
    obtain ⟨lu_168, fu_168, hP1, hD1, hf168_0, hf168_1, hf168_2⟩ := hB
    rw [ht] at hP1
    obtain ⟨hPn, hDn⟩ := va_join (wr := []) (w1 := [(nu, .inr (5, [.ref au, .int lu_168])), (au, .inl (cI, cap, .inl fu_168))]) hP hD [0, 1] [] rfl rfl (by decide +kernel) (by decide +kernel) hk1 hFc hP1 hD1
    clear hP hD hS hPc hDc hFc hk1 hz1 hvm ht hP1 hD1
    generalize H1 = H at hPn hSn ⊢
    have hP : va_P (dC, dI) vwCl [(nu, .inr (5, [.ref au, .int lu_168])), (au, .inl (cI, cap, .inl fu_168))] H := hPn
    have hD : va_D A [(nu, .inr (5, [.ref au, .int lu_168])), (au, .inl (cI, cap, .inl fu_168))] := hDn
    have hS := hSn
    clear hPn hDn hSn
    have ha168 : lu_168.toInt = lu_159.toInt + 1 := F_add_l hf168_2 (by omega)
    have hr168 : r_168.toInt = 1 := F_add_r hf168_2 (by omega)
    have hap168 : AP lu lu_168 fu fu_168 [(38 : Int32).toInt, (35 : Int32).toInt, (x_131 : Int32).toInt, (x_140 : Int32).toInt, (x_149 : Int32).toInt, (x_158 : Int32).toInt, (x_167 : Int32).toInt] := AP_s hap159 (by omega) hf168_2 (by omega)
    refine lv_if_eq (tgt := 84) hx hb dX2_encodeNumber_77 (by decide) (fun c_169 => by exfalso; have tc_169 : r_168.toInt = 0 := v_eq c_169; omega) (fun c_169 => ?_)
    have tc_169 : ¬ r_168.toInt = 0 := v_ne c_169
    refine lv_iconst (v := 1) hx hb dX2_encodeNumber_80 (by decide) ?_
    refine lv_goto (tgt := 85) hx hb dX2_encodeNumber_81 (by decide) ?_
    refine lv_istore_n (lv' := [(2, .int 1), (3, .int 1), (5, .int x_163), (4, .int 1), (0, .int le), (1, .ref nu)]) hx hb dX2_encodeNumber_85 rfl hl (by decide) rfl (fun ls hl => ?_)
    refine lv_iload hx hb dX2_encodeNumber_86 (lv_at hl 3 rfl) ?_
    refine lv_bipush (v := 10) hx hb dX2_encodeNumber_88 (by decide) ?_
    refine lv_idiv hx hb dX2_encodeNumber_90 (by decide) ?_
    refine k_i (y := 0) (by decide) ?_
    refine lv_istore (lv' := [(4, .int 0), (2, .int 1), (3, .int 1), (5, .int x_163), (0, .int le), (1, .ref nu)]) hx hb dX2_encodeNumber_91 hl (by decide) rfl (fun ls hl => ?_)
    refine lv_goto (tgt := 31) hx hb dX2_encodeNumber_93 (by decide) ?_
    refine lv_iload hx hb dX2_encodeNumber_31 (lv_at hl 0 rfl) ?_
    refine lv_if_le (tgt := 96) hx hb dX2_encodeNumber_33 (by decide) (fun c_170 => ?_) (fun c_170 => absurd c_170 (by decide))
    refine lv_iload_n hx hb dX2_encodeNumber_96 rfl (lv_at hl 1 rfl) ?_
    refine lv_if_eq (tgt := 113) hx hb dX2_encodeNumber_97 (by decide) (fun c_171 => absurd c_171 (by decide)) (fun c_171 => ?_)
    refine lv_aload_n hx hb dX2_encodeNumber_100 rfl (lv_at hl 5 rfl) ?_
    refine lv_bipush (v := 59) hx hb dX2_encodeNumber_101 (by decide) ?_
    have hPc := hP.sub (ws' := [(nu, .inr (5, [.ref au, .int lu_168])), (au, .inl (cI, cap, .inl fu_168))]) [0, 1] rfl
    have hDc := hD.sub (ws' := [(nu, .inr (5, [.ref au, .int lu_168])), (au, .inl (cI, cap, .inl fu_168))]) [0, 1] (by decide +kernel) rfl
    have hFc := va_free (wc := [(nu, .inr (5, [.ref au, .int lu_168])), (au, .inl (cI, cap, .inl fu_168))]) hD hS hA [0, 1] rfl
    refine va_calli (va_runV (As := [.int 59]) (rest := []) ⟨hx, hb, hml, hown, hts⟩ (m_X5_add l dC dI cI cS H.size nu au cap lu_168 fu_168 59 (hf168_0) (by omega)) (cwV 1 hts gX2_encodeNumber_X5_add rfl rfl rfl (by decide +kernel) ⟨Nat.le_of_ble_eq_true rfl, Nat.le_of_ble_eq_true rfl⟩) ⟨fun a U g mk q => by obtain ⟨q0, q1, qP, qK, qD⟩ := q; exact ⟨q0, q1, qP, va_K.moved (u := U) (U := U.calling g mk a) (Vm.Alike.refl U.vm) qK, qD⟩, va_recv hK hPc (ci := 5) (q0 := 0) rfl rfl, fun U hU hW => ⟨rfl, by rw [hU], by rw [hU]; exact hPc, va_K.moved hW.alike hK, hDc.weaken (fun _ _ _ _ => trivial)⟩⟩ rfl rfl hl.1 rfl (lv_room (Nat.le_of_ble_eq_true rfl)) dX2_encodeNumber_103 ⟨Nat.le_of_ble_eq_true rfl, Nat.le_of_ble_eq_true rfl⟩) hS (fun q _ h => hFc q h) hFc (fun r_172 u t H1 locs ht hvm hw hB hz1 hk1 hSn => ?_)
    subst hw
    obtain ⟨lu_172, fu_172, hP1, hD1, hf172_0, hf172_1, hf172_2⟩ := hB
    rw [ht] at hP1
    obtain ⟨hPn, hDn⟩ := va_join (wr := []) (w1 := [(nu, .inr (5, [.ref au, .int lu_172])), (au, .inl (cI, cap, .inl fu_172))]) hP hD [0, 1] [] rfl rfl (by decide +kernel) (by decide +kernel) hk1 hFc hP1 hD1
    clear hP hD hS hPc hDc hFc hk1 hz1 hvm ht hP1 hD1
    generalize H1 = H at hPn hSn ⊢
    have hP : va_P (dC, dI) vwCl [(nu, .inr (5, [.ref au, .int lu_172])), (au, .inl (cI, cap, .inl fu_172))] H := hPn
    have hD : va_D A [(nu, .inr (5, [.ref au, .int lu_172])), (au, .inl (cI, cap, .inl fu_172))] := hDn
    have hS := hSn
    clear hPn hDn hSn
    have ha172 : lu_172.toInt = lu_168.toInt + 1 := F_add_l hf172_2 (by omega)
    have hr172 : r_172.toInt = 1 := F_add_r hf172_2 (by omega)
    have hap172 : AP lu lu_172 fu fu_172 [(38 : Int32).toInt, (35 : Int32).toInt, (x_131 : Int32).toInt, (x_140 : Int32).toInt, (x_149 : Int32).toInt, (x_158 : Int32).toInt, (x_167 : Int32).toInt, (59 : Int32).toInt] := AP_s hap168 (by omega) hf172_2 (by omega)
    refine lv_if_eq (tgt := 113) hx hb dX2_encodeNumber_106 (by decide) (fun c_173 => by exfalso; have tc_173 : r_172.toInt = 0 := v_eq c_173; omega) (fun c_173 => ?_)
    have tc_173 : ¬ r_172.toInt = 0 := v_ne c_173
    refine lv_iconst (v := 1) hx hb dX2_encodeNumber_109 (by decide) ?_
    refine lv_goto (tgt := 114) hx hb dX2_encodeNumber_110 (by decide) ?_
    have hP9 := hP.sub (ws' := [(nu, .inr (5, [.ref au, .int lu_172])), (au, .inl (cI, cap, .inl fu_172))]) [0, 1] rfl
    have hD9 := hD.sub (ws' := [(nu, .inr (5, [.ref au, .int lu_172])), (au, .inl (cI, cap, .inl fu_172))]) [0, 1] (by decide +kernel) rfl
    rw [hQQ]
    exact W.zret (v := 1) (ty := .boolean) hx hb hr (rfl) (fun t ht hW => ⟨⟨1, 1, rfl, rfl, ⟨lu_172, fu_172, by rw [ht]; exact hP9, hD9, hf172_0, by decide, F_en_y (by first | omega | rfl) hap172 (by first | (unfold enc; (repeat (first | rw [if_pos (by omega)] | rw [if_neg (by omega)])); unfold encN; (repeat (first | rw [if_pos (by omega)] | rw [if_neg (by omega)])) <;> exact L8 (by first | omega | rfl) (by first | omega | rfl) (by first | omega | rfl) (by first | omega | rfl) (by first | omega | rfl) (by first | omega | rfl) (by first | omega | rfl) (by first | omega | rfl)) | (exfalso; omega))⟩⟩, hS.F ht⟩) hS.2.2 dX2_encodeNumber_114

set_option maxHeartbeats 40000000 in
set_option maxRecDepth 100000 in
theorem f_X2_encode (l : Launch) (dC : Nat → ClassId) (dI : Nat → Nat → Nat) (cI cS : ClassId) (sz : Nat) (oC : Nat) (nu : Nat) (o4 : Nat) (o5 : Nat) (a41 : Nat) (a42 : Nat) (a43 : Nat) (a51 : Nat) (a52 : Nat) (a53 : Nat) (au : Nat) (cap : Nat) (l4 : Int32) (f42 : Nat → Int32) (f43 : Nat → Int32) (l5 : Int32) (f52 : Nat → Int32) (f53 : Nat → Int32) (lu : Int32) (fu : Nat → Int32) (cd : Int32) (le : Int32) (g_lu : 0 ≤ lu.toInt ∧ lu.toInt ≤ (cap : Int)) (g_le : 0 ≤ le.toInt ∧ le.toInt ≤ 65535) (hcap : cap ≤ 2400) (hrm : lu.toInt + 8 ≤ (cap : Int)) (hT4 : HT 512 511 hsT f42 f43) (ho4 : (occ f43 512 : Int) ≤ 511) (hT5 : HT 512 511 hsT f52 f53) (ho5 : (occ f53 512 : Int) ≤ 511) : Met l yX2_encode wsX2_encode ({ frames := 2, cells := 0, slots := 0, locals := 46 } : Room) (va_Pc [.ref oC, .int cd, .int le, .ref nu] (fun U => U.heap.size = sz ∧ va_P (dC, dI) vwCl [(oC, .inr (2, [.ref o4, .ref o5])), (o4, .inr (10, [.ref a41, .ref a42, .ref a43, .int l4])), (a42, .inl (cI, 512, .inl f42)), (a43, .inl (cI, 512, .inl f43)), (o5, .inr (10, [.ref a51, .ref a52, .ref a53, .int l5])), (a52, .inl (cI, 512, .inl f52)), (a53, .inl (cI, 512, .inl f53)), (nu, .inr (5, [.ref au, .int lu])), (au, .inl (cI, cap, .inl fu))] U.heap ∧ va_K (dC, dI) vwCl [(cI, .int), (cS, .short)] U ∧ va_D (fun _ => True) [(oC, .inr (2, [.ref o4, .ref o5])), (o4, .inr (10, [.ref a41, .ref a42, .ref a43, .int l4])), (a42, .inl (cI, 512, .inl f42)), (a43, .inl (cI, 512, .inl f43)), (o5, .inr (10, [.ref a51, .ref a52, .ref a53, .int l5])), (a52, .inl (cI, 512, .inl f52)), (a53, .inl (cI, 512, .inl f53)), (nu, .inr (5, [.ref au, .int lu])), (au, .inl (cI, cap, .inl fu))])) (va_Qi (fun (r : Int32) (u : Int32) => r = u) (fun (r : Int32) t => ∃ (lu' : Int32) (fu' : Nat → Int32), va_P (dC, dI) vwCl [(oC, .inr (2, [.ref o4, .ref o5])), (o4, .inr (10, [.ref a41, .ref a42, .ref a43, .int l4])), (a42, .inl (cI, 512, .inl f42)), (a43, .inl (cI, 512, .inl f43)), (o5, .inr (10, [.ref a51, .ref a52, .ref a53, .int l5])), (a52, .inl (cI, 512, .inl f52)), (a53, .inl (cI, 512, .inl f53)), (nu, .inr (5, [.ref au, .int lu'])), (au, .inl (cI, cap, .inl fu'))] t.heap ∧ va_D (va_A [(oC, .inr (2, [.ref o4, .ref o5])), (o4, .inr (10, [.ref a41, .ref a42, .ref a43, .int l4])), (a42, .inl (cI, 512, .inl f42)), (a43, .inl (cI, 512, .inl f43)), (o5, .inr (10, [.ref a51, .ref a52, .ref a53, .int l5])), (a52, .inl (cI, 512, .inl f52)), (a53, .inl (cI, 512, .inl f53)), (nu, .inr (5, [.ref au, .int lu])), (au, .inl (cI, cap, .inl fu))] sz) [(oC, .inr (2, [.ref o4, .ref o5])), (o4, .inr (10, [.ref a41, .ref a42, .ref a43, .int l4])), (a42, .inl (cI, 512, .inl f42)), (a43, .inl (cI, 512, .inl f43)), (o5, .inr (10, [.ref a51, .ref a52, .ref a53, .int l5])), (a52, .inl (cI, 512, .inl f52)), (a53, .inl (cI, 512, .inl f53)), (nu, .inr (5, [.ref au, .int lu'])), (au, .inl (cI, cap, .inl fu'))] ∧ (0 ≤ lu'.toInt ∧ lu'.toInt ≤ (cap : Int)) ∧ (0 ≤ r.toInt ∧ r.toInt ≤ 1) ∧ (F_en r cd le (Bc cd f42 f43 f52 f53 le) lu lu' fu fu')) (va_A [(oC, .inr (2, [.ref o4, .ref o5])), (o4, .inr (10, [.ref a41, .ref a42, .ref a43, .int l4])), (a42, .inl (cI, 512, .inl f42)), (a43, .inl (cI, 512, .inl f43)), (o5, .inr (10, [.ref a51, .ref a52, .ref a53, .int l5])), (a52, .inl (cI, 512, .inl f52)), (a53, .inl (cI, 512, .inl f53)), (nu, .inr (5, [.ref au, .int lu])), (au, .inl (cI, cap, .inl fu))] sz)) 0 0 (va_A [(oC, .inr (2, [.ref o4, .ref o5])), (o4, .inr (10, [.ref a41, .ref a42, .ref a43, .int l4])), (a42, .inl (cI, 512, .inl f42)), (a43, .inl (cI, 512, .inl f43)), (o5, .inr (10, [.ref a51, .ref a52, .ref a53, .int l5])), (a52, .inl (cI, 512, .inl f52)), (a53, .inl (cI, 512, .inl f53)), (nu, .inr (5, [.ref au, .int lu])), (au, .inl (cI, cap, .inl fu))] sz) := by
  refine Met.ofW (cc := cX2_encode) (maxL := 6) (ret := (some .boolean)) (by decide) rfl ?_
  intro p e s m args below meth c s₁ B hml hv
  obtain ⟨rfl, hsz, hP, hK, hD0⟩ := hv
  have hx := B.exec
  have hb := B.bytes
  have hr := B.returns
  have hts := atoms_spec (ws := wsX2_encode) B.pre
  have hown : s.vm.findClass RX2 = some m.cls := findClass_of_methodNamed B.named
  have hlocks := B.notSynchronized
  subst hsz
  have hD := hD0.self (sz := s.heap.size)
  generalize hAe : va_A [(oC, .inr (2, [.ref o4, .ref o5])), (o4, .inr (10, [.ref a41, .ref a42, .ref a43, .int l4])), (a42, .inl (cI, 512, .inl f42)), (a43, .inl (cI, 512, .inl f43)), (o5, .inr (10, [.ref a51, .ref a52, .ref a53, .int l5])), (a52, .inl (cI, 512, .inl f52)), (a53, .inl (cI, 512, .inl f53)), (nu, .inr (5, [.ref au, .int lu])), (au, .inl (cI, cap, .inl fu))] s.heap.size = A at hD ⊢
  have hA : ∀ q : Nat, s.heap.size ≤ q → A q := fun q h => by rw [← hAe]; exact Or.inr h
  have hS : va_S A s.heap s.heap [] := va_S.rf
  have hP : va_P (dC, dI) vwCl [(oC, .inr (2, [.ref o4, .ref o5])), (o4, .inr (10, [.ref a41, .ref a42, .ref a43, .int l4])), (a42, .inl (cI, 512, .inl f42)), (a43, .inl (cI, 512, .inl f43)), (o5, .inr (10, [.ref a51, .ref a52, .ref a53, .int l5])), (a52, .inl (cI, 512, .inl f52)), (a53, .inl (cI, 512, .inl f53)), (nu, .inr (5, [.ref au, .int lu])), (au, .inl (cI, cap, .inl fu))] s.heap := hP
  have hl := lv_entry ([.ref oC, .int cd, .int le, .ref nu]) (n := 6) (Nat.le_of_ble_eq_true rfl)
  rw [lg_entry_eq]
  generalize (lg_sl ([.ref oC, .int cd, .int le, .ref nu]) ++ List.replicate (6 - (lg_sl ([.ref oC, .int cd, .int le, .ref nu])).length) Slot.unset).toArray = ls at hl ⊢
  have hl : lv_has ls 6 [(0, .ref oC), (1, .int cd), (2, .int le), (3, .ref nu)] := hl
  obtain ⟨QQ, hQQ⟩ : ∃ QQ : Array Value → State → Outcome → State → Prop, QQ = va_Qi (fun (r : Int32) (u : Int32) => r = u) (fun (r : Int32) t => ∃ (lu' : Int32) (fu' : Nat → Int32), va_P (dC, dI) vwCl [(oC, .inr (2, [.ref o4, .ref o5])), (o4, .inr (10, [.ref a41, .ref a42, .ref a43, .int l4])), (a42, .inl (cI, 512, .inl f42)), (a43, .inl (cI, 512, .inl f43)), (o5, .inr (10, [.ref a51, .ref a52, .ref a53, .int l5])), (a52, .inl (cI, 512, .inl f52)), (a53, .inl (cI, 512, .inl f53)), (nu, .inr (5, [.ref au, .int lu'])), (au, .inl (cI, cap, .inl fu'))] t.heap ∧ va_D A [(oC, .inr (2, [.ref o4, .ref o5])), (o4, .inr (10, [.ref a41, .ref a42, .ref a43, .int l4])), (a42, .inl (cI, 512, .inl f42)), (a43, .inl (cI, 512, .inl f43)), (o5, .inr (10, [.ref a51, .ref a52, .ref a53, .int l5])), (a52, .inl (cI, 512, .inl f52)), (a53, .inl (cI, 512, .inl f53)), (nu, .inr (5, [.ref au, .int lu'])), (au, .inl (cI, cap, .inl fu'))] ∧ (0 ≤ lu'.toInt ∧ lu'.toInt ≤ (cap : Int)) ∧ (0 ≤ r.toInt ∧ r.toInt ≤ 1) ∧ (F_en r cd le (Bc cd f42 f43 f52 f53 le) lu lu' fu fu')) A := ⟨_, rfl⟩
  rw [← hQQ]
  have z2 : (2 : Int32).toInt = 2 := rfl
  have z3 : (3 : Int32).toInt = 3 := rfl
  have z35 : (35 : Int32).toInt = 35 := rfl
  have z38 : (38 : Int32).toInt = 38 := rfl
  have z59 : (59 : Int32).toInt = 59 := rfl
  refine lv_iload_n hx hb dX2_encode_0 rfl (lv_at hl 1 rfl) ?_
  by_cases c_1 : cd = 0
  · refine lv_tableIn (tgt := 32) hx hb dX2_encode_1 (by rw [c_1]; decide) (by rw [c_1]; decide) (by rw [c_1]; rfl) (by decide) ?_
    have tc_1 : cd.toInt = 0 := v_eq c_1
    refine lv_iload_n hx hb dX2_encode_32 rfl (lv_at hl 2 rfl) ?_
    refine lv_sipush (v := 128) hx hb dX2_encode_33 (by decide) ?_
    refine lv_icmp_ge (tgt := 51) hx hb dX2_encode_36 (by decide) (fun c_2 => ?_) (fun c_2 => ?_)
    · have tc_2 : 128 ≤ le.toInt := v_le c_2
      refine lv_iconst (v := 0) hx hb dX2_encode_51 (by decide) ?_
      have hP9 := hP.sub (ws' := [(oC, .inr (2, [.ref o4, .ref o5])), (o4, .inr (10, [.ref a41, .ref a42, .ref a43, .int l4])), (a42, .inl (cI, 512, .inl f42)), (a43, .inl (cI, 512, .inl f43)), (o5, .inr (10, [.ref a51, .ref a52, .ref a53, .int l5])), (a52, .inl (cI, 512, .inl f52)), (a53, .inl (cI, 512, .inl f53)), (nu, .inr (5, [.ref au, .int lu])), (au, .inl (cI, cap, .inl fu))]) [0, 1, 2, 3, 4, 5, 6, 7, 8] rfl
      have hD9 := hD.sub (ws' := [(oC, .inr (2, [.ref o4, .ref o5])), (o4, .inr (10, [.ref a41, .ref a42, .ref a43, .int l4])), (a42, .inl (cI, 512, .inl f42)), (a43, .inl (cI, 512, .inl f43)), (o5, .inr (10, [.ref a51, .ref a52, .ref a53, .int l5])), (a52, .inl (cI, 512, .inl f52)), (a53, .inl (cI, 512, .inl f53)), (nu, .inr (5, [.ref au, .int lu])), (au, .inl (cI, cap, .inl fu))]) [0, 1, 2, 3, 4, 5, 6, 7, 8] (by decide +kernel) rfl
      rw [hQQ]
      exact W.zret (v := 0) (ty := .boolean) hx hb hr (rfl) (fun t ht hW => ⟨⟨0, 0, rfl, rfl, ⟨lu, fu, by rw [ht]; exact hP9, hD9, g_lu, by decide, F_en_n (by first | omega | rfl) (by unfold enc; (repeat (first | rw [if_pos (by omega)] | rw [if_neg (by omega)])))⟩⟩, hS.F ht⟩) hS.2.2 dX2_encode_52
    · have tc_2 : le.toInt < 128 := v_nle c_2
      refine lv_aload_n hx hb dX2_encode_39 rfl (lv_at hl 3 rfl) ?_
      refine lv_iload_n hx hb dX2_encode_40 rfl (lv_at hl 2 rfl) ?_
      have hPc := hP.sub (ws' := [(nu, .inr (5, [.ref au, .int lu])), (au, .inl (cI, cap, .inl fu))]) [7, 8] rfl
      have hDc := hD.sub (ws' := [(nu, .inr (5, [.ref au, .int lu])), (au, .inl (cI, cap, .inl fu))]) [7, 8] (by decide +kernel) rfl
      have hFc := va_free (wc := [(nu, .inr (5, [.ref au, .int lu])), (au, .inl (cI, cap, .inl fu))]) hD hS hA [7, 8] rfl
      refine va_calli (va_runV (As := [.int le]) (rest := []) ⟨hx, hb, hml, hown, hts⟩ (m_X5_add l dC dI cI cS s.heap.size nu au cap lu fu le (g_lu) (by omega)) (cwV 1 hts gX2_encode_X5_add rfl rfl rfl (by decide +kernel) ⟨Nat.le_of_ble_eq_true rfl, Nat.le_of_ble_eq_true rfl⟩) ⟨fun a U g mk q => by obtain ⟨q0, q1, qP, qK, qD⟩ := q; exact ⟨q0, q1, qP, va_K.moved (u := U) (U := U.calling g mk a) (Vm.Alike.refl U.vm) qK, qD⟩, va_recv hK hPc (ci := 5) (q0 := 0) rfl rfl, fun U hU hW => ⟨rfl, by rw [hU], by rw [hU]; exact hPc, va_K.moved hW.alike hK, hDc.weaken (fun _ _ _ _ => trivial)⟩⟩ rfl rfl hl.1 rfl (lv_room (Nat.le_of_ble_eq_true rfl)) dX2_encode_41 ⟨Nat.le_of_ble_eq_true rfl, Nat.le_of_ble_eq_true rfl⟩) hS (fun q _ h => hFc q h) hFc (fun r_3 u t H1 locs ht hvm hw hB hz1 hk1 hSn => ?_)
      subst hw
      obtain ⟨lu_3, fu_3, hP1, hD1, hf3_0, hf3_1, hf3_2⟩ := hB
      rw [ht] at hP1
      obtain ⟨hPn, hDn⟩ := va_join (wr := [(oC, .inr (2, [.ref o4, .ref o5])), (o4, .inr (10, [.ref a41, .ref a42, .ref a43, .int l4])), (a42, .inl (cI, 512, .inl f42)), (a43, .inl (cI, 512, .inl f43)), (o5, .inr (10, [.ref a51, .ref a52, .ref a53, .int l5])), (a52, .inl (cI, 512, .inl f52)), (a53, .inl (cI, 512, .inl f53))]) (w1 := [(nu, .inr (5, [.ref au, .int lu_3])), (au, .inl (cI, cap, .inl fu_3))]) hP hD [7, 8] [0, 1, 2, 3, 4, 5, 6] rfl rfl (by decide +kernel) (by decide +kernel) hk1 hFc hP1 hD1
      clear hP hD hS hPc hDc hFc hk1 hz1 hvm ht hP1 hD1
      generalize H1 = H at hPn hSn ⊢
      have hP : va_P (dC, dI) vwCl [(oC, .inr (2, [.ref o4, .ref o5])), (o4, .inr (10, [.ref a41, .ref a42, .ref a43, .int l4])), (a42, .inl (cI, 512, .inl f42)), (a43, .inl (cI, 512, .inl f43)), (o5, .inr (10, [.ref a51, .ref a52, .ref a53, .int l5])), (a52, .inl (cI, 512, .inl f52)), (a53, .inl (cI, 512, .inl f53)), (nu, .inr (5, [.ref au, .int lu_3])), (au, .inl (cI, cap, .inl fu_3))] H := hPn
      have hD : va_D A [(oC, .inr (2, [.ref o4, .ref o5])), (o4, .inr (10, [.ref a41, .ref a42, .ref a43, .int l4])), (a42, .inl (cI, 512, .inl f42)), (a43, .inl (cI, 512, .inl f43)), (o5, .inr (10, [.ref a51, .ref a52, .ref a53, .int l5])), (a52, .inl (cI, 512, .inl f52)), (a53, .inl (cI, 512, .inl f53)), (nu, .inr (5, [.ref au, .int lu_3])), (au, .inl (cI, cap, .inl fu_3))] := hDn
      have hS := hSn
      clear hPn hDn hSn
      have ha3 : lu_3.toInt = lu.toInt + 1 := F_add_l hf3_2 (by omega)
      have hr3 : r_3.toInt = 1 := F_add_r hf3_2 (by omega)
      have hap3 : AP lu lu_3 fu fu_3 [(le : Int32).toInt] := AP_s (AP_0 (l := lu) (f := fu)) (by omega) hf3_2 (by omega)
      refine lv_if_eq (tgt := 51) hx hb dX2_encode_44 (by decide) (fun c_4 => by exfalso; have tc_4 : r_3.toInt = 0 := v_eq c_4; omega) (fun c_4 => ?_)
      have tc_4 : ¬ r_3.toInt = 0 := v_ne c_4
      refine lv_iconst (v := 1) hx hb dX2_encode_47 (by decide) ?_
      refine lv_goto (tgt := 52) hx hb dX2_encode_48 (by decide) ?_
      have hP9 := hP.sub (ws' := [(oC, .inr (2, [.ref o4, .ref o5])), (o4, .inr (10, [.ref a41, .ref a42, .ref a43, .int l4])), (a42, .inl (cI, 512, .inl f42)), (a43, .inl (cI, 512, .inl f43)), (o5, .inr (10, [.ref a51, .ref a52, .ref a53, .int l5])), (a52, .inl (cI, 512, .inl f52)), (a53, .inl (cI, 512, .inl f53)), (nu, .inr (5, [.ref au, .int lu_3])), (au, .inl (cI, cap, .inl fu_3))]) [0, 1, 2, 3, 4, 5, 6, 7, 8] rfl
      have hD9 := hD.sub (ws' := [(oC, .inr (2, [.ref o4, .ref o5])), (o4, .inr (10, [.ref a41, .ref a42, .ref a43, .int l4])), (a42, .inl (cI, 512, .inl f42)), (a43, .inl (cI, 512, .inl f43)), (o5, .inr (10, [.ref a51, .ref a52, .ref a53, .int l5])), (a52, .inl (cI, 512, .inl f52)), (a53, .inl (cI, 512, .inl f53)), (nu, .inr (5, [.ref au, .int lu_3])), (au, .inl (cI, cap, .inl fu_3))]) [0, 1, 2, 3, 4, 5, 6, 7, 8] (by decide +kernel) rfl
      rw [hQQ]
      exact W.zret (v := 1) (ty := .boolean) hx hb hr (rfl) (fun t ht hW => ⟨⟨1, 1, rfl, rfl, ⟨lu_3, fu_3, by rw [ht]; exact hP9, hD9, hf3_0, by decide, F_en_y (by first | omega | rfl) hap3 (by first | (unfold enc; (repeat (first | rw [if_pos (by omega)] | rw [if_neg (by omega)])) <;> exact L1 (by first | omega | rfl)) | (exfalso; omega))⟩⟩, hS.F ht⟩) hS.2.2 dX2_encode_52
  · skip
    have tc_1 : ¬ cd.toInt = 0 := v_ne c_1
    by_cases c_5 : cd = 1
    · refine lv_tableIn (tgt := 53) hx hb dX2_encode_1 (by rw [c_5]; decide) (by rw [c_5]; decide) (by rw [c_5]; rfl) (by decide) ?_
      have tc_5 : cd.toInt = 1 := v_eq c_5
      refine lv_iload_n hx hb dX2_encode_53 rfl (lv_at hl 2 rfl) ?_
      refine lv_sipush (v := 256) hx hb dX2_encode_54 (by decide) ?_
      refine lv_icmp_ge (tgt := 72) hx hb dX2_encode_57 (by decide) (fun c_6 => ?_) (fun c_6 => ?_)
      · have tc_6 : 256 ≤ le.toInt := v_le c_6
        refine lv_iconst (v := 0) hx hb dX2_encode_72 (by decide) ?_
        have hP9 := hP.sub (ws' := [(oC, .inr (2, [.ref o4, .ref o5])), (o4, .inr (10, [.ref a41, .ref a42, .ref a43, .int l4])), (a42, .inl (cI, 512, .inl f42)), (a43, .inl (cI, 512, .inl f43)), (o5, .inr (10, [.ref a51, .ref a52, .ref a53, .int l5])), (a52, .inl (cI, 512, .inl f52)), (a53, .inl (cI, 512, .inl f53)), (nu, .inr (5, [.ref au, .int lu])), (au, .inl (cI, cap, .inl fu))]) [0, 1, 2, 3, 4, 5, 6, 7, 8] rfl
        have hD9 := hD.sub (ws' := [(oC, .inr (2, [.ref o4, .ref o5])), (o4, .inr (10, [.ref a41, .ref a42, .ref a43, .int l4])), (a42, .inl (cI, 512, .inl f42)), (a43, .inl (cI, 512, .inl f43)), (o5, .inr (10, [.ref a51, .ref a52, .ref a53, .int l5])), (a52, .inl (cI, 512, .inl f52)), (a53, .inl (cI, 512, .inl f53)), (nu, .inr (5, [.ref au, .int lu])), (au, .inl (cI, cap, .inl fu))]) [0, 1, 2, 3, 4, 5, 6, 7, 8] (by decide +kernel) rfl
        rw [hQQ]
        exact W.zret (v := 0) (ty := .boolean) hx hb hr (rfl) (fun t ht hW => ⟨⟨0, 0, rfl, rfl, ⟨lu, fu, by rw [ht]; exact hP9, hD9, g_lu, by decide, F_en_n (by first | omega | rfl) (by unfold enc; (repeat (first | rw [if_pos (by omega)] | rw [if_neg (by omega)])))⟩⟩, hS.F ht⟩) hS.2.2 dX2_encode_73
      · have tc_6 : le.toInt < 256 := v_nle c_6
        refine lv_aload_n hx hb dX2_encode_60 rfl (lv_at hl 3 rfl) ?_
        refine lv_iload_n hx hb dX2_encode_61 rfl (lv_at hl 2 rfl) ?_
        have hPc := hP.sub (ws' := [(nu, .inr (5, [.ref au, .int lu])), (au, .inl (cI, cap, .inl fu))]) [7, 8] rfl
        have hDc := hD.sub (ws' := [(nu, .inr (5, [.ref au, .int lu])), (au, .inl (cI, cap, .inl fu))]) [7, 8] (by decide +kernel) rfl
        have hFc := va_free (wc := [(nu, .inr (5, [.ref au, .int lu])), (au, .inl (cI, cap, .inl fu))]) hD hS hA [7, 8] rfl
        refine va_calli (va_runV (As := [.int le]) (rest := []) ⟨hx, hb, hml, hown, hts⟩ (m_X5_add l dC dI cI cS s.heap.size nu au cap lu fu le (g_lu) (by omega)) (cwV 1 hts gX2_encode_X5_add rfl rfl rfl (by decide +kernel) ⟨Nat.le_of_ble_eq_true rfl, Nat.le_of_ble_eq_true rfl⟩) ⟨fun a U g mk q => by obtain ⟨q0, q1, qP, qK, qD⟩ := q; exact ⟨q0, q1, qP, va_K.moved (u := U) (U := U.calling g mk a) (Vm.Alike.refl U.vm) qK, qD⟩, va_recv hK hPc (ci := 5) (q0 := 0) rfl rfl, fun U hU hW => ⟨rfl, by rw [hU], by rw [hU]; exact hPc, va_K.moved hW.alike hK, hDc.weaken (fun _ _ _ _ => trivial)⟩⟩ rfl rfl hl.1 rfl (lv_room (Nat.le_of_ble_eq_true rfl)) dX2_encode_62 ⟨Nat.le_of_ble_eq_true rfl, Nat.le_of_ble_eq_true rfl⟩) hS (fun q _ h => hFc q h) hFc (fun r_7 u t H1 locs ht hvm hw hB hz1 hk1 hSn => ?_)
        subst hw
        obtain ⟨lu_7, fu_7, hP1, hD1, hf7_0, hf7_1, hf7_2⟩ := hB
        rw [ht] at hP1
        obtain ⟨hPn, hDn⟩ := va_join (wr := [(oC, .inr (2, [.ref o4, .ref o5])), (o4, .inr (10, [.ref a41, .ref a42, .ref a43, .int l4])), (a42, .inl (cI, 512, .inl f42)), (a43, .inl (cI, 512, .inl f43)), (o5, .inr (10, [.ref a51, .ref a52, .ref a53, .int l5])), (a52, .inl (cI, 512, .inl f52)), (a53, .inl (cI, 512, .inl f53))]) (w1 := [(nu, .inr (5, [.ref au, .int lu_7])), (au, .inl (cI, cap, .inl fu_7))]) hP hD [7, 8] [0, 1, 2, 3, 4, 5, 6] rfl rfl (by decide +kernel) (by decide +kernel) hk1 hFc hP1 hD1
        clear hP hD hS hPc hDc hFc hk1 hz1 hvm ht hP1 hD1
        generalize H1 = H at hPn hSn ⊢
        have hP : va_P (dC, dI) vwCl [(oC, .inr (2, [.ref o4, .ref o5])), (o4, .inr (10, [.ref a41, .ref a42, .ref a43, .int l4])), (a42, .inl (cI, 512, .inl f42)), (a43, .inl (cI, 512, .inl f43)), (o5, .inr (10, [.ref a51, .ref a52, .ref a53, .int l5])), (a52, .inl (cI, 512, .inl f52)), (a53, .inl (cI, 512, .inl f53)), (nu, .inr (5, [.ref au, .int lu_7])), (au, .inl (cI, cap, .inl fu_7))] H := hPn
        have hD : va_D A [(oC, .inr (2, [.ref o4, .ref o5])), (o4, .inr (10, [.ref a41, .ref a42, .ref a43, .int l4])), (a42, .inl (cI, 512, .inl f42)), (a43, .inl (cI, 512, .inl f43)), (o5, .inr (10, [.ref a51, .ref a52, .ref a53, .int l5])), (a52, .inl (cI, 512, .inl f52)), (a53, .inl (cI, 512, .inl f53)), (nu, .inr (5, [.ref au, .int lu_7])), (au, .inl (cI, cap, .inl fu_7))] := hDn
        have hS := hSn
        clear hPn hDn hSn
        have ha7 : lu_7.toInt = lu.toInt + 1 := F_add_l hf7_2 (by omega)
        have hr7 : r_7.toInt = 1 := F_add_r hf7_2 (by omega)
        have hap7 : AP lu lu_7 fu fu_7 [(le : Int32).toInt] := AP_s (AP_0 (l := lu) (f := fu)) (by omega) hf7_2 (by omega)
        refine lv_if_eq (tgt := 72) hx hb dX2_encode_65 (by decide) (fun c_8 => by exfalso; have tc_8 : r_7.toInt = 0 := v_eq c_8; omega) (fun c_8 => ?_)
        have tc_8 : ¬ r_7.toInt = 0 := v_ne c_8
        refine lv_iconst (v := 1) hx hb dX2_encode_68 (by decide) ?_
        refine lv_goto (tgt := 73) hx hb dX2_encode_69 (by decide) ?_
        have hP9 := hP.sub (ws' := [(oC, .inr (2, [.ref o4, .ref o5])), (o4, .inr (10, [.ref a41, .ref a42, .ref a43, .int l4])), (a42, .inl (cI, 512, .inl f42)), (a43, .inl (cI, 512, .inl f43)), (o5, .inr (10, [.ref a51, .ref a52, .ref a53, .int l5])), (a52, .inl (cI, 512, .inl f52)), (a53, .inl (cI, 512, .inl f53)), (nu, .inr (5, [.ref au, .int lu_7])), (au, .inl (cI, cap, .inl fu_7))]) [0, 1, 2, 3, 4, 5, 6, 7, 8] rfl
        have hD9 := hD.sub (ws' := [(oC, .inr (2, [.ref o4, .ref o5])), (o4, .inr (10, [.ref a41, .ref a42, .ref a43, .int l4])), (a42, .inl (cI, 512, .inl f42)), (a43, .inl (cI, 512, .inl f43)), (o5, .inr (10, [.ref a51, .ref a52, .ref a53, .int l5])), (a52, .inl (cI, 512, .inl f52)), (a53, .inl (cI, 512, .inl f53)), (nu, .inr (5, [.ref au, .int lu_7])), (au, .inl (cI, cap, .inl fu_7))]) [0, 1, 2, 3, 4, 5, 6, 7, 8] (by decide +kernel) rfl
        rw [hQQ]
        exact W.zret (v := 1) (ty := .boolean) hx hb hr (rfl) (fun t ht hW => ⟨⟨1, 1, rfl, rfl, ⟨lu_7, fu_7, by rw [ht]; exact hP9, hD9, hf7_0, by decide, F_en_y (by first | omega | rfl) hap7 (by first | (unfold enc; (repeat (first | rw [if_pos (by omega)] | rw [if_neg (by omega)])) <;> exact L1 (by first | omega | rfl)) | (exfalso; omega))⟩⟩, hS.F ht⟩) hS.2.2 dX2_encode_73
    · skip
      have tc_5 : ¬ cd.toInt = 1 := v_ne c_5
      by_cases c_9 : cd = 2
      · refine lv_tableIn (tgt := 74) hx hb dX2_encode_1 (by rw [c_9]; decide) (by rw [c_9]; decide) (by rw [c_9]; rfl) (by decide) ?_
        have tc_9 : cd.toInt = 2 := v_eq c_9
        refine lv_iload_n hx hb dX2_encode_74 rfl (lv_at hl 2 rfl) ?_
        refine lv_aload_n hx hb dX2_encode_75 rfl (lv_at hl 3 rfl) ?_
        have hPc := hP.sub (ws' := [(nu, .inr (5, [.ref au, .int lu])), (au, .inl (cI, cap, .inl fu))]) [7, 8] rfl
        have hDc := hD.sub (ws' := [(nu, .inr (5, [.ref au, .int lu])), (au, .inl (cI, cap, .inl fu))]) [7, 8] (by decide +kernel) rfl
        have hFc := va_free (wc := [(nu, .inr (5, [.ref au, .int lu])), (au, .inl (cI, cap, .inl fu))]) hD hS hA [7, 8] rfl
        refine va_calli (va_runS (As := [.int le, .ref nu]) (rest := []) ⟨hx, hb, hml, hown, hts⟩ (f_X2_encodeMany l dC dI cI cS s.heap.size nu au cap lu fu le (g_lu) (g_le) (by omega) (by omega)) (va_cwS 2 hts gX2_encode_X2_encodeMany rfl rfl rfl (by decide +kernel) ⟨Nat.le_of_ble_eq_true rfl, Nat.le_of_ble_eq_true rfl⟩) ⟨fun a U g mk q => by obtain ⟨q0, q1, qP, qK, qD⟩ := q; exact ⟨q0, q1, qP, va_K.moved (u := U) (U := U.calling g mk a) (Vm.Alike.refl U.vm) qK, qD⟩, fun U hU hW => ⟨rfl, by rw [hU], by rw [hU]; exact hPc, va_K.moved hW.alike hK, hDc.weaken (fun _ _ _ _ => trivial)⟩⟩ rfl rfl hl.1 rfl (lv_room (Nat.le_of_ble_eq_true rfl)) dX2_encode_76 ⟨Nat.le_of_ble_eq_true rfl, Nat.le_of_ble_eq_true rfl⟩) hS (fun q _ h => hFc q h) hFc (fun r_10 u t H1 locs ht hvm hw hB hz1 hk1 hSn => ?_)
        subst hw
        obtain ⟨lu_10, fu_10, hP1, hD1, hf10_0, hf10_1, hf10_2⟩ := hB
        rw [ht] at hP1
        obtain ⟨hPn, hDn⟩ := va_join (wr := [(oC, .inr (2, [.ref o4, .ref o5])), (o4, .inr (10, [.ref a41, .ref a42, .ref a43, .int l4])), (a42, .inl (cI, 512, .inl f42)), (a43, .inl (cI, 512, .inl f43)), (o5, .inr (10, [.ref a51, .ref a52, .ref a53, .int l5])), (a52, .inl (cI, 512, .inl f52)), (a53, .inl (cI, 512, .inl f53))]) (w1 := [(nu, .inr (5, [.ref au, .int lu_10])), (au, .inl (cI, cap, .inl fu_10))]) hP hD [7, 8] [0, 1, 2, 3, 4, 5, 6] rfl rfl (by decide +kernel) (by decide +kernel) hk1 hFc hP1 hD1
        clear hP hD hS hPc hDc hFc hk1 hz1 hvm ht hP1 hD1
        generalize H1 = H at hPn hSn ⊢
        have hP : va_P (dC, dI) vwCl [(oC, .inr (2, [.ref o4, .ref o5])), (o4, .inr (10, [.ref a41, .ref a42, .ref a43, .int l4])), (a42, .inl (cI, 512, .inl f42)), (a43, .inl (cI, 512, .inl f43)), (o5, .inr (10, [.ref a51, .ref a52, .ref a53, .int l5])), (a52, .inl (cI, 512, .inl f52)), (a53, .inl (cI, 512, .inl f53)), (nu, .inr (5, [.ref au, .int lu_10])), (au, .inl (cI, cap, .inl fu_10))] H := hPn
        have hD : va_D A [(oC, .inr (2, [.ref o4, .ref o5])), (o4, .inr (10, [.ref a41, .ref a42, .ref a43, .int l4])), (a42, .inl (cI, 512, .inl f42)), (a43, .inl (cI, 512, .inl f43)), (o5, .inr (10, [.ref a51, .ref a52, .ref a53, .int l5])), (a52, .inl (cI, 512, .inl f52)), (a53, .inl (cI, 512, .inl f53)), (nu, .inr (5, [.ref au, .int lu_10])), (au, .inl (cI, cap, .inl fu_10))] := hDn
        have hS := hSn
        clear hPn hDn hSn
        have hP9 := hP.sub (ws' := [(oC, .inr (2, [.ref o4, .ref o5])), (o4, .inr (10, [.ref a41, .ref a42, .ref a43, .int l4])), (a42, .inl (cI, 512, .inl f42)), (a43, .inl (cI, 512, .inl f43)), (o5, .inr (10, [.ref a51, .ref a52, .ref a53, .int l5])), (a52, .inl (cI, 512, .inl f52)), (a53, .inl (cI, 512, .inl f53)), (nu, .inr (5, [.ref au, .int lu_10])), (au, .inl (cI, cap, .inl fu_10))]) [0, 1, 2, 3, 4, 5, 6, 7, 8] rfl
        have hD9 := hD.sub (ws' := [(oC, .inr (2, [.ref o4, .ref o5])), (o4, .inr (10, [.ref a41, .ref a42, .ref a43, .int l4])), (a42, .inl (cI, 512, .inl f42)), (a43, .inl (cI, 512, .inl f43)), (o5, .inr (10, [.ref a51, .ref a52, .ref a53, .int l5])), (a52, .inl (cI, 512, .inl f52)), (a53, .inl (cI, 512, .inl f53)), (nu, .inr (5, [.ref au, .int lu_10])), (au, .inl (cI, cap, .inl fu_10))]) [0, 1, 2, 3, 4, 5, 6, 7, 8] (by decide +kernel) rfl
        rw [hQQ]
        exact W.zret (v := r_10) (ty := .boolean) hx hb hr (v_bool (by omega)) (fun t ht hW => ⟨⟨r_10, r_10, rfl, rfl, ⟨lu_10, fu_10, by rw [ht]; exact hP9, hD9, hf10_0, hf10_1, F_en_cd hf10_2 (by omega) (by omega) (by omega)⟩⟩, hS.F ht⟩) hS.2.2 dX2_encode_79
      · skip
        have tc_9 : ¬ cd.toInt = 2 := v_ne c_9
        by_cases c_11 : cd = 3
        · refine lv_tableIn (tgt := 80) hx hb dX2_encode_1 (by rw [c_11]; decide) (by rw [c_11]; decide) (by rw [c_11]; rfl) (by decide) ?_
          have tc_11 : cd.toInt = 3 := v_eq c_11
          refine lv_iload_n hx hb dX2_encode_80 rfl (lv_at hl 2 rfl) ?_
          have hPc := hP.sub (ws' := []) [] rfl
          have hDc := hD.sub (ws' := []) [] (by decide +kernel) rfl
          have hFc := va_free (wc := []) hD hS hA [] rfl
          refine va_calli (va_runS (As := [.int le]) (rest := []) ⟨hx, hb, hml, hown, hts⟩ (f_X2_isNumbered l dC dI cI cS s.heap.size le ) (va_cwS 1 hts gX2_encode_X2_isNumbered rfl rfl rfl (by decide +kernel) ⟨Nat.le_of_ble_eq_true rfl, Nat.le_of_ble_eq_true rfl⟩) ⟨fun a U g mk q => by obtain ⟨q0, q1, qP, qK, qD⟩ := q; exact ⟨q0, q1, qP, va_K.moved (u := U) (U := U.calling g mk a) (Vm.Alike.refl U.vm) qK, qD⟩, fun U hU hW => ⟨rfl, by rw [hU], by rw [hU]; exact hPc, va_K.moved hW.alike hK, hDc.weaken (fun _ _ _ _ => trivial)⟩⟩ rfl rfl hl.1 rfl (lv_room (Nat.le_of_ble_eq_true rfl)) dX2_encode_81 ⟨Nat.le_of_ble_eq_true rfl, Nat.le_of_ble_eq_true rfl⟩) hS (fun q _ h => hFc q h) hFc (fun r_12 u t H1 locs ht hvm hw hB hz1 hk1 hSn => ?_)
          subst hw
          obtain ⟨hP1, hD1, hf12_0, hf12_1⟩ := hB
          rw [ht] at hP1
          obtain ⟨hPn, hDn⟩ := va_join (wr := [(oC, .inr (2, [.ref o4, .ref o5])), (o4, .inr (10, [.ref a41, .ref a42, .ref a43, .int l4])), (a42, .inl (cI, 512, .inl f42)), (a43, .inl (cI, 512, .inl f43)), (o5, .inr (10, [.ref a51, .ref a52, .ref a53, .int l5])), (a52, .inl (cI, 512, .inl f52)), (a53, .inl (cI, 512, .inl f53)), (nu, .inr (5, [.ref au, .int lu])), (au, .inl (cI, cap, .inl fu))]) (w1 := []) hP hD [] [0, 1, 2, 3, 4, 5, 6, 7, 8] rfl rfl (by decide +kernel) (by decide +kernel) hk1 hFc hP1 hD1
          clear hP hD hS hPc hDc hFc hk1 hz1 hvm ht hP1 hD1
          generalize H1 = H at hPn hSn ⊢
          have hP : va_P (dC, dI) vwCl [(oC, .inr (2, [.ref o4, .ref o5])), (o4, .inr (10, [.ref a41, .ref a42, .ref a43, .int l4])), (a42, .inl (cI, 512, .inl f42)), (a43, .inl (cI, 512, .inl f43)), (o5, .inr (10, [.ref a51, .ref a52, .ref a53, .int l5])), (a52, .inl (cI, 512, .inl f52)), (a53, .inl (cI, 512, .inl f53)), (nu, .inr (5, [.ref au, .int lu])), (au, .inl (cI, cap, .inl fu))] H := hPn
          have hD : va_D A [(oC, .inr (2, [.ref o4, .ref o5])), (o4, .inr (10, [.ref a41, .ref a42, .ref a43, .int l4])), (a42, .inl (cI, 512, .inl f42)), (a43, .inl (cI, 512, .inl f43)), (o5, .inr (10, [.ref a51, .ref a52, .ref a53, .int l5])), (a52, .inl (cI, 512, .inl f52)), (a53, .inl (cI, 512, .inl f53)), (nu, .inr (5, [.ref au, .int lu])), (au, .inl (cI, cap, .inl fu))] := hDn
          have hS := hSn
          clear hPn hDn hSn
          refine lv_if_eq (tgt := 95) hx hb dX2_encode_84 (by decide) (fun c_13 => ?_) (fun c_13 => ?_)
          · have tc_13 : r_12.toInt = 0 := v_eq c_13
            refine lv_aload_n hx hb dX2_encode_95 rfl (lv_at hl 3 rfl) ?_
            refine lv_iload_n hx hb dX2_encode_96 rfl (lv_at hl 2 rfl) ?_
            have hPc := hP.sub (ws' := [(nu, .inr (5, [.ref au, .int lu])), (au, .inl (cI, cap, .inl fu))]) [7, 8] rfl
            have hDc := hD.sub (ws' := [(nu, .inr (5, [.ref au, .int lu])), (au, .inl (cI, cap, .inl fu))]) [7, 8] (by decide +kernel) rfl
            have hFc := va_free (wc := [(nu, .inr (5, [.ref au, .int lu])), (au, .inl (cI, cap, .inl fu))]) hD hS hA [7, 8] rfl
            refine va_calli (va_runV (As := [.int le]) (rest := []) ⟨hx, hb, hml, hown, hts⟩ (m_X5_add l dC dI cI cS H.size nu au cap lu fu le (g_lu) (by omega)) (cwV 1 hts gX2_encode_X5_add rfl rfl rfl (by decide +kernel) ⟨Nat.le_of_ble_eq_true rfl, Nat.le_of_ble_eq_true rfl⟩) ⟨fun a U g mk q => by obtain ⟨q0, q1, qP, qK, qD⟩ := q; exact ⟨q0, q1, qP, va_K.moved (u := U) (U := U.calling g mk a) (Vm.Alike.refl U.vm) qK, qD⟩, va_recv hK hPc (ci := 5) (q0 := 0) rfl rfl, fun U hU hW => ⟨rfl, by rw [hU], by rw [hU]; exact hPc, va_K.moved hW.alike hK, hDc.weaken (fun _ _ _ _ => trivial)⟩⟩ rfl rfl hl.1 rfl (lv_room (Nat.le_of_ble_eq_true rfl)) dX2_encode_97 ⟨Nat.le_of_ble_eq_true rfl, Nat.le_of_ble_eq_true rfl⟩) hS (fun q _ h => hFc q h) hFc (fun r_14 u t H1 locs ht hvm hw hB hz1 hk1 hSn => ?_)
            subst hw
            obtain ⟨lu_14, fu_14, hP1, hD1, hf14_0, hf14_1, hf14_2⟩ := hB
            rw [ht] at hP1
            obtain ⟨hPn, hDn⟩ := va_join (wr := [(oC, .inr (2, [.ref o4, .ref o5])), (o4, .inr (10, [.ref a41, .ref a42, .ref a43, .int l4])), (a42, .inl (cI, 512, .inl f42)), (a43, .inl (cI, 512, .inl f43)), (o5, .inr (10, [.ref a51, .ref a52, .ref a53, .int l5])), (a52, .inl (cI, 512, .inl f52)), (a53, .inl (cI, 512, .inl f53))]) (w1 := [(nu, .inr (5, [.ref au, .int lu_14])), (au, .inl (cI, cap, .inl fu_14))]) hP hD [7, 8] [0, 1, 2, 3, 4, 5, 6] rfl rfl (by decide +kernel) (by decide +kernel) hk1 hFc hP1 hD1
            clear hP hD hS hPc hDc hFc hk1 hz1 hvm ht hP1 hD1
            generalize H1 = H at hPn hSn ⊢
            have hP : va_P (dC, dI) vwCl [(oC, .inr (2, [.ref o4, .ref o5])), (o4, .inr (10, [.ref a41, .ref a42, .ref a43, .int l4])), (a42, .inl (cI, 512, .inl f42)), (a43, .inl (cI, 512, .inl f43)), (o5, .inr (10, [.ref a51, .ref a52, .ref a53, .int l5])), (a52, .inl (cI, 512, .inl f52)), (a53, .inl (cI, 512, .inl f53)), (nu, .inr (5, [.ref au, .int lu_14])), (au, .inl (cI, cap, .inl fu_14))] H := hPn
            have hD : va_D A [(oC, .inr (2, [.ref o4, .ref o5])), (o4, .inr (10, [.ref a41, .ref a42, .ref a43, .int l4])), (a42, .inl (cI, 512, .inl f42)), (a43, .inl (cI, 512, .inl f43)), (o5, .inr (10, [.ref a51, .ref a52, .ref a53, .int l5])), (a52, .inl (cI, 512, .inl f52)), (a53, .inl (cI, 512, .inl f53)), (nu, .inr (5, [.ref au, .int lu_14])), (au, .inl (cI, cap, .inl fu_14))] := hDn
            have hS := hSn
            clear hPn hDn hSn
            have ha14 : lu_14.toInt = lu.toInt + 1 := F_add_l hf14_2 (by omega)
            have hr14 : r_14.toInt = 1 := F_add_r hf14_2 (by omega)
            have hap14 : AP lu lu_14 fu fu_14 [(le : Int32).toInt] := AP_s (AP_0 (l := lu) (f := fu)) (by omega) hf14_2 (by omega)
            have hP9 := hP.sub (ws' := [(oC, .inr (2, [.ref o4, .ref o5])), (o4, .inr (10, [.ref a41, .ref a42, .ref a43, .int l4])), (a42, .inl (cI, 512, .inl f42)), (a43, .inl (cI, 512, .inl f43)), (o5, .inr (10, [.ref a51, .ref a52, .ref a53, .int l5])), (a52, .inl (cI, 512, .inl f52)), (a53, .inl (cI, 512, .inl f53)), (nu, .inr (5, [.ref au, .int lu_14])), (au, .inl (cI, cap, .inl fu_14))]) [0, 1, 2, 3, 4, 5, 6, 7, 8] rfl
            have hD9 := hD.sub (ws' := [(oC, .inr (2, [.ref o4, .ref o5])), (o4, .inr (10, [.ref a41, .ref a42, .ref a43, .int l4])), (a42, .inl (cI, 512, .inl f42)), (a43, .inl (cI, 512, .inl f43)), (o5, .inr (10, [.ref a51, .ref a52, .ref a53, .int l5])), (a52, .inl (cI, 512, .inl f52)), (a53, .inl (cI, 512, .inl f53)), (nu, .inr (5, [.ref au, .int lu_14])), (au, .inl (cI, cap, .inl fu_14))]) [0, 1, 2, 3, 4, 5, 6, 7, 8] (by decide +kernel) rfl
            rw [hQQ]
            exact W.zret (v := r_14) (ty := .boolean) hx hb hr (v_bool (by omega)) (fun t ht hW => ⟨⟨r_14, r_14, rfl, rfl, ⟨lu_14, fu_14, by rw [ht]; exact hP9, hD9, hf14_0, hf14_1, F_en_y (by first | omega | rfl) hap14 (by first | (unfold enc; (repeat (first | rw [if_pos (by omega)] | rw [if_neg (by omega)])) <;> exact L1 (by first | omega | rfl)) | (exfalso; omega))⟩⟩, hS.F ht⟩) hS.2.2 dX2_encode_100
          · have tc_13 : ¬ r_12.toInt = 0 := v_ne c_13
            refine lv_iload_n hx hb dX2_encode_87 rfl (lv_at hl 2 rfl) ?_
            refine lv_aload_n hx hb dX2_encode_88 rfl (lv_at hl 3 rfl) ?_
            have hPc := hP.sub (ws' := [(nu, .inr (5, [.ref au, .int lu])), (au, .inl (cI, cap, .inl fu))]) [7, 8] rfl
            have hDc := hD.sub (ws' := [(nu, .inr (5, [.ref au, .int lu])), (au, .inl (cI, cap, .inl fu))]) [7, 8] (by decide +kernel) rfl
            have hFc := va_free (wc := [(nu, .inr (5, [.ref au, .int lu])), (au, .inl (cI, cap, .inl fu))]) hD hS hA [7, 8] rfl
            refine va_calli (va_runS (As := [.int le, .ref nu]) (rest := []) ⟨hx, hb, hml, hown, hts⟩ (f_X2_encodeNumber l dC dI cI cS H.size nu au cap lu fu le (g_lu) (g_le) (by omega) (by omega) (by omega)) (va_cwS 2 hts gX2_encode_X2_encodeNumber rfl rfl rfl (by decide +kernel) ⟨Nat.le_of_ble_eq_true rfl, Nat.le_of_ble_eq_true rfl⟩) ⟨fun a U g mk q => by obtain ⟨q0, q1, qP, qK, qD⟩ := q; exact ⟨q0, q1, qP, va_K.moved (u := U) (U := U.calling g mk a) (Vm.Alike.refl U.vm) qK, qD⟩, fun U hU hW => ⟨rfl, by rw [hU], by rw [hU]; exact hPc, va_K.moved hW.alike hK, hDc.weaken (fun _ _ _ _ => trivial)⟩⟩ rfl rfl hl.1 rfl (lv_room (Nat.le_of_ble_eq_true rfl)) dX2_encode_89 ⟨Nat.le_of_ble_eq_true rfl, Nat.le_of_ble_eq_true rfl⟩) hS (fun q _ h => hFc q h) hFc (fun r_15 u t H1 locs ht hvm hw hB hz1 hk1 hSn => ?_)
            subst hw
            obtain ⟨lu_15, fu_15, hP1, hD1, hf15_0, hf15_1, hf15_2⟩ := hB
            rw [ht] at hP1
            obtain ⟨hPn, hDn⟩ := va_join (wr := [(oC, .inr (2, [.ref o4, .ref o5])), (o4, .inr (10, [.ref a41, .ref a42, .ref a43, .int l4])), (a42, .inl (cI, 512, .inl f42)), (a43, .inl (cI, 512, .inl f43)), (o5, .inr (10, [.ref a51, .ref a52, .ref a53, .int l5])), (a52, .inl (cI, 512, .inl f52)), (a53, .inl (cI, 512, .inl f53))]) (w1 := [(nu, .inr (5, [.ref au, .int lu_15])), (au, .inl (cI, cap, .inl fu_15))]) hP hD [7, 8] [0, 1, 2, 3, 4, 5, 6] rfl rfl (by decide +kernel) (by decide +kernel) hk1 hFc hP1 hD1
            clear hP hD hS hPc hDc hFc hk1 hz1 hvm ht hP1 hD1
            generalize H1 = H at hPn hSn ⊢
            have hP : va_P (dC, dI) vwCl [(oC, .inr (2, [.ref o4, .ref o5])), (o4, .inr (10, [.ref a41, .ref a42, .ref a43, .int l4])), (a42, .inl (cI, 512, .inl f42)), (a43, .inl (cI, 512, .inl f43)), (o5, .inr (10, [.ref a51, .ref a52, .ref a53, .int l5])), (a52, .inl (cI, 512, .inl f52)), (a53, .inl (cI, 512, .inl f53)), (nu, .inr (5, [.ref au, .int lu_15])), (au, .inl (cI, cap, .inl fu_15))] H := hPn
            have hD : va_D A [(oC, .inr (2, [.ref o4, .ref o5])), (o4, .inr (10, [.ref a41, .ref a42, .ref a43, .int l4])), (a42, .inl (cI, 512, .inl f42)), (a43, .inl (cI, 512, .inl f43)), (o5, .inr (10, [.ref a51, .ref a52, .ref a53, .int l5])), (a52, .inl (cI, 512, .inl f52)), (a53, .inl (cI, 512, .inl f53)), (nu, .inr (5, [.ref au, .int lu_15])), (au, .inl (cI, cap, .inl fu_15))] := hDn
            have hS := hSn
            clear hPn hDn hSn
            refine lv_goto (tgt := 100) hx hb dX2_encode_92 (by decide) ?_
            have hP9 := hP.sub (ws' := [(oC, .inr (2, [.ref o4, .ref o5])), (o4, .inr (10, [.ref a41, .ref a42, .ref a43, .int l4])), (a42, .inl (cI, 512, .inl f42)), (a43, .inl (cI, 512, .inl f43)), (o5, .inr (10, [.ref a51, .ref a52, .ref a53, .int l5])), (a52, .inl (cI, 512, .inl f52)), (a53, .inl (cI, 512, .inl f53)), (nu, .inr (5, [.ref au, .int lu_15])), (au, .inl (cI, cap, .inl fu_15))]) [0, 1, 2, 3, 4, 5, 6, 7, 8] rfl
            have hD9 := hD.sub (ws' := [(oC, .inr (2, [.ref o4, .ref o5])), (o4, .inr (10, [.ref a41, .ref a42, .ref a43, .int l4])), (a42, .inl (cI, 512, .inl f42)), (a43, .inl (cI, 512, .inl f43)), (o5, .inr (10, [.ref a51, .ref a52, .ref a53, .int l5])), (a52, .inl (cI, 512, .inl f52)), (a53, .inl (cI, 512, .inl f53)), (nu, .inr (5, [.ref au, .int lu_15])), (au, .inl (cI, cap, .inl fu_15))]) [0, 1, 2, 3, 4, 5, 6, 7, 8] (by decide +kernel) rfl
            rw [hQQ]
            exact W.zret (v := r_15) (ty := .boolean) hx hb hr (v_bool (by omega)) (fun t ht hW => ⟨⟨r_15, r_15, rfl, rfl, ⟨lu_15, fu_15, by rw [ht]; exact hP9, hD9, hf15_0, hf15_1, F_en_cd hf15_2 (by omega) (by omega) (by omega)⟩⟩, hS.F ht⟩) hS.2.2 dX2_encode_100
        · skip
          have tc_11 : ¬ cd.toInt = 3 := v_ne c_11
          refine lv_tableOut (tgt := 101) hx hb dX2_encode_1 (by omega) (by decide) ?_
          refine lv_aload_n hx hb dX2_encode_101 rfl (lv_at hl 0 rfl) ?_
          refine lv_iload_n hx hb dX2_encode_102 rfl (lv_at hl 1 rfl) ?_
          by_cases cs_16 : cd.toInt = 4
          · have hPc := hP.sub (ws' := [(oC, .inr (2, [.ref o4, .ref o5]))]) [0] rfl
            have hDc := hD.sub (ws' := [(oC, .inr (2, [.ref o4, .ref o5]))]) [0] (by decide +kernel) rfl
            have hFc := va_free (wc := [(oC, .inr (2, [.ref o4, .ref o5]))]) hD hS hA [0] rfl
            refine va_callr (va_runV (As := [.int cd]) (rest := []) ⟨hx, hb, hml, hown, hts⟩ (m_X2_toldCode_4 l dC dI cI cS s.heap.size oC o4 o5 cd (by omega)) (cwV 1 hts gX2_encode_X2_toldCode rfl rfl rfl (by decide +kernel) ⟨Nat.le_of_ble_eq_true rfl, Nat.le_of_ble_eq_true rfl⟩) ⟨fun a U g mk q => by obtain ⟨q0, q1, qP, qK, qD⟩ := q; exact ⟨q0, q1, qP, va_K.moved (u := U) (U := U.calling g mk a) (Vm.Alike.refl U.vm) qK, qD⟩, va_recv hK hPc (ci := 2) (q0 := 0) rfl rfl, fun U hU hW => ⟨rfl, by rw [hU], by rw [hU]; exact hPc, va_K.moved hW.alike hK, hDc.weaken (fun _ _ _ _ => trivial)⟩⟩ rfl rfl hl.1 rfl (lv_room (Nat.le_of_ble_eq_true rfl)) dX2_encode_103 ⟨Nat.le_of_ble_eq_true rfl, Nat.le_of_ble_eq_true rfl⟩) hS (fun q _ h => hFc q h) hFc (fun u r_17 t H1 locs ht hvm hw hB hz1 hk1 hSn => ?_)
            obtain ⟨hra, hP1, hD1⟩ := hB
            rw [hra]
            rw [ht] at hP1
            obtain ⟨hPn, hDn⟩ := va_join (wr := [(o4, .inr (10, [.ref a41, .ref a42, .ref a43, .int l4])), (a42, .inl (cI, 512, .inl f42)), (a43, .inl (cI, 512, .inl f43)), (o5, .inr (10, [.ref a51, .ref a52, .ref a53, .int l5])), (a52, .inl (cI, 512, .inl f52)), (a53, .inl (cI, 512, .inl f53)), (nu, .inr (5, [.ref au, .int lu])), (au, .inl (cI, cap, .inl fu))]) (w1 := [(oC, .inr (2, [.ref o4, .ref o5]))]) hP hD [0] [1, 2, 3, 4, 5, 6, 7, 8] rfl rfl (by decide +kernel) (by decide +kernel) hk1 hFc hP1 hD1
            clear hP hD hS hPc hDc hFc hk1 hz1 hvm ht hP1 hD1
            generalize H1 = H at hPn hSn ⊢
            have hP : va_P (dC, dI) vwCl [(o4, .inr (10, [.ref a41, .ref a42, .ref a43, .int l4])), (a42, .inl (cI, 512, .inl f42)), (a43, .inl (cI, 512, .inl f43)), (o5, .inr (10, [.ref a51, .ref a52, .ref a53, .int l5])), (a52, .inl (cI, 512, .inl f52)), (a53, .inl (cI, 512, .inl f53)), (nu, .inr (5, [.ref au, .int lu])), (au, .inl (cI, cap, .inl fu)), (oC, .inr (2, [.ref o4, .ref o5]))] H := hPn
            have hD : va_D A [(o4, .inr (10, [.ref a41, .ref a42, .ref a43, .int l4])), (a42, .inl (cI, 512, .inl f42)), (a43, .inl (cI, 512, .inl f43)), (o5, .inr (10, [.ref a51, .ref a52, .ref a53, .int l5])), (a52, .inl (cI, 512, .inl f52)), (a53, .inl (cI, 512, .inl f53)), (nu, .inr (5, [.ref au, .int lu])), (au, .inl (cI, cap, .inl fu)), (oC, .inr (2, [.ref o4, .ref o5]))] := hDn
            have hS := hSn
            clear hPn hDn hSn
            refine lv_astore (lv' := [(4, .ref o4), (0, .ref oC), (1, .int cd), (2, .int le), (3, .ref nu)]) hx hb dX2_encode_106 hl (by decide) rfl (fun ls hl => ?_)
            refine lv_aload hx hb dX2_encode_108 (lv_at hl 0 rfl) ?_
            refine lv_ifnonnull (tgt := 117) hx hb dX2_encode_110 (by decide) ?_
            refine lv_aload hx hb dX2_encode_117 (lv_at hl 0 rfl) ?_
            refine lv_iload_n hx hb dX2_encode_119 rfl (lv_at hl 3 rfl) ?_
            have hPc := hP.sub (ws' := [(o4, .inr (10, [.ref a41, .ref a42, .ref a43, .int l4])), (a42, .inl (cI, 512, .inl f42)), (a43, .inl (cI, 512, .inl f43))]) [0, 1, 2] rfl
            have hDc := hD.sub (ws' := [(o4, .inr (10, [.ref a41, .ref a42, .ref a43, .int l4])), (a42, .inl (cI, 512, .inl f42)), (a43, .inl (cI, 512, .inl f43))]) [0, 1, 2] (by decide +kernel) rfl
            have hFc := va_free (wc := [(o4, .inr (10, [.ref a41, .ref a42, .ref a43, .int l4])), (a42, .inl (cI, 512, .inl f42)), (a43, .inl (cI, 512, .inl f43))]) hD hS hA [0, 1, 2] rfl
            refine va_calli (va_runV (As := [.int le]) (rest := []) ⟨hx, hb, hml, hown, hts⟩ (f_X10_byteFor l dC dI cI cS H.size o4 a41 a42 a43 l4 f42 f43 le (hT4) (ho4)) (cwV 1 hts gX2_encode_X10_byteFor rfl rfl rfl (by decide +kernel) ⟨Nat.le_of_ble_eq_true rfl, Nat.le_of_ble_eq_true rfl⟩) ⟨fun a U g mk q => by obtain ⟨q0, q1, qP, qK, qD⟩ := q; exact ⟨q0, q1, qP, va_K.moved (u := U) (U := U.calling g mk a) (Vm.Alike.refl U.vm) qK, qD⟩, va_recv hK hPc (ci := 10) (q0 := 0) rfl rfl, fun U hU hW => ⟨rfl, by rw [hU], by rw [hU]; exact hPc, va_K.moved hW.alike hK, hDc.weaken (fun _ _ _ _ => trivial)⟩⟩ rfl rfl hl.1 rfl (lv_room (Nat.le_of_ble_eq_true rfl)) dX2_encode_120 ⟨Nat.le_of_ble_eq_true rfl, Nat.le_of_ble_eq_true rfl⟩) hS (fun q _ h => hFc q h) hFc (fun r_18 u t H1 locs ht hvm hw hB hz1 hk1 hSn => ?_)
            subst hw
            obtain ⟨hP1, hD1, hf18_0⟩ := hB
            rw [ht] at hP1
            obtain ⟨hPn, hDn⟩ := va_join (wr := [(o5, .inr (10, [.ref a51, .ref a52, .ref a53, .int l5])), (a52, .inl (cI, 512, .inl f52)), (a53, .inl (cI, 512, .inl f53)), (nu, .inr (5, [.ref au, .int lu])), (au, .inl (cI, cap, .inl fu)), (oC, .inr (2, [.ref o4, .ref o5]))]) (w1 := [(o4, .inr (10, [.ref a41, .ref a42, .ref a43, .int l4])), (a42, .inl (cI, 512, .inl f42)), (a43, .inl (cI, 512, .inl f43))]) hP hD [0, 1, 2] [3, 4, 5, 6, 7, 8] rfl rfl (by decide +kernel) (by decide +kernel) hk1 hFc hP1 hD1
            clear hP hD hS hPc hDc hFc hk1 hz1 hvm ht hP1 hD1
            generalize H1 = H at hPn hSn ⊢
            have hP : va_P (dC, dI) vwCl [(o5, .inr (10, [.ref a51, .ref a52, .ref a53, .int l5])), (a52, .inl (cI, 512, .inl f52)), (a53, .inl (cI, 512, .inl f53)), (nu, .inr (5, [.ref au, .int lu])), (au, .inl (cI, cap, .inl fu)), (oC, .inr (2, [.ref o4, .ref o5])), (o4, .inr (10, [.ref a41, .ref a42, .ref a43, .int l4])), (a42, .inl (cI, 512, .inl f42)), (a43, .inl (cI, 512, .inl f43))] H := hPn
            have hD : va_D A [(o5, .inr (10, [.ref a51, .ref a52, .ref a53, .int l5])), (a52, .inl (cI, 512, .inl f52)), (a53, .inl (cI, 512, .inl f53)), (nu, .inr (5, [.ref au, .int lu])), (au, .inl (cI, cap, .inl fu)), (oC, .inr (2, [.ref o4, .ref o5])), (o4, .inr (10, [.ref a41, .ref a42, .ref a43, .int l4])), (a42, .inl (cI, 512, .inl f42)), (a43, .inl (cI, 512, .inl f43))] := hDn
            have hS := hSn
            clear hPn hDn hSn
            refine lv_istore (lv' := [(5, .int r_18), (4, .ref o4), (0, .ref oC), (1, .int cd), (2, .int le), (3, .ref nu)]) hx hb dX2_encode_123 hl (by decide) rfl (fun ls hl => ?_)
            refine lv_iload hx hb dX2_encode_125 (lv_at hl 0 rfl) ?_
            refine lv_iconst (v := (-1)) hx hb dX2_encode_127 (by decide) ?_
            refine lv_icmp_eq (tgt := 144) hx hb dX2_encode_128 (by decide) (fun c_19 => ?_) (fun c_19 => ?_)
            · have tc_19 : r_18.toInt = (-1) := v_eq c_19
              refine lv_iconst (v := 0) hx hb dX2_encode_144 (by decide) ?_
              have hP9 := hP.sub (ws' := [(oC, .inr (2, [.ref o4, .ref o5])), (o4, .inr (10, [.ref a41, .ref a42, .ref a43, .int l4])), (a42, .inl (cI, 512, .inl f42)), (a43, .inl (cI, 512, .inl f43)), (o5, .inr (10, [.ref a51, .ref a52, .ref a53, .int l5])), (a52, .inl (cI, 512, .inl f52)), (a53, .inl (cI, 512, .inl f53)), (nu, .inr (5, [.ref au, .int lu])), (au, .inl (cI, cap, .inl fu))]) [5, 6, 7, 8, 0, 1, 2, 3, 4] rfl
              have hD9 := hD.sub (ws' := [(oC, .inr (2, [.ref o4, .ref o5])), (o4, .inr (10, [.ref a41, .ref a42, .ref a43, .int l4])), (a42, .inl (cI, 512, .inl f42)), (a43, .inl (cI, 512, .inl f43)), (o5, .inr (10, [.ref a51, .ref a52, .ref a53, .int l5])), (a52, .inl (cI, 512, .inl f52)), (a53, .inl (cI, 512, .inl f53)), (nu, .inr (5, [.ref au, .int lu])), (au, .inl (cI, cap, .inl fu))]) [5, 6, 7, 8, 0, 1, 2, 3, 4] (by decide +kernel) rfl
              rw [hQQ]
              exact W.zret (v := 0) (ty := .boolean) hx hb hr (rfl) (fun t ht hW => ⟨⟨0, 0, rfl, rfl, ⟨lu, fu, by rw [ht]; exact hP9, hD9, g_lu, by decide, F_en_n (by first | omega | rfl) (by rw [← (show r_18 = Bc cd f42 f43 f52 f53 le from (bfF_of hT4 hf18_0).trans (by unfold Bc; rw [if_pos (by omega)]))]; unfold enc; (repeat (first | rw [if_pos (by omega)] | rw [if_neg (by omega)])) <;> rw [if_pos c_19])⟩⟩, hS.F ht⟩) hS.2.2 dX2_encode_145
            · have tc_19 : ¬ r_18.toInt = (-1) := v_ne c_19
              refine lv_aload_n hx hb dX2_encode_131 rfl (lv_at hl 5 rfl) ?_
              refine lv_iload hx hb dX2_encode_132 (lv_at hl 0 rfl) ?_
              have hPc := hP.sub (ws' := [(nu, .inr (5, [.ref au, .int lu])), (au, .inl (cI, cap, .inl fu))]) [3, 4] rfl
              have hDc := hD.sub (ws' := [(nu, .inr (5, [.ref au, .int lu])), (au, .inl (cI, cap, .inl fu))]) [3, 4] (by decide +kernel) rfl
              have hFc := va_free (wc := [(nu, .inr (5, [.ref au, .int lu])), (au, .inl (cI, cap, .inl fu))]) hD hS hA [3, 4] rfl
              refine va_calli (va_runV (As := [.int r_18]) (rest := []) ⟨hx, hb, hml, hown, hts⟩ (m_X5_add l dC dI cI cS H.size nu au cap lu fu r_18 (g_lu) (by omega)) (cwV 1 hts gX2_encode_X5_add rfl rfl rfl (by decide +kernel) ⟨Nat.le_of_ble_eq_true rfl, Nat.le_of_ble_eq_true rfl⟩) ⟨fun a U g mk q => by obtain ⟨q0, q1, qP, qK, qD⟩ := q; exact ⟨q0, q1, qP, va_K.moved (u := U) (U := U.calling g mk a) (Vm.Alike.refl U.vm) qK, qD⟩, va_recv hK hPc (ci := 5) (q0 := 0) rfl rfl, fun U hU hW => ⟨rfl, by rw [hU], by rw [hU]; exact hPc, va_K.moved hW.alike hK, hDc.weaken (fun _ _ _ _ => trivial)⟩⟩ rfl rfl hl.1 rfl (lv_room (Nat.le_of_ble_eq_true rfl)) dX2_encode_134 ⟨Nat.le_of_ble_eq_true rfl, Nat.le_of_ble_eq_true rfl⟩) hS (fun q _ h => hFc q h) hFc (fun r_20 u t H1 locs ht hvm hw hB hz1 hk1 hSn => ?_)
              subst hw
              obtain ⟨lu_20, fu_20, hP1, hD1, hf20_0, hf20_1, hf20_2⟩ := hB
              rw [ht] at hP1
              obtain ⟨hPn, hDn⟩ := va_join (wr := [(o5, .inr (10, [.ref a51, .ref a52, .ref a53, .int l5])), (a52, .inl (cI, 512, .inl f52)), (a53, .inl (cI, 512, .inl f53)), (oC, .inr (2, [.ref o4, .ref o5])), (o4, .inr (10, [.ref a41, .ref a42, .ref a43, .int l4])), (a42, .inl (cI, 512, .inl f42)), (a43, .inl (cI, 512, .inl f43))]) (w1 := [(nu, .inr (5, [.ref au, .int lu_20])), (au, .inl (cI, cap, .inl fu_20))]) hP hD [3, 4] [0, 1, 2, 5, 6, 7, 8] rfl rfl (by decide +kernel) (by decide +kernel) hk1 hFc hP1 hD1
              clear hP hD hS hPc hDc hFc hk1 hz1 hvm ht hP1 hD1
              generalize H1 = H at hPn hSn ⊢
              have hP : va_P (dC, dI) vwCl [(o5, .inr (10, [.ref a51, .ref a52, .ref a53, .int l5])), (a52, .inl (cI, 512, .inl f52)), (a53, .inl (cI, 512, .inl f53)), (oC, .inr (2, [.ref o4, .ref o5])), (o4, .inr (10, [.ref a41, .ref a42, .ref a43, .int l4])), (a42, .inl (cI, 512, .inl f42)), (a43, .inl (cI, 512, .inl f43)), (nu, .inr (5, [.ref au, .int lu_20])), (au, .inl (cI, cap, .inl fu_20))] H := hPn
              have hD : va_D A [(o5, .inr (10, [.ref a51, .ref a52, .ref a53, .int l5])), (a52, .inl (cI, 512, .inl f52)), (a53, .inl (cI, 512, .inl f53)), (oC, .inr (2, [.ref o4, .ref o5])), (o4, .inr (10, [.ref a41, .ref a42, .ref a43, .int l4])), (a42, .inl (cI, 512, .inl f42)), (a43, .inl (cI, 512, .inl f43)), (nu, .inr (5, [.ref au, .int lu_20])), (au, .inl (cI, cap, .inl fu_20))] := hDn
              have hS := hSn
              clear hPn hDn hSn
              have ha20 : lu_20.toInt = lu.toInt + 1 := F_add_l hf20_2 (by omega)
              have hr20 : r_20.toInt = 1 := F_add_r hf20_2 (by omega)
              have hap20 : AP lu lu_20 fu fu_20 [(r_18 : Int32).toInt] := AP_s (AP_0 (l := lu) (f := fu)) (by omega) hf20_2 (by omega)
              refine lv_if_eq (tgt := 144) hx hb dX2_encode_137 (by decide) (fun c_21 => by exfalso; have tc_21 : r_20.toInt = 0 := v_eq c_21; omega) (fun c_21 => ?_)
              have tc_21 : ¬ r_20.toInt = 0 := v_ne c_21
              refine lv_iconst (v := 1) hx hb dX2_encode_140 (by decide) ?_
              refine lv_goto (tgt := 145) hx hb dX2_encode_141 (by decide) ?_
              have hP9 := hP.sub (ws' := [(oC, .inr (2, [.ref o4, .ref o5])), (o4, .inr (10, [.ref a41, .ref a42, .ref a43, .int l4])), (a42, .inl (cI, 512, .inl f42)), (a43, .inl (cI, 512, .inl f43)), (o5, .inr (10, [.ref a51, .ref a52, .ref a53, .int l5])), (a52, .inl (cI, 512, .inl f52)), (a53, .inl (cI, 512, .inl f53)), (nu, .inr (5, [.ref au, .int lu_20])), (au, .inl (cI, cap, .inl fu_20))]) [3, 4, 5, 6, 0, 1, 2, 7, 8] rfl
              have hD9 := hD.sub (ws' := [(oC, .inr (2, [.ref o4, .ref o5])), (o4, .inr (10, [.ref a41, .ref a42, .ref a43, .int l4])), (a42, .inl (cI, 512, .inl f42)), (a43, .inl (cI, 512, .inl f43)), (o5, .inr (10, [.ref a51, .ref a52, .ref a53, .int l5])), (a52, .inl (cI, 512, .inl f52)), (a53, .inl (cI, 512, .inl f53)), (nu, .inr (5, [.ref au, .int lu_20])), (au, .inl (cI, cap, .inl fu_20))]) [3, 4, 5, 6, 0, 1, 2, 7, 8] (by decide +kernel) rfl
              rw [hQQ]
              exact W.zret (v := 1) (ty := .boolean) hx hb hr (rfl) (fun t ht hW => ⟨⟨1, 1, rfl, rfl, ⟨lu_20, fu_20, by rw [ht]; exact hP9, hD9, hf20_0, by decide, F_en_y (by first | omega | rfl) hap20 (by rw [← (show r_18 = Bc cd f42 f43 f52 f53 le from (bfF_of hT4 hf18_0).trans (by unfold Bc; rw [if_pos (by omega)]))]; unfold enc; (repeat (first | rw [if_pos (by omega)] | rw [if_neg (by omega)])) <;> rw [if_neg c_19])⟩⟩, hS.F ht⟩) hS.2.2 dX2_encode_145
          · skip
            by_cases cs_22 : cd.toInt = 5
            · have hPc := hP.sub (ws' := [(oC, .inr (2, [.ref o4, .ref o5]))]) [0] rfl
              have hDc := hD.sub (ws' := [(oC, .inr (2, [.ref o4, .ref o5]))]) [0] (by decide +kernel) rfl
              have hFc := va_free (wc := [(oC, .inr (2, [.ref o4, .ref o5]))]) hD hS hA [0] rfl
              refine va_callr (va_runV (As := [.int cd]) (rest := []) ⟨hx, hb, hml, hown, hts⟩ (m_X2_toldCode_5 l dC dI cI cS s.heap.size oC o4 o5 cd (by omega)) (cwV 1 hts gX2_encode_X2_toldCode rfl rfl rfl (by decide +kernel) ⟨Nat.le_of_ble_eq_true rfl, Nat.le_of_ble_eq_true rfl⟩) ⟨fun a U g mk q => by obtain ⟨q0, q1, qP, qK, qD⟩ := q; exact ⟨q0, q1, qP, va_K.moved (u := U) (U := U.calling g mk a) (Vm.Alike.refl U.vm) qK, qD⟩, va_recv hK hPc (ci := 2) (q0 := 0) rfl rfl, fun U hU hW => ⟨rfl, by rw [hU], by rw [hU]; exact hPc, va_K.moved hW.alike hK, hDc.weaken (fun _ _ _ _ => trivial)⟩⟩ rfl rfl hl.1 rfl (lv_room (Nat.le_of_ble_eq_true rfl)) dX2_encode_103 ⟨Nat.le_of_ble_eq_true rfl, Nat.le_of_ble_eq_true rfl⟩) hS (fun q _ h => hFc q h) hFc (fun u r_23 t H1 locs ht hvm hw hB hz1 hk1 hSn => ?_)
              obtain ⟨hra, hP1, hD1⟩ := hB
              rw [hra]
              rw [ht] at hP1
              obtain ⟨hPn, hDn⟩ := va_join (wr := [(o4, .inr (10, [.ref a41, .ref a42, .ref a43, .int l4])), (a42, .inl (cI, 512, .inl f42)), (a43, .inl (cI, 512, .inl f43)), (o5, .inr (10, [.ref a51, .ref a52, .ref a53, .int l5])), (a52, .inl (cI, 512, .inl f52)), (a53, .inl (cI, 512, .inl f53)), (nu, .inr (5, [.ref au, .int lu])), (au, .inl (cI, cap, .inl fu))]) (w1 := [(oC, .inr (2, [.ref o4, .ref o5]))]) hP hD [0] [1, 2, 3, 4, 5, 6, 7, 8] rfl rfl (by decide +kernel) (by decide +kernel) hk1 hFc hP1 hD1
              clear hP hD hS hPc hDc hFc hk1 hz1 hvm ht hP1 hD1
              generalize H1 = H at hPn hSn ⊢
              have hP : va_P (dC, dI) vwCl [(o4, .inr (10, [.ref a41, .ref a42, .ref a43, .int l4])), (a42, .inl (cI, 512, .inl f42)), (a43, .inl (cI, 512, .inl f43)), (o5, .inr (10, [.ref a51, .ref a52, .ref a53, .int l5])), (a52, .inl (cI, 512, .inl f52)), (a53, .inl (cI, 512, .inl f53)), (nu, .inr (5, [.ref au, .int lu])), (au, .inl (cI, cap, .inl fu)), (oC, .inr (2, [.ref o4, .ref o5]))] H := hPn
              have hD : va_D A [(o4, .inr (10, [.ref a41, .ref a42, .ref a43, .int l4])), (a42, .inl (cI, 512, .inl f42)), (a43, .inl (cI, 512, .inl f43)), (o5, .inr (10, [.ref a51, .ref a52, .ref a53, .int l5])), (a52, .inl (cI, 512, .inl f52)), (a53, .inl (cI, 512, .inl f53)), (nu, .inr (5, [.ref au, .int lu])), (au, .inl (cI, cap, .inl fu)), (oC, .inr (2, [.ref o4, .ref o5]))] := hDn
              have hS := hSn
              clear hPn hDn hSn
              refine lv_astore (lv' := [(4, .ref o5), (0, .ref oC), (1, .int cd), (2, .int le), (3, .ref nu)]) hx hb dX2_encode_106 hl (by decide) rfl (fun ls hl => ?_)
              refine lv_aload hx hb dX2_encode_108 (lv_at hl 0 rfl) ?_
              refine lv_ifnonnull (tgt := 117) hx hb dX2_encode_110 (by decide) ?_
              refine lv_aload hx hb dX2_encode_117 (lv_at hl 0 rfl) ?_
              refine lv_iload_n hx hb dX2_encode_119 rfl (lv_at hl 3 rfl) ?_
              have hPc := hP.sub (ws' := [(o5, .inr (10, [.ref a51, .ref a52, .ref a53, .int l5])), (a52, .inl (cI, 512, .inl f52)), (a53, .inl (cI, 512, .inl f53))]) [3, 4, 5] rfl
              have hDc := hD.sub (ws' := [(o5, .inr (10, [.ref a51, .ref a52, .ref a53, .int l5])), (a52, .inl (cI, 512, .inl f52)), (a53, .inl (cI, 512, .inl f53))]) [3, 4, 5] (by decide +kernel) rfl
              have hFc := va_free (wc := [(o5, .inr (10, [.ref a51, .ref a52, .ref a53, .int l5])), (a52, .inl (cI, 512, .inl f52)), (a53, .inl (cI, 512, .inl f53))]) hD hS hA [3, 4, 5] rfl
              refine va_calli (va_runV (As := [.int le]) (rest := []) ⟨hx, hb, hml, hown, hts⟩ (f_X10_byteFor l dC dI cI cS H.size o5 a51 a52 a53 l5 f52 f53 le (hT5) (ho5)) (cwV 1 hts gX2_encode_X10_byteFor rfl rfl rfl (by decide +kernel) ⟨Nat.le_of_ble_eq_true rfl, Nat.le_of_ble_eq_true rfl⟩) ⟨fun a U g mk q => by obtain ⟨q0, q1, qP, qK, qD⟩ := q; exact ⟨q0, q1, qP, va_K.moved (u := U) (U := U.calling g mk a) (Vm.Alike.refl U.vm) qK, qD⟩, va_recv hK hPc (ci := 10) (q0 := 0) rfl rfl, fun U hU hW => ⟨rfl, by rw [hU], by rw [hU]; exact hPc, va_K.moved hW.alike hK, hDc.weaken (fun _ _ _ _ => trivial)⟩⟩ rfl rfl hl.1 rfl (lv_room (Nat.le_of_ble_eq_true rfl)) dX2_encode_120 ⟨Nat.le_of_ble_eq_true rfl, Nat.le_of_ble_eq_true rfl⟩) hS (fun q _ h => hFc q h) hFc (fun r_24 u t H1 locs ht hvm hw hB hz1 hk1 hSn => ?_)
              subst hw
              obtain ⟨hP1, hD1, hf24_0⟩ := hB
              rw [ht] at hP1
              obtain ⟨hPn, hDn⟩ := va_join (wr := [(o4, .inr (10, [.ref a41, .ref a42, .ref a43, .int l4])), (a42, .inl (cI, 512, .inl f42)), (a43, .inl (cI, 512, .inl f43)), (nu, .inr (5, [.ref au, .int lu])), (au, .inl (cI, cap, .inl fu)), (oC, .inr (2, [.ref o4, .ref o5]))]) (w1 := [(o5, .inr (10, [.ref a51, .ref a52, .ref a53, .int l5])), (a52, .inl (cI, 512, .inl f52)), (a53, .inl (cI, 512, .inl f53))]) hP hD [3, 4, 5] [0, 1, 2, 6, 7, 8] rfl rfl (by decide +kernel) (by decide +kernel) hk1 hFc hP1 hD1
              clear hP hD hS hPc hDc hFc hk1 hz1 hvm ht hP1 hD1
              generalize H1 = H at hPn hSn ⊢
              have hP : va_P (dC, dI) vwCl [(o4, .inr (10, [.ref a41, .ref a42, .ref a43, .int l4])), (a42, .inl (cI, 512, .inl f42)), (a43, .inl (cI, 512, .inl f43)), (nu, .inr (5, [.ref au, .int lu])), (au, .inl (cI, cap, .inl fu)), (oC, .inr (2, [.ref o4, .ref o5])), (o5, .inr (10, [.ref a51, .ref a52, .ref a53, .int l5])), (a52, .inl (cI, 512, .inl f52)), (a53, .inl (cI, 512, .inl f53))] H := hPn
              have hD : va_D A [(o4, .inr (10, [.ref a41, .ref a42, .ref a43, .int l4])), (a42, .inl (cI, 512, .inl f42)), (a43, .inl (cI, 512, .inl f43)), (nu, .inr (5, [.ref au, .int lu])), (au, .inl (cI, cap, .inl fu)), (oC, .inr (2, [.ref o4, .ref o5])), (o5, .inr (10, [.ref a51, .ref a52, .ref a53, .int l5])), (a52, .inl (cI, 512, .inl f52)), (a53, .inl (cI, 512, .inl f53))] := hDn
              have hS := hSn
              clear hPn hDn hSn
              refine lv_istore (lv' := [(5, .int r_24), (4, .ref o5), (0, .ref oC), (1, .int cd), (2, .int le), (3, .ref nu)]) hx hb dX2_encode_123 hl (by decide) rfl (fun ls hl => ?_)
              refine lv_iload hx hb dX2_encode_125 (lv_at hl 0 rfl) ?_
              refine lv_iconst (v := (-1)) hx hb dX2_encode_127 (by decide) ?_
              refine lv_icmp_eq (tgt := 144) hx hb dX2_encode_128 (by decide) (fun c_25 => ?_) (fun c_25 => ?_)
              · have tc_25 : r_24.toInt = (-1) := v_eq c_25
                refine lv_iconst (v := 0) hx hb dX2_encode_144 (by decide) ?_
                have hP9 := hP.sub (ws' := [(oC, .inr (2, [.ref o4, .ref o5])), (o4, .inr (10, [.ref a41, .ref a42, .ref a43, .int l4])), (a42, .inl (cI, 512, .inl f42)), (a43, .inl (cI, 512, .inl f43)), (o5, .inr (10, [.ref a51, .ref a52, .ref a53, .int l5])), (a52, .inl (cI, 512, .inl f52)), (a53, .inl (cI, 512, .inl f53)), (nu, .inr (5, [.ref au, .int lu])), (au, .inl (cI, cap, .inl fu))]) [5, 0, 1, 2, 6, 7, 8, 3, 4] rfl
                have hD9 := hD.sub (ws' := [(oC, .inr (2, [.ref o4, .ref o5])), (o4, .inr (10, [.ref a41, .ref a42, .ref a43, .int l4])), (a42, .inl (cI, 512, .inl f42)), (a43, .inl (cI, 512, .inl f43)), (o5, .inr (10, [.ref a51, .ref a52, .ref a53, .int l5])), (a52, .inl (cI, 512, .inl f52)), (a53, .inl (cI, 512, .inl f53)), (nu, .inr (5, [.ref au, .int lu])), (au, .inl (cI, cap, .inl fu))]) [5, 0, 1, 2, 6, 7, 8, 3, 4] (by decide +kernel) rfl
                rw [hQQ]
                exact W.zret (v := 0) (ty := .boolean) hx hb hr (rfl) (fun t ht hW => ⟨⟨0, 0, rfl, rfl, ⟨lu, fu, by rw [ht]; exact hP9, hD9, g_lu, by decide, F_en_n (by first | omega | rfl) (by rw [← (show r_24 = Bc cd f42 f43 f52 f53 le from (bfF_of hT5 hf24_0).trans (by unfold Bc; rw [if_neg (by omega)]))]; unfold enc; (repeat (first | rw [if_pos (by omega)] | rw [if_neg (by omega)])) <;> rw [if_pos c_25])⟩⟩, hS.F ht⟩) hS.2.2 dX2_encode_145
              · have tc_25 : ¬ r_24.toInt = (-1) := v_ne c_25
                refine lv_aload_n hx hb dX2_encode_131 rfl (lv_at hl 5 rfl) ?_
                refine lv_iload hx hb dX2_encode_132 (lv_at hl 0 rfl) ?_
                have hPc := hP.sub (ws' := [(nu, .inr (5, [.ref au, .int lu])), (au, .inl (cI, cap, .inl fu))]) [3, 4] rfl
                have hDc := hD.sub (ws' := [(nu, .inr (5, [.ref au, .int lu])), (au, .inl (cI, cap, .inl fu))]) [3, 4] (by decide +kernel) rfl
                have hFc := va_free (wc := [(nu, .inr (5, [.ref au, .int lu])), (au, .inl (cI, cap, .inl fu))]) hD hS hA [3, 4] rfl
                refine va_calli (va_runV (As := [.int r_24]) (rest := []) ⟨hx, hb, hml, hown, hts⟩ (m_X5_add l dC dI cI cS H.size nu au cap lu fu r_24 (g_lu) (by omega)) (cwV 1 hts gX2_encode_X5_add rfl rfl rfl (by decide +kernel) ⟨Nat.le_of_ble_eq_true rfl, Nat.le_of_ble_eq_true rfl⟩) ⟨fun a U g mk q => by obtain ⟨q0, q1, qP, qK, qD⟩ := q; exact ⟨q0, q1, qP, va_K.moved (u := U) (U := U.calling g mk a) (Vm.Alike.refl U.vm) qK, qD⟩, va_recv hK hPc (ci := 5) (q0 := 0) rfl rfl, fun U hU hW => ⟨rfl, by rw [hU], by rw [hU]; exact hPc, va_K.moved hW.alike hK, hDc.weaken (fun _ _ _ _ => trivial)⟩⟩ rfl rfl hl.1 rfl (lv_room (Nat.le_of_ble_eq_true rfl)) dX2_encode_134 ⟨Nat.le_of_ble_eq_true rfl, Nat.le_of_ble_eq_true rfl⟩) hS (fun q _ h => hFc q h) hFc (fun r_26 u t H1 locs ht hvm hw hB hz1 hk1 hSn => ?_)
                subst hw
                obtain ⟨lu_26, fu_26, hP1, hD1, hf26_0, hf26_1, hf26_2⟩ := hB
                rw [ht] at hP1
                obtain ⟨hPn, hDn⟩ := va_join (wr := [(o4, .inr (10, [.ref a41, .ref a42, .ref a43, .int l4])), (a42, .inl (cI, 512, .inl f42)), (a43, .inl (cI, 512, .inl f43)), (oC, .inr (2, [.ref o4, .ref o5])), (o5, .inr (10, [.ref a51, .ref a52, .ref a53, .int l5])), (a52, .inl (cI, 512, .inl f52)), (a53, .inl (cI, 512, .inl f53))]) (w1 := [(nu, .inr (5, [.ref au, .int lu_26])), (au, .inl (cI, cap, .inl fu_26))]) hP hD [3, 4] [0, 1, 2, 5, 6, 7, 8] rfl rfl (by decide +kernel) (by decide +kernel) hk1 hFc hP1 hD1
                clear hP hD hS hPc hDc hFc hk1 hz1 hvm ht hP1 hD1
                generalize H1 = H at hPn hSn ⊢
                have hP : va_P (dC, dI) vwCl [(o4, .inr (10, [.ref a41, .ref a42, .ref a43, .int l4])), (a42, .inl (cI, 512, .inl f42)), (a43, .inl (cI, 512, .inl f43)), (oC, .inr (2, [.ref o4, .ref o5])), (o5, .inr (10, [.ref a51, .ref a52, .ref a53, .int l5])), (a52, .inl (cI, 512, .inl f52)), (a53, .inl (cI, 512, .inl f53)), (nu, .inr (5, [.ref au, .int lu_26])), (au, .inl (cI, cap, .inl fu_26))] H := hPn
                have hD : va_D A [(o4, .inr (10, [.ref a41, .ref a42, .ref a43, .int l4])), (a42, .inl (cI, 512, .inl f42)), (a43, .inl (cI, 512, .inl f43)), (oC, .inr (2, [.ref o4, .ref o5])), (o5, .inr (10, [.ref a51, .ref a52, .ref a53, .int l5])), (a52, .inl (cI, 512, .inl f52)), (a53, .inl (cI, 512, .inl f53)), (nu, .inr (5, [.ref au, .int lu_26])), (au, .inl (cI, cap, .inl fu_26))] := hDn
                have hS := hSn
                clear hPn hDn hSn
                have ha26 : lu_26.toInt = lu.toInt + 1 := F_add_l hf26_2 (by omega)
                have hr26 : r_26.toInt = 1 := F_add_r hf26_2 (by omega)
                have hap26 : AP lu lu_26 fu fu_26 [(r_24 : Int32).toInt] := AP_s (AP_0 (l := lu) (f := fu)) (by omega) hf26_2 (by omega)
                refine lv_if_eq (tgt := 144) hx hb dX2_encode_137 (by decide) (fun c_27 => by exfalso; have tc_27 : r_26.toInt = 0 := v_eq c_27; omega) (fun c_27 => ?_)
                have tc_27 : ¬ r_26.toInt = 0 := v_ne c_27
                refine lv_iconst (v := 1) hx hb dX2_encode_140 (by decide) ?_
                refine lv_goto (tgt := 145) hx hb dX2_encode_141 (by decide) ?_
                have hP9 := hP.sub (ws' := [(oC, .inr (2, [.ref o4, .ref o5])), (o4, .inr (10, [.ref a41, .ref a42, .ref a43, .int l4])), (a42, .inl (cI, 512, .inl f42)), (a43, .inl (cI, 512, .inl f43)), (o5, .inr (10, [.ref a51, .ref a52, .ref a53, .int l5])), (a52, .inl (cI, 512, .inl f52)), (a53, .inl (cI, 512, .inl f53)), (nu, .inr (5, [.ref au, .int lu_26])), (au, .inl (cI, cap, .inl fu_26))]) [3, 0, 1, 2, 4, 5, 6, 7, 8] rfl
                have hD9 := hD.sub (ws' := [(oC, .inr (2, [.ref o4, .ref o5])), (o4, .inr (10, [.ref a41, .ref a42, .ref a43, .int l4])), (a42, .inl (cI, 512, .inl f42)), (a43, .inl (cI, 512, .inl f43)), (o5, .inr (10, [.ref a51, .ref a52, .ref a53, .int l5])), (a52, .inl (cI, 512, .inl f52)), (a53, .inl (cI, 512, .inl f53)), (nu, .inr (5, [.ref au, .int lu_26])), (au, .inl (cI, cap, .inl fu_26))]) [3, 0, 1, 2, 4, 5, 6, 7, 8] (by decide +kernel) rfl
                rw [hQQ]
                exact W.zret (v := 1) (ty := .boolean) hx hb hr (rfl) (fun t ht hW => ⟨⟨1, 1, rfl, rfl, ⟨lu_26, fu_26, by rw [ht]; exact hP9, hD9, hf26_0, by decide, F_en_y (by first | omega | rfl) hap26 (by rw [← (show r_24 = Bc cd f42 f43 f52 f53 le from (bfF_of hT5 hf24_0).trans (by unfold Bc; rw [if_neg (by omega)]))]; unfold enc; (repeat (first | rw [if_pos (by omega)] | rw [if_neg (by omega)])) <;> rw [if_neg c_25])⟩⟩, hS.F ht⟩) hS.2.2 dX2_encode_145
            · skip
              have hPc := hP.sub (ws' := [(oC, .inr (2, [.ref o4, .ref o5]))]) [0] rfl
              have hDc := hD.sub (ws' := [(oC, .inr (2, [.ref o4, .ref o5]))]) [0] (by decide +kernel) rfl
              have hFc := va_free (wc := [(oC, .inr (2, [.ref o4, .ref o5]))]) hD hS hA [0] rfl
              refine va_callq (va_runV (As := [.int cd]) (rest := []) ⟨hx, hb, hml, hown, hts⟩ (m_X2_toldCode_n l dC dI cI cS s.heap.size oC o4 o5 cd (by omega) (by omega)) (cwV 1 hts gX2_encode_X2_toldCode rfl rfl rfl (by decide +kernel) ⟨Nat.le_of_ble_eq_true rfl, Nat.le_of_ble_eq_true rfl⟩) ⟨fun a U g mk q => by obtain ⟨q0, q1, qP, qK, qD⟩ := q; exact ⟨q0, q1, qP, va_K.moved (u := U) (U := U.calling g mk a) (Vm.Alike.refl U.vm) qK, qD⟩, va_recv hK hPc (ci := 2) (q0 := 0) rfl rfl, fun U hU hW => ⟨rfl, by rw [hU], by rw [hU]; exact hPc, va_K.moved hW.alike hK, hDc.weaken (fun _ _ _ _ => trivial)⟩⟩ rfl rfl hl.1 rfl (lv_room (Nat.le_of_ble_eq_true rfl)) dX2_encode_103 ⟨Nat.le_of_ble_eq_true rfl, Nat.le_of_ble_eq_true rfl⟩) hS (fun q _ h => hFc q h) hFc (fun r_28 u t H1 locs ht hvm hw hB hz1 hk1 hSn => ?_)
              obtain ⟨hP1, hD1⟩ := hB
              rw [ht] at hP1
              obtain ⟨hPn, hDn⟩ := va_join (wr := [(o4, .inr (10, [.ref a41, .ref a42, .ref a43, .int l4])), (a42, .inl (cI, 512, .inl f42)), (a43, .inl (cI, 512, .inl f43)), (o5, .inr (10, [.ref a51, .ref a52, .ref a53, .int l5])), (a52, .inl (cI, 512, .inl f52)), (a53, .inl (cI, 512, .inl f53)), (nu, .inr (5, [.ref au, .int lu])), (au, .inl (cI, cap, .inl fu))]) (w1 := [(oC, .inr (2, [.ref o4, .ref o5]))]) hP hD [0] [1, 2, 3, 4, 5, 6, 7, 8] rfl rfl (by decide +kernel) (by decide +kernel) hk1 hFc hP1 hD1
              clear hP hD hS hPc hDc hFc hk1 hz1 hvm ht hP1 hD1
              generalize H1 = H at hPn hSn ⊢
              have hP : va_P (dC, dI) vwCl [(o4, .inr (10, [.ref a41, .ref a42, .ref a43, .int l4])), (a42, .inl (cI, 512, .inl f42)), (a43, .inl (cI, 512, .inl f43)), (o5, .inr (10, [.ref a51, .ref a52, .ref a53, .int l5])), (a52, .inl (cI, 512, .inl f52)), (a53, .inl (cI, 512, .inl f53)), (nu, .inr (5, [.ref au, .int lu])), (au, .inl (cI, cap, .inl fu)), (oC, .inr (2, [.ref o4, .ref o5]))] H := hPn
              have hD : va_D A [(o4, .inr (10, [.ref a41, .ref a42, .ref a43, .int l4])), (a42, .inl (cI, 512, .inl f42)), (a43, .inl (cI, 512, .inl f43)), (o5, .inr (10, [.ref a51, .ref a52, .ref a53, .int l5])), (a52, .inl (cI, 512, .inl f52)), (a53, .inl (cI, 512, .inl f53)), (nu, .inr (5, [.ref au, .int lu])), (au, .inl (cI, cap, .inl fu)), (oC, .inr (2, [.ref o4, .ref o5]))] := hDn
              have hS := hSn
              clear hPn hDn hSn
              obtain rfl := hw
              refine W.eq (g2 := F0 m 106 ls [.null]) rfl ?_
              refine lv_astoreN (lv' := [(4, .null), (0, .ref oC), (1, .int cd), (2, .int le), (3, .ref nu)]) hx hb dX2_encode_106 hl (by decide) rfl (fun ls hl => ?_)
              refine lv_aloadN hx hb dX2_encode_108 (lv_at hl 0 rfl) ?_
              refine lv_ifnonnullN hx hb dX2_encode_110 ?_
              refine lv_iconst (v := (-1)) hx hb dX2_encode_113 (by decide) ?_
              refine lv_goto (tgt := 123) hx hb dX2_encode_114 (by decide) ?_
              refine lv_istore (lv' := [(5, .int (-1)), (4, .null), (0, .ref oC), (1, .int cd), (2, .int le), (3, .ref nu)]) hx hb dX2_encode_123 hl (by decide) rfl (fun ls hl => ?_)
              refine lv_iload hx hb dX2_encode_125 (lv_at hl 0 rfl) ?_
              refine lv_iconst (v := (-1)) hx hb dX2_encode_127 (by decide) ?_
              refine lv_icmp_eq (tgt := 144) hx hb dX2_encode_128 (by decide) (fun c_29 => ?_) (fun c_29 => absurd c_29 (by decide))
              refine lv_iconst (v := 0) hx hb dX2_encode_144 (by decide) ?_
              have hP9 := hP.sub (ws' := [(oC, .inr (2, [.ref o4, .ref o5])), (o4, .inr (10, [.ref a41, .ref a42, .ref a43, .int l4])), (a42, .inl (cI, 512, .inl f42)), (a43, .inl (cI, 512, .inl f43)), (o5, .inr (10, [.ref a51, .ref a52, .ref a53, .int l5])), (a52, .inl (cI, 512, .inl f52)), (a53, .inl (cI, 512, .inl f53)), (nu, .inr (5, [.ref au, .int lu])), (au, .inl (cI, cap, .inl fu))]) [8, 0, 1, 2, 3, 4, 5, 6, 7] rfl
              have hD9 := hD.sub (ws' := [(oC, .inr (2, [.ref o4, .ref o5])), (o4, .inr (10, [.ref a41, .ref a42, .ref a43, .int l4])), (a42, .inl (cI, 512, .inl f42)), (a43, .inl (cI, 512, .inl f43)), (o5, .inr (10, [.ref a51, .ref a52, .ref a53, .int l5])), (a52, .inl (cI, 512, .inl f52)), (a53, .inl (cI, 512, .inl f53)), (nu, .inr (5, [.ref au, .int lu])), (au, .inl (cI, cap, .inl fu))]) [8, 0, 1, 2, 3, 4, 5, 6, 7] (by decide +kernel) rfl
              rw [hQQ]
              exact W.zret (v := 0) (ty := .boolean) hx hb hr (rfl) (fun t ht hW => ⟨⟨0, 0, rfl, rfl, ⟨lu, fu, by rw [ht]; exact hP9, hD9, g_lu, by decide, F_en_n (by first | omega | rfl) (by unfold enc; (repeat (first | rw [if_pos (by omega)] | rw [if_neg (by omega)])))⟩⟩, hS.F ht⟩) hS.2.2 dX2_encode_145

set_option maxHeartbeats 40000000 in
set_option maxRecDepth 100000 in
theorem f_X7_write (l : Launch) (dC : Nat → ClassId) (dI : Nat → Nat → Nat) (cI cS : ClassId) (sz : Nat) (oP : Nat) (nx : Nat) (oC : Nat) (nB : Nat) (aB : Nat) (o4 : Nat) (o5 : Nat) (a41 : Nat) (a42 : Nat) (a43 : Nat) (a51 : Nat) (a52 : Nat) (a53 : Nat) (ax : Nat) (ft : Int32) (lB : Int32) (fB : Nat → Int32) (l4 : Int32) (f42 : Nat → Int32) (f43 : Nat → Int32) (l5 : Int32) (f52 : Nat → Int32) (f53 : Nat → Int32) (lx : Int32) (fx : Nat → Int32) (cd : Int32) (g_lB : 0 ≤ lB.toInt ∧ lB.toInt ≤ 2400) (g_lx : 0 ≤ lx.toInt ∧ lx.toInt ≤ 300) (hlt : prg lx.toInt 0 65535 fx) (hT4 : HT 512 511 hsT f42 f43) (ho4 : (occ f43 512 : Int) ≤ 511) (hT5 : HT 512 511 hsT f52 f53) (ho5 : (occ f53 512 : Int) ≤ 511) : Met l yX7_write wsX7_write ({ frames := 3, cells := 0, slots := 0, locals := 71 } : Room) (va_Pc [.ref oP, .int cd, .ref nx] (fun U => U.heap.size = sz ∧ va_P (dC, dI) vwCl [(oP, .inr (7, [.ref oC, .ref nB, .int ft])), (nB, .inr (5, [.ref aB, .int lB])), (aB, .inl (cI, 2400, .inl fB)), (oC, .inr (2, [.ref o4, .ref o5])), (o4, .inr (10, [.ref a41, .ref a42, .ref a43, .int l4])), (a42, .inl (cI, 512, .inl f42)), (a43, .inl (cI, 512, .inl f43)), (o5, .inr (10, [.ref a51, .ref a52, .ref a53, .int l5])), (a52, .inl (cI, 512, .inl f52)), (a53, .inl (cI, 512, .inl f53)), (nx, .inr (5, [.ref ax, .int lx])), (ax, .inl (cI, 300, .inl fx))] U.heap ∧ va_K (dC, dI) vwCl [(cI, .int), (cS, .short)] U ∧ va_D (fun _ => True) [(oP, .inr (7, [.ref oC, .ref nB, .int ft])), (nB, .inr (5, [.ref aB, .int lB])), (aB, .inl (cI, 2400, .inl fB)), (oC, .inr (2, [.ref o4, .ref o5])), (o4, .inr (10, [.ref a41, .ref a42, .ref a43, .int l4])), (a42, .inl (cI, 512, .inl f42)), (a43, .inl (cI, 512, .inl f43)), (o5, .inr (10, [.ref a51, .ref a52, .ref a53, .int l5])), (a52, .inl (cI, 512, .inl f52)), (a53, .inl (cI, 512, .inl f53)), (nx, .inr (5, [.ref ax, .int lx])), (ax, .inl (cI, 300, .inl fx))])) (va_Qi (fun (r : Int32) (u : Int32) => r = u) (fun (r : Int32) t => ∃ (ft' : Int32) (lB' : Int32) (fB' : Nat → Int32), va_P (dC, dI) vwCl [(oP, .inr (7, [.ref oC, .ref nB, .int ft'])), (nB, .inr (5, [.ref aB, .int lB'])), (aB, .inl (cI, 2400, .inl fB')), (oC, .inr (2, [.ref o4, .ref o5])), (o4, .inr (10, [.ref a41, .ref a42, .ref a43, .int l4])), (a42, .inl (cI, 512, .inl f42)), (a43, .inl (cI, 512, .inl f43)), (o5, .inr (10, [.ref a51, .ref a52, .ref a53, .int l5])), (a52, .inl (cI, 512, .inl f52)), (a53, .inl (cI, 512, .inl f53)), (nx, .inr (5, [.ref ax, .int lx])), (ax, .inl (cI, 300, .inl fx))] t.heap ∧ va_D (va_A [(oP, .inr (7, [.ref oC, .ref nB, .int ft])), (nB, .inr (5, [.ref aB, .int lB])), (aB, .inl (cI, 2400, .inl fB)), (oC, .inr (2, [.ref o4, .ref o5])), (o4, .inr (10, [.ref a41, .ref a42, .ref a43, .int l4])), (a42, .inl (cI, 512, .inl f42)), (a43, .inl (cI, 512, .inl f43)), (o5, .inr (10, [.ref a51, .ref a52, .ref a53, .int l5])), (a52, .inl (cI, 512, .inl f52)), (a53, .inl (cI, 512, .inl f53)), (nx, .inr (5, [.ref ax, .int lx])), (ax, .inl (cI, 300, .inl fx))] sz) [(oP, .inr (7, [.ref oC, .ref nB, .int ft'])), (nB, .inr (5, [.ref aB, .int lB'])), (aB, .inl (cI, 2400, .inl fB')), (oC, .inr (2, [.ref o4, .ref o5])), (o4, .inr (10, [.ref a41, .ref a42, .ref a43, .int l4])), (a42, .inl (cI, 512, .inl f42)), (a43, .inl (cI, 512, .inl f43)), (o5, .inr (10, [.ref a51, .ref a52, .ref a53, .int l5])), (a52, .inl (cI, 512, .inl f52)), (a53, .inl (cI, 512, .inl f53)), (nx, .inr (5, [.ref ax, .int lx])), (ax, .inl (cI, 300, .inl fx))] ∧ (0 ≤ lB'.toInt ∧ lB'.toInt ≤ 2400) ∧ (0 ≤ r.toInt ∧ r.toInt ≤ 1) ∧ (F_wr r ft' lB' fB' (fun j => enc cd (fx j) (Bc cd f42 f43 f52 f53 (fx j))) lx.toInt)) (va_A [(oP, .inr (7, [.ref oC, .ref nB, .int ft])), (nB, .inr (5, [.ref aB, .int lB])), (aB, .inl (cI, 2400, .inl fB)), (oC, .inr (2, [.ref o4, .ref o5])), (o4, .inr (10, [.ref a41, .ref a42, .ref a43, .int l4])), (a42, .inl (cI, 512, .inl f42)), (a43, .inl (cI, 512, .inl f43)), (o5, .inr (10, [.ref a51, .ref a52, .ref a53, .int l5])), (a52, .inl (cI, 512, .inl f52)), (a53, .inl (cI, 512, .inl f53)), (nx, .inr (5, [.ref ax, .int lx])), (ax, .inl (cI, 300, .inl fx))] sz)) 0 0 (va_A [(oP, .inr (7, [.ref oC, .ref nB, .int ft])), (nB, .inr (5, [.ref aB, .int lB])), (aB, .inl (cI, 2400, .inl fB)), (oC, .inr (2, [.ref o4, .ref o5])), (o4, .inr (10, [.ref a41, .ref a42, .ref a43, .int l4])), (a42, .inl (cI, 512, .inl f42)), (a43, .inl (cI, 512, .inl f43)), (o5, .inr (10, [.ref a51, .ref a52, .ref a53, .int l5])), (a52, .inl (cI, 512, .inl f52)), (a53, .inl (cI, 512, .inl f53)), (nx, .inr (5, [.ref ax, .int lx])), (ax, .inl (cI, 300, .inl fx))] sz) := by
  refine Met.ofW (cc := cX7_write) (maxL := 4) (ret := (some .boolean)) (by decide) rfl ?_
  intro p e s m args below meth c s₁ B hml hv
  obtain ⟨rfl, hsz, hP, hK, hD0⟩ := hv
  have hx := B.exec
  have hb := B.bytes
  have hr := B.returns
  have hts := atoms_spec (ws := wsX7_write) B.pre
  have hown : s.vm.findClass RX7 = some m.cls := findClass_of_methodNamed B.named
  have hlocks := B.notSynchronized
  have in_X7 : ∀ w ∈ wsX70, w ∈ wsX7_write := fun _ h => List.mem_cons_of_mem _ (List.mem_append_left _ (List.mem_append_left _ (List.mem_append_left _ (List.mem_append_right _ (h)))))
  subst hsz
  have hD := hD0.self (sz := s.heap.size)
  generalize hAe : va_A [(oP, .inr (7, [.ref oC, .ref nB, .int ft])), (nB, .inr (5, [.ref aB, .int lB])), (aB, .inl (cI, 2400, .inl fB)), (oC, .inr (2, [.ref o4, .ref o5])), (o4, .inr (10, [.ref a41, .ref a42, .ref a43, .int l4])), (a42, .inl (cI, 512, .inl f42)), (a43, .inl (cI, 512, .inl f43)), (o5, .inr (10, [.ref a51, .ref a52, .ref a53, .int l5])), (a52, .inl (cI, 512, .inl f52)), (a53, .inl (cI, 512, .inl f53)), (nx, .inr (5, [.ref ax, .int lx])), (ax, .inl (cI, 300, .inl fx))] s.heap.size = A at hD ⊢
  have hA : ∀ q : Nat, s.heap.size ≤ q → A q := fun q h => by rw [← hAe]; exact Or.inr h
  have hS : va_S A s.heap s.heap [] := va_S.rf
  have hP : va_P (dC, dI) vwCl [(oP, .inr (7, [.ref oC, .ref nB, .int ft])), (nB, .inr (5, [.ref aB, .int lB])), (aB, .inl (cI, 2400, .inl fB)), (oC, .inr (2, [.ref o4, .ref o5])), (o4, .inr (10, [.ref a41, .ref a42, .ref a43, .int l4])), (a42, .inl (cI, 512, .inl f42)), (a43, .inl (cI, 512, .inl f43)), (o5, .inr (10, [.ref a51, .ref a52, .ref a53, .int l5])), (a52, .inl (cI, 512, .inl f52)), (a53, .inl (cI, 512, .inl f53)), (nx, .inr (5, [.ref ax, .int lx])), (ax, .inl (cI, 300, .inl fx))] s.heap := hP
  have hl := lv_entry ([.ref oP, .int cd, .ref nx]) (n := 4) (Nat.le_of_ble_eq_true rfl)
  rw [lg_entry_eq]
  generalize (lg_sl ([.ref oP, .int cd, .ref nx]) ++ List.replicate (4 - (lg_sl ([.ref oP, .int cd, .ref nx])).length) Slot.unset).toArray = ls at hl ⊢
  have hl : lv_has ls 4 [(0, .ref oP), (1, .int cd), (2, .ref nx)] := hl
  obtain ⟨QQ, hQQ⟩ : ∃ QQ : Array Value → State → Outcome → State → Prop, QQ = va_Qi (fun (r : Int32) (u : Int32) => r = u) (fun (r : Int32) t => ∃ (ft' : Int32) (lB' : Int32) (fB' : Nat → Int32), va_P (dC, dI) vwCl [(oP, .inr (7, [.ref oC, .ref nB, .int ft'])), (nB, .inr (5, [.ref aB, .int lB'])), (aB, .inl (cI, 2400, .inl fB')), (oC, .inr (2, [.ref o4, .ref o5])), (o4, .inr (10, [.ref a41, .ref a42, .ref a43, .int l4])), (a42, .inl (cI, 512, .inl f42)), (a43, .inl (cI, 512, .inl f43)), (o5, .inr (10, [.ref a51, .ref a52, .ref a53, .int l5])), (a52, .inl (cI, 512, .inl f52)), (a53, .inl (cI, 512, .inl f53)), (nx, .inr (5, [.ref ax, .int lx])), (ax, .inl (cI, 300, .inl fx))] t.heap ∧ va_D A [(oP, .inr (7, [.ref oC, .ref nB, .int ft'])), (nB, .inr (5, [.ref aB, .int lB'])), (aB, .inl (cI, 2400, .inl fB')), (oC, .inr (2, [.ref o4, .ref o5])), (o4, .inr (10, [.ref a41, .ref a42, .ref a43, .int l4])), (a42, .inl (cI, 512, .inl f42)), (a43, .inl (cI, 512, .inl f43)), (o5, .inr (10, [.ref a51, .ref a52, .ref a53, .int l5])), (a52, .inl (cI, 512, .inl f52)), (a53, .inl (cI, 512, .inl f53)), (nx, .inr (5, [.ref ax, .int lx])), (ax, .inl (cI, 300, .inl fx))] ∧ (0 ≤ lB'.toInt ∧ lB'.toInt ≤ 2400) ∧ (0 ≤ r.toInt ∧ r.toInt ≤ 1) ∧ (F_wr r ft' lB' fB' (fun j => enc cd (fx j) (Bc cd f42 f43 f52 f53 (fx j))) lx.toInt)) A := ⟨_, rfl⟩
  rw [← hQQ]
  refine lv_aload_n hx hb dX7_write_0 rfl (lv_at hl 0 rfl) ?_
  refine lv_iconst (v := (-1)) hx hb dX7_write_1 (by decide) ?_
  refine va_put (D := (dC, dI)) (ci := 7) (v := .int (-1)) (ty := .int) (C := RX7) (T := TX7) (N := 3) hx hb hts in_X7 tyX7 tyX7_ok nmX7 hown hK hP hD hS 0 rfl rfl 2 (by decide) (hts (.fieldLink RX7 24 "TextMender$Passage" "fault" "I") (List.mem_of_getElem? (i := 1) rfl)) (fun _ h9 => h9) rfl (by decide +kernel) rfl rfl (Nat.le_of_ble_eq_true rfl) dX7_write_2 (fun H locs hPn hDn hSn => ?_)
  clear hP hD hS
  have hP : va_P (dC, dI) vwCl [(oP, .inr (7, [.ref oC, .ref nB, .int (-1)])), (nB, .inr (5, [.ref aB, .int lB])), (aB, .inl (cI, 2400, .inl fB)), (oC, .inr (2, [.ref o4, .ref o5])), (o4, .inr (10, [.ref a41, .ref a42, .ref a43, .int l4])), (a42, .inl (cI, 512, .inl f42)), (a43, .inl (cI, 512, .inl f43)), (o5, .inr (10, [.ref a51, .ref a52, .ref a53, .int l5])), (a52, .inl (cI, 512, .inl f52)), (a53, .inl (cI, 512, .inl f53)), (nx, .inr (5, [.ref ax, .int lx])), (ax, .inl (cI, 300, .inl fx))] H := hPn
  have hD : va_D A [(oP, .inr (7, [.ref oC, .ref nB, .int (-1)])), (nB, .inr (5, [.ref aB, .int lB])), (aB, .inl (cI, 2400, .inl fB)), (oC, .inr (2, [.ref o4, .ref o5])), (o4, .inr (10, [.ref a41, .ref a42, .ref a43, .int l4])), (a42, .inl (cI, 512, .inl f42)), (a43, .inl (cI, 512, .inl f43)), (o5, .inr (10, [.ref a51, .ref a52, .ref a53, .int l5])), (a52, .inl (cI, 512, .inl f52)), (a53, .inl (cI, 512, .inl f53)), (nx, .inr (5, [.ref ax, .int lx])), (ax, .inl (cI, 300, .inl fx))] := hDn
  have hS := hSn
  clear hPn hDn hSn
  refine lv_aload_n hx hb dX7_write_5 rfl (lv_at hl 0 rfl) ?_
  refine va_get (D := (dC, dI)) (ci := 7) (v := .ref nB) (C := RX7) (T := TX7) (N := 3) hx hb hts in_X7 hown hK hP 0 rfl rfl 1 (by decide) (hts (.fieldLink RX7 14 "TextMender$Passage" "bytes" "LTextMender$Numbers;") (List.mem_of_getElem? (i := 2) rfl)) (fun _ h9 => h9) rfl dX7_write_6 ?_
  refine lv_iconst (v := 0) hx hb dX7_write_9 (by decide) ?_
  have hPc := hP.sub (ws' := [(nB, .inr (5, [.ref aB, .int lB]))]) [1] rfl
  have hDc := hD.sub (ws' := [(nB, .inr (5, [.ref aB, .int lB]))]) [1] (by decide +kernel) rfl
  have hFc := va_free (wc := [(nB, .inr (5, [.ref aB, .int lB]))]) hD hS hA [1] rfl
  refine va_callv (va_runV (As := [.int 0]) (rest := []) ⟨hx, hb, hml, hown, hts⟩ (m_X5_cut l dC dI cI cS H.size nB aB lB 0 (by omega)) (cwV 1 hts gX7_write_X5_cut rfl rfl rfl (by decide +kernel) ⟨Nat.le_of_ble_eq_true rfl, Nat.le_of_ble_eq_true rfl⟩) ⟨fun a U g mk q => by obtain ⟨q0, q1, qP, qK, qD⟩ := q; exact ⟨q0, q1, qP, va_K.moved (u := U) (U := U.calling g mk a) (Vm.Alike.refl U.vm) qK, qD⟩, va_recv hK hPc (ci := 5) (q0 := 0) rfl rfl, fun U hU hW => ⟨rfl, by rw [hU], by rw [hU]; exact hPc, va_K.moved hW.alike hK, hDc.weaken (fun _ _ _ _ => trivial)⟩⟩ rfl rfl hl.1 rfl (lv_room (Nat.le_of_ble_eq_true rfl)) dX7_write_10 ⟨Nat.le_of_ble_eq_true rfl, Nat.le_of_ble_eq_true rfl⟩) hS (fun q _ h => hFc q h) hFc (fun u t H1 locs ht hvm hw hB hz1 hk1 hSn => ?_)
  obtain ⟨lu_1, hP1, hD1, hf1_0, hf1_1, hf1_2⟩ := hB
  rw [ht] at hP1
  obtain ⟨hPn, hDn⟩ := va_join (wr := [(oP, .inr (7, [.ref oC, .ref nB, .int (-1)])), (aB, .inl (cI, 2400, .inl fB)), (oC, .inr (2, [.ref o4, .ref o5])), (o4, .inr (10, [.ref a41, .ref a42, .ref a43, .int l4])), (a42, .inl (cI, 512, .inl f42)), (a43, .inl (cI, 512, .inl f43)), (o5, .inr (10, [.ref a51, .ref a52, .ref a53, .int l5])), (a52, .inl (cI, 512, .inl f52)), (a53, .inl (cI, 512, .inl f53)), (nx, .inr (5, [.ref ax, .int lx])), (ax, .inl (cI, 300, .inl fx))]) (w1 := [(nB, .inr (5, [.ref aB, .int lu_1]))]) hP hD [1] [0, 2, 3, 4, 5, 6, 7, 8, 9, 10, 11] rfl rfl (by decide +kernel) (by decide +kernel) hk1 hFc hP1 hD1
  clear hP hD hS hPc hDc hFc hk1 hz1 hvm ht hP1 hD1
  generalize H1 = H at hPn hSn ⊢
  have hP : va_P (dC, dI) vwCl [(oP, .inr (7, [.ref oC, .ref nB, .int (-1)])), (aB, .inl (cI, 2400, .inl fB)), (oC, .inr (2, [.ref o4, .ref o5])), (o4, .inr (10, [.ref a41, .ref a42, .ref a43, .int l4])), (a42, .inl (cI, 512, .inl f42)), (a43, .inl (cI, 512, .inl f43)), (o5, .inr (10, [.ref a51, .ref a52, .ref a53, .int l5])), (a52, .inl (cI, 512, .inl f52)), (a53, .inl (cI, 512, .inl f53)), (nx, .inr (5, [.ref ax, .int lx])), (ax, .inl (cI, 300, .inl fx)), (nB, .inr (5, [.ref aB, .int lu_1]))] H := hPn
  have hD : va_D A [(oP, .inr (7, [.ref oC, .ref nB, .int (-1)])), (aB, .inl (cI, 2400, .inl fB)), (oC, .inr (2, [.ref o4, .ref o5])), (o4, .inr (10, [.ref a41, .ref a42, .ref a43, .int l4])), (a42, .inl (cI, 512, .inl f42)), (a43, .inl (cI, 512, .inl f43)), (o5, .inr (10, [.ref a51, .ref a52, .ref a53, .int l5])), (a52, .inl (cI, 512, .inl f52)), (a53, .inl (cI, 512, .inl f53)), (nx, .inr (5, [.ref ax, .int lx])), (ax, .inl (cI, 300, .inl fx)), (nB, .inr (5, [.ref aB, .int lu_1]))] := hDn
  have hS := hSn
  clear hPn hDn hSn
  have ha1 : lu_1.toInt = 0 := F_cut_l hf1_2 (by first | decide | omega) (by first | omega | (show (0 : Int) ≤ _; omega))
  refine lv_iconst (v := 0) hx hb dX7_write_13 (by decide) ?_
  refine lv_istore_n (lv' := [(3, .int 0), (0, .ref oP), (1, .int cd), (2, .ref nx)]) hx hb dX7_write_14 rfl hl (by decide) rfl (fun ls hl => ?_)
  have LOOP_15 : ∀ (k_15 : Nat) (i : Int32) (l2 : Int32) (f2 : Nat → Int32) (H : Heap) (locs : List Loc) (ls : Array Slot), MSd (lx.toInt - i.toInt : Int) k_15 → (0 ≤ i.toInt ∧ i.toInt ≤ 300) → (0 ≤ l2.toInt ∧ l2.toInt ≤ 2400) → (i.toInt ≤ lx.toInt) → (l2.toInt ≤ 8 * i.toInt) → (WR (fun j => enc cd (fx j) (Bc cd f42 f43 f52 f53 (fx j))) i.toNatClampNeg l2 f2) → va_P (dC, dI) vwCl [(oP, .inr (7, [.ref oC, .ref nB, .int (-1)])), (aB, .inl (cI, 2400, .inl f2)), (oC, .inr (2, [.ref o4, .ref o5])), (o4, .inr (10, [.ref a41, .ref a42, .ref a43, .int l4])), (a42, .inl (cI, 512, .inl f42)), (a43, .inl (cI, 512, .inl f43)), (o5, .inr (10, [.ref a51, .ref a52, .ref a53, .int l5])), (a52, .inl (cI, 512, .inl f52)), (a53, .inl (cI, 512, .inl f53)), (nx, .inr (5, [.ref ax, .int lx])), (ax, .inl (cI, 300, .inl fx)), (nB, .inr (5, [.ref aB, .int l2]))] H → va_D A [(oP, .inr (7, [.ref oC, .ref nB, .int (-1)])), (aB, .inl (cI, 2400, .inl f2)), (oC, .inr (2, [.ref o4, .ref o5])), (o4, .inr (10, [.ref a41, .ref a42, .ref a43, .int l4])), (a42, .inl (cI, 512, .inl f42)), (a43, .inl (cI, 512, .inl f43)), (o5, .inr (10, [.ref a51, .ref a52, .ref a53, .int l5])), (a52, .inl (cI, 512, .inl f52)), (a53, .inl (cI, 512, .inl f53)), (nx, .inr (5, [.ref ax, .int lx])), (ax, .inl (cI, 300, .inl fx)), (nB, .inr (5, [.ref aB, .int l2]))] → va_S A s.heap H locs → lv_has ls 4 [(3, .int i), (0, .ref oP), (1, .int cd), (2, .ref nx)] → W p l e (headSpec wsX7_write ({ frames := 3, cells := 0, slots := 0, locals := 71 } : Room)).room s m ([.ref oP, .int cd, .ref nx] : List Value).toArray below meth c H locs 0 0 (MQ below QQ ([.ref oP, .int cd, .ref nx] : List Value).toArray s 0 0 A) (F0 m 15 ls []) := by
    clear hP hD hS hl
    intro k_15
    induction k_15 with
    | zero =>
      intro i l2 f2 H locs ls hm_15 g_i g_l2 hil hl8 hw hP hD hS hl
      exact ms_0 hm_15
    | succ k_15 ih_15 =>
      intro i l2 f2 H locs ls hm_15 g_i g_l2 hil hl8 hw hP hD hS hl
      refine lv_iload_n hx hb dX7_write_15 rfl (lv_at hl 0 rfl) ?_
      refine lv_aload_n hx hb dX7_write_16 rfl (lv_at hl 3 rfl) ?_
      have hPc := hP.sub (ws' := [(nx, .inr (5, [.ref ax, .int lx]))]) [9] rfl
      have hDc := hD.sub (ws' := [(nx, .inr (5, [.ref ax, .int lx]))]) [9] (by decide +kernel) rfl
      have hFc := va_free (wc := [(nx, .inr (5, [.ref ax, .int lx]))]) hD hS hA [9] rfl
      refine va_calli (va_runV (As := []) (rest := [.int i]) ⟨hx, hb, hml, hown, hts⟩ (m_X5_length l dC dI cI cS H.size nx ax lx ) (cwV 0 hts gX7_write_X5_length rfl rfl rfl (by decide +kernel) ⟨Nat.le_of_ble_eq_true rfl, Nat.le_of_ble_eq_true rfl⟩) ⟨fun a U g mk q => by obtain ⟨q0, q1, qP, qK, qD⟩ := q; exact ⟨q0, q1, qP, va_K.moved (u := U) (U := U.calling g mk a) (Vm.Alike.refl U.vm) qK, qD⟩, va_recv hK hPc (ci := 5) (q0 := 0) rfl rfl, fun U hU hW => ⟨rfl, by rw [hU], by rw [hU]; exact hPc, va_K.moved hW.alike hK, hDc.weaken (fun _ _ _ _ => trivial)⟩⟩ rfl rfl hl.1 rfl (lv_room (Nat.le_of_ble_eq_true rfl)) dX7_write_17 ⟨Nat.le_of_ble_eq_true rfl, Nat.le_of_ble_eq_true rfl⟩) hS (fun q _ h => hFc q h) hFc (fun r_2 u t H1 locs ht hvm hw hB hz1 hk1 hSn => ?_)
      subst hw
      obtain ⟨hP1, hD1, hf2_0⟩ := hB
      rw [ht] at hP1
      obtain ⟨hPn, hDn⟩ := va_join (wr := [(oP, .inr (7, [.ref oC, .ref nB, .int (-1)])), (aB, .inl (cI, 2400, .inl f2)), (oC, .inr (2, [.ref o4, .ref o5])), (o4, .inr (10, [.ref a41, .ref a42, .ref a43, .int l4])), (a42, .inl (cI, 512, .inl f42)), (a43, .inl (cI, 512, .inl f43)), (o5, .inr (10, [.ref a51, .ref a52, .ref a53, .int l5])), (a52, .inl (cI, 512, .inl f52)), (a53, .inl (cI, 512, .inl f53)), (ax, .inl (cI, 300, .inl fx)), (nB, .inr (5, [.ref aB, .int l2]))]) (w1 := [(nx, .inr (5, [.ref ax, .int lx]))]) hP hD [9] [0, 1, 2, 3, 4, 5, 6, 7, 8, 10, 11] rfl rfl (by decide +kernel) (by decide +kernel) hk1 hFc hP1 hD1
      clear hP hD hS hPc hDc hFc hk1 hz1 hvm ht hP1 hD1
      generalize H1 = H at hPn hSn ⊢
      have hP : va_P (dC, dI) vwCl [(oP, .inr (7, [.ref oC, .ref nB, .int (-1)])), (aB, .inl (cI, 2400, .inl f2)), (oC, .inr (2, [.ref o4, .ref o5])), (o4, .inr (10, [.ref a41, .ref a42, .ref a43, .int l4])), (a42, .inl (cI, 512, .inl f42)), (a43, .inl (cI, 512, .inl f43)), (o5, .inr (10, [.ref a51, .ref a52, .ref a53, .int l5])), (a52, .inl (cI, 512, .inl f52)), (a53, .inl (cI, 512, .inl f53)), (ax, .inl (cI, 300, .inl fx)), (nB, .inr (5, [.ref aB, .int l2])), (nx, .inr (5, [.ref ax, .int lx]))] H := hPn
      have hD : va_D A [(oP, .inr (7, [.ref oC, .ref nB, .int (-1)])), (aB, .inl (cI, 2400, .inl f2)), (oC, .inr (2, [.ref o4, .ref o5])), (o4, .inr (10, [.ref a41, .ref a42, .ref a43, .int l4])), (a42, .inl (cI, 512, .inl f42)), (a43, .inl (cI, 512, .inl f43)), (o5, .inr (10, [.ref a51, .ref a52, .ref a53, .int l5])), (a52, .inl (cI, 512, .inl f52)), (a53, .inl (cI, 512, .inl f53)), (ax, .inl (cI, 300, .inl fx)), (nB, .inr (5, [.ref aB, .int l2])), (nx, .inr (5, [.ref ax, .int lx]))] := hDn
      have hS := hSn
      clear hPn hDn hSn
      rw [hf2_0]
      refine lv_icmp_ge (tgt := 56) hx hb dX7_write_20 (by decide) (fun c_3 => ?_) (fun c_3 => ?_)
      · have tc_3 : lx.toInt ≤ i.toInt := v_le c_3
        refine lv_iconst (v := 1) hx hb dX7_write_56 (by decide) ?_
        have hP9 := hP.sub (ws' := [(oP, .inr (7, [.ref oC, .ref nB, .int (-1)])), (nB, .inr (5, [.ref aB, .int l2])), (aB, .inl (cI, 2400, .inl f2)), (oC, .inr (2, [.ref o4, .ref o5])), (o4, .inr (10, [.ref a41, .ref a42, .ref a43, .int l4])), (a42, .inl (cI, 512, .inl f42)), (a43, .inl (cI, 512, .inl f43)), (o5, .inr (10, [.ref a51, .ref a52, .ref a53, .int l5])), (a52, .inl (cI, 512, .inl f52)), (a53, .inl (cI, 512, .inl f53)), (nx, .inr (5, [.ref ax, .int lx])), (ax, .inl (cI, 300, .inl fx))]) [0, 10, 1, 2, 3, 4, 5, 6, 7, 8, 11, 9] rfl
        have hD9 := hD.sub (ws' := [(oP, .inr (7, [.ref oC, .ref nB, .int (-1)])), (nB, .inr (5, [.ref aB, .int l2])), (aB, .inl (cI, 2400, .inl f2)), (oC, .inr (2, [.ref o4, .ref o5])), (o4, .inr (10, [.ref a41, .ref a42, .ref a43, .int l4])), (a42, .inl (cI, 512, .inl f42)), (a43, .inl (cI, 512, .inl f43)), (o5, .inr (10, [.ref a51, .ref a52, .ref a53, .int l5])), (a52, .inl (cI, 512, .inl f52)), (a53, .inl (cI, 512, .inl f53)), (nx, .inr (5, [.ref ax, .int lx])), (ax, .inl (cI, 300, .inl fx))]) [0, 10, 1, 2, 3, 4, 5, 6, 7, 8, 11, 9] (by decide +kernel) rfl
        rw [hQQ]
        exact W.zret (v := 1) (ty := .boolean) hx hb hr (rfl) (fun t ht hW => ⟨⟨1, 1, rfl, rfl, ⟨(-1), l2, f2, by rw [ht]; exact hP9, hD9, g_l2, by decide, wr_yes hw (by omega) (by omega)⟩⟩, hS.F ht⟩) hS.2.2 dX7_write_57
      · have tc_3 : i.toInt < lx.toInt := v_nle c_3
        refine lv_aload_n hx hb dX7_write_23 rfl (lv_at hl 1 rfl) ?_
        refine va_get (D := (dC, dI)) (ci := 7) (v := .ref oC) (C := RX7) (T := TX7) (N := 3) hx hb hts in_X7 hown hK hP 0 rfl rfl 0 (by decide) (hts (.fieldLink RX7 20 "TextMender$Passage" "codes" "LTextMender$Codes;") (List.mem_of_getElem? (i := 3) rfl)) (fun _ h9 => h9) rfl dX7_write_24 ?_
        refine lv_iload_n hx hb dX7_write_27 rfl (lv_at hl 2 rfl) ?_
        refine lv_aload_n hx hb dX7_write_28 rfl (lv_at hl 3 rfl) ?_
        refine lv_iload_n hx hb dX7_write_29 rfl (lv_at hl 0 rfl) ?_
        have hPc := hP.sub (ws' := [(nx, .inr (5, [.ref ax, .int lx])), (ax, .inl (cI, 300, .inl fx))]) [11, 9] rfl
        have hDc := hD.sub (ws' := [(nx, .inr (5, [.ref ax, .int lx])), (ax, .inl (cI, 300, .inl fx))]) [11, 9] (by decide +kernel) rfl
        have hFc := va_free (wc := [(nx, .inr (5, [.ref ax, .int lx])), (ax, .inl (cI, 300, .inl fx))]) hD hS hA [11, 9] rfl
        refine va_calli (va_runV (As := [.int i]) (rest := [.int cd, .ref oC]) ⟨hx, hb, hml, hown, hts⟩ (m_X5_get l dC dI cI cS H.size nx ax 300 lx fx i (by omega) (by omega)) (cwV 1 hts gX7_write_X5_get rfl rfl rfl (by decide +kernel) ⟨Nat.le_of_ble_eq_true rfl, Nat.le_of_ble_eq_true rfl⟩) ⟨fun a U g mk q => by obtain ⟨q0, q1, qP, qK, qD⟩ := q; exact ⟨q0, q1, qP, va_K.moved (u := U) (U := U.calling g mk a) (Vm.Alike.refl U.vm) qK, qD⟩, va_recv hK hPc (ci := 5) (q0 := 0) rfl rfl, fun U hU hW => ⟨rfl, by rw [hU], by rw [hU]; exact hPc, va_K.moved hW.alike hK, hDc.weaken (fun _ _ _ _ => trivial)⟩⟩ rfl rfl hl.1 rfl (lv_room (Nat.le_of_ble_eq_true rfl)) dX7_write_30 ⟨Nat.le_of_ble_eq_true rfl, Nat.le_of_ble_eq_true rfl⟩) hS (fun q _ h => hFc q h) hFc (fun r_4 u t H1 locs ht hvm hw hB hz1 hk1 hSn => ?_)
        subst hw
        obtain ⟨hP1, hD1, hf4_0⟩ := hB
        rw [ht] at hP1
        obtain ⟨hPn, hDn⟩ := va_join (wr := [(oP, .inr (7, [.ref oC, .ref nB, .int (-1)])), (aB, .inl (cI, 2400, .inl f2)), (oC, .inr (2, [.ref o4, .ref o5])), (o4, .inr (10, [.ref a41, .ref a42, .ref a43, .int l4])), (a42, .inl (cI, 512, .inl f42)), (a43, .inl (cI, 512, .inl f43)), (o5, .inr (10, [.ref a51, .ref a52, .ref a53, .int l5])), (a52, .inl (cI, 512, .inl f52)), (a53, .inl (cI, 512, .inl f53)), (nB, .inr (5, [.ref aB, .int l2]))]) (w1 := [(nx, .inr (5, [.ref ax, .int lx])), (ax, .inl (cI, 300, .inl fx))]) hP hD [11, 9] [0, 1, 2, 3, 4, 5, 6, 7, 8, 10] rfl rfl (by decide +kernel) (by decide +kernel) hk1 hFc hP1 hD1
        clear hP hD hS hPc hDc hFc hk1 hz1 hvm ht hP1 hD1
        generalize H1 = H at hPn hSn ⊢
        have hP : va_P (dC, dI) vwCl [(oP, .inr (7, [.ref oC, .ref nB, .int (-1)])), (aB, .inl (cI, 2400, .inl f2)), (oC, .inr (2, [.ref o4, .ref o5])), (o4, .inr (10, [.ref a41, .ref a42, .ref a43, .int l4])), (a42, .inl (cI, 512, .inl f42)), (a43, .inl (cI, 512, .inl f43)), (o5, .inr (10, [.ref a51, .ref a52, .ref a53, .int l5])), (a52, .inl (cI, 512, .inl f52)), (a53, .inl (cI, 512, .inl f53)), (nB, .inr (5, [.ref aB, .int l2])), (nx, .inr (5, [.ref ax, .int lx])), (ax, .inl (cI, 300, .inl fx))] H := hPn
        have hD : va_D A [(oP, .inr (7, [.ref oC, .ref nB, .int (-1)])), (aB, .inl (cI, 2400, .inl f2)), (oC, .inr (2, [.ref o4, .ref o5])), (o4, .inr (10, [.ref a41, .ref a42, .ref a43, .int l4])), (a42, .inl (cI, 512, .inl f42)), (a43, .inl (cI, 512, .inl f43)), (o5, .inr (10, [.ref a51, .ref a52, .ref a53, .int l5])), (a52, .inl (cI, 512, .inl f52)), (a53, .inl (cI, 512, .inl f53)), (nB, .inr (5, [.ref aB, .int l2])), (nx, .inr (5, [.ref ax, .int lx])), (ax, .inl (cI, 300, .inl fx))] := hDn
        have hS := hSn
        clear hPn hDn hSn
        have hg4 : r_4 = fx i.toNatClampNeg := F_get_f hf4_0 (by omega) (by omega)
        have hgr4 : 0 ≤ r_4.toInt ∧ r_4.toInt ≤ 65535 := prg_at hlt hg4 (by omega) (by omega)
        refine lv_aload_n hx hb dX7_write_33 rfl (lv_at hl 1 rfl) ?_
        refine va_get (D := (dC, dI)) (ci := 7) (v := .ref nB) (C := RX7) (T := TX7) (N := 3) hx hb hts in_X7 hown hK hP 0 rfl rfl 1 (by decide) (hts (.fieldLink RX7 14 "TextMender$Passage" "bytes" "LTextMender$Numbers;") (List.mem_of_getElem? (i := 2) rfl)) (fun _ h9 => h9) rfl dX7_write_34 ?_
        have hPc := hP.sub (ws' := [(oC, .inr (2, [.ref o4, .ref o5])), (o4, .inr (10, [.ref a41, .ref a42, .ref a43, .int l4])), (a42, .inl (cI, 512, .inl f42)), (a43, .inl (cI, 512, .inl f43)), (o5, .inr (10, [.ref a51, .ref a52, .ref a53, .int l5])), (a52, .inl (cI, 512, .inl f52)), (a53, .inl (cI, 512, .inl f53)), (nB, .inr (5, [.ref aB, .int l2])), (aB, .inl (cI, 2400, .inl f2))]) [2, 3, 4, 5, 6, 7, 8, 9, 1] rfl
        have hDc := hD.sub (ws' := [(oC, .inr (2, [.ref o4, .ref o5])), (o4, .inr (10, [.ref a41, .ref a42, .ref a43, .int l4])), (a42, .inl (cI, 512, .inl f42)), (a43, .inl (cI, 512, .inl f43)), (o5, .inr (10, [.ref a51, .ref a52, .ref a53, .int l5])), (a52, .inl (cI, 512, .inl f52)), (a53, .inl (cI, 512, .inl f53)), (nB, .inr (5, [.ref aB, .int l2])), (aB, .inl (cI, 2400, .inl f2))]) [2, 3, 4, 5, 6, 7, 8, 9, 1] (by decide +kernel) rfl
        have hFc := va_free (wc := [(oC, .inr (2, [.ref o4, .ref o5])), (o4, .inr (10, [.ref a41, .ref a42, .ref a43, .int l4])), (a42, .inl (cI, 512, .inl f42)), (a43, .inl (cI, 512, .inl f43)), (o5, .inr (10, [.ref a51, .ref a52, .ref a53, .int l5])), (a52, .inl (cI, 512, .inl f52)), (a53, .inl (cI, 512, .inl f53)), (nB, .inr (5, [.ref aB, .int l2])), (aB, .inl (cI, 2400, .inl f2))]) hD hS hA [2, 3, 4, 5, 6, 7, 8, 9, 1] rfl
        refine va_calli (va_runV (As := [.int cd, .int r_4, .ref nB]) (rest := []) ⟨hx, hb, hml, hown, hts⟩ (f_X2_encode l dC dI cI cS H.size oC nB o4 o5 a41 a42 a43 a51 a52 a53 aB 2400 l4 f42 f43 l5 f52 f53 l2 f2 cd r_4 (by omega) (by omega) (by omega) (by omega) (hT4) (by omega) (hT5) (by omega)) (cwV 3 hts gX7_write_X2_encode rfl rfl rfl (by decide +kernel) ⟨Nat.le_of_ble_eq_true rfl, Nat.le_of_ble_eq_true rfl⟩) ⟨fun a U g mk q => by obtain ⟨q0, q1, qP, qK, qD⟩ := q; exact ⟨q0, q1, qP, va_K.moved (u := U) (U := U.calling g mk a) (Vm.Alike.refl U.vm) qK, qD⟩, va_recv hK hPc (ci := 2) (q0 := 0) rfl rfl, fun U hU hW => ⟨rfl, by rw [hU], by rw [hU]; exact hPc, va_K.moved hW.alike hK, hDc.weaken (fun _ _ _ _ => trivial)⟩⟩ rfl rfl hl.1 rfl (lv_room (Nat.le_of_ble_eq_true rfl)) dX7_write_37 ⟨Nat.le_of_ble_eq_true rfl, Nat.le_of_ble_eq_true rfl⟩) hS (fun q _ h => hFc q h) hFc (fun r_5 u t H1 locs ht hvm hw hB hz1 hk1 hSn => ?_)
        subst hw
        obtain ⟨lu_5, fu_5, hP1, hD1, hf5_0, hf5_1, hf5_2⟩ := hB
        rw [ht] at hP1
        obtain ⟨hPn, hDn⟩ := va_join (wr := [(oP, .inr (7, [.ref oC, .ref nB, .int (-1)])), (nx, .inr (5, [.ref ax, .int lx])), (ax, .inl (cI, 300, .inl fx))]) (w1 := [(oC, .inr (2, [.ref o4, .ref o5])), (o4, .inr (10, [.ref a41, .ref a42, .ref a43, .int l4])), (a42, .inl (cI, 512, .inl f42)), (a43, .inl (cI, 512, .inl f43)), (o5, .inr (10, [.ref a51, .ref a52, .ref a53, .int l5])), (a52, .inl (cI, 512, .inl f52)), (a53, .inl (cI, 512, .inl f53)), (nB, .inr (5, [.ref aB, .int lu_5])), (aB, .inl (cI, 2400, .inl fu_5))]) hP hD [2, 3, 4, 5, 6, 7, 8, 9, 1] [0, 10, 11] rfl rfl (by decide +kernel) (by decide +kernel) hk1 hFc hP1 hD1
        clear hP hD hS hPc hDc hFc hk1 hz1 hvm ht hP1 hD1
        generalize H1 = H at hPn hSn ⊢
        have hP : va_P (dC, dI) vwCl [(oP, .inr (7, [.ref oC, .ref nB, .int (-1)])), (nx, .inr (5, [.ref ax, .int lx])), (ax, .inl (cI, 300, .inl fx)), (oC, .inr (2, [.ref o4, .ref o5])), (o4, .inr (10, [.ref a41, .ref a42, .ref a43, .int l4])), (a42, .inl (cI, 512, .inl f42)), (a43, .inl (cI, 512, .inl f43)), (o5, .inr (10, [.ref a51, .ref a52, .ref a53, .int l5])), (a52, .inl (cI, 512, .inl f52)), (a53, .inl (cI, 512, .inl f53)), (nB, .inr (5, [.ref aB, .int lu_5])), (aB, .inl (cI, 2400, .inl fu_5))] H := hPn
        have hD : va_D A [(oP, .inr (7, [.ref oC, .ref nB, .int (-1)])), (nx, .inr (5, [.ref ax, .int lx])), (ax, .inl (cI, 300, .inl fx)), (oC, .inr (2, [.ref o4, .ref o5])), (o4, .inr (10, [.ref a41, .ref a42, .ref a43, .int l4])), (a42, .inl (cI, 512, .inl f42)), (a43, .inl (cI, 512, .inl f43)), (o5, .inr (10, [.ref a51, .ref a52, .ref a53, .int l5])), (a52, .inl (cI, 512, .inl f52)), (a53, .inl (cI, 512, .inl f53)), (nB, .inr (5, [.ref aB, .int lu_5])), (aB, .inl (cI, 2400, .inl fu_5))] := hDn
        have hS := hSn
        clear hPn hDn hSn
        have hln5 := en_len hf5_2
        refine lv_if_ne (tgt := 50) hx hb dX7_write_40 (by decide) (fun c_6 => ?_) (fun c_6 => ?_)
        · have tc_6 : ¬ r_5.toInt = 0 := v_ne c_6
          obtain ⟨x_7, ex_7⟩ : ∃ y : Int32, y = i + 1 := ⟨_, rfl⟩
          have tx_7 : x_7.toInt = i.toInt + 1 := v_add ex_7 (by show -2147483648 ≤ i.toInt + 1; omega) (by show i.toInt + 1 < 2147483648; omega)
          refine lv_iinc (v := x_7) (lv' := [(3, .int x_7), (0, .ref oP), (1, .int cd), (2, .ref nx)]) hx hb dX7_write_50 hl (k := 0) rfl (by rw [ex_7]; rfl) (by decide) rfl (fun ls hl => ?_)
          refine lv_goto (tgt := 15) hx hb dX7_write_53 (by decide) ?_
          exact ih_15 x_7 lu_5 fu_5 _ _ _ (ms_lt hm_15 (by show ((lx.toInt - x_7.toInt : Int)) < lx.toInt - i.toInt; omega) (by show (0 : Int) < lx.toInt - i.toInt; omega)) (by show 0 ≤ x_7.toInt ∧ x_7.toInt ≤ 300; omega) (by show 0 ≤ lu_5.toInt ∧ lu_5.toInt ≤ 2400; omega) (by show x_7.toInt ≤ lx.toInt; omega) (by show lu_5.toInt ≤ 8 * x_7.toInt; omega) (WR_st hw (by show enc cd (fx i.toNatClampNeg) (Bc cd f42 f43 f52 f53 (fx i.toNatClampNeg)) = _; rw [← hg4]) hf5_2 (by omega) (by omega) (by omega)) (hP.sub [0, 11, 3, 4, 5, 6, 7, 8, 9, 1, 2, 10] rfl) (hD.sub [0, 11, 3, 4, 5, 6, 7, 8, 9, 1, 2, 10] (by decide +kernel) rfl) hS (lv_sub hl [0, 1, 2, 3] rfl)
        · have tc_6 : r_5.toInt = 0 := v_eq c_6
          refine lv_aload_n hx hb dX7_write_43 rfl (lv_at hl 1 rfl) ?_
          refine lv_iload_n hx hb dX7_write_44 rfl (lv_at hl 0 rfl) ?_
          refine va_put (D := (dC, dI)) (ci := 7) (v := .int i) (ty := .int) (C := RX7) (T := TX7) (N := 3) hx hb hts in_X7 tyX7 tyX7_ok nmX7 hown hK hP hD hS 0 rfl rfl 2 (by decide) (hts (.fieldLink RX7 24 "TextMender$Passage" "fault" "I") (List.mem_of_getElem? (i := 1) rfl)) (fun _ h9 => h9) rfl (by decide +kernel) rfl rfl (Nat.le_of_ble_eq_true rfl) dX7_write_45 (fun H locs hPn hDn hSn => ?_)
          clear hP hD hS
          have hP : va_P (dC, dI) vwCl [(oP, .inr (7, [.ref oC, .ref nB, .int i])), (nx, .inr (5, [.ref ax, .int lx])), (ax, .inl (cI, 300, .inl fx)), (oC, .inr (2, [.ref o4, .ref o5])), (o4, .inr (10, [.ref a41, .ref a42, .ref a43, .int l4])), (a42, .inl (cI, 512, .inl f42)), (a43, .inl (cI, 512, .inl f43)), (o5, .inr (10, [.ref a51, .ref a52, .ref a53, .int l5])), (a52, .inl (cI, 512, .inl f52)), (a53, .inl (cI, 512, .inl f53)), (nB, .inr (5, [.ref aB, .int lu_5])), (aB, .inl (cI, 2400, .inl fu_5))] H := hPn
          have hD : va_D A [(oP, .inr (7, [.ref oC, .ref nB, .int i])), (nx, .inr (5, [.ref ax, .int lx])), (ax, .inl (cI, 300, .inl fx)), (oC, .inr (2, [.ref o4, .ref o5])), (o4, .inr (10, [.ref a41, .ref a42, .ref a43, .int l4])), (a42, .inl (cI, 512, .inl f42)), (a43, .inl (cI, 512, .inl f43)), (o5, .inr (10, [.ref a51, .ref a52, .ref a53, .int l5])), (a52, .inl (cI, 512, .inl f52)), (a53, .inl (cI, 512, .inl f53)), (nB, .inr (5, [.ref aB, .int lu_5])), (aB, .inl (cI, 2400, .inl fu_5))] := hDn
          have hS := hSn
          clear hPn hDn hSn
          refine lv_iconst (v := 0) hx hb dX7_write_48 (by decide) ?_
          have hP9 := hP.sub (ws' := [(oP, .inr (7, [.ref oC, .ref nB, .int i])), (nB, .inr (5, [.ref aB, .int lu_5])), (aB, .inl (cI, 2400, .inl fu_5)), (oC, .inr (2, [.ref o4, .ref o5])), (o4, .inr (10, [.ref a41, .ref a42, .ref a43, .int l4])), (a42, .inl (cI, 512, .inl f42)), (a43, .inl (cI, 512, .inl f43)), (o5, .inr (10, [.ref a51, .ref a52, .ref a53, .int l5])), (a52, .inl (cI, 512, .inl f52)), (a53, .inl (cI, 512, .inl f53)), (nx, .inr (5, [.ref ax, .int lx])), (ax, .inl (cI, 300, .inl fx))]) [0, 10, 11, 3, 4, 5, 6, 7, 8, 9, 1, 2] rfl
          have hD9 := hD.sub (ws' := [(oP, .inr (7, [.ref oC, .ref nB, .int i])), (nB, .inr (5, [.ref aB, .int lu_5])), (aB, .inl (cI, 2400, .inl fu_5)), (oC, .inr (2, [.ref o4, .ref o5])), (o4, .inr (10, [.ref a41, .ref a42, .ref a43, .int l4])), (a42, .inl (cI, 512, .inl f42)), (a43, .inl (cI, 512, .inl f43)), (o5, .inr (10, [.ref a51, .ref a52, .ref a53, .int l5])), (a52, .inl (cI, 512, .inl f52)), (a53, .inl (cI, 512, .inl f53)), (nx, .inr (5, [.ref ax, .int lx])), (ax, .inl (cI, 300, .inl fx))]) [0, 10, 11, 3, 4, 5, 6, 7, 8, 9, 1, 2] (by decide +kernel) rfl
          rw [hQQ]
          exact W.zret (v := 0) (ty := .boolean) hx hb hr (rfl) (fun t ht hW => ⟨⟨0, 0, rfl, rfl, ⟨i, lu_5, fu_5, by rw [ht]; exact hP9, hD9, by omega, by decide, wr_no hw (by show enc cd (fx i.toNatClampNeg) (Bc cd f42 f43 f52 f53 (fx i.toNatClampNeg)) = _; rw [← hg4]) (F_en_0 hf5_2 (by omega)) (by omega) (by omega)⟩⟩, hS.F ht⟩) hS.2.2 dX7_write_49
  exact LOOP_15 _ 0 lu_1 fB _ _ _ (ms_s _) (by decide) (by show 0 ≤ lu_1.toInt ∧ lu_1.toInt ≤ 2400; omega) (by show 0 ≤ lx.toInt; omega) (by show lu_1.toInt ≤ 8 * 0; omega) (WR_0 (by omega)) hP hD hS (lv_sub hl [0, 1, 2, 3] rfl)

end
