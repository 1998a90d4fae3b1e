/-! 5r.chs -/
section
set_option maxHeartbeats 40000000 in
set_option maxRecDepth 100000 in
theorem f_X12_marksOf (l : Launch) (dC : Nat → ClassId) (dI : Nat → Nat → Nat) (cI cS : ClassId) (sz : Nat) (oM : Nat) (mT : Nat) (mS : Nat) (mX : Nat) (mL : Nat) (mB : Nat) (mD : Nat) (m1 : Nat) (m2 : Nat) (mR : Nat) (x1 : Nat) (x2 : Nat) (x3 : Nat) (mH : Nat) (mY : Nat) (mE : Nat) (mW : Nat) (mO : Nat) (y1 : Nat) (y2 : Nat) (y3 : Nat) (y4 : Nat) (mZ : Nat) (zt : Int32) (zp : Int32) (zf : Int32) (zh : Int32) (zr : Int32) (zc : Int32) (zy : Int32) (za : Int32) (zb : Int32) (zs : Int32) (zq : Int32) (zw : Int32) (ze : Int32) (zn : Int32) (zm : Int32) (zl : Int32) (zk : Int32) (zd : Int32) (eS : Nat → Int32) (eX : Nat → Int32) (g_zt : 0 ≤ zt.toInt ∧ zt.toInt ≤ 900) (g_zp : 0 ≤ zp.toInt ∧ zp.toInt ≤ 20) (g_zf : 0 ≤ zf.toInt ∧ zf.toInt ≤ 19) (g_zh : 0 ≤ zh.toInt ∧ zh.toInt ≤ 6) (g_zr : 0 ≤ zr.toInt ∧ zr.toInt ≤ 258) (g_zc : 0 ≤ zc.toInt ∧ zc.toInt ≤ 300) (g_zy : 0 ≤ zy.toInt ∧ zy.toInt ≤ 65536) (g_za : 0 ≤ za.toInt ∧ za.toInt ≤ 5) (g_zb : 0 ≤ zb.toInt ∧ zb.toInt ≤ 5) (g_zs : 0 ≤ zs.toInt ∧ zs.toInt ≤ 2000000) (g_zq : -1 ≤ zq.toInt ∧ zq.toInt ≤ 2000000) (g_zn : 0 ≤ zn.toInt ∧ zn.toInt ≤ 2600) (g_zm : 0 ≤ zm.toInt ∧ zm.toInt ≤ 2600) (g_zk : 0 ≤ zk.toInt ∧ zk.toInt ≤ 300) (g_eS : rg 0 300 eS) (g_eX : rg 0 65535 eX) : Met l yX12_marksOf wsX12_marksOf ({ frames := 0, cells := 0, slots := 0, locals := 0 } : Room) (va_Pc [.ref oM] (fun U => U.heap.size = sz ∧ va_P (dC, dI) vwCl [(oM, .inr (12, [.ref mT, .int zt, .ref mS, .ref mX, .int zp, .int zf, .ref mL, .ref mB, .ref mD, .ref m1, .ref m2, .int zh, .ref mR, .int zr, .ref x1, .ref x2, .ref x3, .int zc, .ref mH, .int zy, .int za, .int zb, .int zs, .int zq, .int zw, .int ze, .ref mY, .int zn, .ref mE, .int zm, .int zl, .ref mW, .int zk, .ref mO, .int zd, .ref y1, .ref y2, .ref y3, .ref y4, .ref mZ])), (mS, .inl (cI, 21, .inl eS)), (mX, .inl (cI, 6300, .inl eX))] U.heap ∧ va_K (dC, dI) vwCl [(cI, .int), (cS, .short)] U ∧ va_D (fun _ => True) [(oM, .inr (12, [.ref mT, .int zt, .ref mS, .ref mX, .int zp, .int zf, .ref mL, .ref mB, .ref mD, .ref m1, .ref m2, .int zh, .ref mR, .int zr, .ref x1, .ref x2, .ref x3, .int zc, .ref mH, .int zy, .int za, .int zb, .int zs, .int zq, .int zw, .int ze, .ref mY, .int zn, .ref mE, .int zm, .int zl, .ref mW, .int zk, .ref mO, .int zd, .ref y1, .ref y2, .ref y3, .ref y4, .ref mZ])), (mS, .inl (cI, 21, .inl eS)), (mX, .inl (cI, 6300, .inl eX))])) (va_Qi (fun (r : Int32) (u : Int32) => r = u) (fun (r : Int32) t => va_P (dC, dI) vwCl [(oM, .inr (12, [.ref mT, .int zt, .ref mS, .ref mX, .int zp, .int zf, .ref mL, .ref mB, .ref mD, .ref m1, .ref m2, .int zh, .ref mR, .int zr, .ref x1, .ref x2, .ref x3, .int zc, .ref mH, .int zy, .int za, .int zb, .int zs, .int zq, .int zw, .int ze, .ref mY, .int zn, .ref mE, .int zm, .int zl, .ref mW, .int zk, .ref mO, .int zd, .ref y1, .ref y2, .ref y3, .ref y4, .ref mZ])), (mS, .inl (cI, 21, .inl eS)), (mX, .inl (cI, 6300, .inl eX))] t.heap ∧ va_D (va_A [(oM, .inr (12, [.ref mT, .int zt, .ref mS, .ref mX, .int zp, .int zf, .ref mL, .ref mB, .ref mD, .ref m1, .ref m2, .int zh, .ref mR, .int zr, .ref x1, .ref x2, .ref x3, .int zc, .ref mH, .int zy, .int za, .int zb, .int zs, .int zq, .int zw, .int ze, .ref mY, .int zn, .ref mE, .int zm, .int zl, .ref mW, .int zk, .ref mO, .int zd, .ref y1, .ref y2, .ref y3, .ref y4, .ref mZ])), (mS, .inl (cI, 21, .inl eS)), (mX, .inl (cI, 6300, .inl eX))] sz) [(oM, .inr (12, [.ref mT, .int zt, .ref mS, .ref mX, .int zp, .int zf, .ref mL, .ref mB, .ref mD, .ref m1, .ref m2, .int zh, .ref mR, .int zr, .ref x1, .ref x2, .ref x3, .int zc, .ref mH, .int zy, .int za, .int zb, .int zs, .int zq, .int zw, .int ze, .ref mY, .int zn, .ref mE, .int zm, .int zl, .ref mW, .int zk, .ref mO, .int zd, .ref y1, .ref y2, .ref y3, .ref y4, .ref mZ])), (mS, .inl (cI, 21, .inl eS)), (mX, .inl (cI, 6300, .inl eX))] ∧ (0 ≤ r.toInt ∧ r.toInt ≤ 300) ∧ (r.toInt = mkB eX (eS 0).toInt.toNat)) (va_A [(oM, .inr (12, [.ref mT, .int zt, .ref mS, .ref mX, .int zp, .int zf, .ref mL, .ref mB, .ref mD, .ref m1, .ref m2, .int zh, .ref mR, .int zr, .ref x1, .ref x2, .ref x3, .int zc, .ref mH, .int zy, .int za, .int zb, .int zs, .int zq, .int zw, .int ze, .ref mY, .int zn, .ref mE, .int zm, .int zl, .ref mW, .int zk, .ref mO, .int zd, .ref y1, .ref y2, .ref y3, .ref y4, .ref mZ])), (mS, .inl (cI, 21, .inl eS)), (mX, .inl (cI, 6300, .inl eX))] sz)) 0 0 (va_A [(oM, .inr (12, [.ref mT, .int zt, .ref mS, .ref mX, .int zp, .int zf, .ref mL, .ref mB, .ref mD, .ref m1, .ref m2, .int zh, .ref mR, .int zr, .ref x1, .ref x2, .ref x3, .int zc, .ref mH, .int zy, .int za, .int zb, .int zs, .int zq, .int zw, .int ze, .ref mY, .int zn, .ref mE, .int zm, .int zl, .ref mW, .int zk, .ref mO, .int zd, .ref y1, .ref y2, .ref y3, .ref y4, .ref mZ])), (mS, .inl (cI, 21, .inl eS)), (mX, .inl (cI, 6300, .inl eX))] sz) := by
  refine Met.ofW (cc := cX12_marksOf) (maxL := 3) (ret := (some .int)) (by decide) rfl ?_
  intro p e s m args below meth c s₁ B hml hv
  obtain ⟨rfl, hsz, hP, hK, hD0⟩ := hv
  have hx := B.exec
  have hb := B.bytes
  have hr := B.returns
  have hts := atoms_spec (ws := wsX12_marksOf) B.pre
  have hown : s.vm.findClass RX12 = some m.cls := findClass_of_methodNamed B.named
  have hlocks := B.notSynchronized
  have in_X12 : ∀ w ∈ wsX120, w ∈ wsX12_marksOf := fun _ h => List.mem_cons_of_mem _ (List.mem_append_right _ (h))
  subst hsz
  have hD := hD0.self (sz := s.heap.size)
  generalize hAe : va_A [(oM, .inr (12, [.ref mT, .int zt, .ref mS, .ref mX, .int zp, .int zf, .ref mL, .ref mB, .ref mD, .ref m1, .ref m2, .int zh, .ref mR, .int zr, .ref x1, .ref x2, .ref x3, .int zc, .ref mH, .int zy, .int za, .int zb, .int zs, .int zq, .int zw, .int ze, .ref mY, .int zn, .ref mE, .int zm, .int zl, .ref mW, .int zk, .ref mO, .int zd, .ref y1, .ref y2, .ref y3, .ref y4, .ref mZ])), (mS, .inl (cI, 21, .inl eS)), (mX, .inl (cI, 6300, .inl eX))] s.heap.size = A at hD ⊢
  have hA : ∀ q : Nat, s.heap.size ≤ q → A q := fun q h => by rw [← hAe]; exact Or.inr h
  have hS : va_S A s.heap s.heap [] := va_S.rf
  have hP : va_P (dC, dI) vwCl [(oM, .inr (12, [.ref mT, .int zt, .ref mS, .ref mX, .int zp, .int zf, .ref mL, .ref mB, .ref mD, .ref m1, .ref m2, .int zh, .ref mR, .int zr, .ref x1, .ref x2, .ref x3, .int zc, .ref mH, .int zy, .int za, .int zb, .int zs, .int zq, .int zw, .int ze, .ref mY, .int zn, .ref mE, .int zm, .int zl, .ref mW, .int zk, .ref mO, .int zd, .ref y1, .ref y2, .ref y3, .ref y4, .ref mZ])), (mS, .inl (cI, 21, .inl eS)), (mX, .inl (cI, 6300, .inl eX))] s.heap := hP
  have hl := lv_entry ([.ref oM]) (n := 3) (Nat.le_of_ble_eq_true rfl)
  rw [lg_entry_eq]
  generalize (lg_sl ([.ref oM]) ++ List.replicate (3 - (lg_sl ([.ref oM])).length) Slot.unset).toArray = ls at hl ⊢
  have hl : lv_has ls 3 [(0, .ref oM)] := hl
  obtain ⟨QQ, hQQ⟩ : ∃ QQ : Array Value → State → Outcome → State → Prop, QQ = va_Qi (fun (r : Int32) (u : Int32) => r = u) (fun (r : Int32) t => va_P (dC, dI) vwCl [(oM, .inr (12, [.ref mT, .int zt, .ref mS, .ref mX, .int zp, .int zf, .ref mL, .ref mB, .ref mD, .ref m1, .ref m2, .int zh, .ref mR, .int zr, .ref x1, .ref x2, .ref x3, .int zc, .ref mH, .int zy, .int za, .int zb, .int zs, .int zq, .int zw, .int ze, .ref mY, .int zn, .ref mE, .int zm, .int zl, .ref mW, .int zk, .ref mO, .int zd, .ref y1, .ref y2, .ref y3, .ref y4, .ref mZ])), (mS, .inl (cI, 21, .inl eS)), (mX, .inl (cI, 6300, .inl eX))] t.heap ∧ va_D A [(oM, .inr (12, [.ref mT, .int zt, .ref mS, .ref mX, .int zp, .int zf, .ref mL, .ref mB, .ref mD, .ref m1, .ref m2, .int zh, .ref mR, .int zr, .ref x1, .ref x2, .ref x3, .int zc, .ref mH, .int zy, .int za, .int zb, .int zs, .int zq, .int zw, .int ze, .ref mY, .int zn, .ref mE, .int zm, .int zl, .ref mW, .int zk, .ref mO, .int zd, .ref y1, .ref y2, .ref y3, .ref y4, .ref mZ])), (mS, .inl (cI, 21, .inl eS)), (mX, .inl (cI, 6300, .inl eX))] ∧ (0 ≤ r.toInt ∧ r.toInt ≤ 300) ∧ (r.toInt = mkB eX (eS 0).toInt.toNat)) A := ⟨_, rfl⟩
  rw [← hQQ]
  have z0 : (0 : Int32).toInt = 0 := rfl
  have z1 : (1 : Int32).toInt = 1 := rfl
  have zm1 : (-1 : Int32).toInt = -1 := rfl
  have gS0 := g_eS 0
  refine lv_iconst (v := 0) hx hb dX12_marksOf_0 (by decide) ?_
  refine lv_istore_n (lv' := [(1, .int 0), (0, .ref oM)]) hx hb dX12_marksOf_1 rfl hl (by decide) rfl (fun ls hl => ?_)
  refine lv_iconst (v := 0) hx hb dX12_marksOf_2 (by decide) ?_
  refine lv_istore_n (lv' := [(2, .int 0), (1, .int 0), (0, .ref oM)]) hx hb dX12_marksOf_3 rfl hl (by decide) rfl (fun ls hl => ?_)
  have LOOP_4 : ∀ (k_4 : Nat) (k : Int32) (mk : Int32) (H : Heap) (locs : List Loc) (ls : Array Slot), MSd (300 - k.toInt : Int) k_4 → (0 ≤ k.toInt ∧ k.toInt ≤ 300) → (0 ≤ mk.toInt ∧ mk.toInt ≤ k.toInt) → (k.toInt ≤ (eS 0).toInt) → (mk.toInt = mkB eX k.toNatClampNeg) → va_P (dC, dI) vwCl [(oM, .inr (12, [.ref mT, .int zt, .ref mS, .ref mX, .int zp, .int zf, .ref mL, .ref mB, .ref mD, .ref m1, .ref m2, .int zh, .ref mR, .int zr, .ref x1, .ref x2, .ref x3, .int zc, .ref mH, .int zy, .int za, .int zb, .int zs, .int zq, .int zw, .int ze, .ref mY, .int zn, .ref mE, .int zm, .int zl, .ref mW, .int zk, .ref mO, .int zd, .ref y1, .ref y2, .ref y3, .ref y4, .ref mZ])), (mS, .inl (cI, 21, .inl eS)), (mX, .inl (cI, 6300, .inl eX))] H → va_D A [(oM, .inr (12, [.ref mT, .int zt, .ref mS, .ref mX, .int zp, .int zf, .ref mL, .ref mB, .ref mD, .ref m1, .ref m2, .int zh, .ref mR, .int zr, .ref x1, .ref x2, .ref x3, .int zc, .ref mH, .int zy, .int za, .int zb, .int zs, .int zq, .int zw, .int ze, .ref mY, .int zn, .ref mE, .int zm, .int zl, .ref mW, .int zk, .ref mO, .int zd, .ref y1, .ref y2, .ref y3, .ref y4, .ref mZ])), (mS, .inl (cI, 21, .inl eS)), (mX, .inl (cI, 6300, .inl eX))] → va_S A s.heap H locs → lv_has ls 3 [(2, .int k), (1, .int mk), (0, .ref oM)] → W p l e (headSpec wsX12_marksOf ({ frames := 0, cells := 0, slots := 0, locals := 0 } : Room)).room s m ([.ref oM] : List Value).toArray below meth c H locs 0 0 (MQ below QQ ([.ref oM] : List Value).toArray s 0 0 A) (F0 m 4 ls []) := by
    clear hP hD hS hl
    intro k_4
    induction k_4 with
    | zero =>
      intro k mk H locs ls hm_4 g_k g_mk hks hmb hP hD hS hl
      exact ms_0 hm_4
    | succ k_4 ih_4 =>
      intro k mk H locs ls hm_4 g_k g_mk hks hmb hP hD hS hl
      refine lv_iload_n hx hb dX12_marksOf_4 rfl (lv_at hl 0 rfl) ?_
      refine lv_aload_n hx hb dX12_marksOf_5 rfl (lv_at hl 2 rfl) ?_
      refine va_get (D := (dC, dI)) (ci := 12) (v := .ref mS) (C := RX12) (T := TX12) (N := 40) hx hb hts in_X12 hown hK hP 0 rfl rfl 2 (by decide) (hts (.fieldLink RX12 13 "TextMenderModel" "sizes" "[I") (List.mem_of_getElem? (i := 1) rfl)) (fun _ h9 => h9) rfl dX12_marksOf_6 ?_
      refine lv_iconst (v := 0) hx hb dX12_marksOf_9 (by decide) ?_
      refine va_iald hx hb hK hP 1 0 rfl rfl (by unfold vp_in; decide) dX12_marksOf_10 ?_
      refine lv_topi (fun x_1 ex_1 => ?_)
      have tx_1 : 0 ≤ x_1.toInt ∧ x_1.toInt ≤ 300 := rg_at g_eS ex_1
      have hs9 : x_1.toInt = (eS 0).toInt := by rw [ex_1]; rfl
      refine lv_icmp_ge (tgt := 34) hx hb dX12_marksOf_11 (by decide) (fun c_2 => ?_) (fun c_2 => ?_)
      · have tc_2 : x_1.toInt ≤ k.toInt := v_le c_2
        refine lv_iload_n hx hb dX12_marksOf_34 rfl (lv_at hl 1 rfl) ?_
        have hP9 := hP.sub (ws' := [(oM, .inr (12, [.ref mT, .int zt, .ref mS, .ref mX, .int zp, .int zf, .ref mL, .ref mB, .ref mD, .ref m1, .ref m2, .int zh, .ref mR, .int zr, .ref x1, .ref x2, .ref x3, .int zc, .ref mH, .int zy, .int za, .int zb, .int zs, .int zq, .int zw, .int ze, .ref mY, .int zn, .ref mE, .int zm, .int zl, .ref mW, .int zk, .ref mO, .int zd, .ref y1, .ref y2, .ref y3, .ref y4, .ref mZ])), (mS, .inl (cI, 21, .inl eS)), (mX, .inl (cI, 6300, .inl eX))]) [0, 1, 2] rfl
        have hD9 := hD.sub (ws' := [(oM, .inr (12, [.ref mT, .int zt, .ref mS, .ref mX, .int zp, .int zf, .ref mL, .ref mB, .ref mD, .ref m1, .ref m2, .int zh, .ref mR, .int zr, .ref x1, .ref x2, .ref x3, .int zc, .ref mH, .int zy, .int za, .int zb, .int zs, .int zq, .int zw, .int ze, .ref mY, .int zn, .ref mE, .int zm, .int zl, .ref mW, .int zk, .ref mO, .int zd, .ref y1, .ref y2, .ref y3, .ref y4, .ref mZ])), (mS, .inl (cI, 21, .inl eS)), (mX, .inl (cI, 6300, .inl eX))]) [0, 1, 2] (by decide +kernel) rfl
        rw [hQQ]
        exact W.iret (v := mk) hx hb hr (fun t ht hW => ⟨⟨mk, mk, rfl, rfl, ⟨by rw [ht]; exact hP9, hD9, by omega, (show k.toNatClampNeg = (eS 0).toInt.toNat from ix_eq (by omega)) ▸ hmb⟩⟩, hS.F ht⟩) hS.2.2 dX12_marksOf_35
      · have tc_2 : k.toInt < x_1.toInt := v_nle c_2
        refine lv_aload_n hx hb dX12_marksOf_14 rfl (lv_at hl 2 rfl) ?_
        refine va_get (D := (dC, dI)) (ci := 12) (v := .ref mX) (C := RX12) (T := TX12) (N := 40) hx hb hts in_X12 hown hK hP 0 rfl rfl 3 (by decide) (hts (.fieldLink RX12 16 "TextMenderModel" "texts" "[I") (List.mem_of_getElem? (i := 2) rfl)) (fun _ h9 => h9) rfl dX12_marksOf_15 ?_
        refine lv_iload_n hx hb dX12_marksOf_18 rfl (lv_at hl 0 rfl) ?_
        refine va_iald hx hb hK hP 2 0 rfl rfl (v_in (by omega)) dX12_marksOf_19 ?_
        refine lv_topi (fun x_3 ex_3 => ?_)
        have tx_3 : 0 ≤ x_3.toInt ∧ x_3.toInt ≤ 65535 := rg_at g_eX ex_3
        refine lv_ldc hx hb hown (hts (.constant RX12 126 (65533)) (List.mem_of_getElem? (i := 3) rfl)) dX12_marksOf_20 ?_
        refine lv_icmp_ne (tgt := 28) hx hb dX12_marksOf_22 (by decide) (fun c_4 => ?_) (fun c_4 => ?_)
        · have tc_4 : ¬ x_3.toInt = 65533 := v_ne c_4
          obtain ⟨x_5, ex_5⟩ : ∃ y : Int32, y = k + 1 := ⟨_, rfl⟩
          have tx_5 : x_5.toInt = k.toInt + 1 := v_add ex_5 (by show -2147483648 ≤ k.toInt + 1; omega) (by show k.toInt + 1 < 2147483648; omega)
          refine lv_iinc (v := x_5) (lv' := [(2, .int x_5), (1, .int mk), (0, .ref oM)]) hx hb dX12_marksOf_28 hl (k := 0) rfl (by rw [ex_5]; rfl) (by decide) rfl (fun ls hl => ?_)
          refine lv_goto (tgt := 4) hx hb dX12_marksOf_31 (by decide) ?_
          exact ih_4 x_5 mk _ _ _ (ms_lt hm_4 (by show ((300 - x_5.toInt : Int)) < 300 - k.toInt; omega) (by show (0 : Int) < 300 - k.toInt; omega)) (by show 0 ≤ x_5.toInt ∧ x_5.toInt ≤ 300; omega) (by show 0 ≤ mk.toInt ∧ mk.toInt ≤ x_5.toInt; omega) (by show x_5.toInt ≤ (eS 0).toInt; omega) (mkB_st hmb ex_3 (Or.inr ⟨c_4, by omega⟩) (by omega) (by omega)) hP hD hS (lv_sub hl [0, 1, 2] rfl)
        · have tc_4 : x_3.toInt = 65533 := v_eq c_4
          obtain ⟨x_6, ex_6⟩ : ∃ y : Int32, y = mk + 1 := ⟨_, rfl⟩
          have tx_6 : x_6.toInt = mk.toInt + 1 := v_add ex_6 (by show -2147483648 ≤ mk.toInt + 1; omega) (by show mk.toInt + 1 < 2147483648; omega)
          refine lv_iinc (v := x_6) (lv' := [(1, .int x_6), (2, .int k), (0, .ref oM)]) hx hb dX12_marksOf_25 hl (k := 1) rfl (by rw [ex_6]; rfl) (by decide) rfl (fun ls hl => ?_)
          obtain ⟨x_7, ex_7⟩ : ∃ y : Int32, y = k + 1 := ⟨_, rfl⟩
          have tx_7 : x_7.toInt = k.toInt + 1 := v_add ex_7 (by show -2147483648 ≤ k.toInt + 1; omega) (by show k.toInt + 1 < 2147483648; omega)
          refine lv_iinc (v := x_7) (lv' := [(2, .int x_7), (1, .int x_6), (0, .ref oM)]) hx hb dX12_marksOf_28 hl (k := 1) rfl (by rw [ex_7]; rfl) (by decide) rfl (fun ls hl => ?_)
          refine lv_goto (tgt := 4) hx hb dX12_marksOf_31 (by decide) ?_
          exact ih_4 x_7 x_6 _ _ _ (ms_lt hm_4 (by show ((300 - x_7.toInt : Int)) < 300 - k.toInt; omega) (by show (0 : Int) < 300 - k.toInt; omega)) (by show 0 ≤ x_7.toInt ∧ x_7.toInt ≤ 300; omega) (by show 0 ≤ x_6.toInt ∧ x_6.toInt ≤ x_7.toInt; omega) (by show x_7.toInt ≤ (eS 0).toInt; omega) (mkB_st hmb ex_3 (Or.inl ⟨c_4, by omega⟩) (by omega) (by omega)) hP hD hS (lv_sub hl [0, 1, 2] rfl)
  exact LOOP_4 _ 0 0 _ _ _ (ms_s _) (by decide) (by show 0 ≤ (0 : Int) ∧ (0 : Int) ≤ 0; omega) (by show 0 ≤ (eS 0).toInt; omega) (rfl) hP hD hS (lv_sub hl [0, 1, 2] rfl)

theorem ic_rr {a b m zm ft r : Int32} {L4 L5 g f eE : Nat → Int32} {E : Nat → List Int} {n : Nat} (h : F_rr r zm ft eE (dl a L4 L5 g m.toInt) (dx a L4 L5 g m.toInt) m.toInt) (hr : r.toInt = 0 ∨ 300 < zm.toInt) : ∀ c, rdOk (dl a L4 L5 g m.toInt) m.toInt c → c ≤ 300 → ¬ BKB b m L4 L5 g f E n := by
  intro c h1 h2
  rcases h with ⟨r1, c', r2, r3, _⟩ | ⟨r1, c', r2, r3, r4, _⟩
  · have q := rd_uniq h1 r2
    rcases hr with hr | hr
    · rw [r1] at hr; exact absurd hr (by decide)
    · omega
  · exact absurd h1 (rd_stop r2 r3 r4 c)
theorem rr_1 {m zm ft r : Int32} {eE : Nat → Int32} {D : Nat → Nat} {X : Nat → Int32} (h : F_rr r zm ft eE D X m.toInt) (hr : ¬ r.toInt = 0) : ∃ c : Nat, rdOk D m.toInt c ∧ zm.toInt = c ∧ ∀ i, i < c → eE i = X (psn D i) := by
  rcases h with ⟨_, h⟩ | ⟨r1, _⟩
  · exact h
  · exact absurd (by rw [r1]; rfl) hr
theorem wr_y {E : Nat → List Int} {n : Int} {c : Nat} {r ft l m : Int32} {g g2 : Nat → Int32} (h : F_wr r ft l g2 E n) (hc : (c : Int) = n) (hw : WR E c m g) : ¬ r.toInt = 0 ∧ l = m ∧ ∀ j : Nat, (j : Int) < m.toInt → g2 j = g j := by
  rcases h with ⟨r1, c', h1, h2⟩ | ⟨r1, i, h1, _, h3, _⟩
  · have e : c' = c := by omega
    subst e
    obtain ⟨q1, q2⟩ := WR_eq h2 hw
    subst q1
    exact ⟨by rw [r1]; decide, rfl, q2⟩
  · exact absurd h3 (hw.2 i (by omega)).1

set_option maxHeartbeats 40000000 in
set_option maxRecDepth 100000 in
theorem f_X12_isChoice (l : Launch) (dC : Nat → ClassId) (dI : Nat → Nat → Nat) (cI cS : ClassId) (sz : Nat) (oM : Nat) (mT : Nat) (mS : Nat) (mX : Nat) (mL : Nat) (mB : Nat) (mD : Nat) (m1 : Nat) (m2 : Nat) (mR : Nat) (x1 : Nat) (x2 : Nat) (x3 : Nat) (mH : Nat) (mY : Nat) (mE : Nat) (mW : Nat) (mO : Nat) (y1 : Nat) (y2 : Nat) (y3 : Nat) (y4 : Nat) (mZ : Nat) (zt : Int32) (zp : Int32) (zf : Int32) (zh : Int32) (zr : Int32) (zc : Int32) (zy : Int32) (za : Int32) (zb : Int32) (zs : Int32) (zq : Int32) (zw : Int32) (ze : Int32) (zn : Int32) (zm : Int32) (zl : Int32) (zk : Int32) (zd : Int32) (eY : Nat → Int32) (eB : Nat → Int32) (eL : Nat → Int32) (eE : Nat → Int32) (eW : Nat → Int32) (eS : Nat → Int32) (eX : Nat → Int32) (a : Int32) (b : Int32) (on : Int32) (tw : Int32) (g_zt : 0 ≤ zt.toInt ∧ zt.toInt ≤ 900) (g_zp : 0 ≤ zp.toInt ∧ zp.toInt ≤ 20) (g_zf : 0 ≤ zf.toInt ∧ zf.toInt ≤ 19) (g_zh : 0 ≤ zh.toInt ∧ zh.toInt ≤ 6) (g_zr : 0 ≤ zr.toInt ∧ zr.toInt ≤ 258) (g_zc : 0 ≤ zc.toInt ∧ zc.toInt ≤ 300) (g_zy : 0 ≤ zy.toInt ∧ zy.toInt ≤ 65536) (g_za : 0 ≤ za.toInt ∧ za.toInt ≤ 5) (g_zb : 0 ≤ zb.toInt ∧ zb.toInt ≤ 5) (g_zs : 0 ≤ zs.toInt ∧ zs.toInt ≤ 2000000) (g_zq : -1 ≤ zq.toInt ∧ zq.toInt ≤ 2000000) (g_zn : 0 ≤ zn.toInt ∧ zn.toInt ≤ 2600) (g_zm : 0 ≤ zm.toInt ∧ zm.toInt ≤ 2600) (g_zk : 0 ≤ zk.toInt ∧ zk.toInt ≤ 300) (g_eY : rg 0 255 eY) (g_eB : rg (-1) 255 eB) (g_eL : rg (-1) 65535 eL) (g_eE : rg 0 65535 eE) (g_eW : rg 0 65535 eW) (g_eS : rg 0 300 eS) (g_eX : rg 0 65535 eX) (g_a : 0 ≤ a.toInt ∧ a.toInt ≤ 5) (g_b : 0 ≤ b.toInt ∧ b.toInt ≤ 5) (g_on : 0 ≤ on.toInt ∧ on.toInt ≤ 255) (g_tw : -1 ≤ tw.toInt ∧ tw.toInt ≤ 255) (hmkb : mkB eX (eS 0).toInt.toNat ≤ 1 ∨ 0 ≤ tw.toInt) (hal1 : alF b on (fun k => eL k) (fun k => eL (256 + k)) = -1) (hal2 : mkB eX (eS 0).toInt.toNat ≤ 1 ∨ alF b tw (fun k => eL k) (fun k => eL (256 + k)) = -1) (h2m : mkB eX (eS 0).toInt.toNat ≤ 2) (hs100 : (eS 0).toInt ≤ 100) (hxl : ∀ j : Nat, (j : Int) < (eS 0).toInt → isLz (eX j)) (hlb : LBr eL eB) (hlz : LZ eL) : Met l yX12_isChoice wsX12_isChoice ({ frames := 3, cells := 0, slots := 0, locals := 71 } : Room) (va_Pc [.ref oM, .int a, .int b, .int on, .int tw] (fun U => U.heap.size = sz ∧ va_P (dC, dI) vwCl [(oM, .inr (12, [.ref mT, .int zt, .ref mS, .ref mX, .int zp, .int zf, .ref mL, .ref mB, .ref mD, .ref m1, .ref m2, .int zh, .ref mR, .int zr, .ref x1, .ref x2, .ref x3, .int zc, .ref mH, .int zy, .int za, .int zb, .int zs, .int zq, .int zw, .int ze, .ref mY, .int zn, .ref mE, .int zm, .int zl, .ref mW, .int zk, .ref mO, .int zd, .ref y1, .ref y2, .ref y3, .ref y4, .ref mZ])), (mY, .inl (cI, 2600, .inl eY)), (mB, .inl (cS, 131072, .inl eB)), (mL, .inl (cI, 512, .inl eL)), (mE, .inl (cI, 2600, .inl eE)), (mW, .inl (cI, 300, .inl eW)), (mS, .inl (cI, 21, .inl eS)), (mX, .inl (cI, 6300, .inl eX))] U.heap ∧ va_K (dC, dI) vwCl [(cI, .int), (cS, .short)] U ∧ va_D (fun _ => True) [(oM, .inr (12, [.ref mT, .int zt, .ref mS, .ref mX, .int zp, .int zf, .ref mL, .ref mB, .ref mD, .ref m1, .ref m2, .int zh, .ref mR, .int zr, .ref x1, .ref x2, .ref x3, .int zc, .ref mH, .int zy, .int za, .int zb, .int zs, .int zq, .int zw, .int ze, .ref mY, .int zn, .ref mE, .int zm, .int zl, .ref mW, .int zk, .ref mO, .int zd, .ref y1, .ref y2, .ref y3, .ref y4, .ref mZ])), (mY, .inl (cI, 2600, .inl eY)), (mB, .inl (cS, 131072, .inl eB)), (mL, .inl (cI, 512, .inl eL)), (mE, .inl (cI, 2600, .inl eE)), (mW, .inl (cI, 300, .inl eW)), (mS, .inl (cI, 21, .inl eS)), (mX, .inl (cI, 6300, .inl eX))])) (va_Qi (fun (r : Int32) (u : Int32) => r = u) (fun (r : Int32) t => ∃ (zn' : Int32) (eY' : Nat → Int32) (zd' : Int32) (zm' : Int32) (zl' : Int32) (eE' : Nat → Int32) (zk' : Int32) (eW' : Nat → Int32), va_P (dC, dI) vwCl [(oM, .inr (12, [.ref mT, .int zt, .ref mS, .ref mX, .int zp, .int zf, .ref mL, .ref mB, .ref mD, .ref m1, .ref m2, .int zh, .ref mR, .int zr, .ref x1, .ref x2, .ref x3, .int zc, .ref mH, .int zy, .int za, .int zb, .int zs, .int zq, .int zw, .int ze, .ref mY, .int zn', .ref mE, .int zm', .int zl', .ref mW, .int zk', .ref mO, .int zd', .ref y1, .ref y2, .ref y3, .ref y4, .ref mZ])), (mY, .inl (cI, 2600, .inl eY')), (mB, .inl (cS, 131072, .inl eB)), (mL, .inl (cI, 512, .inl eL)), (mE, .inl (cI, 2600, .inl eE')), (mW, .inl (cI, 300, .inl eW')), (mS, .inl (cI, 21, .inl eS)), (mX, .inl (cI, 6300, .inl eX))] t.heap ∧ va_D (va_A [(oM, .inr (12, [.ref mT, .int zt, .ref mS, .ref mX, .int zp, .int zf, .ref mL, .ref mB, .ref mD, .ref m1, .ref m2, .int zh, .ref mR, .int zr, .ref x1, .ref x2, .ref x3, .int zc, .ref mH, .int zy, .int za, .int zb, .int zs, .int zq, .int zw, .int ze, .ref mY, .int zn, .ref mE, .int zm, .int zl, .ref mW, .int zk, .ref mO, .int zd, .ref y1, .ref y2, .ref y3, .ref y4, .ref mZ])), (mY, .inl (cI, 2600, .inl eY)), (mB, .inl (cS, 131072, .inl eB)), (mL, .inl (cI, 512, .inl eL)), (mE, .inl (cI, 2600, .inl eE)), (mW, .inl (cI, 300, .inl eW)), (mS, .inl (cI, 21, .inl eS)), (mX, .inl (cI, 6300, .inl eX))] sz) [(oM, .inr (12, [.ref mT, .int zt, .ref mS, .ref mX, .int zp, .int zf, .ref mL, .ref mB, .ref mD, .ref m1, .ref m2, .int zh, .ref mR, .int zr, .ref x1, .ref x2, .ref x3, .int zc, .ref mH, .int zy, .int za, .int zb, .int zs, .int zq, .int zw, .int ze, .ref mY, .int zn', .ref mE, .int zm', .int zl', .ref mW, .int zk', .ref mO, .int zd', .ref y1, .ref y2, .ref y3, .ref y4, .ref mZ])), (mY, .inl (cI, 2600, .inl eY')), (mB, .inl (cS, 131072, .inl eB)), (mL, .inl (cI, 512, .inl eL)), (mE, .inl (cI, 2600, .inl eE')), (mW, .inl (cI, 300, .inl eW')), (mS, .inl (cI, 21, .inl eS)), (mX, .inl (cI, 6300, .inl eX))] ∧ (0 ≤ zn'.toInt ∧ zn'.toInt ≤ 2600) ∧ (rg 0 255 eY') ∧ (0 ≤ zm'.toInt ∧ zm'.toInt ≤ 2600) ∧ (rg 0 65535 eE') ∧ (0 ≤ zk'.toInt ∧ zk'.toInt ≤ 300) ∧ (rg 0 65535 eW') ∧ (0 ≤ r.toInt ∧ r.toInt ≤ 1) ∧ (F_ic r zk' eW' a b (fun k => eL k) (fun k => eL (256 + k)) (Br b eB) (eS 0).toInt.toNat eX on.toInt tw.toInt)) (va_A [(oM, .inr (12, [.ref mT, .int zt, .ref mS, .ref mX, .int zp, .int zf, .ref mL, .ref mB, .ref mD, .ref m1, .ref m2, .int zh, .ref mR, .int zr, .ref x1, .ref x2, .ref x3, .int zc, .ref mH, .int zy, .int za, .int zb, .int zs, .int zq, .int zw, .int ze, .ref mY, .int zn, .ref mE, .int zm, .int zl, .ref mW, .int zk, .ref mO, .int zd, .ref y1, .ref y2, .ref y3, .ref y4, .ref mZ])), (mY, .inl (cI, 2600, .inl eY)), (mB, .inl (cS, 131072, .inl eB)), (mL, .inl (cI, 512, .inl eL)), (mE, .inl (cI, 2600, .inl eE)), (mW, .inl (cI, 300, .inl eW)), (mS, .inl (cI, 21, .inl eS)), (mX, .inl (cI, 6300, .inl eX))] sz)) 0 0 (va_A [(oM, .inr (12, [.ref mT, .int zt, .ref mS, .ref mX, .int zp, .int zf, .ref mL, .ref mB, .ref mD, .ref m1, .ref m2, .int zh, .ref mR, .int zr, .ref x1, .ref x2, .ref x3, .int zc, .ref mH, .int zy, .int za, .int zb, .int zs, .int zq, .int zw, .int ze, .ref mY, .int zn, .ref mE, .int zm, .int zl, .ref mW, .int zk, .ref mO, .int zd, .ref y1, .ref y2, .ref y3, .ref y4, .ref mZ])), (mY, .inl (cI, 2600, .inl eY)), (mB, .inl (cS, 131072, .inl eB)), (mL, .inl (cI, 512, .inl eL)), (mE, .inl (cI, 2600, .inl eE)), (mW, .inl (cI, 300, .inl eW)), (mS, .inl (cI, 21, .inl eS)), (mX, .inl (cI, 6300, .inl eX))] sz) := by
  refine Met.ofW (cc := cX12_isChoice) (maxL := 7) (ret := (some .boolean)) (by decide) rfl ?_
  intro p e s m args below meth c s₁ B hml hv
  obtain ⟨rfl, hsz, hP, hK, hD0⟩ := hv
  have hx := B.exec
  have hb := B.bytes
  have hr := B.returns
  have hts := atoms_spec (ws := wsX12_isChoice) B.pre
  have hown : s.vm.findClass RX12 = some m.cls := findClass_of_methodNamed B.named
  have hlocks := B.notSynchronized
  have in_X12 : ∀ w ∈ wsX120, w ∈ wsX12_isChoice := fun _ h => List.mem_cons_of_mem _ (List.mem_append_right _ (h))
  subst hsz
  have hD := hD0.self (sz := s.heap.size)
  generalize hAe : va_A [(oM, .inr (12, [.ref mT, .int zt, .ref mS, .ref mX, .int zp, .int zf, .ref mL, .ref mB, .ref mD, .ref m1, .ref m2, .int zh, .ref mR, .int zr, .ref x1, .ref x2, .ref x3, .int zc, .ref mH, .int zy, .int za, .int zb, .int zs, .int zq, .int zw, .int ze, .ref mY, .int zn, .ref mE, .int zm, .int zl, .ref mW, .int zk, .ref mO, .int zd, .ref y1, .ref y2, .ref y3, .ref y4, .ref mZ])), (mY, .inl (cI, 2600, .inl eY)), (mB, .inl (cS, 131072, .inl eB)), (mL, .inl (cI, 512, .inl eL)), (mE, .inl (cI, 2600, .inl eE)), (mW, .inl (cI, 300, .inl eW)), (mS, .inl (cI, 21, .inl eS)), (mX, .inl (cI, 6300, .inl eX))] s.heap.size = A at hD ⊢
  have hA : ∀ q : Nat, s.heap.size ≤ q → A q := fun q h => by rw [← hAe]; exact Or.inr h
  have hS : va_S A s.heap s.heap [] := va_S.rf
  have hP : va_P (dC, dI) vwCl [(oM, .inr (12, [.ref mT, .int zt, .ref mS, .ref mX, .int zp, .int zf, .ref mL, .ref mB, .ref mD, .ref m1, .ref m2, .int zh, .ref mR, .int zr, .ref x1, .ref x2, .ref x3, .int zc, .ref mH, .int zy, .int za, .int zb, .int zs, .int zq, .int zw, .int ze, .ref mY, .int zn, .ref mE, .int zm, .int zl, .ref mW, .int zk, .ref mO, .int zd, .ref y1, .ref y2, .ref y3, .ref y4, .ref mZ])), (mY, .inl (cI, 2600, .inl eY)), (mB, .inl (cS, 131072, .inl eB)), (mL, .inl (cI, 512, .inl eL)), (mE, .inl (cI, 2600, .inl eE)), (mW, .inl (cI, 300, .inl eW)), (mS, .inl (cI, 21, .inl eS)), (mX, .inl (cI, 6300, .inl eX))] s.heap := hP
  have hl := lv_entry ([.ref oM, .int a, .int b, .int on, .int tw]) (n := 7) (Nat.le_of_ble_eq_true rfl)
  rw [lg_entry_eq]
  generalize (lg_sl ([.ref oM, .int a, .int b, .int on, .int tw]) ++ List.replicate (7 - (lg_sl ([.ref oM, .int a, .int b, .int on, .int tw])).length) Slot.unset).toArray = ls at hl ⊢
  have hl : lv_has ls 7 [(0, .ref oM), (1, .int a), (2, .int b), (3, .int on), (4, .int tw)] := hl
  obtain ⟨QQ, hQQ⟩ : ∃ QQ : Array Value → State → Outcome → State → Prop, QQ = va_Qi (fun (r : Int32) (u : Int32) => r = u) (fun (r : Int32) t => ∃ (zn' : Int32) (eY' : Nat → Int32) (zd' : Int32) (zm' : Int32) (zl' : Int32) (eE' : Nat → Int32) (zk' : Int32) (eW' : Nat → Int32), va_P (dC, dI) vwCl [(oM, .inr (12, [.ref mT, .int zt, .ref mS, .ref mX, .int zp, .int zf, .ref mL, .ref mB, .ref mD, .ref m1, .ref m2, .int zh, .ref mR, .int zr, .ref x1, .ref x2, .ref x3, .int zc, .ref mH, .int zy, .int za, .int zb, .int zs, .int zq, .int zw, .int ze, .ref mY, .int zn', .ref mE, .int zm', .int zl', .ref mW, .int zk', .ref mO, .int zd', .ref y1, .ref y2, .ref y3, .ref y4, .ref mZ])), (mY, .inl (cI, 2600, .inl eY')), (mB, .inl (cS, 131072, .inl eB)), (mL, .inl (cI, 512, .inl eL)), (mE, .inl (cI, 2600, .inl eE')), (mW, .inl (cI, 300, .inl eW')), (mS, .inl (cI, 21, .inl eS)), (mX, .inl (cI, 6300, .inl eX))] t.heap ∧ va_D A [(oM, .inr (12, [.ref mT, .int zt, .ref mS, .ref mX, .int zp, .int zf, .ref mL, .ref mB, .ref mD, .ref m1, .ref m2, .int zh, .ref mR, .int zr, .ref x1, .ref x2, .ref x3, .int zc, .ref mH, .int zy, .int za, .int zb, .int zs, .int zq, .int zw, .int ze, .ref mY, .int zn', .ref mE, .int zm', .int zl', .ref mW, .int zk', .ref mO, .int zd', .ref y1, .ref y2, .ref y3, .ref y4, .ref mZ])), (mY, .inl (cI, 2600, .inl eY')), (mB, .inl (cS, 131072, .inl eB)), (mL, .inl (cI, 512, .inl eL)), (mE, .inl (cI, 2600, .inl eE')), (mW, .inl (cI, 300, .inl eW')), (mS, .inl (cI, 21, .inl eS)), (mX, .inl (cI, 6300, .inl eX))] ∧ (0 ≤ zn'.toInt ∧ zn'.toInt ≤ 2600) ∧ (rg 0 255 eY') ∧ (0 ≤ zm'.toInt ∧ zm'.toInt ≤ 2600) ∧ (rg 0 65535 eE') ∧ (0 ≤ zk'.toInt ∧ zk'.toInt ≤ 300) ∧ (rg 0 65535 eW') ∧ (0 ≤ r.toInt ∧ r.toInt ≤ 1) ∧ (F_ic r zk' eW' a b (fun k => eL k) (fun k => eL (256 + k)) (Br b eB) (eS 0).toInt.toNat eX on.toInt tw.toInt)) A := ⟨_, rfl⟩
  rw [← hQQ]
  have z0 : (0 : Int32).toInt = 0 := rfl
  have z1 : (1 : Int32).toInt = 1 := rfl
  have zm1 : (-1 : Int32).toInt = -1 := rfl
  have gS0 := g_eS 0
  have hx9 : prg (((eS 0).toInt.toNat : Nat) : Int) 0 65535 eX := rg_prg g_eX
  have hlz9 : ∀ i, i < (eS 0).toInt.toNat → isLz (eX i) := fun i hi => hxl i (by omega)
  have hmv9 : mkB eX (eS 0).toInt.toNat ≤ 1 ∨ (0 ≤ tw.toInt ∧ tw.toInt ≤ 255) := hmkb.imp id (fun z9 => ⟨z9, by omega⟩)
  refine lv_aload_n hx hb dX12_isChoice_0 rfl (lv_at hl 0 rfl) ?_
  refine lv_iload_n hx hb dX12_isChoice_1 rfl (lv_at hl 2 rfl) ?_
  refine lv_iload_n hx hb dX12_isChoice_2 rfl (lv_at hl 3 rfl) ?_
  refine lv_iload hx hb dX12_isChoice_3 (lv_at hl 4 rfl) ?_
  have hPc := hP.sub (ws' := [(oM, .inr (12, [.ref mT, .int zt, .ref mS, .ref mX, .int zp, .int zf, .ref mL, .ref mB, .ref mD, .ref m1, .ref m2, .int zh, .ref mR, .int zr, .ref x1, .ref x2, .ref x3, .int zc, .ref mH, .int zy, .int za, .int zb, .int zs, .int zq, .int zw, .int ze, .ref mY, .int zn, .ref mE, .int zm, .int zl, .ref mW, .int zk, .ref mO, .int zd, .ref y1, .ref y2, .ref y3, .ref y4, .ref mZ])), (mY, .inl (cI, 2600, .inl eY)), (mB, .inl (cS, 131072, .inl eB)), (mS, .inl (cI, 21, .inl eS)), (mX, .inl (cI, 6300, .inl eX))]) [0, 1, 2, 6, 7] rfl
  have hDc := hD.sub (ws' := [(oM, .inr (12, [.ref mT, .int zt, .ref mS, .ref mX, .int zp, .int zf, .ref mL, .ref mB, .ref mD, .ref m1, .ref m2, .int zh, .ref mR, .int zr, .ref x1, .ref x2, .ref x3, .int zc, .ref mH, .int zy, .int za, .int zb, .int zs, .int zq, .int zw, .int ze, .ref mY, .int zn, .ref mE, .int zm, .int zl, .ref mW, .int zk, .ref mO, .int zd, .ref y1, .ref y2, .ref y3, .ref y4, .ref mZ])), (mY, .inl (cI, 2600, .inl eY)), (mB, .inl (cS, 131072, .inl eB)), (mS, .inl (cI, 21, .inl eS)), (mX, .inl (cI, 6300, .inl eX))]) [0, 1, 2, 6, 7] (by decide +kernel) rfl
  have hFc := va_free (wc := [(oM, .inr (12, [.ref mT, .int zt, .ref mS, .ref mX, .int zp, .int zf, .ref mL, .ref mB, .ref mD, .ref m1, .ref m2, .int zh, .ref mR, .int zr, .ref x1, .ref x2, .ref x3, .int zc, .ref mH, .int zy, .int za, .int zb, .int zs, .int zq, .int zw, .int ze, .ref mY, .int zn, .ref mE, .int zm, .int zl, .ref mW, .int zk, .ref mO, .int zd, .ref y1, .ref y2, .ref y3, .ref y4, .ref mZ])), (mY, .inl (cI, 2600, .inl eY)), (mB, .inl (cS, 131072, .inl eB)), (mS, .inl (cI, 21, .inl eS)), (mX, .inl (cI, 6300, .inl eX))]) hD hS hA [0, 1, 2, 6, 7] rfl
  refine va_calli (va_runV (As := [.int b, .int on, .int tw]) (rest := []) ⟨hx, hb, hml, hown, hts⟩ (f_X12_writeWith l dC dI cI cS s.heap.size oM mT mS mX mL mB mD m1 m2 mR x1 x2 x3 mH mY mE mW mO y1 y2 y3 y4 mZ zt zp zf zh zr zc zy za zb zs zq zw ze zn zm zl zk zd eY eB eS eX b on tw (g_zt) (g_zp) (g_zf) (g_zh) (g_zr) (g_zc) (g_zy) (g_za) (g_zb) (g_zs) (g_zq) (g_zn) (g_zm) (g_zk) (g_eY) (g_eB) (g_eS) (g_eX) (g_b) (g_on) (g_tw) (hmkb)) (cwV 3 hts gX12_isChoice_X12_writeWith rfl rfl rfl (by decide +kernel) ⟨Nat.le_of_ble_eq_true rfl, Nat.le_of_ble_eq_true rfl⟩) ⟨fun a U g mk q => by obtain ⟨q0, q1, qP, qK, qD⟩ := q; exact ⟨q0, q1, qP, va_K.moved (u := U) (U := U.calling g mk a) (Vm.Alike.refl U.vm) qK, qD⟩, va_recv hK hPc (ci := 12) (q0 := 0) rfl rfl, fun U hU hW => ⟨rfl, by rw [hU], by rw [hU]; exact hPc, va_K.moved hW.alike hK, hDc.weaken (fun _ _ _ _ => trivial)⟩⟩ rfl rfl hl.1 rfl (lv_room (Nat.le_of_ble_eq_true rfl)) dX12_isChoice_5 ⟨Nat.le_of_ble_eq_true rfl, Nat.le_of_ble_eq_true rfl⟩) hS (fun q _ h => hFc q h) hFc (fun r_1 u t H1 locs ht hvm hw hB hz1 hk1 hSn => ?_)
  subst hw
  obtain ⟨zn_1, eY_1, zl_1, hP1, hD1, hf1_0, hf1_1, hf1_2, hf1_3, hf1_4⟩ := hB
  rw [ht] at hP1
  obtain ⟨hPn, hDn⟩ := va_join (wr := [(mL, .inl (cI, 512, .inl eL)), (mE, .inl (cI, 2600, .inl eE)), (mW, .inl (cI, 300, .inl eW))]) (w1 := [(oM, .inr (12, [.ref mT, .int zt, .ref mS, .ref mX, .int zp, .int zf, .ref mL, .ref mB, .ref mD, .ref m1, .ref m2, .int zh, .ref mR, .int zr, .ref x1, .ref x2, .ref x3, .int zc, .ref mH, .int zy, .int za, .int zb, .int zs, .int zq, .int zw, .int ze, .ref mY, .int zn_1, .ref mE, .int zm, .int zl_1, .ref mW, .int zk, .ref mO, .int zd, .ref y1, .ref y2, .ref y3, .ref y4, .ref mZ])), (mY, .inl (cI, 2600, .inl eY_1)), (mB, .inl (cS, 131072, .inl eB)), (mS, .inl (cI, 21, .inl eS)), (mX, .inl (cI, 6300, .inl eX))]) hP hD [0, 1, 2, 6, 7] [3, 4, 5] rfl rfl (by decide +kernel) (by decide +kernel) hk1 hFc hP1 hD1
  clear hP hD hS hPc hDc hFc hk1 hz1 hvm ht hP1 hD1
  generalize H1 = H at hPn hSn ⊢
  have hP : va_P (dC, dI) vwCl [(mL, .inl (cI, 512, .inl eL)), (mE, .inl (cI, 2600, .inl eE)), (mW, .inl (cI, 300, .inl eW)), (oM, .inr (12, [.ref mT, .int zt, .ref mS, .ref mX, .int zp, .int zf, .ref mL, .ref mB, .ref mD, .ref m1, .ref m2, .int zh, .ref mR, .int zr, .ref x1, .ref x2, .ref x3, .int zc, .ref mH, .int zy, .int za, .int zb, .int zs, .int zq, .int zw, .int ze, .ref mY, .int zn_1, .ref mE, .int zm, .int zl_1, .ref mW, .int zk, .ref mO, .int zd, .ref y1, .ref y2, .ref y3, .ref y4, .ref mZ])), (mY, .inl (cI, 2600, .inl eY_1)), (mB, .inl (cS, 131072, .inl eB)), (mS, .inl (cI, 21, .inl eS)), (mX, .inl (cI, 6300, .inl eX))] H := hPn
  have hD : va_D A [(mL, .inl (cI, 512, .inl eL)), (mE, .inl (cI, 2600, .inl eE)), (mW, .inl (cI, 300, .inl eW)), (oM, .inr (12, [.ref mT, .int zt, .ref mS, .ref mX, .int zp, .int zf, .ref mL, .ref mB, .ref mD, .ref m1, .ref m2, .int zh, .ref mR, .int zr, .ref x1, .ref x2, .ref x3, .int zc, .ref mH, .int zy, .int za, .int zb, .int zs, .int zq, .int zw, .int ze, .ref mY, .int zn_1, .ref mE, .int zm, .int zl_1, .ref mW, .int zk, .ref mO, .int zd, .ref y1, .ref y2, .ref y3, .ref y4, .ref mZ])), (mY, .inl (cI, 2600, .inl eY_1)), (mB, .inl (cS, 131072, .inl eB)), (mS, .inl (cI, 21, .inl eS)), (mX, .inl (cI, 6300, .inl eX))] := hDn
  have hS := hSn
  clear hPn hDn hSn
  refine lv_if_eq (tgt := 30) hx hb dX12_isChoice_8 (by decide) (fun c_2 => ?_) (fun c_2 => ?_)
  · have tc_2 : r_1.toInt = 0 := v_eq c_2
    refine lv_iconst (v := 0) hx hb dX12_isChoice_30 (by decide) ?_
    have hP9 := hP.sub (ws' := [(oM, .inr (12, [.ref mT, .int zt, .ref mS, .ref mX, .int zp, .int zf, .ref mL, .ref mB, .ref mD, .ref m1, .ref m2, .int zh, .ref mR, .int zr, .ref x1, .ref x2, .ref x3, .int zc, .ref mH, .int zy, .int za, .int zb, .int zs, .int zq, .int zw, .int ze, .ref mY, .int zn_1, .ref mE, .int zm, .int zl_1, .ref mW, .int zk, .ref mO, .int zd, .ref y1, .ref y2, .ref y3, .ref y4, .ref mZ])), (mY, .inl (cI, 2600, .inl eY_1)), (mB, .inl (cS, 131072, .inl eB)), (mL, .inl (cI, 512, .inl eL)), (mE, .inl (cI, 2600, .inl eE)), (mW, .inl (cI, 300, .inl eW)), (mS, .inl (cI, 21, .inl eS)), (mX, .inl (cI, 6300, .inl eX))]) [3, 4, 5, 0, 1, 2, 6, 7] rfl
    have hD9 := hD.sub (ws' := [(oM, .inr (12, [.ref mT, .int zt, .ref mS, .ref mX, .int zp, .int zf, .ref mL, .ref mB, .ref mD, .ref m1, .ref m2, .int zh, .ref mR, .int zr, .ref x1, .ref x2, .ref x3, .int zc, .ref mH, .int zy, .int za, .int zb, .int zs, .int zq, .int zw, .int ze, .ref mY, .int zn_1, .ref mE, .int zm, .int zl_1, .ref mW, .int zk, .ref mO, .int zd, .ref y1, .ref y2, .ref y3, .ref y4, .ref mZ])), (mY, .inl (cI, 2600, .inl eY_1)), (mB, .inl (cS, 131072, .inl eB)), (mL, .inl (cI, 512, .inl eL)), (mE, .inl (cI, 2600, .inl eE)), (mW, .inl (cI, 300, .inl eW)), (mS, .inl (cI, 21, .inl eS)), (mX, .inl (cI, 6300, .inl eX))]) [3, 4, 5, 0, 1, 2, 6, 7] (by decide +kernel) rfl
    rw [hQQ]
    exact W.zret (v := 0) (ty := .boolean) hx hb hr (rfl) (fun t ht hW => ⟨⟨0, 0, rfl, rfl, ⟨zn_1, eY_1, zd, zm, zl_1, eE, zk, eW, by rw [ht]; exact hP9, hD9, hf1_0, hf1_1, g_zm, g_eE, g_zk, g_eW, by decide, ic_w0 hf1_4 (by omega) rfl⟩⟩, hS.F ht⟩) hS.2.2 dX12_isChoice_31
  · have tc_2 : ¬ r_1.toInt = 0 := v_ne c_2
    have hwr9 := ww_1 hf1_4 (by omega)
    have hbb9 := WRV_b hwr9 hx9 (okB_r g_eB) ⟨⟨by omega, by omega⟩, hmv9⟩
    have hat9 := mk_at (o := on) (w := tw) hwr9 rfl (Or.inr rfl) hal1 hal2
    refine lv_aload_n hx hb dX12_isChoice_11 rfl (lv_at hl 0 rfl) ?_
    refine lv_iload_n hx hb dX12_isChoice_12 rfl (lv_at hl 1 rfl) ?_
    refine lv_iconst (v := 0) hx hb dX12_isChoice_13 (by decide) ?_
    have hPc := hP.sub (ws' := [(oM, .inr (12, [.ref mT, .int zt, .ref mS, .ref mX, .int zp, .int zf, .ref mL, .ref mB, .ref mD, .ref m1, .ref m2, .int zh, .ref mR, .int zr, .ref x1, .ref x2, .ref x3, .int zc, .ref mH, .int zy, .int za, .int zb, .int zs, .int zq, .int zw, .int ze, .ref mY, .int zn_1, .ref mE, .int zm, .int zl_1, .ref mW, .int zk, .ref mO, .int zd, .ref y1, .ref y2, .ref y3, .ref y4, .ref mZ])), (mY, .inl (cI, 2600, .inl eY_1)), (mL, .inl (cI, 512, .inl eL)), (mE, .inl (cI, 2600, .inl eE))]) [3, 4, 0, 1] rfl
    have hDc := hD.sub (ws' := [(oM, .inr (12, [.ref mT, .int zt, .ref mS, .ref mX, .int zp, .int zf, .ref mL, .ref mB, .ref mD, .ref m1, .ref m2, .int zh, .ref mR, .int zr, .ref x1, .ref x2, .ref x3, .int zc, .ref mH, .int zy, .int za, .int zb, .int zs, .int zq, .int zw, .int ze, .ref mY, .int zn_1, .ref mE, .int zm, .int zl_1, .ref mW, .int zk, .ref mO, .int zd, .ref y1, .ref y2, .ref y3, .ref y4, .ref mZ])), (mY, .inl (cI, 2600, .inl eY_1)), (mL, .inl (cI, 512, .inl eL)), (mE, .inl (cI, 2600, .inl eE))]) [3, 4, 0, 1] (by decide +kernel) rfl
    have hFc := va_free (wc := [(oM, .inr (12, [.ref mT, .int zt, .ref mS, .ref mX, .int zp, .int zf, .ref mL, .ref mB, .ref mD, .ref m1, .ref m2, .int zh, .ref mR, .int zr, .ref x1, .ref x2, .ref x3, .int zc, .ref mH, .int zy, .int za, .int zb, .int zs, .int zq, .int zw, .int ze, .ref mY, .int zn_1, .ref mE, .int zm, .int zl_1, .ref mW, .int zk, .ref mO, .int zd, .ref y1, .ref y2, .ref y3, .ref y4, .ref mZ])), (mY, .inl (cI, 2600, .inl eY_1)), (mL, .inl (cI, 512, .inl eL)), (mE, .inl (cI, 2600, .inl eE))]) hD hS hA [3, 4, 0, 1] rfl
    refine va_calli (va_runV (As := [.int a, .int 0]) (rest := []) ⟨hx, hb, hml, hown, hts⟩ (f_X12_read l dC dI cI cS H.size oM mT mS mX mL mB mD m1 m2 mR x1 x2 x3 mH mY mE mW mO y1 y2 y3 y4 mZ zt zp zf zh zr zc zy za zb zs zq zw ze zn_1 zm zl_1 zk zd eY_1 eL eE a 0 (g_zt) (g_zp) (g_zf) (g_zh) (g_zr) (g_zc) (g_zy) (g_za) (g_zb) (g_zs) (g_zq) (hf1_0) (g_zm) (g_zk) (hf1_1) (g_eL) (g_eE) (g_a) (rfl)) (cwV 2 hts gX12_isChoice_X12_read rfl rfl rfl (by decide +kernel) ⟨Nat.le_of_ble_eq_true rfl, Nat.le_of_ble_eq_true rfl⟩) ⟨fun a U g mk q => by obtain ⟨q0, q1, qP, qK, qD⟩ := q; exact ⟨q0, q1, qP, va_K.moved (u := U) (U := U.calling g mk a) (Vm.Alike.refl U.vm) qK, qD⟩, va_recv hK hPc (ci := 12) (q0 := 0) rfl rfl, fun U hU hW => ⟨rfl, by rw [hU], by rw [hU]; exact hPc, va_K.moved hW.alike hK, hDc.weaken (fun _ _ _ _ => trivial)⟩⟩ rfl rfl hl.1 rfl (lv_room (Nat.le_of_ble_eq_true rfl)) dX12_isChoice_14 ⟨Nat.le_of_ble_eq_true rfl, Nat.le_of_ble_eq_true rfl⟩) hS (fun q _ h => hFc q h) hFc (fun r_3 u t H1 locs ht hvm hw hB hz1 hk1 hSn => ?_)
    subst hw
    obtain ⟨zd_3, zm_3, zl_3, eE_3, hP1, hD1, hf3_0, hf3_1, hf3_2, hf3_3, hf3_4⟩ := hB
    rw [ht] at hP1
    obtain ⟨hPn, hDn⟩ := va_join (wr := [(mW, .inl (cI, 300, .inl eW)), (mB, .inl (cS, 131072, .inl eB)), (mS, .inl (cI, 21, .inl eS)), (mX, .inl (cI, 6300, .inl eX))]) (w1 := [(oM, .inr (12, [.ref mT, .int zt, .ref mS, .ref mX, .int zp, .int zf, .ref mL, .ref mB, .ref mD, .ref m1, .ref m2, .int zh, .ref mR, .int zr, .ref x1, .ref x2, .ref x3, .int zc, .ref mH, .int zy, .int za, .int zb, .int zs, .int zq, .int zw, .int ze, .ref mY, .int zn_1, .ref mE, .int zm_3, .int zl_3, .ref mW, .int zk, .ref mO, .int zd_3, .ref y1, .ref y2, .ref y3, .ref y4, .ref mZ])), (mY, .inl (cI, 2600, .inl eY_1)), (mL, .inl (cI, 512, .inl eL)), (mE, .inl (cI, 2600, .inl eE_3))]) hP hD [3, 4, 0, 1] [2, 5, 6, 7] rfl rfl (by decide +kernel) (by decide +kernel) hk1 hFc hP1 hD1
    clear hP hD hS hPc hDc hFc hk1 hz1 hvm ht hP1 hD1
    generalize H1 = H at hPn hSn ⊢
    have hP : va_P (dC, dI) vwCl [(mW, .inl (cI, 300, .inl eW)), (mB, .inl (cS, 131072, .inl eB)), (mS, .inl (cI, 21, .inl eS)), (mX, .inl (cI, 6300, .inl eX)), (oM, .inr (12, [.ref mT, .int zt, .ref mS, .ref mX, .int zp, .int zf, .ref mL, .ref mB, .ref mD, .ref m1, .ref m2, .int zh, .ref mR, .int zr, .ref x1, .ref x2, .ref x3, .int zc, .ref mH, .int zy, .int za, .int zb, .int zs, .int zq, .int zw, .int ze, .ref mY, .int zn_1, .ref mE, .int zm_3, .int zl_3, .ref mW, .int zk, .ref mO, .int zd_3, .ref y1, .ref y2, .ref y3, .ref y4, .ref mZ])), (mY, .inl (cI, 2600, .inl eY_1)), (mL, .inl (cI, 512, .inl eL)), (mE, .inl (cI, 2600, .inl eE_3))] H := hPn
    have hD : va_D A [(mW, .inl (cI, 300, .inl eW)), (mB, .inl (cS, 131072, .inl eB)), (mS, .inl (cI, 21, .inl eS)), (mX, .inl (cI, 6300, .inl eX)), (oM, .inr (12, [.ref mT, .int zt, .ref mS, .ref mX, .int zp, .int zf, .ref mL, .ref mB, .ref mD, .ref m1, .ref m2, .int zh, .ref mR, .int zr, .ref x1, .ref x2, .ref x3, .int zc, .ref mH, .int zy, .int za, .int zb, .int zs, .int zq, .int zw, .int ze, .ref mY, .int zn_1, .ref mE, .int zm_3, .int zl_3, .ref mW, .int zk, .ref mO, .int zd_3, .ref y1, .ref y2, .ref y3, .ref y4, .ref mZ])), (mY, .inl (cI, 2600, .inl eY_1)), (mL, .inl (cI, 512, .inl eL)), (mE, .inl (cI, 2600, .inl eE_3))] := hDn
    have hS := hSn
    clear hPn hDn hSn
    refine lv_if_eq (tgt := 30) hx hb dX12_isChoice_17 (by decide) (fun c_4 => ?_) (fun c_4 => ?_)
    · have tc_4 : r_3.toInt = 0 := v_eq c_4
      refine lv_iconst (v := 0) hx hb dX12_isChoice_30 (by decide) ?_
      have hP9 := hP.sub (ws' := [(oM, .inr (12, [.ref mT, .int zt, .ref mS, .ref mX, .int zp, .int zf, .ref mL, .ref mB, .ref mD, .ref m1, .ref m2, .int zh, .ref mR, .int zr, .ref x1, .ref x2, .ref x3, .int zc, .ref mH, .int zy, .int za, .int zb, .int zs, .int zq, .int zw, .int ze, .ref mY, .int zn_1, .ref mE, .int zm_3, .int zl_3, .ref mW, .int zk, .ref mO, .int zd_3, .ref y1, .ref y2, .ref y3, .ref y4, .ref mZ])), (mY, .inl (cI, 2600, .inl eY_1)), (mB, .inl (cS, 131072, .inl eB)), (mL, .inl (cI, 512, .inl eL)), (mE, .inl (cI, 2600, .inl eE_3)), (mW, .inl (cI, 300, .inl eW)), (mS, .inl (cI, 21, .inl eS)), (mX, .inl (cI, 6300, .inl eX))]) [4, 5, 1, 6, 7, 0, 2, 3] rfl
      have hD9 := hD.sub (ws' := [(oM, .inr (12, [.ref mT, .int zt, .ref mS, .ref mX, .int zp, .int zf, .ref mL, .ref mB, .ref mD, .ref m1, .ref m2, .int zh, .ref mR, .int zr, .ref x1, .ref x2, .ref x3, .int zc, .ref mH, .int zy, .int za, .int zb, .int zs, .int zq, .int zw, .int ze, .ref mY, .int zn_1, .ref mE, .int zm_3, .int zl_3, .ref mW, .int zk, .ref mO, .int zd_3, .ref y1, .ref y2, .ref y3, .ref y4, .ref mZ])), (mY, .inl (cI, 2600, .inl eY_1)), (mB, .inl (cS, 131072, .inl eB)), (mL, .inl (cI, 512, .inl eL)), (mE, .inl (cI, 2600, .inl eE_3)), (mW, .inl (cI, 300, .inl eW)), (mS, .inl (cI, 21, .inl eS)), (mX, .inl (cI, 6300, .inl eX))]) [4, 5, 1, 6, 7, 0, 2, 3] (by decide +kernel) rfl
      rw [hQQ]
      exact W.zret (v := 0) (ty := .boolean) hx hb hr (rfl) (fun t ht hW => ⟨⟨0, 0, rfl, rfl, ⟨zn_1, eY_1, zd_3, zm_3, zl_3, eE_3, zk, eW, by rw [ht]; exact hP9, hD9, hf1_0, hf1_1, hf3_0, hf3_1, g_zk, g_eW, by decide, ic_no hwr9 hx9 (okB_r g_eB) ⟨⟨by omega, by omega⟩, hmv9⟩ rfl (ic_rr hf3_4 (by omega))⟩⟩, hS.F ht⟩) hS.2.2 dX12_isChoice_31
    · have tc_4 : ¬ r_3.toInt = 0 := v_ne c_4
      refine lv_aload_n hx hb dX12_isChoice_20 rfl (lv_at hl 0 rfl) ?_
      refine va_get (D := (dC, dI)) (ci := 12) (v := .int zm_3) (C := RX12) (T := TX12) (N := 40) hx hb hts in_X12 hown hK hP 4 rfl rfl 29 (by decide) (hts (.fieldLink RX12 119 "TextMenderModel" "cameMany" "I") (List.mem_of_getElem? (i := 1) rfl)) (fun _ h9 => h9) rfl dX12_isChoice_21 ?_
      refine lv_sipush (v := 300) hx hb dX12_isChoice_24 (by decide) ?_
      refine lv_icmp_le (tgt := 32) hx hb dX12_isChoice_27 (by decide) (fun c_5 => ?_) (fun c_5 => ?_)
      · have tc_5 : zm_3.toInt ≤ 300 := v_le c_5
        obtain ⟨c8, hrd9, hzm9, hce9⟩ := rr_1 hf3_4 (by omega)
        refine lv_aload_n hx hb dX12_isChoice_32 rfl (lv_at hl 0 rfl) ?_
        refine lv_aload_n hx hb dX12_isChoice_33 rfl (lv_at hl 0 rfl) ?_
        refine va_get (D := (dC, dI)) (ci := 12) (v := .int zm_3) (C := RX12) (T := TX12) (N := 40) hx hb hts in_X12 hown hK hP 4 rfl rfl 29 (by decide) (hts (.fieldLink RX12 119 "TextMenderModel" "cameMany" "I") (List.mem_of_getElem? (i := 1) rfl)) (fun _ h9 => h9) rfl dX12_isChoice_34 ?_
        refine va_put (D := (dC, dI)) (ci := 12) (v := .int zm_3) (ty := .int) (C := RX12) (T := TX12) (N := 40) hx hb hts in_X12 tyX12 tyX12_ok nmX12 hown hK hP hD hS 4 rfl rfl 32 (by decide) (hts (.fieldLink RX12 135 "TextMenderModel" "workMany" "I") (List.mem_of_getElem? (i := 2) rfl)) (fun _ h9 => h9) rfl (by decide +kernel) rfl rfl (Nat.le_of_ble_eq_true rfl) dX12_isChoice_37 (fun H locs hPn hDn hSn => ?_)
        clear hP hD hS
        have hP : va_P (dC, dI) vwCl [(mW, .inl (cI, 300, .inl eW)), (mB, .inl (cS, 131072, .inl eB)), (mS, .inl (cI, 21, .inl eS)), (mX, .inl (cI, 6300, .inl eX)), (oM, .inr (12, [.ref mT, .int zt, .ref mS, .ref mX, .int zp, .int zf, .ref mL, .ref mB, .ref mD, .ref m1, .ref m2, .int zh, .ref mR, .int zr, .ref x1, .ref x2, .ref x3, .int zc, .ref mH, .int zy, .int za, .int zb, .int zs, .int zq, .int zw, .int ze, .ref mY, .int zn_1, .ref mE, .int zm_3, .int zl_3, .ref mW, .int zm_3, .ref mO, .int zd_3, .ref y1, .ref y2, .ref y3, .ref y4, .ref mZ])), (mY, .inl (cI, 2600, .inl eY_1)), (mL, .inl (cI, 512, .inl eL)), (mE, .inl (cI, 2600, .inl eE_3))] H := hPn
        have hD : va_D A [(mW, .inl (cI, 300, .inl eW)), (mB, .inl (cS, 131072, .inl eB)), (mS, .inl (cI, 21, .inl eS)), (mX, .inl (cI, 6300, .inl eX)), (oM, .inr (12, [.ref mT, .int zt, .ref mS, .ref mX, .int zp, .int zf, .ref mL, .ref mB, .ref mD, .ref m1, .ref m2, .int zh, .ref mR, .int zr, .ref x1, .ref x2, .ref x3, .int zc, .ref mH, .int zy, .int za, .int zb, .int zs, .int zq, .int zw, .int ze, .ref mY, .int zn_1, .ref mE, .int zm_3, .int zl_3, .ref mW, .int zm_3, .ref mO, .int zd_3, .ref y1, .ref y2, .ref y3, .ref y4, .ref mZ])), (mY, .inl (cI, 2600, .inl eY_1)), (mL, .inl (cI, 512, .inl eL)), (mE, .inl (cI, 2600, .inl eE_3))] := hDn
        have hS := hSn
        clear hPn hDn hSn
        refine lv_iconst (v := 0) hx hb dX12_isChoice_40 (by decide) ?_
        refine lv_istore (lv' := [(5, .int 0), (0, .ref oM), (1, .int a), (2, .int b), (3, .int on), (4, .int tw)]) hx hb dX12_isChoice_41 hl (by decide) rfl (fun ls hl => ?_)
        have LOOP_43 : ∀ (k_43 : Nat) (k : Int32) (eWa : Nat → Int32) (H : Heap) (locs : List Loc) (ls : Array Slot), MSd (300 - k.toInt : Int) k_43 → (0 ≤ k.toInt ∧ k.toInt ≤ 300) → (rg 0 65535 eWa) → (k.toInt ≤ zm_3.toInt) → (cpE k.toInt eWa eE_3) → va_P (dC, dI) vwCl [(mW, .inl (cI, 300, .inl eWa)), (mB, .inl (cS, 131072, .inl eB)), (mS, .inl (cI, 21, .inl eS)), (mX, .inl (cI, 6300, .inl eX)), (oM, .inr (12, [.ref mT, .int zt, .ref mS, .ref mX, .int zp, .int zf, .ref mL, .ref mB, .ref mD, .ref m1, .ref m2, .int zh, .ref mR, .int zr, .ref x1, .ref x2, .ref x3, .int zc, .ref mH, .int zy, .int za, .int zb, .int zs, .int zq, .int zw, .int ze, .ref mY, .int zn_1, .ref mE, .int zm_3, .int zl_3, .ref mW, .int zm_3, .ref mO, .int zd_3, .ref y1, .ref y2, .ref y3, .ref y4, .ref mZ])), (mY, .inl (cI, 2600, .inl eY_1)), (mL, .inl (cI, 512, .inl eL)), (mE, .inl (cI, 2600, .inl eE_3))] H → va_D A [(mW, .inl (cI, 300, .inl eWa)), (mB, .inl (cS, 131072, .inl eB)), (mS, .inl (cI, 21, .inl eS)), (mX, .inl (cI, 6300, .inl eX)), (oM, .inr (12, [.ref mT, .int zt, .ref mS, .ref mX, .int zp, .int zf, .ref mL, .ref mB, .ref mD, .ref m1, .ref m2, .int zh, .ref mR, .int zr, .ref x1, .ref x2, .ref x3, .int zc, .ref mH, .int zy, .int za, .int zb, .int zs, .int zq, .int zw, .int ze, .ref mY, .int zn_1, .ref mE, .int zm_3, .int zl_3, .ref mW, .int zm_3, .ref mO, .int zd_3, .ref y1, .ref y2, .ref y3, .ref y4, .ref mZ])), (mY, .inl (cI, 2600, .inl eY_1)), (mL, .inl (cI, 512, .inl eL)), (mE, .inl (cI, 2600, .inl eE_3))] → va_S A s.heap H locs → lv_has ls 7 [(5, .int k), (0, .ref oM), (1, .int a), (2, .int b), (3, .int on), (4, .int tw)] → W p l e (headSpec wsX12_isChoice ({ frames := 3, cells := 0, slots := 0, locals := 71 } : Room)).room s m ([.ref oM, .int a, .int b, .int on, .int tw] : List Value).toArray below meth c H locs 0 0 (MQ below QQ ([.ref oM, .int a, .int b, .int on, .int tw] : List Value).toArray s 0 0 A) (F0 m 43 ls []) := by
          clear hP hD hS hl
          intro k_43
          induction k_43 with
          | zero =>
            intro k eWa H locs ls hm_43 g_k g_eWa hkz hcp hP hD hS hl
            exact ms_0 hm_43
          | succ k_43 ih_43 =>
            intro k eWa H locs ls hm_43 g_k g_eWa hkz hcp hP hD hS hl
            refine lv_iload hx hb dX12_isChoice_43 (lv_at hl 0 rfl) ?_
            refine lv_aload_n hx hb dX12_isChoice_45 rfl (lv_at hl 1 rfl) ?_
            refine va_get (D := (dC, dI)) (ci := 12) (v := .int zm_3) (C := RX12) (T := TX12) (N := 40) hx hb hts in_X12 hown hK hP 4 rfl rfl 32 (by decide) (hts (.fieldLink RX12 135 "TextMenderModel" "workMany" "I") (List.mem_of_getElem? (i := 2) rfl)) (fun _ h9 => h9) rfl dX12_isChoice_46 ?_
            refine lv_icmp_ge (tgt := 72) hx hb dX12_isChoice_49 (by decide) (fun c_6 => ?_) (fun c_6 => ?_)
            · have tc_6 : zm_3.toInt ≤ k.toInt := v_le c_6
              have hcw9 : ∀ i, i < c8 → eWa i = dx a (fun k => eL k) (fun k => eL (256 + k)) eY_1 zn_1.toInt (psn (dl a (fun k => eL k) (fun k => eL (256 + k)) eY_1 zn_1.toInt) i) := fun i hi => (hcp i (by omega)).trans (hce9 i hi)
              have hww9 := wr_rd (Bf := Br a eB) hbb9 (rg_prg g_eL) (rg_L5 g_eL) (hlb a) hrd9 hcw9
              refine lv_aload_n hx hb dX12_isChoice_72 rfl (lv_at hl 1 rfl) ?_
              refine lv_iload_n hx hb dX12_isChoice_73 rfl (lv_at hl 2 rfl) ?_
              refine lv_aload_n hx hb dX12_isChoice_74 rfl (lv_at hl 1 rfl) ?_
              refine va_get (D := (dC, dI)) (ci := 12) (v := .ref mW) (C := RX12) (T := TX12) (N := 40) hx hb hts in_X12 hown hK hP 4 rfl rfl 31 (by decide) (hts (.fieldLink RX12 64 "TextMenderModel" "work" "[I") (List.mem_of_getElem? (i := 3) rfl)) (fun _ h9 => h9) rfl dX12_isChoice_75 ?_
              refine lv_aload_n hx hb dX12_isChoice_78 rfl (lv_at hl 1 rfl) ?_
              refine va_get (D := (dC, dI)) (ci := 12) (v := .int zm_3) (C := RX12) (T := TX12) (N := 40) hx hb hts in_X12 hown hK hP 4 rfl rfl 32 (by decide) (hts (.fieldLink RX12 135 "TextMenderModel" "workMany" "I") (List.mem_of_getElem? (i := 2) rfl)) (fun _ h9 => h9) rfl dX12_isChoice_79 ?_
              have hPc := hP.sub (ws' := [(oM, .inr (12, [.ref mT, .int zt, .ref mS, .ref mX, .int zp, .int zf, .ref mL, .ref mB, .ref mD, .ref m1, .ref m2, .int zh, .ref mR, .int zr, .ref x1, .ref x2, .ref x3, .int zc, .ref mH, .int zy, .int za, .int zb, .int zs, .int zq, .int zw, .int ze, .ref mY, .int zn_1, .ref mE, .int zm_3, .int zl_3, .ref mW, .int zm_3, .ref mO, .int zd_3, .ref y1, .ref y2, .ref y3, .ref y4, .ref mZ])), (mY, .inl (cI, 2600, .inl eY_1)), (mB, .inl (cS, 131072, .inl eB)), (mW, .inl (cI, 300, .inl eWa))]) [4, 5, 1, 0] rfl
              have hDc := hD.sub (ws' := [(oM, .inr (12, [.ref mT, .int zt, .ref mS, .ref mX, .int zp, .int zf, .ref mL, .ref mB, .ref mD, .ref m1, .ref m2, .int zh, .ref mR, .int zr, .ref x1, .ref x2, .ref x3, .int zc, .ref mH, .int zy, .int za, .int zb, .int zs, .int zq, .int zw, .int ze, .ref mY, .int zn_1, .ref mE, .int zm_3, .int zl_3, .ref mW, .int zm_3, .ref mO, .int zd_3, .ref y1, .ref y2, .ref y3, .ref y4, .ref mZ])), (mY, .inl (cI, 2600, .inl eY_1)), (mB, .inl (cS, 131072, .inl eB)), (mW, .inl (cI, 300, .inl eWa))]) [4, 5, 1, 0] (by decide +kernel) rfl
              have hFc := va_free (wc := [(oM, .inr (12, [.ref mT, .int zt, .ref mS, .ref mX, .int zp, .int zf, .ref mL, .ref mB, .ref mD, .ref m1, .ref m2, .int zh, .ref mR, .int zr, .ref x1, .ref x2, .ref x3, .int zc, .ref mH, .int zy, .int za, .int zb, .int zs, .int zq, .int zw, .int ze, .ref mY, .int zn_1, .ref mE, .int zm_3, .int zl_3, .ref mW, .int zm_3, .ref mO, .int zd_3, .ref y1, .ref y2, .ref y3, .ref y4, .ref mZ])), (mY, .inl (cI, 2600, .inl eY_1)), (mB, .inl (cS, 131072, .inl eB)), (mW, .inl (cI, 300, .inl eWa))]) hD hS hA [4, 5, 1, 0] rfl
              refine va_calli (va_runV (As := [.int a, .ref mW, .int zm_3]) (rest := []) ⟨hx, hb, hml, hown, hts⟩ (f_X12_write l dC dI cI cS H.size oM mW mT mS mX mL mB mD m1 m2 mR x1 x2 x3 mH mY mE mW mO y1 y2 y3 y4 mZ 300 zt zp zf zh zr zc zy za zb zs zq zw ze zn_1 zm_3 zl_3 zm_3 zd_3 eY_1 eB eWa a zm_3 (g_zt) (g_zp) (g_zf) (g_zh) (g_zr) (g_zc) (g_zy) (g_za) (g_zb) (g_zs) (g_zq) (hf1_0) (hf3_0) (by omega) (hf1_1) (g_eB) (g_eWa) (g_a) (by omega) (by omega) (by omega)) (cwV 3 hts gX12_isChoice_X12_write rfl rfl rfl (by decide +kernel) ⟨Nat.le_of_ble_eq_true rfl, Nat.le_of_ble_eq_true rfl⟩) ⟨fun a U g mk q => by obtain ⟨q0, q1, qP, qK, qD⟩ := q; exact ⟨q0, q1, qP, va_K.moved (u := U) (U := U.calling g mk a) (Vm.Alike.refl U.vm) qK, qD⟩, va_recv hK hPc (ci := 12) (q0 := 0) rfl rfl, fun U hU hW => ⟨rfl, by rw [hU], by rw [hU]; exact hPc, va_K.moved hW.alike hK, hDc.weaken (fun _ _ _ _ => trivial)⟩⟩ rfl rfl hl.1 rfl (lv_room (Nat.le_of_ble_eq_true rfl)) dX12_isChoice_82 ⟨Nat.le_of_ble_eq_true rfl, Nat.le_of_ble_eq_true rfl⟩) hS (fun q _ h => hFc q h) hFc (fun r_7 u t H1 locs ht hvm hw hB hz1 hk1 hSn => ?_)
              subst hw
              obtain ⟨zn_7, eY_7, zl_7, hP1, hD1, hf7_0, hf7_1, hf7_2, hf7_3⟩ := hB
              rw [ht] at hP1
              obtain ⟨hPn, hDn⟩ := va_join (wr := [(mS, .inl (cI, 21, .inl eS)), (mX, .inl (cI, 6300, .inl eX)), (mL, .inl (cI, 512, .inl eL)), (mE, .inl (cI, 2600, .inl eE_3))]) (w1 := [(oM, .inr (12, [.ref mT, .int zt, .ref mS, .ref mX, .int zp, .int zf, .ref mL, .ref mB, .ref mD, .ref m1, .ref m2, .int zh, .ref mR, .int zr, .ref x1, .ref x2, .ref x3, .int zc, .ref mH, .int zy, .int za, .int zb, .int zs, .int zq, .int zw, .int ze, .ref mY, .int zn_7, .ref mE, .int zm_3, .int zl_7, .ref mW, .int zm_3, .ref mO, .int zd_3, .ref y1, .ref y2, .ref y3, .ref y4, .ref mZ])), (mY, .inl (cI, 2600, .inl eY_7)), (mB, .inl (cS, 131072, .inl eB)), (mW, .inl (cI, 300, .inl eWa))]) hP hD [4, 5, 1, 0] [2, 3, 6, 7] rfl rfl (by decide +kernel) (by decide +kernel) hk1 hFc hP1 hD1
              clear hP hD hS hPc hDc hFc hk1 hz1 hvm ht hP1 hD1
              generalize H1 = H at hPn hSn ⊢
              have hP : va_P (dC, dI) vwCl [(mS, .inl (cI, 21, .inl eS)), (mX, .inl (cI, 6300, .inl eX)), (mL, .inl (cI, 512, .inl eL)), (mE, .inl (cI, 2600, .inl eE_3)), (oM, .inr (12, [.ref mT, .int zt, .ref mS, .ref mX, .int zp, .int zf, .ref mL, .ref mB, .ref mD, .ref m1, .ref m2, .int zh, .ref mR, .int zr, .ref x1, .ref x2, .ref x3, .int zc, .ref mH, .int zy, .int za, .int zb, .int zs, .int zq, .int zw, .int ze, .ref mY, .int zn_7, .ref mE, .int zm_3, .int zl_7, .ref mW, .int zm_3, .ref mO, .int zd_3, .ref y1, .ref y2, .ref y3, .ref y4, .ref mZ])), (mY, .inl (cI, 2600, .inl eY_7)), (mB, .inl (cS, 131072, .inl eB)), (mW, .inl (cI, 300, .inl eWa))] H := hPn
              have hD : va_D A [(mS, .inl (cI, 21, .inl eS)), (mX, .inl (cI, 6300, .inl eX)), (mL, .inl (cI, 512, .inl eL)), (mE, .inl (cI, 2600, .inl eE_3)), (oM, .inr (12, [.ref mT, .int zt, .ref mS, .ref mX, .int zp, .int zf, .ref mL, .ref mB, .ref mD, .ref m1, .ref m2, .int zh, .ref mR, .int zr, .ref x1, .ref x2, .ref x3, .int zc, .ref mH, .int zy, .int za, .int zb, .int zs, .int zq, .int zw, .int ze, .ref mY, .int zn_7, .ref mE, .int zm_3, .int zl_7, .ref mW, .int zm_3, .ref mO, .int zd_3, .ref y1, .ref y2, .ref y3, .ref y4, .ref mZ])), (mY, .inl (cI, 2600, .inl eY_7)), (mB, .inl (cS, 131072, .inl eB)), (mW, .inl (cI, 300, .inl eWa))] := hDn
              have hS := hSn
              clear hPn hDn hSn
              obtain ⟨hwa9, hwb9, hwc9⟩ := wr_y (c := c8) hf7_3 (by omega) hww9
              have hwd9 := v_eq hwb9
              refine lv_if_eq (tgt := 98) hx hb dX12_isChoice_85 (by decide) (fun c_8 => by exfalso; have tc_8 : r_7.toInt = 0 := v_eq c_8; omega) (fun c_8 => ?_)
              have tc_8 : ¬ r_7.toInt = 0 := v_ne c_8
              refine lv_aload_n hx hb dX12_isChoice_88 rfl (lv_at hl 1 rfl) ?_
              refine va_get (D := (dC, dI)) (ci := 12) (v := .int zn_7) (C := RX12) (T := TX12) (N := 40) hx hb hts in_X12 hown hK hP 4 rfl rfl 27 (by decide) (hts (.fieldLink RX12 91 "TextMenderModel" "byteMany" "I") (List.mem_of_getElem? (i := 5) rfl)) (fun _ h9 => h9) rfl dX12_isChoice_89 ?_
              refine lv_sipush (v := 900) hx hb dX12_isChoice_92 (by decide) ?_
              refine lv_icmp_le (tgt := 100) hx hb dX12_isChoice_95 (by decide) (fun c_9 => ?_) (fun c_9 => by exfalso; have tc_9 : 900 < zn_7.toInt := v_nle c_9; omega)
              have tc_9 : zn_7.toInt ≤ 900 := v_le c_9
              refine lv_aload_n hx hb dX12_isChoice_100 rfl (lv_at hl 1 rfl) ?_
              refine lv_iload_n hx hb dX12_isChoice_101 rfl (lv_at hl 3 rfl) ?_
              refine lv_iconst (v := 1) hx hb dX12_isChoice_102 (by decide) ?_
              have hPc := hP.sub (ws' := [(oM, .inr (12, [.ref mT, .int zt, .ref mS, .ref mX, .int zp, .int zf, .ref mL, .ref mB, .ref mD, .ref m1, .ref m2, .int zh, .ref mR, .int zr, .ref x1, .ref x2, .ref x3, .int zc, .ref mH, .int zy, .int za, .int zb, .int zs, .int zq, .int zw, .int ze, .ref mY, .int zn_7, .ref mE, .int zm_3, .int zl_7, .ref mW, .int zm_3, .ref mO, .int zd_3, .ref y1, .ref y2, .ref y3, .ref y4, .ref mZ])), (mY, .inl (cI, 2600, .inl eY_7)), (mL, .inl (cI, 512, .inl eL)), (mE, .inl (cI, 2600, .inl eE_3))]) [4, 5, 2, 3] rfl
              have hDc := hD.sub (ws' := [(oM, .inr (12, [.ref mT, .int zt, .ref mS, .ref mX, .int zp, .int zf, .ref mL, .ref mB, .ref mD, .ref m1, .ref m2, .int zh, .ref mR, .int zr, .ref x1, .ref x2, .ref x3, .int zc, .ref mH, .int zy, .int za, .int zb, .int zs, .int zq, .int zw, .int ze, .ref mY, .int zn_7, .ref mE, .int zm_3, .int zl_7, .ref mW, .int zm_3, .ref mO, .int zd_3, .ref y1, .ref y2, .ref y3, .ref y4, .ref mZ])), (mY, .inl (cI, 2600, .inl eY_7)), (mL, .inl (cI, 512, .inl eL)), (mE, .inl (cI, 2600, .inl eE_3))]) [4, 5, 2, 3] (by decide +kernel) rfl
              have hFc := va_free (wc := [(oM, .inr (12, [.ref mT, .int zt, .ref mS, .ref mX, .int zp, .int zf, .ref mL, .ref mB, .ref mD, .ref m1, .ref m2, .int zh, .ref mR, .int zr, .ref x1, .ref x2, .ref x3, .int zc, .ref mH, .int zy, .int za, .int zb, .int zs, .int zq, .int zw, .int ze, .ref mY, .int zn_7, .ref mE, .int zm_3, .int zl_7, .ref mW, .int zm_3, .ref mO, .int zd_3, .ref y1, .ref y2, .ref y3, .ref y4, .ref mZ])), (mY, .inl (cI, 2600, .inl eY_7)), (mL, .inl (cI, 512, .inl eL)), (mE, .inl (cI, 2600, .inl eE_3))]) hD hS hA [4, 5, 2, 3] rfl
              refine va_calli (va_runV (As := [.int b, .int 1]) (rest := []) ⟨hx, hb, hml, hown, hts⟩ (f_X12_readR l dC dI cI cS H.size oM mT mS mX mL mB mD m1 m2 mR x1 x2 x3 mH mY mE mW mO y1 y2 y3 y4 mZ zt zp zf zh zr zc zy za zb zs zq zw ze zn_7 zm_3 zl_7 zm_3 zd_3 eY_7 eL eE_3 b 1 (g_zt) (g_zp) (g_zf) (g_zh) (g_zr) (g_zc) (g_zy) (g_za) (g_zb) (g_zs) (g_zq) (hf7_0) (hf3_0) (by omega) (hf7_1) (g_eL) (hf3_1) (g_b) (rfl)) (cwV 2 hts gX12_isChoice_X12_read rfl rfl rfl (by decide +kernel) ⟨Nat.le_of_ble_eq_true rfl, Nat.le_of_ble_eq_true rfl⟩) ⟨fun a U g mk q => by obtain ⟨q0, q1, qP, qK, qD⟩ := q; exact ⟨q0, q1, qP, va_K.moved (u := U) (U := U.calling g mk a) (Vm.Alike.refl U.vm) qK, qD⟩, va_recv hK hPc (ci := 12) (q0 := 0) rfl rfl, fun U hU hW => ⟨rfl, by rw [hU], by rw [hU]; exact hPc, va_K.moved hW.alike hK, hDc.weaken (fun _ _ _ _ => trivial)⟩⟩ rfl rfl hl.1 rfl (lv_room (Nat.le_of_ble_eq_true rfl)) dX12_isChoice_103 ⟨Nat.le_of_ble_eq_true rfl, Nat.le_of_ble_eq_true rfl⟩) hS (fun q _ h => hFc q h) hFc (fun r_10 u t H1 locs ht hvm hw hB hz1 hk1 hSn => ?_)
              subst hw
              obtain ⟨zd_10, zm_10, zl_10, eE_10, hP1, hD1, hf10_0, hf10_1, hf10_2, hf10_3, hf10_4⟩ := hB
              rw [ht] at hP1
              obtain ⟨hPn, hDn⟩ := va_join (wr := [(mS, .inl (cI, 21, .inl eS)), (mX, .inl (cI, 6300, .inl eX)), (mB, .inl (cS, 131072, .inl eB)), (mW, .inl (cI, 300, .inl eWa))]) (w1 := [(oM, .inr (12, [.ref mT, .int zt, .ref mS, .ref mX, .int zp, .int zf, .ref mL, .ref mB, .ref mD, .ref m1, .ref m2, .int zh, .ref mR, .int zr, .ref x1, .ref x2, .ref x3, .int zc, .ref mH, .int zy, .int za, .int zb, .int zs, .int zq, .int zw, .int ze, .ref mY, .int zn_7, .ref mE, .int zm_10, .int zl_10, .ref mW, .int zm_3, .ref mO, .int zd_10, .ref y1, .ref y2, .ref y3, .ref y4, .ref mZ])), (mY, .inl (cI, 2600, .inl eY_7)), (mL, .inl (cI, 512, .inl eL)), (mE, .inl (cI, 2600, .inl eE_10))]) hP hD [4, 5, 2, 3] [0, 1, 6, 7] rfl rfl (by decide +kernel) (by decide +kernel) hk1 hFc hP1 hD1
              clear hP hD hS hPc hDc hFc hk1 hz1 hvm ht hP1 hD1
              generalize H1 = H at hPn hSn ⊢
              have hP : va_P (dC, dI) vwCl [(mS, .inl (cI, 21, .inl eS)), (mX, .inl (cI, 6300, .inl eX)), (mB, .inl (cS, 131072, .inl eB)), (mW, .inl (cI, 300, .inl eWa)), (oM, .inr (12, [.ref mT, .int zt, .ref mS, .ref mX, .int zp, .int zf, .ref mL, .ref mB, .ref mD, .ref m1, .ref m2, .int zh, .ref mR, .int zr, .ref x1, .ref x2, .ref x3, .int zc, .ref mH, .int zy, .int za, .int zb, .int zs, .int zq, .int zw, .int ze, .ref mY, .int zn_7, .ref mE, .int zm_10, .int zl_10, .ref mW, .int zm_3, .ref mO, .int zd_10, .ref y1, .ref y2, .ref y3, .ref y4, .ref mZ])), (mY, .inl (cI, 2600, .inl eY_7)), (mL, .inl (cI, 512, .inl eL)), (mE, .inl (cI, 2600, .inl eE_10))] H := hPn
              have hD : va_D A [(mS, .inl (cI, 21, .inl eS)), (mX, .inl (cI, 6300, .inl eX)), (mB, .inl (cS, 131072, .inl eB)), (mW, .inl (cI, 300, .inl eWa)), (oM, .inr (12, [.ref mT, .int zt, .ref mS, .ref mX, .int zp, .int zf, .ref mL, .ref mB, .ref mD, .ref m1, .ref m2, .int zh, .ref mR, .int zr, .ref x1, .ref x2, .ref x3, .int zc, .ref mH, .int zy, .int za, .int zb, .int zs, .int zq, .int zw, .int ze, .ref mY, .int zn_7, .ref mE, .int zm_10, .int zl_10, .ref mW, .int zm_3, .ref mO, .int zd_10, .ref y1, .ref y2, .ref y3, .ref y4, .ref mZ])), (mY, .inl (cI, 2600, .inl eY_7)), (mL, .inl (cI, 512, .inl eL)), (mE, .inl (cI, 2600, .inl eE_10))] := hDn
              have hS := hSn
              clear hPn hDn hSn
              have hrf9 : F_r2 zm_10 eE_10 (dl b (fun k => eL k) (fun k => eL (256 + k)) eY_1 zn_1.toInt) (dx b (fun k => eL k) (fun k => eL (256 + k)) eY_1 zn_1.toInt) zn_1.toInt := F_r2_cg hwc9 (fun j hj => by rw [hwc9 j hj]; exact hbb9 j hj) (by have q9 := hf10_4; rw [hwb9] at q9; exact q9)
              refine lv_pop hx hb dX12_isChoice_106 rfl ?_
              refine lv_aload_n hx hb dX12_isChoice_107 rfl (lv_at hl 1 rfl) ?_
              refine va_get (D := (dC, dI)) (ci := 12) (v := .int zm_10) (C := RX12) (T := TX12) (N := 40) hx hb hts in_X12 hown hK hP 4 rfl rfl 29 (by decide) (hts (.fieldLink RX12 119 "TextMenderModel" "cameMany" "I") (List.mem_of_getElem? (i := 1) rfl)) (fun _ h9 => h9) rfl dX12_isChoice_108 ?_
              refine lv_aload_n hx hb dX12_isChoice_111 rfl (lv_at hl 1 rfl) ?_
              refine va_get (D := (dC, dI)) (ci := 12) (v := .ref mS) (C := RX12) (T := TX12) (N := 40) hx hb hts in_X12 hown hK hP 4 rfl rfl 2 (by decide) (hts (.fieldLink RX12 13 "TextMenderModel" "sizes" "[I") (List.mem_of_getElem? (i := 6) rfl)) (fun _ h9 => h9) rfl dX12_isChoice_112 ?_
              refine lv_iconst (v := 0) hx hb dX12_isChoice_115 (by decide) ?_
              refine va_iald hx hb hK hP 0 0 rfl rfl (by unfold vp_in; decide) dX12_isChoice_116 ?_
              refine lv_topi (fun x_11 ex_11 => ?_)
              have tx_11 : 0 ≤ x_11.toInt ∧ x_11.toInt ≤ 300 := rg_at g_eS ex_11
              have hs9 : x_11.toInt = (eS 0).toInt := by rw [ex_11]; rfl
              refine lv_icmp_ne (tgt := 124) hx hb dX12_isChoice_117 (by decide) (fun c_12 => ?_) (fun c_12 => ?_)
              · have tc_12 : ¬ zm_10.toInt = x_11.toInt := v_ne c_12
                refine lv_iconst (v := 0) hx hb dX12_isChoice_124 (by decide) ?_
                refine lv_istore (lv' := [(5, .int 0), (0, .ref oM), (1, .int a), (2, .int b), (3, .int on), (4, .int tw)]) hx hb dX12_isChoice_125 hl (by decide) rfl (fun ls hl => ?_)
                refine lv_iconst (v := 0) hx hb dX12_isChoice_127 (by decide) ?_
                refine lv_istore (lv' := [(6, .int 0), (5, .int 0), (0, .ref oM), (1, .int a), (2, .int b), (3, .int on), (4, .int tw)]) hx hb dX12_isChoice_128 hl (by decide) rfl (fun ls hl => ?_)
                have LOOP_130 : ∀ (k_130 : Nat) (is : Int32) (k2 : Int32) (H : Heap) (locs : List Loc) (ls : Array Slot), MSd (2600 - k2.toInt : Int) k_130 → (0 ≤ is.toInt ∧ is.toInt ≤ 0) → (0 ≤ k2.toInt ∧ k2.toInt ≤ 2600) → va_P (dC, dI) vwCl [(mS, .inl (cI, 21, .inl eS)), (mX, .inl (cI, 6300, .inl eX)), (mB, .inl (cS, 131072, .inl eB)), (mW, .inl (cI, 300, .inl eWa)), (oM, .inr (12, [.ref mT, .int zt, .ref mS, .ref mX, .int zp, .int zf, .ref mL, .ref mB, .ref mD, .ref m1, .ref m2, .int zh, .ref mR, .int zr, .ref x1, .ref x2, .ref x3, .int zc, .ref mH, .int zy, .int za, .int zb, .int zs, .int zq, .int zw, .int ze, .ref mY, .int zn_7, .ref mE, .int zm_10, .int zl_10, .ref mW, .int zm_3, .ref mO, .int zd_10, .ref y1, .ref y2, .ref y3, .ref y4, .ref mZ])), (mY, .inl (cI, 2600, .inl eY_7)), (mL, .inl (cI, 512, .inl eL)), (mE, .inl (cI, 2600, .inl eE_10))] H → va_D A [(mS, .inl (cI, 21, .inl eS)), (mX, .inl (cI, 6300, .inl eX)), (mB, .inl (cS, 131072, .inl eB)), (mW, .inl (cI, 300, .inl eWa)), (oM, .inr (12, [.ref mT, .int zt, .ref mS, .ref mX, .int zp, .int zf, .ref mL, .ref mB, .ref mD, .ref m1, .ref m2, .int zh, .ref mR, .int zr, .ref x1, .ref x2, .ref x3, .int zc, .ref mH, .int zy, .int za, .int zb, .int zs, .int zq, .int zw, .int ze, .ref mY, .int zn_7, .ref mE, .int zm_10, .int zl_10, .ref mW, .int zm_3, .ref mO, .int zd_10, .ref y1, .ref y2, .ref y3, .ref y4, .ref mZ])), (mY, .inl (cI, 2600, .inl eY_7)), (mL, .inl (cI, 512, .inl eL)), (mE, .inl (cI, 2600, .inl eE_10))] → va_S A s.heap H locs → lv_has ls 7 [(6, .int k2), (5, .int is), (0, .ref oM), (1, .int a), (2, .int b), (3, .int on), (4, .int tw)] → W p l e (headSpec wsX12_isChoice ({ frames := 3, cells := 0, slots := 0, locals := 71 } : Room)).room s m ([.ref oM, .int a, .int b, .int on, .int tw] : List Value).toArray below meth c H locs 0 0 (MQ below QQ ([.ref oM, .int a, .int b, .int on, .int tw] : List Value).toArray s 0 0 A) (F0 m 130 ls []) := by
                  clear hP hD hS hl
                  intro k_130
                  induction k_130 with
                  | zero =>
                    intro is k2 H locs ls hm_130 g_is g_k2 hP hD hS hl
                    exact ms_0 hm_130
                  | succ k_130 ih_130 =>
                    intro is k2 H locs ls hm_130 g_is g_k2 hP hD hS hl
                    refine lv_iload hx hb dX12_isChoice_130 (lv_at hl 1 rfl) ?_
                    refine lv_if_eq (tgt := 174) hx hb dX12_isChoice_132 (by decide) (fun c_13 => ?_) (fun c_13 => by exfalso; have tc_13 : ¬ is.toInt = 0 := v_ne c_13; omega)
                    have tc_13 : is.toInt = 0 := v_eq c_13
                    refine lv_iload hx hb dX12_isChoice_174 (lv_at hl 1 rfl) ?_
                    have hP9 := hP.sub (ws' := [(oM, .inr (12, [.ref mT, .int zt, .ref mS, .ref mX, .int zp, .int zf, .ref mL, .ref mB, .ref mD, .ref m1, .ref m2, .int zh, .ref mR, .int zr, .ref x1, .ref x2, .ref x3, .int zc, .ref mH, .int zy, .int za, .int zb, .int zs, .int zq, .int zw, .int ze, .ref mY, .int zn_7, .ref mE, .int zm_10, .int zl_10, .ref mW, .int zm_3, .ref mO, .int zd_10, .ref y1, .ref y2, .ref y3, .ref y4, .ref mZ])), (mY, .inl (cI, 2600, .inl eY_7)), (mB, .inl (cS, 131072, .inl eB)), (mL, .inl (cI, 512, .inl eL)), (mE, .inl (cI, 2600, .inl eE_10)), (mW, .inl (cI, 300, .inl eWa)), (mS, .inl (cI, 21, .inl eS)), (mX, .inl (cI, 6300, .inl eX))]) [4, 5, 2, 6, 7, 3, 0, 1] rfl
                    have hD9 := hD.sub (ws' := [(oM, .inr (12, [.ref mT, .int zt, .ref mS, .ref mX, .int zp, .int zf, .ref mL, .ref mB, .ref mD, .ref m1, .ref m2, .int zh, .ref mR, .int zr, .ref x1, .ref x2, .ref x3, .int zc, .ref mH, .int zy, .int za, .int zb, .int zs, .int zq, .int zw, .int ze, .ref mY, .int zn_7, .ref mE, .int zm_10, .int zl_10, .ref mW, .int zm_3, .ref mO, .int zd_10, .ref y1, .ref y2, .ref y3, .ref y4, .ref mZ])), (mY, .inl (cI, 2600, .inl eY_7)), (mB, .inl (cS, 131072, .inl eB)), (mL, .inl (cI, 512, .inl eL)), (mE, .inl (cI, 2600, .inl eE_10)), (mW, .inl (cI, 300, .inl eWa)), (mS, .inl (cI, 21, .inl eS)), (mX, .inl (cI, 6300, .inl eX))]) [4, 5, 2, 6, 7, 3, 0, 1] (by decide +kernel) rfl
                    rw [hQQ]
                    exact W.zret (v := is) (ty := .boolean) hx hb hr (v_bool (by omega)) (fun t ht hW => ⟨⟨is, is, rfl, rfl, ⟨zn_7, eY_7, zd_10, zm_10, zl_10, eE_10, zm_3, eWa, by rw [ht]; exact hP9, hD9, hf7_0, hf7_1, hf10_0, hf10_1, by omega, g_eWa, by omega, ic_no hwr9 hx9 (okB_r g_eB) ⟨⟨by omega, by omega⟩, hmv9⟩ (by omega) (fun c9 r9 l9 => (ic_cnt hwr9 hbb9 hlz9 (okB_r g_eB) (hlb b) h2m hat9 hrf9).2 (by omega))⟩⟩, hS.F ht⟩) hS.2.2 dX12_isChoice_176
                exact LOOP_130 _ 0 0 _ _ _ (ms_s _) (by decide) (by decide) hP hD hS (lv_sub hl [0, 1, 2, 3, 4, 5, 6] rfl)
              · have tc_12 : zm_10.toInt = x_11.toInt := v_eq c_12
                have hcn9 := (ic_cnt hwr9 hbb9 hlz9 (okB_r g_eB) (hlb b) h2m hat9 hrf9).1 (by omega)
                have hzk9 : zm_3.toInt = (c8 : Int) := hzm9
                refine lv_iconst (v := 1) hx hb dX12_isChoice_120 (by decide) ?_
                refine lv_goto (tgt := 125) hx hb dX12_isChoice_121 (by decide) ?_
                refine lv_istore (lv' := [(5, .int 1), (0, .ref oM), (1, .int a), (2, .int b), (3, .int on), (4, .int tw)]) hx hb dX12_isChoice_125 hl (by decide) rfl (fun ls hl => ?_)
                refine lv_iconst (v := 0) hx hb dX12_isChoice_127 (by decide) ?_
                refine lv_istore (lv' := [(6, .int 0), (5, .int 1), (0, .ref oM), (1, .int a), (2, .int b), (3, .int on), (4, .int tw)]) hx hb dX12_isChoice_128 hl (by decide) rfl (fun ls hl => ?_)
                have LOOP_130 : ∀ (k_130 : Nat) (is : Int32) (k2 : Int32) (H : Heap) (locs : List Loc) (ls : Array Slot), MSd (2600 - k2.toInt : Int) k_130 → (1 ≤ is.toInt ∧ is.toInt ≤ 1) → (0 ≤ k2.toInt ∧ k2.toInt ≤ 2600) → va_P (dC, dI) vwCl [(mS, .inl (cI, 21, .inl eS)), (mX, .inl (cI, 6300, .inl eX)), (mB, .inl (cS, 131072, .inl eB)), (mW, .inl (cI, 300, .inl eWa)), (oM, .inr (12, [.ref mT, .int zt, .ref mS, .ref mX, .int zp, .int zf, .ref mL, .ref mB, .ref mD, .ref m1, .ref m2, .int zh, .ref mR, .int zr, .ref x1, .ref x2, .ref x3, .int zc, .ref mH, .int zy, .int za, .int zb, .int zs, .int zq, .int zw, .int ze, .ref mY, .int zn_7, .ref mE, .int zm_10, .int zl_10, .ref mW, .int zm_3, .ref mO, .int zd_10, .ref y1, .ref y2, .ref y3, .ref y4, .ref mZ])), (mY, .inl (cI, 2600, .inl eY_7)), (mL, .inl (cI, 512, .inl eL)), (mE, .inl (cI, 2600, .inl eE_10))] H → va_D A [(mS, .inl (cI, 21, .inl eS)), (mX, .inl (cI, 6300, .inl eX)), (mB, .inl (cS, 131072, .inl eB)), (mW, .inl (cI, 300, .inl eWa)), (oM, .inr (12, [.ref mT, .int zt, .ref mS, .ref mX, .int zp, .int zf, .ref mL, .ref mB, .ref mD, .ref m1, .ref m2, .int zh, .ref mR, .int zr, .ref x1, .ref x2, .ref x3, .int zc, .ref mH, .int zy, .int za, .int zb, .int zs, .int zq, .int zw, .int ze, .ref mY, .int zn_7, .ref mE, .int zm_10, .int zl_10, .ref mW, .int zm_3, .ref mO, .int zd_10, .ref y1, .ref y2, .ref y3, .ref y4, .ref mZ])), (mY, .inl (cI, 2600, .inl eY_7)), (mL, .inl (cI, 512, .inl eL)), (mE, .inl (cI, 2600, .inl eE_10))] → va_S A s.heap H locs → lv_has ls 7 [(6, .int k2), (5, .int is), (0, .ref oM), (1, .int a), (2, .int b), (3, .int on), (4, .int tw)] → W p l e (headSpec wsX12_isChoice ({ frames := 3, cells := 0, slots := 0, locals := 71 } : Room)).room s m ([.ref oM, .int a, .int b, .int on, .int tw] : List Value).toArray below meth c H locs 0 0 (MQ below QQ ([.ref oM, .int a, .int b, .int on, .int tw] : List Value).toArray s 0 0 A) (F0 m 130 ls []) := by
                  clear hP hD hS hl
                  intro k_130
                  induction k_130 with
                  | zero =>
                    intro is k2 H locs ls hm_130 g_is g_k2 hP hD hS hl
                    exact ms_0 hm_130
                  | succ k_130 ih_130 =>
                    intro is k2 H locs ls hm_130 g_is g_k2 hP hD hS hl
                    refine lv_iload hx hb dX12_isChoice_130 (lv_at hl 1 rfl) ?_
                    refine lv_if_eq (tgt := 174) hx hb dX12_isChoice_132 (by decide) (fun c_14 => by exfalso; have tc_14 : is.toInt = 0 := v_eq c_14; omega) (fun c_14 => ?_)
                    have tc_14 : ¬ is.toInt = 0 := v_ne c_14
                    refine lv_iload hx hb dX12_isChoice_135 (lv_at hl 0 rfl) ?_
                    refine lv_aload_n hx hb dX12_isChoice_137 rfl (lv_at hl 2 rfl) ?_
                    refine va_get (D := (dC, dI)) (ci := 12) (v := .int zm_10) (C := RX12) (T := TX12) (N := 40) hx hb hts in_X12 hown hK hP 4 rfl rfl 29 (by decide) (hts (.fieldLink RX12 119 "TextMenderModel" "cameMany" "I") (List.mem_of_getElem? (i := 1) rfl)) (fun _ h9 => h9) rfl dX12_isChoice_138 ?_
                    refine lv_icmp_ge (tgt := 174) hx hb dX12_isChoice_141 (by decide) (fun c_15 => ?_) (fun c_15 => ?_)
                    · have tc_15 : zm_10.toInt ≤ k2.toInt := v_le c_15
                      refine lv_iload hx hb dX12_isChoice_174 (lv_at hl 1 rfl) ?_
                      have hP9 := hP.sub (ws' := [(oM, .inr (12, [.ref mT, .int zt, .ref mS, .ref mX, .int zp, .int zf, .ref mL, .ref mB, .ref mD, .ref m1, .ref m2, .int zh, .ref mR, .int zr, .ref x1, .ref x2, .ref x3, .int zc, .ref mH, .int zy, .int za, .int zb, .int zs, .int zq, .int zw, .int ze, .ref mY, .int zn_7, .ref mE, .int zm_10, .int zl_10, .ref mW, .int zm_3, .ref mO, .int zd_10, .ref y1, .ref y2, .ref y3, .ref y4, .ref mZ])), (mY, .inl (cI, 2600, .inl eY_7)), (mB, .inl (cS, 131072, .inl eB)), (mL, .inl (cI, 512, .inl eL)), (mE, .inl (cI, 2600, .inl eE_10)), (mW, .inl (cI, 300, .inl eWa)), (mS, .inl (cI, 21, .inl eS)), (mX, .inl (cI, 6300, .inl eX))]) [4, 5, 2, 6, 7, 3, 0, 1] rfl
                      have hD9 := hD.sub (ws' := [(oM, .inr (12, [.ref mT, .int zt, .ref mS, .ref mX, .int zp, .int zf, .ref mL, .ref mB, .ref mD, .ref m1, .ref m2, .int zh, .ref mR, .int zr, .ref x1, .ref x2, .ref x3, .int zc, .ref mH, .int zy, .int za, .int zb, .int zs, .int zq, .int zw, .int ze, .ref mY, .int zn_7, .ref mE, .int zm_10, .int zl_10, .ref mW, .int zm_3, .ref mO, .int zd_10, .ref y1, .ref y2, .ref y3, .ref y4, .ref mZ])), (mY, .inl (cI, 2600, .inl eY_7)), (mB, .inl (cS, 131072, .inl eB)), (mL, .inl (cI, 512, .inl eL)), (mE, .inl (cI, 2600, .inl eE_10)), (mW, .inl (cI, 300, .inl eWa)), (mS, .inl (cI, 21, .inl eS)), (mX, .inl (cI, 6300, .inl eX))]) [4, 5, 2, 6, 7, 3, 0, 1] (by decide +kernel) rfl
                      rw [hQQ]
                      exact W.zret (v := is) (ty := .boolean) hx hb hr (v_bool (by omega)) (fun t ht hW => ⟨⟨is, is, rfl, rfl, ⟨zn_7, eY_7, zd_10, zm_10, zl_10, eE_10, zm_3, eWa, by rw [ht]; exact hP9, hD9, hf7_0, hf7_1, hf10_0, hf10_1, by omega, g_eWa, by omega, ic_yes hwr9 (by omega) hzk9 hcn9.1 hrd9 (by omega) hcw9⟩⟩, hS.F ht⟩) hS.2.2 dX12_isChoice_176
                    · have tc_15 : k2.toInt < zm_10.toInt := v_nle c_15
                      refine lv_aload_n hx hb dX12_isChoice_144 rfl (lv_at hl 2 rfl) ?_
                      refine va_get (D := (dC, dI)) (ci := 12) (v := .ref mE) (C := RX12) (T := TX12) (N := 40) hx hb hts in_X12 hown hK hP 4 rfl rfl 28 (by decide) (hts (.fieldLink RX12 61 "TextMenderModel" "came" "[I") (List.mem_of_getElem? (i := 4) rfl)) (fun _ h9 => h9) rfl dX12_isChoice_145 ?_
                      refine lv_iload hx hb dX12_isChoice_148 (lv_at hl 0 rfl) ?_
                      refine va_iald hx hb hK hP 7 0 rfl rfl (v_in (by omega)) dX12_isChoice_150 ?_
                      refine lv_topi (fun x_16 ex_16 => ?_)
                      have tx_16 : 0 ≤ x_16.toInt ∧ x_16.toInt ≤ 65535 := rg_at hf10_1 ex_16
                      refine lv_aload_n hx hb dX12_isChoice_151 rfl (lv_at hl 2 rfl) ?_
                      refine va_get (D := (dC, dI)) (ci := 12) (v := .ref mX) (C := RX12) (T := TX12) (N := 40) hx hb hts in_X12 hown hK hP 4 rfl rfl 3 (by decide) (hts (.fieldLink RX12 16 "TextMenderModel" "texts" "[I") (List.mem_of_getElem? (i := 7) rfl)) (fun _ h9 => h9) rfl dX12_isChoice_152 ?_
                      refine lv_iload hx hb dX12_isChoice_155 (lv_at hl 0 rfl) ?_
                      refine va_iald hx hb hK hP 1 0 rfl rfl (v_in (by omega)) dX12_isChoice_157 ?_
                      refine lv_topi (fun x_17 ex_17 => ?_)
                      have tx_17 : 0 ≤ x_17.toInt ∧ x_17.toInt ≤ 65535 := rg_at g_eX ex_17
                      have hxy9 : x_16.toInt = x_17.toInt := by rw [ex_16, ex_17, hcn9.2 k2.toNatClampNeg (by have c9 := v_clamp (x := k2) (by omega); omega)]
                      refine lv_icmp_ne (tgt := 165) hx hb dX12_isChoice_158 (by decide) (fun c_18 => by exfalso; have tc_18 : ¬ x_16.toInt = x_17.toInt := v_ne c_18; omega) (fun c_18 => ?_)
                      have tc_18 : x_16.toInt = x_17.toInt := v_eq c_18
                      refine lv_iconst (v := 1) hx hb dX12_isChoice_161 (by decide) ?_
                      refine lv_goto (tgt := 166) hx hb dX12_isChoice_162 (by decide) ?_
                      refine lv_istore (lv' := [(5, .int 1), (6, .int k2), (0, .ref oM), (1, .int a), (2, .int b), (3, .int on), (4, .int tw)]) hx hb dX12_isChoice_166 hl (by decide) rfl (fun ls hl => ?_)
                      obtain ⟨x_19, ex_19⟩ : ∃ y : Int32, y = k2 + 1 := ⟨_, rfl⟩
                      have tx_19 : x_19.toInt = k2.toInt + 1 := v_add ex_19 (by show -2147483648 ≤ k2.toInt + 1; omega) (by show k2.toInt + 1 < 2147483648; omega)
                      refine lv_iinc (v := x_19) (lv' := [(6, .int x_19), (5, .int 1), (0, .ref oM), (1, .int a), (2, .int b), (3, .int on), (4, .int tw)]) hx hb dX12_isChoice_168 hl (k := 1) rfl (by rw [ex_19]; rfl) (by decide) rfl (fun ls hl => ?_)
                      refine lv_goto (tgt := 130) hx hb dX12_isChoice_171 (by decide) ?_
                      exact ih_130 1 x_19 _ _ _ (ms_lt hm_130 (by show ((2600 - x_19.toInt : Int)) < 2600 - k2.toInt; omega) (by show (0 : Int) < 2600 - k2.toInt; omega)) (by decide) (by show 0 ≤ x_19.toInt ∧ x_19.toInt ≤ 2600; omega) hP hD hS (lv_sub hl [0, 1, 2, 3, 4, 5, 6] rfl)
                exact LOOP_130 _ 1 0 _ _ _ (ms_s _) (by decide) (by decide) hP hD hS (lv_sub hl [0, 1, 2, 3, 4, 5, 6] rfl)
            · have tc_6 : k.toInt < zm_3.toInt := v_nle c_6
              refine lv_aload_n hx hb dX12_isChoice_52 rfl (lv_at hl 1 rfl) ?_
              refine va_get (D := (dC, dI)) (ci := 12) (v := .ref mW) (C := RX12) (T := TX12) (N := 40) hx hb hts in_X12 hown hK hP 4 rfl rfl 31 (by decide) (hts (.fieldLink RX12 64 "TextMenderModel" "work" "[I") (List.mem_of_getElem? (i := 3) rfl)) (fun _ h9 => h9) rfl dX12_isChoice_53 ?_
              refine lv_iload hx hb dX12_isChoice_56 (lv_at hl 0 rfl) ?_
              refine lv_aload_n hx hb dX12_isChoice_58 rfl (lv_at hl 1 rfl) ?_
              refine va_get (D := (dC, dI)) (ci := 12) (v := .ref mE) (C := RX12) (T := TX12) (N := 40) hx hb hts in_X12 hown hK hP 4 rfl rfl 28 (by decide) (hts (.fieldLink RX12 61 "TextMenderModel" "came" "[I") (List.mem_of_getElem? (i := 4) rfl)) (fun _ h9 => h9) rfl dX12_isChoice_59 ?_
              refine lv_iload hx hb dX12_isChoice_62 (lv_at hl 0 rfl) ?_
              refine va_iald hx hb hK hP 7 0 rfl rfl (v_in (by omega)) dX12_isChoice_64 ?_
              refine lv_topi (fun x_20 ex_20 => ?_)
              have tx_20 : 0 ≤ x_20.toInt ∧ x_20.toInt ≤ 65535 := rg_at hf3_1 ex_20
              refine va_iast hx hb hK hP hD hS 0 0 rfl rfl (v_in (by omega)) dX12_isChoice_65 (fun H locs hPn hDn hSn => ?_)
              clear hP hD hS
              have hP : va_P (dC, dI) vwCl [(mW, .inl (cI, 300, .inl (upd eWa (k : Int32).toNatClampNeg x_20))), (mB, .inl (cS, 131072, .inl eB)), (mS, .inl (cI, 21, .inl eS)), (mX, .inl (cI, 6300, .inl eX)), (oM, .inr (12, [.ref mT, .int zt, .ref mS, .ref mX, .int zp, .int zf, .ref mL, .ref mB, .ref mD, .ref m1, .ref m2, .int zh, .ref mR, .int zr, .ref x1, .ref x2, .ref x3, .int zc, .ref mH, .int zy, .int za, .int zb, .int zs, .int zq, .int zw, .int ze, .ref mY, .int zn_1, .ref mE, .int zm_3, .int zl_3, .ref mW, .int zm_3, .ref mO, .int zd_3, .ref y1, .ref y2, .ref y3, .ref y4, .ref mZ])), (mY, .inl (cI, 2600, .inl eY_1)), (mL, .inl (cI, 512, .inl eL)), (mE, .inl (cI, 2600, .inl eE_3))] H := hPn
              have hD : va_D A [(mW, .inl (cI, 300, .inl (upd eWa (k : Int32).toNatClampNeg x_20))), (mB, .inl (cS, 131072, .inl eB)), (mS, .inl (cI, 21, .inl eS)), (mX, .inl (cI, 6300, .inl eX)), (oM, .inr (12, [.ref mT, .int zt, .ref mS, .ref mX, .int zp, .int zf, .ref mL, .ref mB, .ref mD, .ref m1, .ref m2, .int zh, .ref mR, .int zr, .ref x1, .ref x2, .ref x3, .int zc, .ref mH, .int zy, .int za, .int zb, .int zs, .int zq, .int zw, .int ze, .ref mY, .int zn_1, .ref mE, .int zm_3, .int zl_3, .ref mW, .int zm_3, .ref mO, .int zd_3, .ref y1, .ref y2, .ref y3, .ref y4, .ref mZ])), (mY, .inl (cI, 2600, .inl eY_1)), (mL, .inl (cI, 512, .inl eL)), (mE, .inl (cI, 2600, .inl eE_3))] := hDn
              have hS := hSn
              clear hPn hDn hSn
              obtain ⟨f_21, ef_21⟩ : ∃ g : Nat → Int32, g = upd eWa (k : Int32).toNatClampNeg x_20 := ⟨_, rfl⟩
              rw [← ef_21] at hP hD
              have g_f21 : rg 0 65535 f_21 := rg_upd ef_21 g_eWa (by omega)
              obtain ⟨x_22, ex_22⟩ : ∃ y : Int32, y = k + 1 := ⟨_, rfl⟩
              have tx_22 : x_22.toInt = k.toInt + 1 := v_add ex_22 (by show -2147483648 ≤ k.toInt + 1; omega) (by show k.toInt + 1 < 2147483648; omega)
              refine lv_iinc (v := x_22) (lv' := [(5, .int x_22), (0, .ref oM), (1, .int a), (2, .int b), (3, .int on), (4, .int tw)]) hx hb dX12_isChoice_66 hl (k := 0) rfl (by rw [ex_22]; rfl) (by decide) rfl (fun ls hl => ?_)
              refine lv_goto (tgt := 43) hx hb dX12_isChoice_69 (by decide) ?_
              exact ih_43 x_22 f_21 _ _ _ (ms_lt hm_43 (by show ((300 - x_22.toInt : Int)) < 300 - k.toInt; omega) (by show (0 : Int) < 300 - k.toInt; omega)) (by show 0 ≤ x_22.toInt ∧ x_22.toInt ≤ 300; omega) (g_f21) (by show x_22.toInt ≤ zm_3.toInt; omega) (cpE_s hcp ex_20 ef_21 (by omega) (by omega)) hP hD hS (lv_sub hl [0, 1, 2, 3, 4, 5] rfl)
        exact LOOP_43 _ 0 eW _ _ _ (ms_s _) (by decide) (g_eW) (by show 0 ≤ zm_3.toInt; omega) (cpE_0 (by decide)) hP hD hS (lv_sub hl [0, 1, 2, 3, 4, 5] rfl)
      · have tc_5 : 300 < zm_3.toInt := v_nle c_5
        refine lv_iconst (v := 0) hx hb dX12_isChoice_30 (by decide) ?_
        have hP9 := hP.sub (ws' := [(oM, .inr (12, [.ref mT, .int zt, .ref mS, .ref mX, .int zp, .int zf, .ref mL, .ref mB, .ref mD, .ref m1, .ref m2, .int zh, .ref mR, .int zr, .ref x1, .ref x2, .ref x3, .int zc, .ref mH, .int zy, .int za, .int zb, .int zs, .int zq, .int zw, .int ze, .ref mY, .int zn_1, .ref mE, .int zm_3, .int zl_3, .ref mW, .int zk, .ref mO, .int zd_3, .ref y1, .ref y2, .ref y3, .ref y4, .ref mZ])), (mY, .inl (cI, 2600, .inl eY_1)), (mB, .inl (cS, 131072, .inl eB)), (mL, .inl (cI, 512, .inl eL)), (mE, .inl (cI, 2600, .inl eE_3)), (mW, .inl (cI, 300, .inl eW)), (mS, .inl (cI, 21, .inl eS)), (mX, .inl (cI, 6300, .inl eX))]) [4, 5, 1, 6, 7, 0, 2, 3] rfl
        have hD9 := hD.sub (ws' := [(oM, .inr (12, [.ref mT, .int zt, .ref mS, .ref mX, .int zp, .int zf, .ref mL, .ref mB, .ref mD, .ref m1, .ref m2, .int zh, .ref mR, .int zr, .ref x1, .ref x2, .ref x3, .int zc, .ref mH, .int zy, .int za, .int zb, .int zs, .int zq, .int zw, .int ze, .ref mY, .int zn_1, .ref mE, .int zm_3, .int zl_3, .ref mW, .int zk, .ref mO, .int zd_3, .ref y1, .ref y2, .ref y3, .ref y4, .ref mZ])), (mY, .inl (cI, 2600, .inl eY_1)), (mB, .inl (cS, 131072, .inl eB)), (mL, .inl (cI, 512, .inl eL)), (mE, .inl (cI, 2600, .inl eE_3)), (mW, .inl (cI, 300, .inl eW)), (mS, .inl (cI, 21, .inl eS)), (mX, .inl (cI, 6300, .inl eX))]) [4, 5, 1, 6, 7, 0, 2, 3] (by decide +kernel) rfl
        rw [hQQ]
        exact W.zret (v := 0) (ty := .boolean) hx hb hr (rfl) (fun t ht hW => ⟨⟨0, 0, rfl, rfl, ⟨zn_1, eY_1, zd_3, zm_3, zl_3, eE_3, zk, eW, by rw [ht]; exact hP9, hD9, hf1_0, hf1_1, hf3_0, hf3_1, g_zk, g_eW, by decide, ic_no hwr9 hx9 (okB_r g_eB) ⟨⟨by omega, by omega⟩, hmv9⟩ rfl (ic_rr hf3_4 (by omega))⟩⟩, hS.F ht⟩) hS.2.2 dX12_isChoice_31

end

/-! 5s.a.rows -/
section
theorem dX12_choices_0 : decode cX12_choices 0 = .ok (.aload_n 0, 1) := by decide +kernel
theorem dX12_choices_1 : decode cX12_choices 1 = .ok (.iconst 0, 1) := by decide +kernel
theorem dX12_choices_2 : decode cX12_choices 2 = .ok (.putfield 85, 3) := by decide +kernel
theorem dX12_choices_5 : decode cX12_choices 5 = .ok (.aload_n 0, 1) := by decide +kernel
theorem dX12_choices_6 : decode cX12_choices 6 = .ok (.iconst (-1), 1) := by decide +kernel
theorem dX12_choices_7 : decode cX12_choices 7 = .ok (.putfield 55, 3) := by decide +kernel
theorem dX12_choices_10 : decode cX12_choices 10 = .ok (.aload_n 0, 1) := by decide +kernel
set_option maxRecDepth 20000 in
theorem ggX12_choices_X12_marksOf : GoodIn wsX12_choices wsX12_marksOf := goodIn_r _ [17, 3, 18, 19, 90, 91, 92, 93, 94, 95, 96, 97, 98, 99, 100, 101, 102, 103, 104, 105, 106, 107, 108, 109, 110, 111, 112, 113, 114, 115, 116, 117, 118, 119, 120, 121, 122, 123, 124, 125, 126, 127, 128, 129] rfl (by decide +kernel)
set_option maxRecDepth 20000 in
theorem gX12_choices_X12_marksOf : GoodIn wsX12_choices (wsV RX12 164 RX12 yX12_marksOf wsX12_marksOf) := goodIn_app (goodIn_r _ [13, 14, 15, 16] rfl (by decide +kernel)) ggX12_choices_X12_marksOf
theorem dX12_choices_11 : decode cX12_choices 11 = .ok (.invokevirtual 164, 3) := by decide +kernel
theorem dX12_choices_14 : decode cX12_choices 14 = .ok (.istore_n 3, 1) := by decide +kernel
theorem dX12_choices_15 : decode cX12_choices 15 = .ok (.iload_n 3, 1) := by decide +kernel
theorem dX12_choices_16 : decode cX12_choices 16 = .ok (.iconst 1, 1) := by decide +kernel
theorem dX12_choices_17 : decode cX12_choices 17 = .ok (.if_icmp .lt 33, 3) := by decide +kernel
theorem dX12_choices_50 : decode cX12_choices 50 = .ok (.iconst (-1), 1) := by decide +kernel
theorem dX12_choices_51 : decode cX12_choices 51 = .ok (.ireturn, 1) := by decide +kernel
theorem dX12_choices_20 : decode cX12_choices 20 = .ok (.iload_n 3, 1) := by decide +kernel
theorem dX12_choices_21 : decode cX12_choices 21 = .ok (.iconst 2, 1) := by decide +kernel
theorem dX12_choices_22 : decode cX12_choices 22 = .ok (.if_icmp .gt 28, 3) := by decide +kernel
theorem dX12_choices_25 : decode cX12_choices 25 = .ok (.iload_n 1, 1) := by decide +kernel
set_option maxRecDepth 20000 in
theorem ggX12_choices_X12_isCode : GoodIn wsX12_choices wsX12_isCode := goodIn_r _ [22] rfl (by decide +kernel)
set_option maxRecDepth 20000 in
theorem gX12_choices_X12_isCode : GoodIn wsX12_choices (va_wsS RX12 158 yX12_isCode wsX12_isCode) := goodIn_app (goodIn_r _ [20, 21, 16] rfl (by decide +kernel)) ggX12_choices_X12_isCode
theorem dX12_choices_26 : decode cX12_choices 26 = .ok (.invokestatic 158, 3) := by decide +kernel
theorem dX12_choices_29 : decode cX12_choices 29 = .ok (.ifCond .eq 21, 3) := by decide +kernel
theorem dX12_choices_32 : decode cX12_choices 32 = .ok (.iload_n 2, 1) := by decide +kernel
theorem dX12_choices_33 : decode cX12_choices 33 = .ok (.invokestatic 158, 3) := by decide +kernel
theorem dX12_choices_36 : decode cX12_choices 36 = .ok (.ifCond .eq 14, 3) := by decide +kernel
theorem dX12_choices_39 : decode cX12_choices 39 = .ok (.aload_n 0, 1) := by decide +kernel
theorem dX12_choices_40 : decode cX12_choices 40 = .ok (.getfield 13, 3) := by decide +kernel
theorem dX12_choices_43 : decode cX12_choices 43 = .ok (.iconst 0, 1) := by decide +kernel
theorem dX12_choices_44 : decode cX12_choices 44 = .ok (.iaload, 1) := by decide +kernel
theorem dX12_choices_45 : decode cX12_choices 45 = .ok (.bipush 100, 2) := by decide +kernel
theorem dX12_choices_47 : decode cX12_choices 47 = .ok (.if_icmp .le 5, 3) := by decide +kernel
theorem dX12_choices_52 : decode cX12_choices 52 = .ok (.aload_n 0, 1) := by decide +kernel
theorem dX12_choices_53 : decode cX12_choices 53 = .ok (.iload_n 2, 1) := by decide +kernel
theorem dX12_choices_54 : decode cX12_choices 54 = .ok (.iconst 0, 1) := by decide +kernel
theorem dX12_choices_55 : decode cX12_choices 55 = .ok (.iconst 0, 1) := by decide +kernel
set_option maxRecDepth 20000 in
theorem ggX12_choices_X12_writeWith : GoodIn wsX12_choices wsX12_writeWith := goodIn_r _ [26, 27, 3, 18, 19, 4, 28, 29, 30, 16, 31, 32, 33, 34, 35, 36, 37, 38, 90, 91, 92, 93, 94, 95, 96, 97, 98, 99, 100, 101, 102, 103, 104, 105, 106, 107, 108, 109, 110, 111, 112, 113, 114, 115, 116, 117, 118, 119, 120, 121, 122, 123, 124, 125, 126, 127, 128, 129] rfl (by decide +kernel)
set_option maxRecDepth 20000 in
theorem gX12_choices_X12_writeWith : GoodIn wsX12_choices (wsV RX12 203 RX12 yX12_writeWith wsX12_writeWith) := goodIn_app (goodIn_r _ [23, 24, 25, 16] rfl (by decide +kernel)) ggX12_choices_X12_writeWith
theorem dX12_choices_56 : decode cX12_choices 56 = .ok (.invokevirtual 203, 3) := by decide +kernel
theorem dX12_choices_59 : decode cX12_choices 59 = .ok (.ifCond .ne 13, 3) := by decide +kernel
theorem dX12_choices_72 : decode cX12_choices 72 = .ok (.iconst 0, 1) := by decide +kernel
theorem dX12_choices_73 : decode cX12_choices 73 = .ok (.istore 4, 2) := by decide +kernel
theorem dX12_choices_75 : decode cX12_choices 75 = .ok (.iconst 0, 1) := by decide +kernel
theorem dX12_choices_76 : decode cX12_choices 76 = .ok (.istore 5, 2) := by decide +kernel
theorem dX12_choices_78 : decode cX12_choices 78 = .ok (.iload 5, 2) := by decide +kernel
theorem dX12_choices_80 : decode cX12_choices 80 = .ok (.sipush 256, 3) := by decide +kernel
theorem dX12_choices_83 : decode cX12_choices 83 = .ok (.if_icmp .ge 285, 3) := by decide +kernel
theorem dX12_choices_368 : decode cX12_choices 368 = .ok (.aload_n 0, 1) := by decide +kernel
theorem dX12_choices_369 : decode cX12_choices 369 = .ok (.iload 4, 2) := by decide +kernel
theorem dX12_choices_371 : decode cX12_choices 371 = .ok (.putfield 213, 3) := by decide +kernel
theorem dX12_choices_374 : decode cX12_choices 374 = .ok (.aload_n 0, 1) := by decide +kernel
theorem dX12_choices_375 : decode cX12_choices 375 = .ok (.iload_n 1, 1) := by decide +kernel
theorem dX12_choices_376 : decode cX12_choices 376 = .ok (.putfield 216, 3) := by decide +kernel
theorem dX12_choices_379 : decode cX12_choices 379 = .ok (.aload_n 0, 1) := by decide +kernel
theorem dX12_choices_380 : decode cX12_choices 380 = .ok (.iload_n 2, 1) := by decide +kernel
theorem dX12_choices_381 : decode cX12_choices 381 = .ok (.putfield 219, 3) := by decide +kernel
theorem dX12_choices_384 : decode cX12_choices 384 = .ok (.aload_n 0, 1) := by decide +kernel
theorem dX12_choices_385 : decode cX12_choices 385 = .ok (.aload_n 0, 1) := by decide +kernel
theorem dX12_choices_386 : decode cX12_choices 386 = .ok (.getfield 148, 3) := by decide +kernel
theorem dX12_choices_389 : decode cX12_choices 389 = .ok (.putfield 51, 3) := by decide +kernel
theorem dX12_choices_392 : decode cX12_choices 392 = .ok (.iload 4, 2) := by decide +kernel
theorem dX12_choices_394 : decode cX12_choices 394 = .ok (.ireturn, 1) := by decide +kernel
theorem dX12_choices_86 : decode cX12_choices 86 = .ok (.iconst 0, 1) := by decide +kernel
theorem dX12_choices_87 : decode cX12_choices 87 = .ok (.istore 6, 2) := by decide +kernel
theorem dX12_choices_89 : decode cX12_choices 89 = .ok (.iload 6, 2) := by decide +kernel
theorem dX12_choices_91 : decode cX12_choices 91 = .ok (.iload_n 3, 1) := by decide +kernel
theorem dX12_choices_92 : decode cX12_choices 92 = .ok (.iconst 1, 1) := by decide +kernel
theorem dX12_choices_93 : decode cX12_choices 93 = .ok (.if_icmp .ne 7, 3) := by decide +kernel
theorem dX12_choices_96 : decode cX12_choices 96 = .ok (.iconst 1, 1) := by decide +kernel
theorem dX12_choices_97 : decode cX12_choices 97 = .ok (.goto 6, 3) := by decide +kernel
theorem dX12_choices_103 : decode cX12_choices 103 = .ok (.if_icmp .ge 259, 3) := by decide +kernel
theorem dX12_choices_362 : decode cX12_choices 362 = .ok (.iinc 5 1, 3) := by decide +kernel
theorem dX12_choices_365 : decode cX12_choices 365 = .ok (.goto (-287), 3) := by decide +kernel
theorem dX12_choices_106 : decode cX12_choices 106 = .ok (.aload_n 0, 1) := by decide +kernel
theorem dX12_choices_107 : decode cX12_choices 107 = .ok (.iload_n 2, 1) := by decide +kernel
theorem dX12_choices_108 : decode cX12_choices 108 = .ok (.iload 5, 2) := by decide +kernel
set_option maxRecDepth 20000 in
theorem ggX12_choices_X12_isAlone : GoodIn wsX12_choices wsX12_isAlone := goodIn_r _ [42, 32, 27, 43, 44, 45, 16, 46, 47, 48, 49, 50, 51, 52, 53, 54, 55, 56, 57, 58, 38, 59, 60, 90, 91, 92, 93, 94, 95, 96, 97, 98, 99, 100, 101, 102, 103, 104, 105, 106, 107, 108, 109, 110, 111, 112, 113, 114, 115, 116, 117, 118, 119, 120, 121, 122, 123, 124, 125, 126, 127, 128, 129] rfl (by decide +kernel)
set_option maxRecDepth 20000 in
theorem gX12_choices_X12_isAlone : GoodIn wsX12_choices (wsV RX12 206 RX12 yX12_isAlone wsX12_isAlone) := goodIn_app (goodIn_r _ [39, 40, 41, 16] rfl (by decide +kernel)) ggX12_choices_X12_isAlone
theorem dX12_choices_110 : decode cX12_choices 110 = .ok (.invokevirtual 206, 3) := by decide +kernel
theorem dX12_choices_113 : decode cX12_choices 113 = .ok (.ifCond .ne 243, 3) := by decide +kernel
theorem dX12_choices_356 : decode cX12_choices 356 = .ok (.iinc 6 1, 3) := by decide +kernel
theorem dX12_choices_359 : decode cX12_choices 359 = .ok (.goto (-270), 3) := by decide +kernel
theorem dX12_choices_116 : decode cX12_choices 116 = .ok (.iload_n 3, 1) := by decide +kernel
theorem dX12_choices_117 : decode cX12_choices 117 = .ok (.iconst 2, 1) := by decide +kernel
theorem dX12_choices_118 : decode cX12_choices 118 = .ok (.if_icmp .ne 13, 3) := by decide +kernel
theorem dX12_choices_131 : decode cX12_choices 131 = .ok (.aload_n 0, 1) := by decide +kernel
theorem dX12_choices_132 : decode cX12_choices 132 = .ok (.iload_n 1, 1) := by decide +kernel
theorem dX12_choices_133 : decode cX12_choices 133 = .ok (.iload_n 2, 1) := by decide +kernel
theorem dX12_choices_134 : decode cX12_choices 134 = .ok (.iload 5, 2) := by decide +kernel
theorem dX12_choices_136 : decode cX12_choices 136 = .ok (.iload 6, 2) := by decide +kernel
set_option maxRecDepth 20000 in
theorem ggX12_choices_X12_isChoice : GoodIn wsX12_choices wsX12_isChoice := goodIn_r _ [64, 65, 6, 5, 66, 27, 3, 18, 23, 24, 25, 16, 26, 19, 4, 28, 29, 30, 31, 32, 33, 34, 35, 36, 37, 38, 67, 68, 69, 70, 47, 43, 44, 45, 46, 48, 49, 50, 51, 52, 53, 54, 55, 56, 57, 58, 59, 60, 71, 72, 73, 74, 90, 91, 92, 93, 94, 95, 96, 97, 98, 99, 100, 101, 102, 103, 104, 105, 106, 107, 108, 109, 110, 111, 112, 113, 114, 115, 116, 117, 118, 119, 120, 121, 122, 123, 124, 125, 126, 127, 128, 129] rfl (by decide +kernel)
set_option maxRecDepth 20000 in
theorem gX12_choices_X12_isChoice : GoodIn wsX12_choices (wsV RX12 209 RX12 yX12_isChoice wsX12_isChoice) := goodIn_app (goodIn_r _ [61, 62, 63, 16] rfl (by decide +kernel)) ggX12_choices_X12_isChoice
theorem dX12_choices_138 : decode cX12_choices 138 = .ok (.invokevirtual 209, 3) := by decide +kernel
theorem dX12_choices_141 : decode cX12_choices 141 = .ok (.ifCond .ne 6, 3) := by decide +kernel
theorem dX12_choices_147 : decode cX12_choices 147 = .ok (.aload_n 0, 1) := by decide +kernel
theorem dX12_choices_148 : decode cX12_choices 148 = .ok (.aload_n 0, 1) := by decide +kernel
theorem dX12_choices_149 : decode cX12_choices 149 = .ok (.getfield 64, 3) := by decide +kernel
theorem dX12_choices_152 : decode cX12_choices 152 = .ok (.iconst 0, 1) := by decide +kernel
theorem dX12_choices_153 : decode cX12_choices 153 = .ok (.aload_n 0, 1) := by decide +kernel
theorem dX12_choices_154 : decode cX12_choices 154 = .ok (.getfield 135, 3) := by decide +kernel
set_option maxRecDepth 20000 in
theorem ggX12_choices_X12_costOf_ : GoodIn wsX12_choices wsX12_costOf_ := goodIn_r _ [78, 79, 80, 81, 16, 82, 83, 84, 85, 86, 87, 88, 89, 90, 91, 92, 93, 94, 95, 96, 97, 98, 99, 100, 101, 102, 103, 104, 105, 106, 107, 108, 109, 110, 111, 112, 113, 114, 115, 116, 117, 118, 119, 120, 121, 122, 123, 124, 125, 126, 127, 128, 129] rfl (by decide +kernel)
set_option maxRecDepth 20000 in
theorem gX12_choices_X12_costOf_ : GoodIn wsX12_choices (wsV RX12 189 RX12 yX12_costOf_ wsX12_costOf_) := goodIn_app (goodIn_r _ [75, 76, 77, 16] rfl (by decide +kernel)) ggX12_choices_X12_costOf_
theorem dX12_choices_157 : decode cX12_choices 157 = .ok (.invokevirtual 189, 3) := by decide +kernel
theorem dX12_choices_160 : decode cX12_choices 160 = .ok (.istore 7, 2) := by decide +kernel
theorem dX12_choices_207 : decode cX12_choices 207 = .ok (.iinc 4 1, 3) := by decide +kernel
theorem dX12_choices_210 : decode cX12_choices 210 = .ok (.iload 8, 2) := by decide +kernel
theorem dX12_choices_212 : decode cX12_choices 212 = .ok (.sipush 200, 3) := by decide +kernel
theorem dX12_choices_215 : decode cX12_choices 215 = .ok (.if_icmp .ne 6, 3) := by decide +kernel
theorem dX12_choices_221 : decode cX12_choices 221 = .ok (.iload 4, 2) := by decide +kernel
theorem dX12_choices_223 : decode cX12_choices 223 = .ok (.sipush 200, 3) := by decide +kernel
theorem dX12_choices_226 : decode cX12_choices 226 = .ok (.if_icmp .ge 8, 3) := by decide +kernel
theorem dX12_choices_234 : decode cX12_choices 234 = .ok (.sipush 200, 3) := by decide +kernel
theorem dX12_choices_237 : decode cX12_choices 237 = .ok (.iconst 1, 1) := by decide +kernel
theorem dX12_choices_238 : decode cX12_choices 238 = .ok (.isub, 1) := by decide +kernel
theorem dX12_choices_239 : decode cX12_choices 239 = .ok (.istore 9, 2) := by decide +kernel
theorem dX12_choices_241 : decode cX12_choices 241 = .ok (.iload 9, 2) := by decide +kernel
theorem dX12_choices_243 : decode cX12_choices 243 = .ok (.iload 8, 2) := by decide +kernel
theorem dX12_choices_245 : decode cX12_choices 245 = .ok (.if_icmp .le 50, 3) := by decide +kernel
theorem dX12_choices_295 : decode cX12_choices 295 = .ok (.aload_n 0, 1) := by decide +kernel
theorem dX12_choices_296 : decode cX12_choices 296 = .ok (.getfield 48, 3) := by decide +kernel
theorem dX12_choices_299 : decode cX12_choices 299 = .ok (.iconst 4, 1) := by decide +kernel
theorem dX12_choices_300 : decode cX12_choices 300 = .ok (.iload 8, 2) := by decide +kernel
theorem dX12_choices_302 : decode cX12_choices 302 = .ok (.imul, 1) := by decide +kernel
theorem dX12_choices_303 : decode cX12_choices 303 = .ok (.iload 5, 2) := by decide +kernel
theorem dX12_choices_305 : decode cX12_choices 305 = .ok (.iastore, 1) := by decide +kernel
theorem dX12_choices_306 : decode cX12_choices 306 = .ok (.aload_n 0, 1) := by decide +kernel
theorem dX12_choices_307 : decode cX12_choices 307 = .ok (.getfield 48, 3) := by decide +kernel
theorem dX12_choices_310 : decode cX12_choices 310 = .ok (.iconst 4, 1) := by decide +kernel
theorem dX12_choices_311 : decode cX12_choices 311 = .ok (.iload 8, 2) := by decide +kernel
theorem dX12_choices_313 : decode cX12_choices 313 = .ok (.imul, 1) := by decide +kernel
theorem dX12_choices_314 : decode cX12_choices 314 = .ok (.iconst 1, 1) := by decide +kernel
theorem dX12_choices_315 : decode cX12_choices 315 = .ok (.iadd, 1) := by decide +kernel
theorem dX12_choices_316 : decode cX12_choices 316 = .ok (.iload_n 3, 1) := by decide +kernel
theorem dX12_choices_317 : decode cX12_choices 317 = .ok (.iconst 1, 1) := by decide +kernel
theorem dX12_choices_318 : decode cX12_choices 318 = .ok (.if_icmp .ne 7, 3) := by decide +kernel
theorem dX12_choices_321 : decode cX12_choices 321 = .ok (.iconst (-1), 1) := by decide +kernel
theorem dX12_choices_322 : decode cX12_choices 322 = .ok (.goto 5, 3) := by decide +kernel
theorem dX12_choices_327 : decode cX12_choices 327 = .ok (.iastore, 1) := by decide +kernel
theorem dX12_choices_328 : decode cX12_choices 328 = .ok (.aload_n 0, 1) := by decide +kernel
theorem dX12_choices_329 : decode cX12_choices 329 = .ok (.getfield 48, 3) := by decide +kernel
theorem dX12_choices_332 : decode cX12_choices 332 = .ok (.iconst 4, 1) := by decide +kernel
theorem dX12_choices_333 : decode cX12_choices 333 = .ok (.iload 8, 2) := by decide +kernel
theorem dX12_choices_335 : decode cX12_choices 335 = .ok (.imul, 1) := by decide +kernel
theorem dX12_choices_336 : decode cX12_choices 336 = .ok (.iconst 2, 1) := by decide +kernel
theorem dX12_choices_337 : decode cX12_choices 337 = .ok (.iadd, 1) := by decide +kernel
theorem dX12_choices_338 : decode cX12_choices 338 = .ok (.iload 7, 2) := by decide +kernel
theorem dX12_choices_340 : decode cX12_choices 340 = .ok (.iastore, 1) := by decide +kernel
theorem dX12_choices_341 : decode cX12_choices 341 = .ok (.aload_n 0, 1) := by decide +kernel
theorem dX12_choices_342 : decode cX12_choices 342 = .ok (.getfield 48, 3) := by decide +kernel
theorem dX12_choices_345 : decode cX12_choices 345 = .ok (.iconst 4, 1) := by decide +kernel
theorem dX12_choices_346 : decode cX12_choices 346 = .ok (.iload 8, 2) := by decide +kernel
theorem dX12_choices_348 : decode cX12_choices 348 = .ok (.imul, 1) := by decide +kernel
theorem dX12_choices_349 : decode cX12_choices 349 = .ok (.iconst 3, 1) := by decide +kernel
theorem dX12_choices_350 : decode cX12_choices 350 = .ok (.iadd, 1) := by decide +kernel
theorem dX12_choices_351 : decode cX12_choices 351 = .ok (.aload_n 0, 1) := by decide +kernel
theorem dX12_choices_352 : decode cX12_choices 352 = .ok (.getfield 135, 3) := by decide +kernel
theorem dX12_choices_355 : decode cX12_choices 355 = .ok (.iastore, 1) := by decide +kernel
theorem dX12_choices_248 : decode cX12_choices 248 = .ok (.iconst 0, 1) := by decide +kernel
theorem dX12_choices_249 : decode cX12_choices 249 = .ok (.istore 10, 2) := by decide +kernel
theorem dX12_choices_251 : decode cX12_choices 251 = .ok (.iload 10, 2) := by decide +kernel
theorem dX12_choices_253 : decode cX12_choices 253 = .ok (.iconst 4, 1) := by decide +kernel
theorem dX12_choices_254 : decode cX12_choices 254 = .ok (.if_icmp .ge 35, 3) := by decide +kernel
theorem dX12_choices_289 : decode cX12_choices 289 = .ok (.iinc 9 (-1), 3) := by decide +kernel
theorem dX12_choices_292 : decode cX12_choices 292 = .ok (.goto (-51), 3) := by decide +kernel
theorem dX12_choices_257 : decode cX12_choices 257 = .ok (.aload_n 0, 1) := by decide +kernel
theorem dX12_choices_258 : decode cX12_choices 258 = .ok (.getfield 48, 3) := by decide +kernel
theorem dX12_choices_261 : decode cX12_choices 261 = .ok (.iconst 4, 1) := by decide +kernel
theorem dX12_choices_262 : decode cX12_choices 262 = .ok (.iload 9, 2) := by decide +kernel
theorem dX12_choices_264 : decode cX12_choices 264 = .ok (.imul, 1) := by decide +kernel
theorem dX12_choices_265 : decode cX12_choices 265 = .ok (.iload 10, 2) := by decide +kernel
theorem dX12_choices_267 : decode cX12_choices 267 = .ok (.iadd, 1) := by decide +kernel
theorem dX12_choices_268 : decode cX12_choices 268 = .ok (.aload_n 0, 1) := by decide +kernel
theorem dX12_choices_269 : decode cX12_choices 269 = .ok (.getfield 48, 3) := by decide +kernel
theorem dX12_choices_272 : decode cX12_choices 272 = .ok (.iconst 4, 1) := by decide +kernel
theorem dX12_choices_273 : decode cX12_choices 273 = .ok (.iload 9, 2) := by decide +kernel
theorem dX12_choices_275 : decode cX12_choices 275 = .ok (.imul, 1) := by decide +kernel
theorem dX12_choices_276 : decode cX12_choices 276 = .ok (.iconst 4, 1) := by decide +kernel
theorem dX12_choices_277 : decode cX12_choices 277 = .ok (.isub, 1) := by decide +kernel
theorem dX12_choices_278 : decode cX12_choices 278 = .ok (.iload 10, 2) := by decide +kernel
theorem dX12_choices_280 : decode cX12_choices 280 = .ok (.iadd, 1) := by decide +kernel
theorem dX12_choices_281 : decode cX12_choices 281 = .ok (.iaload, 1) := by decide +kernel
theorem dX12_choices_282 : decode cX12_choices 282 = .ok (.iastore, 1) := by decide +kernel
theorem dX12_choices_283 : decode cX12_choices 283 = .ok (.iinc 10 1, 3) := by decide +kernel
theorem dX12_choices_286 : decode cX12_choices 286 = .ok (.goto (-35), 3) := by decide +kernel
theorem dX12_choices_229 : decode cX12_choices 229 = .ok (.iload 4, 2) := by decide +kernel
theorem dX12_choices_231 : decode cX12_choices 231 = .ok (.goto 6, 3) := by decide +kernel
theorem dX12_choices_218 : decode cX12_choices 218 = .ok (.goto 138, 3) := by decide +kernel
theorem dX12_choices_162 : decode cX12_choices 162 = .ok (.iload 4, 2) := by decide +kernel
theorem dX12_choices_164 : decode cX12_choices 164 = .ok (.sipush 200, 3) := by decide +kernel
theorem dX12_choices_167 : decode cX12_choices 167 = .ok (.if_icmp .ge 8, 3) := by decide +kernel
theorem dX12_choices_175 : decode cX12_choices 175 = .ok (.sipush 200, 3) := by decide +kernel
theorem dX12_choices_178 : decode cX12_choices 178 = .ok (.istore 8, 2) := by decide +kernel
theorem dX12_choices_180 : decode cX12_choices 180 = .ok (.iload 8, 2) := by decide +kernel
theorem dX12_choices_182 : decode cX12_choices 182 = .ok (.ifCond .le 25, 3) := by decide +kernel
theorem dX12_choices_185 : decode cX12_choices 185 = .ok (.aload_n 0, 1) := by decide +kernel
theorem dX12_choices_186 : decode cX12_choices 186 = .ok (.getfield 48, 3) := by decide +kernel
theorem dX12_choices_189 : decode cX12_choices 189 = .ok (.iconst 4, 1) := by decide +kernel
theorem dX12_choices_190 : decode cX12_choices 190 = .ok (.iload 8, 2) := by decide +kernel
theorem dX12_choices_192 : decode cX12_choices 192 = .ok (.imul, 1) := by decide +kernel
theorem dX12_choices_193 : decode cX12_choices 193 = .ok (.iconst 2, 1) := by decide +kernel
theorem dX12_choices_194 : decode cX12_choices 194 = .ok (.isub, 1) := by decide +kernel
theorem dX12_choices_195 : decode cX12_choices 195 = .ok (.iaload, 1) := by decide +kernel
theorem dX12_choices_196 : decode cX12_choices 196 = .ok (.iload 7, 2) := by decide +kernel
theorem dX12_choices_198 : decode cX12_choices 198 = .ok (.if_icmp .le 9, 3) := by decide +kernel
theorem dX12_choices_201 : decode cX12_choices 201 = .ok (.iinc 8 (-1), 3) := by decide +kernel
theorem dX12_choices_204 : decode cX12_choices 204 = .ok (.goto (-24), 3) := by decide +kernel
theorem dX12_choices_170 : decode cX12_choices 170 = .ok (.iload 4, 2) := by decide +kernel
theorem dX12_choices_172 : decode cX12_choices 172 = .ok (.goto 6, 3) := by decide +kernel
theorem dX12_choices_144 : decode cX12_choices 144 = .ok (.goto 212, 3) := by decide +kernel
theorem dX12_choices_100 : decode cX12_choices 100 = .ok (.sipush 256, 3) := by decide +kernel
theorem dX12_choices_121 : decode cX12_choices 121 = .ok (.aload_n 0, 1) := by decide +kernel
theorem dX12_choices_122 : decode cX12_choices 122 = .ok (.iload_n 2, 1) := by decide +kernel
theorem dX12_choices_123 : decode cX12_choices 123 = .ok (.iload 6, 2) := by decide +kernel
theorem dX12_choices_125 : decode cX12_choices 125 = .ok (.invokevirtual 206, 3) := by decide +kernel
theorem dX12_choices_128 : decode cX12_choices 128 = .ok (.ifCond .ne 228, 3) := by decide +kernel
theorem dX12_choices_325 : decode cX12_choices 325 = .ok (.iload 6, 2) := by decide +kernel
theorem dX12_choices_62 : decode cX12_choices 62 = .ok (.aload_n 0, 1) := by decide +kernel
theorem dX12_choices_63 : decode cX12_choices 63 = .ok (.aload_n 0, 1) := by decide +kernel
theorem dX12_choices_64 : decode cX12_choices 64 = .ok (.getfield 102, 3) := by decide +kernel
theorem dX12_choices_67 : decode cX12_choices 67 = .ok (.putfield 55, 3) := by decide +kernel
theorem dX12_choices_70 : decode cX12_choices 70 = .ok (.iconst (-1), 1) := by decide +kernel
theorem dX12_choices_71 : decode cX12_choices 71 = .ok (.ireturn, 1) := by decide +kernel

end
