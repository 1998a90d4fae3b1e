def g_can (fr n le sp : Int32) : Int32 := if fr < 0 then 0 else if 255 < fr then 0 else if n < 1 then 0 else if 256 - fr < n then 0 else if sp < (-255) then 0 else if 255 < sp then 0 else if ¬ n ≤ 1 ∧ sp = 0 then 0 else if g_isL le = 0 then 0 else if ∀ j : Nat, j < n.toNatClampNeg → ¬ g_isL (le + nI j * sp) = 0 then 1 else 0
def g_span (fr n le sp : Int32) : Int32 := if g_can fr n le sp = 0 then (-1) else n
def g_spanc (cd fr n le sp : Int32) : Int32 := if cd = 4 then g_span fr n le sp else if cd = 5 then g_span fr n le sp else (-1)
theorem p_255 {fr : Int32} (h : ¬ 255 < fr) : ¬ 256 ≤ fr := fun z => by
  have a1 : ¬ (255 : Int) < fr.toInt := fun y => h (Int32.lt_iff_toInt_lt.mpr y)
  have a2 : (256 : Int) ≤ fr.toInt := Int32.le_iff_toInt_le.mp z
  omega
theorem p_letter {x : Int32} (h : ¬ g_isL x = 0) : ∃ q : Nat, q < 65536 ∧ x = nI q := by
  by_cases h1 : x < 0
  · exact absurd (by rw [g_isL, if_pos h1]) h
  by_cases h2 : 65536 ≤ x
  · exact absurd (by rw [g_isL, if_neg h1, if_pos h2]) h
  obtain ⟨q, hq, rfl⟩ := nI_of h1
  have a2 : ¬ (65536 : Int) ≤ (nI q).toInt := fun y => h2 (Int32.le_iff_toInt_le.mpr y)
  rw [nI_toInt hq] at a2
  exact ⟨q, by omega, rfl⟩
theorem p_inlet {x b y : Int32} (B N : Nat) (h : x = b + y) (hb : b = nI B) (hy : ¬ g_isL y = 0) (hlt : B + 65536 ≤ N) (hN : N < 2 ^ 31) : vp_in x N := by
  obtain ⟨q, hq, rfl⟩ := p_letter hy
  exact p_inadd B q N h hb rfl (by omega) hN
theorem p_inlet2 {x z b le y : Int32} (B N : Nat) (hx : x = z + y) (hz : z = b + le) (hb : b = nI B) (hy : ¬ g_isL (le + y) = 0) (hlt : B + 65536 ≤ N) (hN : N < 2 ^ 31) : vp_in x N :=
  p_inlet (b := b) (y := le + y) B N (by rw [hx, hz, Int32.add_assoc]) hb hy hlt hN
theorem p_in3 {x z b fr y : Int32} (B ff i N : Nat) (hx : x = z + y) (hz : z = b + fr) (hb : b = nI B) (hf : fr = nI ff) (hy : y = nI i) (hlt : B + ff + i < N) (hN : N < 2 ^ 31) : vp_in x N := by
  rw [hx, hz, hb, hf, hy, nI_add, nI_add]
  exact vp_in_nI hlt hN

set_option maxHeartbeats 4000000 in
set_option maxRecDepth 100000 in
theorem y_span_4 (l : Launch) (dC : Nat → ClassId) (dI : Nat → Nat → Nat) (cI cS : ClassId) (sz : Nat) (oM : Nat) (mT : Nat) (mS : Nat) (mX : Nat) (mL : Nat) (mB : Nat) (mD : Nat) (m1 : Nat) (m2 : Nat) (mR : Nat) (x1 : Nat) (x2 : Nat) (x3 : Nat) (mH : Nat) (mY : Nat) (mE : Nat) (mW : Nat) (mO : Nat) (y1 : Nat) (y2 : Nat) (y3 : Nat) (y4 : Nat) (mZ : Nat) (fr : Int32) (n : Int32) (le : Int32) (sp : Int32)  : Met l yX12_span wsX12_span ({ frames := 1, cells := 0, slots := 0, locals := 20 } : Room) (va_Pc [.ref oM, .int 4, .int fr, .int n, .int le, .int sp] (fun U => U.heap.size = sz ∧ va_P (dC, dI) vwCl [(oM, .inr (12, [.ref mT, .int 0, .ref mS, .ref mX, .int 0, .int 0, .ref mL, .ref mB, .ref mD, .ref m1, .ref m2, .int 0, .ref mR, .int 0, .ref x1, .ref x2, .ref x3, .int 0, .ref mH, .int 0, .int 0, .int 0, .int 0, .int (-1), .int (-1), .int 0, .ref mY, .int 0, .ref mE, .int 0, .int 0, .ref mW, .int 0, .ref mO, .int 0, .ref y1, .ref y2, .ref y3, .ref y4, .ref mZ])), (mL, .inl (cI, 512, .inl (fun _ => (-1)))), (mB, .inl (cS, 131072, .inl (fun _ => (-1)))), (mD, .inl (cI, 2, .inl (fun _ => 0)))] U.heap ∧ va_K (dC, dI) vwCl [(cI, .int), (cS, .short)] U ∧ va_D (fun _ => True) [(oM, .inr (12, [.ref mT, .int 0, .ref mS, .ref mX, .int 0, .int 0, .ref mL, .ref mB, .ref mD, .ref m1, .ref m2, .int 0, .ref mR, .int 0, .ref x1, .ref x2, .ref x3, .int 0, .ref mH, .int 0, .int 0, .int 0, .int 0, .int (-1), .int (-1), .int 0, .ref mY, .int 0, .ref mE, .int 0, .int 0, .ref mW, .int 0, .ref mO, .int 0, .ref y1, .ref y2, .ref y3, .ref y4, .ref mZ])), (mL, .inl (cI, 512, .inl (fun _ => (-1)))), (mB, .inl (cS, 131072, .inl (fun _ => (-1)))), (mD, .inl (cI, 2, .inl (fun _ => 0)))])) (va_Qi (fun (r : Int32) (_ : Unit) => r = g_span fr n le sp) (fun _ _ => True) (va_A [(oM, .inr (12, [.ref mT, .int 0, .ref mS, .ref mX, .int 0, .int 0, .ref mL, .ref mB, .ref mD, .ref m1, .ref m2, .int 0, .ref mR, .int 0, .ref x1, .ref x2, .ref x3, .int 0, .ref mH, .int 0, .int 0, .int 0, .int 0, .int (-1), .int (-1), .int 0, .ref mY, .int 0, .ref mE, .int 0, .int 0, .ref mW, .int 0, .ref mO, .int 0, .ref y1, .ref y2, .ref y3, .ref y4, .ref mZ])), (mL, .inl (cI, 512, .inl (fun _ => (-1)))), (mB, .inl (cS, 131072, .inl (fun _ => (-1)))), (mD, .inl (cI, 2, .inl (fun _ => 0)))] sz)) 0 0 (va_A [(oM, .inr (12, [.ref mT, .int 0, .ref mS, .ref mX, .int 0, .int 0, .ref mL, .ref mB, .ref mD, .ref m1, .ref m2, .int 0, .ref mR, .int 0, .ref x1, .ref x2, .ref x3, .int 0, .ref mH, .int 0, .int 0, .int 0, .int 0, .int (-1), .int (-1), .int 0, .ref mY, .int 0, .ref mE, .int 0, .int 0, .ref mW, .int 0, .ref mO, .int 0, .ref y1, .ref y2, .ref y3, .ref y4, .ref mZ])), (mL, .inl (cI, 512, .inl (fun _ => (-1)))), (mB, .inl (cS, 131072, .inl (fun _ => (-1)))), (mD, .inl (cI, 2, .inl (fun _ => 0)))] sz) := by
  refine Met.ofW (cc := cX12_span) (maxL := 9) (ret := (some .int)) (by decide) rfl ?_
  intro p e s m args below meth c s₁ B hml hv
  obtain ⟨rfl, hsz, hP, hK, hD0⟩ := hv
  have hx := B.exec
  have hb := B.bytes
  have hr := B.returns
  have hts := atoms_spec (ws := wsX12_span) B.pre
  have hown : s.vm.findClass RX12 = some m.cls := findClass_of_methodNamed B.named
  have hlocks := B.notSynchronized
  have in_X12 : ∀ w ∈ wsX120, w ∈ wsX12_span := fun _ h => List.mem_cons_of_mem _ (List.mem_append_right _ (h))
  subst hsz
  have hD := hD0.self (sz := s.heap.size)
  generalize hAe : va_A [(oM, .inr (12, [.ref mT, .int 0, .ref mS, .ref mX, .int 0, .int 0, .ref mL, .ref mB, .ref mD, .ref m1, .ref m2, .int 0, .ref mR, .int 0, .ref x1, .ref x2, .ref x3, .int 0, .ref mH, .int 0, .int 0, .int 0, .int 0, .int (-1), .int (-1), .int 0, .ref mY, .int 0, .ref mE, .int 0, .int 0, .ref mW, .int 0, .ref mO, .int 0, .ref y1, .ref y2, .ref y3, .ref y4, .ref mZ])), (mL, .inl (cI, 512, .inl (fun _ => (-1)))), (mB, .inl (cS, 131072, .inl (fun _ => (-1)))), (mD, .inl (cI, 2, .inl (fun _ => 0)))] s.heap.size = A at hD ⊢
  have hA : ∀ q : Nat, s.heap.size ≤ q → A q := fun q h => by rw [← hAe]; exact Or.inr h
  have hS : va_S A s.heap s.heap [] := va_S.rf
  have hP : va_P (dC, dI) vwCl [(oM, .inr (12, [.ref mT, .int 0, .ref mS, .ref mX, .int 0, .int 0, .ref mL, .ref mB, .ref mD, .ref m1, .ref m2, .int 0, .ref mR, .int 0, .ref x1, .ref x2, .ref x3, .int 0, .ref mH, .int 0, .int 0, .int 0, .int 0, .int (-1), .int (-1), .int 0, .ref mY, .int 0, .ref mE, .int 0, .int 0, .ref mW, .int 0, .ref mO, .int 0, .ref y1, .ref y2, .ref y3, .ref y4, .ref mZ])), (mL, .inl (cI, 512, .inl (fun _ => (-1)))), (mB, .inl (cS, 131072, .inl (fun _ => (-1)))), (mD, .inl (cI, 2, .inl (fun _ => 0)))] s.heap := hP
  have hl := lv_entry ([.ref oM, .int 4, .int fr, .int n, .int le, .int sp]) (n := 9) (Nat.le_of_ble_eq_true rfl)
  rw [lg_entry_eq]
  generalize (lg_sl ([.ref oM, .int 4, .int fr, .int n, .int le, .int sp]) ++ List.replicate (9 - (lg_sl ([.ref oM, .int 4, .int fr, .int n, .int le, .int sp])).length) Slot.unset).toArray = ls at hl ⊢
  have hl : lv_has ls 9 [(0, .ref oM), (1, .int 4), (2, .int fr), (3, .int n), (4, .int le), (5, .int sp)] := hl
  refine lv_aload_n hx hb dX12_span_0 rfl (lv_at hl 0 rfl) ?_
  refine lv_iconst (v := 0) hx hb dX12_span_1 (by decide) ?_
  refine va_put (D := (dC, dI)) (ci := 12) (v := .int 0) (ty := .int) (C := RX12) (T := TX12) (N := 40) hx hb hts in_X12 tyX12 tyX12_ok nmX12 hown hK hP hD hS 0 rfl rfl 25 (by decide) (hts (.fieldLink RX12 85 "TextMenderModel" "thrown" "I") (List.mem_of_getElem? (i := 1) rfl)) (fun _ h9 => h9) rfl (by decide +kernel) rfl rfl (Nat.le_of_ble_eq_true rfl) dX12_span_2 (fun H locs hP hD hS => ?_)
  have hP : va_P (dC, dI) vwCl [(oM, .inr (12, [.ref mT, .int 0, .ref mS, .ref mX, .int 0, .int 0, .ref mL, .ref mB, .ref mD, .ref m1, .ref m2, .int 0, .ref mR, .int 0, .ref x1, .ref x2, .ref x3, .int 0, .ref mH, .int 0, .int 0, .int 0, .int 0, .int (-1), .int (-1), .int 0, .ref mY, .int 0, .ref mE, .int 0, .int 0, .ref mW, .int 0, .ref mO, .int 0, .ref y1, .ref y2, .ref y3, .ref y4, .ref mZ])), (mL, .inl (cI, 512, .inl (fun _ => (-1)))), (mB, .inl (cS, 131072, .inl (fun _ => (-1)))), (mD, .inl (cI, 2, .inl (fun _ => 0)))] H := hP
  have hD : va_D A [(oM, .inr (12, [.ref mT, .int 0, .ref mS, .ref mX, .int 0, .int 0, .ref mL, .ref mB, .ref mD, .ref m1, .ref m2, .int 0, .ref mR, .int 0, .ref x1, .ref x2, .ref x3, .int 0, .ref mH, .int 0, .int 0, .int 0, .int 0, .int (-1), .int (-1), .int 0, .ref mY, .int 0, .ref mE, .int 0, .int 0, .ref mW, .int 0, .ref mO, .int 0, .ref y1, .ref y2, .ref y3, .ref y4, .ref mZ])), (mL, .inl (cI, 512, .inl (fun _ => (-1)))), (mB, .inl (cS, 131072, .inl (fun _ => (-1)))), (mD, .inl (cI, 2, .inl (fun _ => 0)))] := hD
  refine lv_aload_n hx hb dX12_span_5 rfl (lv_at hl 0 rfl) ?_
  refine lv_iconst (v := (-1)) hx hb dX12_span_6 (by decide) ?_
  refine va_put (D := (dC, dI)) (ci := 12) (v := .int (-1)) (ty := .int) (C := RX12) (T := TX12) (N := 40) hx hb hts in_X12 tyX12 tyX12_ok nmX12 hown hK hP hD hS 0 rfl rfl 24 (by decide) (hts (.fieldLink RX12 55 "TextMenderModel" "where" "I") (List.mem_of_getElem? (i := 2) rfl)) (fun _ h9 => h9) rfl (by decide +kernel) rfl rfl (Nat.le_of_ble_eq_true rfl) dX12_span_7 (fun H locs hP hD hS => ?_)
  have hP : va_P (dC, dI) vwCl [(oM, .inr (12, [.ref mT, .int 0, .ref mS, .ref mX, .int 0, .int 0, .ref mL, .ref mB, .ref mD, .ref m1, .ref m2, .int 0, .ref mR, .int 0, .ref x1, .ref x2, .ref x3, .int 0, .ref mH, .int 0, .int 0, .int 0, .int 0, .int (-1), .int (-1), .int 0, .ref mY, .int 0, .ref mE, .int 0, .int 0, .ref mW, .int 0, .ref mO, .int 0, .ref y1, .ref y2, .ref y3, .ref y4, .ref mZ])), (mL, .inl (cI, 512, .inl (fun _ => (-1)))), (mB, .inl (cS, 131072, .inl (fun _ => (-1)))), (mD, .inl (cI, 2, .inl (fun _ => 0)))] H := hP
  have hD : va_D A [(oM, .inr (12, [.ref mT, .int 0, .ref mS, .ref mX, .int 0, .int 0, .ref mL, .ref mB, .ref mD, .ref m1, .ref m2, .int 0, .ref mR, .int 0, .ref x1, .ref x2, .ref x3, .int 0, .ref mH, .int 0, .int 0, .int 0, .int 0, .int (-1), .int (-1), .int 0, .ref mY, .int 0, .ref mE, .int 0, .int 0, .ref mW, .int 0, .ref mO, .int 0, .ref y1, .ref y2, .ref y3, .ref y4, .ref mZ])), (mL, .inl (cI, 512, .inl (fun _ => (-1)))), (mB, .inl (cS, 131072, .inl (fun _ => (-1)))), (mD, .inl (cI, 2, .inl (fun _ => 0)))] := hD
  refine lv_iload_n hx hb dX12_span_10 rfl (lv_at hl 1 rfl) ?_
  refine lv_iconst (v := 4) hx hb dX12_span_11 (by decide) ?_
  refine lv_icmp_lt (tgt := 71) hx hb dX12_span_12 (by decide) (fun c_1 => absurd c_1 (by decide)) (fun c_1 => ?_)
  refine lv_iload_n hx hb dX12_span_15 rfl (lv_at hl 1 rfl) ?_
  refine lv_iconst (v := 5) hx hb dX12_span_16 (by decide) ?_
  refine lv_icmp_gt (tgt := 71) hx hb dX12_span_17 (by decide) (fun c_2 => absurd c_2 (by decide)) (fun c_2 => ?_)
  refine lv_iload_n hx hb dX12_span_20 rfl (lv_at hl 2 rfl) ?_
  refine lv_if_lt (tgt := 71) hx hb dX12_span_21 (by decide) (fun c_3 => ?_) (fun c_3 => ?_)
  · refine lv_iconst (v := (-1)) hx hb dX12_span_71 (by decide) ?_
    exact W.iret (v := (-1)) hx hb hr (fun t ht hW => ⟨⟨(-1), (), rfl, by rw [g_span, if_pos (show g_can fr n le sp = 0 by simp [g_can, c_3])], trivial⟩, hS.F ht⟩) (hS.2.2) dX12_span_72
  · refine lv_iload_n hx hb dX12_span_24 rfl (lv_at hl 2 rfl) ?_
    refine lv_sipush (v := 255) hx hb dX12_span_25 (by decide) ?_
    refine lv_icmp_gt (tgt := 71) hx hb dX12_span_28 (by decide) (fun c_4 => ?_) (fun c_4 => ?_)
    · refine lv_iconst (v := (-1)) hx hb dX12_span_71 (by decide) ?_
      exact W.iret (v := (-1)) hx hb hr (fun t ht hW => ⟨⟨(-1), (), rfl, by rw [g_span, if_pos (show g_can fr n le sp = 0 by simp [g_can, c_3, c_4])], trivial⟩, hS.F ht⟩) (hS.2.2) dX12_span_72
    · refine lv_iload_n hx hb dX12_span_31 rfl (lv_at hl 3 rfl) ?_
      refine lv_iconst (v := 1) hx hb dX12_span_32 (by decide) ?_
      refine lv_icmp_lt (tgt := 71) hx hb dX12_span_33 (by decide) (fun c_5 => ?_) (fun c_5 => ?_)
      · refine lv_iconst (v := (-1)) hx hb dX12_span_71 (by decide) ?_
        exact W.iret (v := (-1)) hx hb hr (fun t ht hW => ⟨⟨(-1), (), rfl, by rw [g_span, if_pos (show g_can fr n le sp = 0 by simp [g_can, c_3, c_4, c_5])], trivial⟩, hS.F ht⟩) (hS.2.2) dX12_span_72
      · refine lv_iload_n hx hb dX12_span_36 rfl (lv_at hl 3 rfl) ?_
        refine lv_sipush (v := 256) hx hb dX12_span_37 (by decide) ?_
        refine lv_iload_n hx hb dX12_span_40 rfl (lv_at hl 2 rfl) ?_
        refine lv_isub hx hb dX12_span_41 ?_
        refine lv_topi (fun x_6 ex_6 => ?_)
        refine lv_icmp_gt (tgt := 71) hx hb dX12_span_42 (by decide) (fun c_7 => ?_) (fun c_7 => ?_)
        · refine lv_iconst (v := (-1)) hx hb dX12_span_71 (by decide) ?_
          exact W.iret (v := (-1)) hx hb hr (fun t ht hW => ⟨⟨(-1), (), rfl, by rw [g_span, if_pos (show g_can fr n le sp = 0 by simp [g_can, ← ex_6, c_3, c_4, c_5, c_7])], trivial⟩, hS.F ht⟩) (hS.2.2) dX12_span_72
        · refine lv_iload hx hb dX12_span_45 (lv_at hl 5 rfl) ?_
          refine lv_sipush (v := (-255)) hx hb dX12_span_47 (by decide) ?_
          refine lv_icmp_lt (tgt := 71) hx hb dX12_span_50 (by decide) (fun c_8 => ?_) (fun c_8 => ?_)
          · refine lv_iconst (v := (-1)) hx hb dX12_span_71 (by decide) ?_
            exact W.iret (v := (-1)) hx hb hr (fun t ht hW => ⟨⟨(-1), (), rfl, by rw [g_span, if_pos (show g_can fr n le sp = 0 by simp [g_can, ← ex_6, c_3, c_4, c_5, c_7, c_8])], trivial⟩, hS.F ht⟩) (hS.2.2) dX12_span_72
          · refine lv_iload hx hb dX12_span_53 (lv_at hl 5 rfl) ?_
            refine lv_sipush (v := 255) hx hb dX12_span_55 (by decide) ?_
            refine lv_icmp_gt (tgt := 71) hx hb dX12_span_58 (by decide) (fun c_9 => ?_) (fun c_9 => ?_)
            · refine lv_iconst (v := (-1)) hx hb dX12_span_71 (by decide) ?_
              exact W.iret (v := (-1)) hx hb hr (fun t ht hW => ⟨⟨(-1), (), rfl, by rw [g_span, if_pos (show g_can fr n le sp = 0 by simp [g_can, ← ex_6, c_3, c_4, c_5, c_7, c_8, c_9])], trivial⟩, hS.F ht⟩) (hS.2.2) dX12_span_72
            · refine lv_iload_n hx hb dX12_span_61 rfl (lv_at hl 3 rfl) ?_
              refine lv_iconst (v := 1) hx hb dX12_span_62 (by decide) ?_
              refine lv_icmp_le (tgt := 73) hx hb dX12_span_63 (by decide) (fun c_10 => ?_) (fun c_10 => ?_)
              · refine lv_iload_n hx hb dX12_span_73 rfl (lv_at hl 1 rfl) ?_
                refine lv_iconst (v := 4) hx hb dX12_span_74 (by decide) ?_
                refine lv_isub hx hb dX12_span_75 ?_
                refine k_i (y := 0) (by decide) ?_
                refine lv_istore (lv' := [(6, .int 0), (0, .ref oM), (1, .int 4), (2, .int fr), (3, .int n), (4, .int le), (5, .int sp)]) hx hb dX12_span_76 hl (by decide) rfl (fun ls hl => ?_)
                refine lv_iload hx hb dX12_span_78 (lv_at hl 5 rfl) ?_
                have hPc := hP.sub (ws' := []) [] rfl
                have hDc := hD.sub (ws' := []) [] (by decide) rfl
                have hFc := va_free (wc := []) hD hS hA [] rfl
                refine va_calli (va_runS (As := [.int le]) (rest := []) ⟨hx, hb, hml, hown, hts⟩ (m_X12_isLetter l dC dI cI cS H.size le ) (va_cwS 1 hts gX12_span_X12_isLetter rfl rfl rfl (by decide +kernel) ⟨Nat.le_of_ble_eq_true rfl, Nat.le_of_ble_eq_true rfl⟩) ⟨fun a U g mk q => by obtain ⟨q0, q1, qP, qK, qD⟩ := q; exact ⟨q0, q1, qP, va_K.moved (u := U) (U := U.calling g mk a) (Vm.Alike.refl U.vm) qK, qD⟩, fun U hU hW => ⟨rfl, by rw [hU], by rw [hU]; exact hPc, va_K.moved hW.alike hK, hDc.weaken (fun _ _ _ _ => trivial)⟩⟩ rfl rfl hl.1 rfl (lv_room (Nat.le_of_ble_eq_true rfl)) dX12_span_80 ⟨Nat.le_of_ble_eq_true rfl, Nat.le_of_ble_eq_true rfl⟩) hS (fun q _ h => hFc q h) hFc (fun r_11 u t H1 locs ht hvm hw hB hz1 hk1 hS => ?_)
                obtain ⟨hP1, hD1⟩ := hB
                rw [ht] at hP1
                obtain ⟨hP, hD⟩ := va_join (wr := [(oM, .inr (12, [.ref mT, .int 0, .ref mS, .ref mX, .int 0, .int 0, .ref mL, .ref mB, .ref mD, .ref m1, .ref m2, .int 0, .ref mR, .int 0, .ref x1, .ref x2, .ref x3, .int 0, .ref mH, .int 0, .int 0, .int 0, .int 0, .int (-1), .int (-1), .int 0, .ref mY, .int 0, .ref mE, .int 0, .int 0, .ref mW, .int 0, .ref mO, .int 0, .ref y1, .ref y2, .ref y3, .ref y4, .ref mZ])), (mL, .inl (cI, 512, .inl (fun _ => (-1)))), (mB, .inl (cS, 131072, .inl (fun _ => (-1)))), (mD, .inl (cI, 2, .inl (fun _ => 0)))]) (w1 := []) hP hD [] [0, 1, 2, 3] rfl rfl (by decide) (by decide) hk1 hFc hP1 hD1
                generalize H1 = H at hP hS ⊢
                have hP : va_P (dC, dI) vwCl [(oM, .inr (12, [.ref mT, .int 0, .ref mS, .ref mX, .int 0, .int 0, .ref mL, .ref mB, .ref mD, .ref m1, .ref m2, .int 0, .ref mR, .int 0, .ref x1, .ref x2, .ref x3, .int 0, .ref mH, .int 0, .int 0, .int 0, .int 0, .int (-1), .int (-1), .int 0, .ref mY, .int 0, .ref mE, .int 0, .int 0, .ref mW, .int 0, .ref mO, .int 0, .ref y1, .ref y2, .ref y3, .ref y4, .ref mZ])), (mL, .inl (cI, 512, .inl (fun _ => (-1)))), (mB, .inl (cS, 131072, .inl (fun _ => (-1)))), (mD, .inl (cI, 2, .inl (fun _ => 0)))] H := hP
                have hD : va_D A [(oM, .inr (12, [.ref mT, .int 0, .ref mS, .ref mX, .int 0, .int 0, .ref mL, .ref mB, .ref mD, .ref m1, .ref m2, .int 0, .ref mR, .int 0, .ref x1, .ref x2, .ref x3, .int 0, .ref mH, .int 0, .int 0, .int 0, .int 0, .int (-1), .int (-1), .int 0, .ref mY, .int 0, .ref mE, .int 0, .int 0, .ref mW, .int 0, .ref mO, .int 0, .ref y1, .ref y2, .ref y3, .ref y4, .ref mZ])), (mL, .inl (cI, 512, .inl (fun _ => (-1)))), (mB, .inl (cS, 131072, .inl (fun _ => (-1)))), (mD, .inl (cI, 2, .inl (fun _ => 0)))] := hD
                rw [hw]
                refine lv_if_ne (tgt := 88) hx hb dX12_span_83 (by decide) (fun c_12 => ?_) (fun c_12 => ?_)
                · refine lv_iconst (v := 0) hx hb dX12_span_88 (by decide) ?_
                  refine lv_istore (lv' := [(7, .int 0), (6, .int 0), (0, .ref oM), (1, .int 4), (2, .int fr), (3, .int n), (4, .int le), (5, .int sp)]) hx hb dX12_span_89 hl (by decide) rfl (fun ls hl => ?_)
                  obtain ⟨nn, ff, hn1, hn2, hn, hff⟩ := p_nn c_3 c_5 ex_6 c_7 (p_255 c_4)
                  have LOOP_91 : ∀ (k_91 i_91 : Nat) (xc_91 : Int32)  (H : Heap) (locs : List Loc) (ls : Array Slot), i_91 + k_91 = nn → xc_91 = nI i_91 →  (∀ j, j < i_91 → ¬ g_isL (le + nI j * sp) = 0) → va_P (dC, dI) vwCl [(oM, .inr (12, [.ref mT, .int 0, .ref mS, .ref mX, .int 0, .int 0, .ref mL, .ref mB, .ref mD, .ref m1, .ref m2, .int 0, .ref mR, .int 0, .ref x1, .ref x2, .ref x3, .int 0, .ref mH, .int 0, .int 0, .int 0, .int 0, .int (-1), .int (-1), .int 0, .ref mY, .int 0, .ref mE, .int 0, .int 0, .ref mW, .int 0, .ref mO, .int 0, .ref y1, .ref y2, .ref y3, .ref y4, .ref mZ])), (mL, .inl (cI, 512, .inl (fun _ => (-1)))), (mB, .inl (cS, 131072, .inl (fun _ => (-1)))), (mD, .inl (cI, 2, .inl (fun _ => 0)))] H → va_D A [(oM, .inr (12, [.ref mT, .int 0, .ref mS, .ref mX, .int 0, .int 0, .ref mL, .ref mB, .ref mD, .ref m1, .ref m2, .int 0, .ref mR, .int 0, .ref x1, .ref x2, .ref x3, .int 0, .ref mH, .int 0, .int 0, .int 0, .int 0, .int (-1), .int (-1), .int 0, .ref mY, .int 0, .ref mE, .int 0, .int 0, .ref mW, .int 0, .ref mO, .int 0, .ref y1, .ref y2, .ref y3, .ref y4, .ref mZ])), (mL, .inl (cI, 512, .inl (fun _ => (-1)))), (mB, .inl (cS, 131072, .inl (fun _ => (-1)))), (mD, .inl (cI, 2, .inl (fun _ => 0)))] → va_S A s.heap H locs → lv_has ls 9 [(7, .int xc_91), (6, .int 0), (0, .ref oM), (1, .int 4), (2, .int fr), (3, .int n), (4, .int le), (5, .int sp)] → W p l e (headSpec wsX12_span ({ frames := 1, cells := 0, slots := 0, locals := 20 } : Room)).room s m ([.ref oM, .int 4, .int fr, .int n, .int le, .int sp] : List Value).toArray below meth c H locs 0 0 (MQ below (va_Qi (fun (r : Int32) (_ : Unit) => r = g_span fr n le sp) (fun _ _ => True) A) ([.ref oM, .int 4, .int fr, .int n, .int le, .int sp] : List Value).toArray s 0 0 A) (F0 m 91 ls []) := by
                    intro k_91
                    induction k_91 with
                    | zero =>
                      intro i_91 xc_91  H locs ls hi_91 hxc_91  hok hP hD hS hl
                      have hi2_91 : i_91 = nn := by omega
                      refine lv_iload hx hb dX12_span_91 (lv_at hl 0 rfl) ?_
                      refine lv_iload_n hx hb dX12_span_93 rfl (lv_at hl 5 rfl) ?_
                      refine lv_icmp_ge (tgt := 160) hx hb dX12_span_94 (by decide) (fun c_13 => ?_) (fun c_13 => absurd (by rw [hxc_91, hn]; exact nI_le (a := nn) (b := i_91) (by omega) (by rw [hi2_91]; exact (by omega))) c_13)
                      refine lv_iconst (v := 0) hx hb dX12_span_160 (by decide) ?_
                      refine lv_istore (lv' := [(7, .int 0), (6, .int 0), (0, .ref oM), (1, .int 4), (2, .int fr), (3, .int n), (4, .int le), (5, .int sp)]) hx hb dX12_span_161 hl (by decide) rfl (fun ls hl => ?_)
                      have LOOP_163 : ∀ (k_163 i_163 : Nat) (xc_163 : Int32) (fL : Nat → Int32) (fB : Nat → Int32) (H : Heap) (locs : List Loc) (ls : Array Slot), i_163 + k_163 = nn → xc_163 = nI i_163 →  va_P (dC, dI) vwCl [(oM, .inr (12, [.ref mT, .int 0, .ref mS, .ref mX, .int 0, .int 0, .ref mL, .ref mB, .ref mD, .ref m1, .ref m2, .int 0, .ref mR, .int 0, .ref x1, .ref x2, .ref x3, .int 0, .ref mH, .int 0, .int 0, .int 0, .int 0, .int (-1), .int (-1), .int 0, .ref mY, .int 0, .ref mE, .int 0, .int 0, .ref mW, .int 0, .ref mO, .int 0, .ref y1, .ref y2, .ref y3, .ref y4, .ref mZ])), (mL, .inl (cI, 512, .inl fL)), (mB, .inl (cS, 131072, .inl fB)), (mD, .inl (cI, 2, .inl (fun _ => 0)))] H → va_D A [(oM, .inr (12, [.ref mT, .int 0, .ref mS, .ref mX, .int 0, .int 0, .ref mL, .ref mB, .ref mD, .ref m1, .ref m2, .int 0, .ref mR, .int 0, .ref x1, .ref x2, .ref x3, .int 0, .ref mH, .int 0, .int 0, .int 0, .int 0, .int (-1), .int (-1), .int 0, .ref mY, .int 0, .ref mE, .int 0, .int 0, .ref mW, .int 0, .ref mO, .int 0, .ref y1, .ref y2, .ref y3, .ref y4, .ref mZ])), (mL, .inl (cI, 512, .inl fL)), (mB, .inl (cS, 131072, .inl fB)), (mD, .inl (cI, 2, .inl (fun _ => 0)))] → va_S A s.heap H locs → lv_has ls 9 [(7, .int xc_163), (6, .int 0), (0, .ref oM), (1, .int 4), (2, .int fr), (3, .int n), (4, .int le), (5, .int sp)] → W p l e (headSpec wsX12_span ({ frames := 1, cells := 0, slots := 0, locals := 20 } : Room)).room s m ([.ref oM, .int 4, .int fr, .int n, .int le, .int sp] : List Value).toArray below meth c H locs 0 0 (MQ below (va_Qi (fun (r : Int32) (_ : Unit) => r = g_span fr n le sp) (fun _ _ => True) A) ([.ref oM, .int 4, .int fr, .int n, .int le, .int sp] : List Value).toArray s 0 0 A) (F0 m 163 ls []) := by
                        intro k_163
                        induction k_163 with
                        | zero =>
                          intro i_163 xc_163 fL fB H locs ls hi_163 hxc_163  hP hD hS hl
                          have hi2_163 : i_163 = nn := by omega
                          refine lv_iload hx hb dX12_span_163 (lv_at hl 0 rfl) ?_
                          refine lv_iload_n hx hb dX12_span_165 rfl (lv_at hl 5 rfl) ?_
                          refine lv_icmp_ge (tgt := 223) hx hb dX12_span_166 (by decide) (fun c_14 => ?_) (fun c_14 => absurd (by rw [hxc_163, hn]; exact nI_le (a := nn) (b := i_163) (by omega) (by rw [hi2_163]; exact (by omega))) c_14)
                          refine lv_aload_n hx hb dX12_span_223 rfl (lv_at hl 2 rfl) ?_
                          refine va_get (D := (dC, dI)) (ci := 12) (v := .ref mD) (C := RX12) (T := TX12) (N := 40) hx hb hts in_X12 hown hK hP 0 rfl rfl 8 (by decide) (hts (.fieldLink RX12 27 "TextMenderModel" "told" "[I") (List.mem_of_getElem? (i := 6) rfl)) (fun _ h9 => h9) rfl dX12_span_224 ?_
                          refine lv_iload hx hb dX12_span_227 (lv_at hl 1 rfl) ?_
                          refine lv_dup2_11 hx hb dX12_span_229 rfl rfl ?_
                          refine va_iald hx hb hK hP 3 0 rfl rfl (by unfold vp_in; decide) dX12_span_230 ?_
                          refine k_i (y := 0) (by first | rfl | decide) ?_
                          refine lv_iload_n hx hb dX12_span_231 rfl (lv_at hl 5 rfl) ?_
                          refine lv_iadd hx hb dX12_span_232 ?_
                          refine lv_topi (fun x_15 ex_15 => ?_)
                          refine va_iast hx hb hK hP hD hS 3 0 rfl rfl (by unfold vp_in; decide) dX12_span_233 (fun H locs hP hD hS => ?_)
                          have hP : va_P (dC, dI) vwCl [(oM, .inr (12, [.ref mT, .int 0, .ref mS, .ref mX, .int 0, .int 0, .ref mL, .ref mB, .ref mD, .ref m1, .ref m2, .int 0, .ref mR, .int 0, .ref x1, .ref x2, .ref x3, .int 0, .ref mH, .int 0, .int 0, .int 0, .int 0, .int (-1), .int (-1), .int 0, .ref mY, .int 0, .ref mE, .int 0, .int 0, .ref mW, .int 0, .ref mO, .int 0, .ref y1, .ref y2, .ref y3, .ref y4, .ref mZ])), (mL, .inl (cI, 512, .inl fL)), (mB, .inl (cS, 131072, .inl fB)), (mD, .inl (cI, 2, .inl (upd (fun _ => 0) (0 : Int32).toNatClampNeg x_15)))] H := hP
                          have hD : va_D A [(oM, .inr (12, [.ref mT, .int 0, .ref mS, .ref mX, .int 0, .int 0, .ref mL, .ref mB, .ref mD, .ref m1, .ref m2, .int 0, .ref mR, .int 0, .ref x1, .ref x2, .ref x3, .int 0, .ref mH, .int 0, .int 0, .int 0, .int 0, .int (-1), .int (-1), .int 0, .ref mY, .int 0, .ref mE, .int 0, .int 0, .ref mW, .int 0, .ref mO, .int 0, .ref y1, .ref y2, .ref y3, .ref y4, .ref mZ])), (mL, .inl (cI, 512, .inl fL)), (mB, .inl (cS, 131072, .inl fB)), (mD, .inl (cI, 2, .inl (upd (fun _ => 0) (0 : Int32).toNatClampNeg x_15)))] := hD
                          refine lv_aload_n hx hb dX12_span_234 rfl (lv_at hl 2 rfl) ?_
                          refine lv_dup hx hb dX12_span_235 rfl ?_
                          refine va_get (D := (dC, dI)) (ci := 12) (v := .int 0) (C := RX12) (T := TX12) (N := 40) hx hb hts in_X12 hown hK hP 0 rfl rfl 22 (by decide) (hts (.fieldLink RX12 148 "TextMenderModel" "state" "I") (List.mem_of_getElem? (i := 7) rfl)) (fun _ h9 => h9) rfl dX12_span_236 ?_
                          refine lv_iconst (v := 1) hx hb dX12_span_239 (by decide) ?_
                          refine lv_iadd hx hb dX12_span_240 ?_
                          refine k_i (y := 1) (by decide) ?_
                          refine va_put (D := (dC, dI)) (ci := 12) (v := .int 1) (ty := .int) (C := RX12) (T := TX12) (N := 40) hx hb hts in_X12 tyX12 tyX12_ok nmX12 hown hK hP hD hS 0 rfl rfl 22 (by decide) (hts (.fieldLink RX12 148 "TextMenderModel" "state" "I") (List.mem_of_getElem? (i := 7) rfl)) (fun _ h9 => h9) rfl (by decide +kernel) rfl rfl (Nat.le_of_ble_eq_true rfl) dX12_span_241 (fun H locs hP hD hS => ?_)
                          have hP : va_P (dC, dI) vwCl [(oM, .inr (12, [.ref mT, .int 0, .ref mS, .ref mX, .int 0, .int 0, .ref mL, .ref mB, .ref mD, .ref m1, .ref m2, .int 0, .ref mR, .int 0, .ref x1, .ref x2, .ref x3, .int 0, .ref mH, .int 0, .int 0, .int 0, .int 1, .int (-1), .int (-1), .int 0, .ref mY, .int 0, .ref mE, .int 0, .int 0, .ref mW, .int 0, .ref mO, .int 0, .ref y1, .ref y2, .ref y3, .ref y4, .ref mZ])), (mL, .inl (cI, 512, .inl fL)), (mB, .inl (cS, 131072, .inl fB)), (mD, .inl (cI, 2, .inl (upd (fun _ => 0) (0 : Int32).toNatClampNeg x_15)))] H := hP
                          have hD : va_D A [(oM, .inr (12, [.ref mT, .int 0, .ref mS, .ref mX, .int 0, .int 0, .ref mL, .ref mB, .ref mD, .ref m1, .ref m2, .int 0, .ref mR, .int 0, .ref x1, .ref x2, .ref x3, .int 0, .ref mH, .int 0, .int 0, .int 0, .int 1, .int (-1), .int (-1), .int 0, .ref mY, .int 0, .ref mE, .int 0, .int 0, .ref mW, .int 0, .ref mO, .int 0, .ref y1, .ref y2, .ref y3, .ref y4, .ref mZ])), (mL, .inl (cI, 512, .inl fL)), (mB, .inl (cS, 131072, .inl fB)), (mD, .inl (cI, 2, .inl (upd (fun _ => 0) (0 : Int32).toNatClampNeg x_15)))] := hD
                          refine lv_aload_n hx hb dX12_span_244 rfl (lv_at hl 2 rfl) ?_
                          refine va_get (D := (dC, dI)) (ci := 12) (v := .ref mD) (C := RX12) (T := TX12) (N := 40) hx hb hts in_X12 hown hK hP 0 rfl rfl 8 (by decide) (hts (.fieldLink RX12 27 "TextMenderModel" "told" "[I") (List.mem_of_getElem? (i := 6) rfl)) (fun _ h9 => h9) rfl dX12_span_245 ?_
                          refine lv_iload hx hb dX12_span_248 (lv_at hl 1 rfl) ?_
                          refine va_iald hx hb hK hP 3 0 rfl rfl (by unfold vp_in; decide) dX12_span_250 ?_
                          refine k_i (y := x_15) (by first | rfl | decide) ?_
                          exact W.iret (v := x_15) hx hb hr (fun t ht hW => ⟨⟨x_15, (), rfl, by rw [g_span, if_neg (show ¬ g_can fr n le sp = 0 by rw [g_can, if_neg c_3, if_neg c_4, if_neg c_5, if_neg (show ¬ 256 - fr < n by rw [← ex_6]; exact c_7), if_neg c_8, if_neg c_9, if_neg (fun h => h.1 c_10), if_neg c_12, if_pos (fun j hj => hok j (by rw [hn, nI_clamp (by omega)] at hj; omega))]; decide), ex_15, Int32.zero_add], trivial⟩, hS.F ht⟩) (hS.2.2) dX12_span_251
                        | succ k_163 ih_163 =>
                          intro i_163 xc_163 fL fB H locs ls hi_163 hxc_163  hP hD hS hl
                          refine lv_iload hx hb dX12_span_163 (lv_at hl 0 rfl) ?_
                          refine lv_iload_n hx hb dX12_span_165 rfl (lv_at hl 5 rfl) ?_
                          refine lv_icmp_ge (tgt := 223) hx hb dX12_span_166 (by decide) (fun c_16 => absurd c_16 (by rw [hxc_163, hn]; exact nI_ge (a := i_163) (b := nn) (by omega) (by omega))) (fun c_16 => ?_)
                          refine lv_aload_n hx hb dX12_span_169 rfl (lv_at hl 2 rfl) ?_
                          refine va_get (D := (dC, dI)) (ci := 12) (v := .ref mL) (C := RX12) (T := TX12) (N := 40) hx hb hts in_X12 hown hK hP 0 rfl rfl 6 (by decide) (hts (.fieldLink RX12 19 "TextMenderModel" "letterOf" "[I") (List.mem_of_getElem? (i := 3) rfl)) (fun _ h9 => h9) rfl dX12_span_170 ?_
                          refine lv_sipush (v := 256) hx hb dX12_span_173 (by decide) ?_
                          refine lv_iload hx hb dX12_span_176 (lv_at hl 1 rfl) ?_
                          refine lv_imul hx hb dX12_span_178 ?_
                          refine k_i (y := 0) (by decide) ?_
                          refine lv_iload_n hx hb dX12_span_179 rfl (lv_at hl 4 rfl) ?_
                          refine lv_iadd hx hb dX12_span_180 ?_
                          refine lv_topi (fun x_17 ex_17 => ?_)
                          refine lv_iload hx hb dX12_span_181 (lv_at hl 0 rfl) ?_
                          refine lv_iadd hx hb dX12_span_183 ?_
                          refine lv_topi (fun x_18 ex_18 => ?_)
                          refine lv_iload hx hb dX12_span_184 (lv_at hl 6 rfl) ?_
                          refine lv_iload hx hb dX12_span_186 (lv_at hl 0 rfl) ?_
                          refine lv_iload hx hb dX12_span_188 (lv_at hl 7 rfl) ?_
                          refine lv_imul hx hb dX12_span_190 ?_
                          refine lv_topi (fun x_19 ex_19 => ?_)
                          refine lv_iadd hx hb dX12_span_191 ?_
                          refine lv_topi (fun x_20 ex_20 => ?_)
                          refine va_iast hx hb hK hP hD hS 1 0 rfl rfl (p_in3 0 ff i_163 512 ex_18 ex_17 rfl hff hxc_163 (by omega) (by decide)) dX12_span_192 (fun H locs hP hD hS => ?_)
                          have hP : va_P (dC, dI) vwCl [(oM, .inr (12, [.ref mT, .int 0, .ref mS, .ref mX, .int 0, .int 0, .ref mL, .ref mB, .ref mD, .ref m1, .ref m2, .int 0, .ref mR, .int 0, .ref x1, .ref x2, .ref x3, .int 0, .ref mH, .int 0, .int 0, .int 0, .int 0, .int (-1), .int (-1), .int 0, .ref mY, .int 0, .ref mE, .int 0, .int 0, .ref mW, .int 0, .ref mO, .int 0, .ref y1, .ref y2, .ref y3, .ref y4, .ref mZ])), (mL, .inl (cI, 512, .inl (upd fL (x_18 : Int32).toNatClampNeg x_20))), (mB, .inl (cS, 131072, .inl fB)), (mD, .inl (cI, 2, .inl (fun _ => 0)))] H := hP
                          have hD : va_D A [(oM, .inr (12, [.ref mT, .int 0, .ref mS, .ref mX, .int 0, .int 0, .ref mL, .ref mB, .ref mD, .ref m1, .ref m2, .int 0, .ref mR, .int 0, .ref x1, .ref x2, .ref x3, .int 0, .ref mH, .int 0, .int 0, .int 0, .int 0, .int (-1), .int (-1), .int 0, .ref mY, .int 0, .ref mE, .int 0, .int 0, .ref mW, .int 0, .ref mO, .int 0, .ref y1, .ref y2, .ref y3, .ref y4, .ref mZ])), (mL, .inl (cI, 512, .inl (upd fL (x_18 : Int32).toNatClampNeg x_20))), (mB, .inl (cS, 131072, .inl fB)), (mD, .inl (cI, 2, .inl (fun _ => 0)))] := hD
                          refine lv_aload_n hx hb dX12_span_193 rfl (lv_at hl 2 rfl) ?_
                          refine va_get (D := (dC, dI)) (ci := 12) (v := .ref mB) (C := RX12) (T := TX12) (N := 40) hx hb hts in_X12 hown hK hP 0 rfl rfl 7 (by decide) (hts (.fieldLink RX12 23 "TextMenderModel" "byteOfLetter" "[S") (List.mem_of_getElem? (i := 4) rfl)) (fun _ h9 => h9) rfl dX12_span_194 ?_
                          refine lv_ldc hx hb hown (hts (.constant RX12 88 (65536)) (List.mem_of_getElem? (i := 5) rfl)) dX12_span_197 ?_
                          refine lv_iload hx hb dX12_span_199 (lv_at hl 1 rfl) ?_
                          refine lv_imul hx hb dX12_span_201 ?_
                          refine k_i (y := 0) (by decide) ?_
                          refine lv_iload hx hb dX12_span_202 (lv_at hl 6 rfl) ?_
                          refine lv_iadd hx hb dX12_span_204 ?_
                          refine lv_topi (fun x_21 ex_21 => ?_)
                          refine lv_iload hx hb dX12_span_205 (lv_at hl 0 rfl) ?_
                          refine lv_iload hx hb dX12_span_207 (lv_at hl 7 rfl) ?_
                          refine lv_imul hx hb dX12_span_209 ?_
                          refine lv_topi (fun x_22 ex_22 => ?_)
                          refine lv_iadd hx hb dX12_span_210 ?_
                          refine lv_topi (fun x_23 ex_23 => ?_)
                          refine lv_iload_n hx hb dX12_span_211 rfl (lv_at hl 4 rfl) ?_
                          refine lv_iload hx hb dX12_span_212 (lv_at hl 0 rfl) ?_
                          refine lv_iadd hx hb dX12_span_214 ?_
                          refine lv_topi (fun x_24 ex_24 => ?_)
                          obtain ⟨x_25, ex_25⟩ : ∃ v : Int32, v = (x_24 : Int32).toInt16.toInt32 := ⟨_, rfl⟩
                          refine lv_i2s (v := x_25) hx hb dX12_span_215 ex_25.symm ?_
                          refine va_sast hx hb hK hP hD hS 2 1 rfl rfl (p_inlet2 0 131072 ex_23 ex_21 rfl (by rw [ex_22, hxc_163]; exact hok i_163 (by omega)) (by decide) (by decide)) dX12_span_216 (fun H locs hP hD hS => ?_)
                          have hP : va_P (dC, dI) vwCl [(oM, .inr (12, [.ref mT, .int 0, .ref mS, .ref mX, .int 0, .int 0, .ref mL, .ref mB, .ref mD, .ref m1, .ref m2, .int 0, .ref mR, .int 0, .ref x1, .ref x2, .ref x3, .int 0, .ref mH, .int 0, .int 0, .int 0, .int 0, .int (-1), .int (-1), .int 0, .ref mY, .int 0, .ref mE, .int 0, .int 0, .ref mW, .int 0, .ref mO, .int 0, .ref y1, .ref y2, .ref y3, .ref y4, .ref mZ])), (mL, .inl (cI, 512, .inl (upd fL (x_18 : Int32).toNatClampNeg x_20))), (mB, .inl (cS, 131072, .inl (upd fB (x_23 : Int32).toNatClampNeg (vp_nar .short x_25)))), (mD, .inl (cI, 2, .inl (fun _ => 0)))] H := hP
                          have hD : va_D A [(oM, .inr (12, [.ref mT, .int 0, .ref mS, .ref mX, .int 0, .int 0, .ref mL, .ref mB, .ref mD, .ref m1, .ref m2, .int 0, .ref mR, .int 0, .ref x1, .ref x2, .ref x3, .int 0, .ref mH, .int 0, .int 0, .int 0, .int 0, .int (-1), .int (-1), .int 0, .ref mY, .int 0, .ref mE, .int 0, .int 0, .ref mW, .int 0, .ref mO, .int 0, .ref y1, .ref y2, .ref y3, .ref y4, .ref mZ])), (mL, .inl (cI, 512, .inl (upd fL (x_18 : Int32).toNatClampNeg x_20))), (mB, .inl (cS, 131072, .inl (upd fB (x_23 : Int32).toNatClampNeg (vp_nar .short x_25)))), (mD, .inl (cI, 2, .inl (fun _ => 0)))] := hD
                          obtain ⟨x_26, ex_26⟩ : ∃ y : Int32, y = xc_163 + 1 := ⟨_, rfl⟩
                          refine lv_iinc (v := x_26) (lv' := [(7, .int x_26), (6, .int 0), (0, .ref oM), (1, .int 4), (2, .int fr), (3, .int n), (4, .int le), (5, .int sp)]) hx hb dX12_span_217 hl (k := 0) rfl (by rw [ex_26]; rfl) (by decide) rfl (fun ls hl => ?_)
                          refine lv_goto (tgt := 163) hx hb dX12_span_220 (by decide) ?_
                          exact ih_163 (i_163 + 1) x_26 (upd fL (x_18 : Int32).toNatClampNeg x_20) (upd fB (x_23 : Int32).toNatClampNeg (vp_nar .short x_25)) _ _ _ (by omega) (by rw [ex_26, hxc_163]; exact nI_1 i_163)  hP hD hS (lv_sub hl [0, 1, 2, 3, 4, 5, 6, 7] rfl)
                      exact LOOP_163 nn 0 0 (fun _ => (-1)) (fun _ => (-1)) _ _ _ (by omega) nI_0.symm  hP hD hS (lv_sub hl [0, 1, 2, 3, 4, 5, 6, 7] rfl)
                    | succ k_91 ih_91 =>
                      intro i_91 xc_91  H locs ls hi_91 hxc_91  hok hP hD hS hl
                      refine lv_iload hx hb dX12_span_91 (lv_at hl 0 rfl) ?_
                      refine lv_iload_n hx hb dX12_span_93 rfl (lv_at hl 5 rfl) ?_
                      refine lv_icmp_ge (tgt := 160) hx hb dX12_span_94 (by decide) (fun c_27 => absurd c_27 (by rw [hxc_91, hn]; exact nI_ge (a := i_91) (b := nn) (by omega) (by omega))) (fun c_27 => ?_)
                      refine lv_iload hx hb dX12_span_97 (lv_at hl 6 rfl) ?_
                      refine lv_iload hx hb dX12_span_99 (lv_at hl 0 rfl) ?_
                      refine lv_iload hx hb dX12_span_101 (lv_at hl 7 rfl) ?_
                      refine lv_imul hx hb dX12_span_103 ?_
                      refine lv_topi (fun x_28 ex_28 => ?_)
                      refine lv_iadd hx hb dX12_span_104 ?_
                      refine lv_topi (fun x_29 ex_29 => ?_)
                      refine lv_istore (lv' := [(8, .int x_29), (7, .int xc_91), (6, .int 0), (0, .ref oM), (1, .int 4), (2, .int fr), (3, .int n), (4, .int le), (5, .int sp)]) hx hb dX12_span_105 hl (by decide) rfl (fun ls hl => ?_)
                      refine lv_iload hx hb dX12_span_107 (lv_at hl 0 rfl) ?_
                      have hPc := hP.sub (ws' := []) [] rfl
                      have hDc := hD.sub (ws' := []) [] (by decide) rfl
                      have hFc := va_free (wc := []) hD hS hA [] rfl
                      refine va_calli (va_runS (As := [.int x_29]) (rest := []) ⟨hx, hb, hml, hown, hts⟩ (m_X12_isLetter l dC dI cI cS H.size x_29 ) (va_cwS 1 hts gX12_span_X12_isLetter rfl rfl rfl (by decide +kernel) ⟨Nat.le_of_ble_eq_true rfl, Nat.le_of_ble_eq_true rfl⟩) ⟨fun a U g mk q => by obtain ⟨q0, q1, qP, qK, qD⟩ := q; exact ⟨q0, q1, qP, va_K.moved (u := U) (U := U.calling g mk a) (Vm.Alike.refl U.vm) qK, qD⟩, fun U hU hW => ⟨rfl, by rw [hU], by rw [hU]; exact hPc, va_K.moved hW.alike hK, hDc.weaken (fun _ _ _ _ => trivial)⟩⟩ rfl rfl hl.1 rfl (lv_room (Nat.le_of_ble_eq_true rfl)) dX12_span_109 ⟨Nat.le_of_ble_eq_true rfl, Nat.le_of_ble_eq_true rfl⟩) hS (fun q _ h => hFc q h) hFc (fun r_30 u t H1 locs ht hvm hw hB hz1 hk1 hS => ?_)
                      obtain ⟨hP1, hD1⟩ := hB
                      rw [ht] at hP1
                      obtain ⟨hP, hD⟩ := va_join (wr := [(oM, .inr (12, [.ref mT, .int 0, .ref mS, .ref mX, .int 0, .int 0, .ref mL, .ref mB, .ref mD, .ref m1, .ref m2, .int 0, .ref mR, .int 0, .ref x1, .ref x2, .ref x3, .int 0, .ref mH, .int 0, .int 0, .int 0, .int 0, .int (-1), .int (-1), .int 0, .ref mY, .int 0, .ref mE, .int 0, .int 0, .ref mW, .int 0, .ref mO, .int 0, .ref y1, .ref y2, .ref y3, .ref y4, .ref mZ])), (mL, .inl (cI, 512, .inl (fun _ => (-1)))), (mB, .inl (cS, 131072, .inl (fun _ => (-1)))), (mD, .inl (cI, 2, .inl (fun _ => 0)))]) (w1 := []) hP hD [] [0, 1, 2, 3] rfl rfl (by decide) (by decide) hk1 hFc hP1 hD1
                      generalize H1 = H at hP hS ⊢
                      have hP : va_P (dC, dI) vwCl [(oM, .inr (12, [.ref mT, .int 0, .ref mS, .ref mX, .int 0, .int 0, .ref mL, .ref mB, .ref mD, .ref m1, .ref m2, .int 0, .ref mR, .int 0, .ref x1, .ref x2, .ref x3, .int 0, .ref mH, .int 0, .int 0, .int 0, .int 0, .int (-1), .int (-1), .int 0, .ref mY, .int 0, .ref mE, .int 0, .int 0, .ref mW, .int 0, .ref mO, .int 0, .ref y1, .ref y2, .ref y3, .ref y4, .ref mZ])), (mL, .inl (cI, 512, .inl (fun _ => (-1)))), (mB, .inl (cS, 131072, .inl (fun _ => (-1)))), (mD, .inl (cI, 2, .inl (fun _ => 0)))] H := hP
                      have hD : va_D A [(oM, .inr (12, [.ref mT, .int 0, .ref mS, .ref mX, .int 0, .int 0, .ref mL, .ref mB, .ref mD, .ref m1, .ref m2, .int 0, .ref mR, .int 0, .ref x1, .ref x2, .ref x3, .int 0, .ref mH, .int 0, .int 0, .int 0, .int 0, .int (-1), .int (-1), .int 0, .ref mY, .int 0, .ref mE, .int 0, .int 0, .ref mW, .int 0, .ref mO, .int 0, .ref y1, .ref y2, .ref y3, .ref y4, .ref mZ])), (mL, .inl (cI, 512, .inl (fun _ => (-1)))), (mB, .inl (cS, 131072, .inl (fun _ => (-1)))), (mD, .inl (cI, 2, .inl (fun _ => 0)))] := hD
                      rw [hw]
                      refine lv_if_eq (tgt := 152) hx hb dX12_span_112 (by decide) (fun c_31 => ?_) (fun c_31 => ?_)
                      · refine lv_iconst (v := (-1)) hx hb dX12_span_152 (by decide) ?_
                        exact W.iret (v := (-1)) hx hb hr (fun t ht hW => ⟨⟨(-1), (), rfl, by rw [g_span, if_pos (show g_can fr n le sp = 0 by rw [g_can, if_neg c_3, if_neg c_4, if_neg c_5, if_neg (show ¬ 256 - fr < n by rw [← ex_6]; exact c_7), if_neg c_8, if_neg c_9, if_neg (fun h => h.1 c_10), if_neg c_12, if_neg (fun h => h i_91 (by rw [hn, nI_clamp (by omega)]; omega) (by rw [← hxc_91, ← ex_28, ← ex_29]; exact c_31))])], trivial⟩, hS.F ht⟩) (hS.2.2) dX12_span_153
                      · refine lv_aload_n hx hb dX12_span_115 rfl (lv_at hl 3 rfl) ?_
                        refine va_get (D := (dC, dI)) (ci := 12) (v := .ref mL) (C := RX12) (T := TX12) (N := 40) hx hb hts in_X12 hown hK hP 0 rfl rfl 6 (by decide) (hts (.fieldLink RX12 19 "TextMenderModel" "letterOf" "[I") (List.mem_of_getElem? (i := 3) rfl)) (fun _ h9 => h9) rfl dX12_span_116 ?_
                        refine lv_sipush (v := 256) hx hb dX12_span_119 (by decide) ?_
                        refine lv_iload hx hb dX12_span_122 (lv_at hl 2 rfl) ?_
                        refine lv_imul hx hb dX12_span_124 ?_
                        refine k_i (y := 0) (by decide) ?_
                        refine lv_iload_n hx hb dX12_span_125 rfl (lv_at hl 5 rfl) ?_
                        refine lv_iadd hx hb dX12_span_126 ?_
                        refine lv_topi (fun x_32 ex_32 => ?_)
                        refine lv_iload hx hb dX12_span_127 (lv_at hl 1 rfl) ?_
                        refine lv_iadd hx hb dX12_span_129 ?_
                        refine lv_topi (fun x_33 ex_33 => ?_)
                        refine va_iald hx hb hK hP 1 0 rfl rfl (p_in3 0 ff i_91 512 ex_33 ex_32 rfl hff hxc_91 (by omega) (by decide)) dX12_span_130 ?_
                        refine k_i (y := (-1)) rfl ?_
                        refine lv_iconst (v := (-1)) hx hb dX12_span_131 (by decide) ?_
                        refine lv_icmp_ne (tgt := 152) hx hb dX12_span_132 (by decide) (fun c_34 => absurd (by decide) c_34) (fun c_34 => ?_)
                        refine lv_aload_n hx hb dX12_span_135 rfl (lv_at hl 3 rfl) ?_
                        refine va_get (D := (dC, dI)) (ci := 12) (v := .ref mB) (C := RX12) (T := TX12) (N := 40) hx hb hts in_X12 hown hK hP 0 rfl rfl 7 (by decide) (hts (.fieldLink RX12 23 "TextMenderModel" "byteOfLetter" "[S") (List.mem_of_getElem? (i := 4) rfl)) (fun _ h9 => h9) rfl dX12_span_136 ?_
                        refine lv_ldc hx hb hown (hts (.constant RX12 88 (65536)) (List.mem_of_getElem? (i := 5) rfl)) dX12_span_139 ?_
                        refine lv_iload hx hb dX12_span_141 (lv_at hl 2 rfl) ?_
                        refine lv_imul hx hb dX12_span_143 ?_
                        refine k_i (y := 0) (by decide) ?_
                        refine lv_iload hx hb dX12_span_144 (lv_at hl 0 rfl) ?_
                        refine lv_iadd hx hb dX12_span_146 ?_
                        refine lv_topi (fun x_35 ex_35 => ?_)
                        refine va_sald hx hb hK hP 2 1 rfl rfl (p_inlet 0 131072 ex_35 rfl c_31 (by decide) (by decide)) dX12_span_147 ?_
                        refine k_i (y := (-1)) rfl ?_
                        refine lv_iconst (v := (-1)) hx hb dX12_span_148 (by decide) ?_
                        refine lv_icmp_eq (tgt := 154) hx hb dX12_span_149 (by decide) (fun c_36 => ?_) (fun c_36 => absurd (by decide) c_36)
                        obtain ⟨x_37, ex_37⟩ : ∃ y : Int32, y = xc_91 + 1 := ⟨_, rfl⟩
                        refine lv_iinc (v := x_37) (lv' := [(7, .int x_37), (8, .int x_29), (6, .int 0), (0, .ref oM), (1, .int 4), (2, .int fr), (3, .int n), (4, .int le), (5, .int sp)]) hx hb dX12_span_154 hl (k := 1) rfl (by rw [ex_37]; rfl) (by decide) rfl (fun ls hl => ?_)
                        refine lv_goto (tgt := 91) hx hb dX12_span_157 (by decide) ?_
                        exact ih_91 (i_91 + 1) x_37  _ _ _ (by omega) (by rw [ex_37, hxc_91]; exact nI_1 i_91)  (lt_s hok (by rw [← hxc_91, ← ex_28, ← ex_29]; exact c_31)) hP hD hS (lv_sub hl [0, 2, 3, 4, 5, 6, 7, 8] rfl)
                  exact LOOP_91 nn 0 0  _ _ _ (by omega) nI_0.symm  (fun j hj => absurd hj (Nat.not_lt_zero j)) hP hD hS (lv_sub hl [0, 1, 2, 3, 4, 5, 6, 7] rfl)
                · refine lv_iconst (v := (-1)) hx hb dX12_span_86 (by decide) ?_
                  exact W.iret (v := (-1)) hx hb hr (fun t ht hW => ⟨⟨(-1), (), rfl, by rw [g_span, if_pos (show g_can fr n le sp = 0 by simp [g_can, ← ex_6, c_3, c_4, c_5, c_7, c_8, c_9, c_10, c_12])], trivial⟩, hS.F ht⟩) (hS.2.2) dX12_span_87
              · refine lv_iload hx hb dX12_span_66 (lv_at hl 5 rfl) ?_
                refine lv_if_ne (tgt := 73) hx hb dX12_span_68 (by decide) (fun c_38 => ?_) (fun c_38 => ?_)
                · refine lv_iload_n hx hb dX12_span_73 rfl (lv_at hl 1 rfl) ?_
                  refine lv_iconst (v := 4) hx hb dX12_span_74 (by decide) ?_
                  refine lv_isub hx hb dX12_span_75 ?_
                  refine k_i (y := 0) (by decide) ?_
                  refine lv_istore (lv' := [(6, .int 0), (0, .ref oM), (1, .int 4), (2, .int fr), (3, .int n), (4, .int le), (5, .int sp)]) hx hb dX12_span_76 hl (by decide) rfl (fun ls hl => ?_)
                  refine lv_iload hx hb dX12_span_78 (lv_at hl 5 rfl) ?_
                  have hPc := hP.sub (ws' := []) [] rfl
                  have hDc := hD.sub (ws' := []) [] (by decide) rfl
                  have hFc := va_free (wc := []) hD hS hA [] rfl
                  refine va_calli (va_runS (As := [.int le]) (rest := []) ⟨hx, hb, hml, hown, hts⟩ (m_X12_isLetter l dC dI cI cS H.size le ) (va_cwS 1 hts gX12_span_X12_isLetter rfl rfl rfl (by decide +kernel) ⟨Nat.le_of_ble_eq_true rfl, Nat.le_of_ble_eq_true rfl⟩) ⟨fun a U g mk q => by obtain ⟨q0, q1, qP, qK, qD⟩ := q; exact ⟨q0, q1, qP, va_K.moved (u := U) (U := U.calling g mk a) (Vm.Alike.refl U.vm) qK, qD⟩, fun U hU hW => ⟨rfl, by rw [hU], by rw [hU]; exact hPc, va_K.moved hW.alike hK, hDc.weaken (fun _ _ _ _ => trivial)⟩⟩ rfl rfl hl.1 rfl (lv_room (Nat.le_of_ble_eq_true rfl)) dX12_span_80 ⟨Nat.le_of_ble_eq_true rfl, Nat.le_of_ble_eq_true rfl⟩) hS (fun q _ h => hFc q h) hFc (fun r_39 u t H1 locs ht hvm hw hB hz1 hk1 hS => ?_)
                  obtain ⟨hP1, hD1⟩ := hB
                  rw [ht] at hP1
                  obtain ⟨hP, hD⟩ := va_join (wr := [(oM, .inr (12, [.ref mT, .int 0, .ref mS, .ref mX, .int 0, .int 0, .ref mL, .ref mB, .ref mD, .ref m1, .ref m2, .int 0, .ref mR, .int 0, .ref x1, .ref x2, .ref x3, .int 0, .ref mH, .int 0, .int 0, .int 0, .int 0, .int (-1), .int (-1), .int 0, .ref mY, .int 0, .ref mE, .int 0, .int 0, .ref mW, .int 0, .ref mO, .int 0, .ref y1, .ref y2, .ref y3, .ref y4, .ref mZ])), (mL, .inl (cI, 512, .inl (fun _ => (-1)))), (mB, .inl (cS, 131072, .inl (fun _ => (-1)))), (mD, .inl (cI, 2, .inl (fun _ => 0)))]) (w1 := []) hP hD [] [0, 1, 2, 3] rfl rfl (by decide) (by decide) hk1 hFc hP1 hD1
                  generalize H1 = H at hP hS ⊢
                  have hP : va_P (dC, dI) vwCl [(oM, .inr (12, [.ref mT, .int 0, .ref mS, .ref mX, .int 0, .int 0, .ref mL, .ref mB, .ref mD, .ref m1, .ref m2, .int 0, .ref mR, .int 0, .ref x1, .ref x2, .ref x3, .int 0, .ref mH, .int 0, .int 0, .int 0, .int 0, .int (-1), .int (-1), .int 0, .ref mY, .int 0, .ref mE, .int 0, .int 0, .ref mW, .int 0, .ref mO, .int 0, .ref y1, .ref y2, .ref y3, .ref y4, .ref mZ])), (mL, .inl (cI, 512, .inl (fun _ => (-1)))), (mB, .inl (cS, 131072, .inl (fun _ => (-1)))), (mD, .inl (cI, 2, .inl (fun _ => 0)))] H := hP
                  have hD : va_D A [(oM, .inr (12, [.ref mT, .int 0, .ref mS, .ref mX, .int 0, .int 0, .ref mL, .ref mB, .ref mD, .ref m1, .ref m2, .int 0, .ref mR, .int 0, .ref x1, .ref x2, .ref x3, .int 0, .ref mH, .int 0, .int 0, .int 0, .int 0, .int (-1), .int (-1), .int 0, .ref mY, .int 0, .ref mE, .int 0, .int 0, .ref mW, .int 0, .ref mO, .int 0, .ref y1, .ref y2, .ref y3, .ref y4, .ref mZ])), (mL, .inl (cI, 512, .inl (fun _ => (-1)))), (mB, .inl (cS, 131072, .inl (fun _ => (-1)))), (mD, .inl (cI, 2, .inl (fun _ => 0)))] := hD
                  rw [hw]
                  refine lv_if_ne (tgt := 88) hx hb dX12_span_83 (by decide) (fun c_40 => ?_) (fun c_40 => ?_)
                  · refine lv_iconst (v := 0) hx hb dX12_span_88 (by decide) ?_
                    refine lv_istore (lv' := [(7, .int 0), (6, .int 0), (0, .ref oM), (1, .int 4), (2, .int fr), (3, .int n), (4, .int le), (5, .int sp)]) hx hb dX12_span_89 hl (by decide) rfl (fun ls hl => ?_)
                    obtain ⟨nn, ff, hn1, hn2, hn, hff⟩ := p_nn c_3 c_5 ex_6 c_7 (p_255 c_4)
                    have LOOP_91 : ∀ (k_91 i_91 : Nat) (xc_91 : Int32)  (H : Heap) (locs : List Loc) (ls : Array Slot), i_91 + k_91 = nn → xc_91 = nI i_91 →  (∀ j, j < i_91 → ¬ g_isL (le + nI j * sp) = 0) → va_P (dC, dI) vwCl [(oM, .inr (12, [.ref mT, .int 0, .ref mS, .ref mX, .int 0, .int 0, .ref mL, .ref mB, .ref mD, .ref m1, .ref m2, .int 0, .ref mR, .int 0, .ref x1, .ref x2, .ref x3, .int 0, .ref mH, .int 0, .int 0, .int 0, .int 0, .int (-1), .int (-1), .int 0, .ref mY, .int 0, .ref mE, .int 0, .int 0, .ref mW, .int 0, .ref mO, .int 0, .ref y1, .ref y2, .ref y3, .ref y4, .ref mZ])), (mL, .inl (cI, 512, .inl (fun _ => (-1)))), (mB, .inl (cS, 131072, .inl (fun _ => (-1)))), (mD, .inl (cI, 2, .inl (fun _ => 0)))] H → va_D A [(oM, .inr (12, [.ref mT, .int 0, .ref mS, .ref mX, .int 0, .int 0, .ref mL, .ref mB, .ref mD, .ref m1, .ref m2, .int 0, .ref mR, .int 0, .ref x1, .ref x2, .ref x3, .int 0, .ref mH, .int 0, .int 0, .int 0, .int 0, .int (-1), .int (-1), .int 0, .ref mY, .int 0, .ref mE, .int 0, .int 0, .ref mW, .int 0, .ref mO, .int 0, .ref y1, .ref y2, .ref y3, .ref y4, .ref mZ])), (mL, .inl (cI, 512, .inl (fun _ => (-1)))), (mB, .inl (cS, 131072, .inl (fun _ => (-1)))), (mD, .inl (cI, 2, .inl (fun _ => 0)))] → va_S A s.heap H locs → lv_has ls 9 [(7, .int xc_91), (6, .int 0), (0, .ref oM), (1, .int 4), (2, .int fr), (3, .int n), (4, .int le), (5, .int sp)] → W p l e (headSpec wsX12_span ({ frames := 1, cells := 0, slots := 0, locals := 20 } : Room)).room s m ([.ref oM, .int 4, .int fr, .int n, .int le, .int sp] : List Value).toArray below meth c H locs 0 0 (MQ below (va_Qi (fun (r : Int32) (_ : Unit) => r = g_span fr n le sp) (fun _ _ => True) A) ([.ref oM, .int 4, .int fr, .int n, .int le, .int sp] : List Value).toArray s 0 0 A) (F0 m 91 ls []) := by
                      intro k_91
                      induction k_91 with
                      | zero =>
                        intro i_91 xc_91  H locs ls hi_91 hxc_91  hok hP hD hS hl
                        have hi2_91 : i_91 = nn := by omega
                        refine lv_iload hx hb dX12_span_91 (lv_at hl 0 rfl) ?_
                        refine lv_iload_n hx hb dX12_span_93 rfl (lv_at hl 5 rfl) ?_
                        refine lv_icmp_ge (tgt := 160) hx hb dX12_span_94 (by decide) (fun c_41 => ?_) (fun c_41 => absurd (by rw [hxc_91, hn]; exact nI_le (a := nn) (b := i_91) (by omega) (by rw [hi2_91]; exact (by omega))) c_41)
                        refine lv_iconst (v := 0) hx hb dX12_span_160 (by decide) ?_
                        refine lv_istore (lv' := [(7, .int 0), (6, .int 0), (0, .ref oM), (1, .int 4), (2, .int fr), (3, .int n), (4, .int le), (5, .int sp)]) hx hb dX12_span_161 hl (by decide) rfl (fun ls hl => ?_)
                        have LOOP_163 : ∀ (k_163 i_163 : Nat) (xc_163 : Int32) (fL : Nat → Int32) (fB : Nat → Int32) (H : Heap) (locs : List Loc) (ls : Array Slot), i_163 + k_163 = nn → xc_163 = nI i_163 →  va_P (dC, dI) vwCl [(oM, .inr (12, [.ref mT, .int 0, .ref mS, .ref mX, .int 0, .int 0, .ref mL, .ref mB, .ref mD, .ref m1, .ref m2, .int 0, .ref mR, .int 0, .ref x1, .ref x2, .ref x3, .int 0, .ref mH, .int 0, .int 0, .int 0, .int 0, .int (-1), .int (-1), .int 0, .ref mY, .int 0, .ref mE, .int 0, .int 0, .ref mW, .int 0, .ref mO, .int 0, .ref y1, .ref y2, .ref y3, .ref y4, .ref mZ])), (mL, .inl (cI, 512, .inl fL)), (mB, .inl (cS, 131072, .inl fB)), (mD, .inl (cI, 2, .inl (fun _ => 0)))] H → va_D A [(oM, .inr (12, [.ref mT, .int 0, .ref mS, .ref mX, .int 0, .int 0, .ref mL, .ref mB, .ref mD, .ref m1, .ref m2, .int 0, .ref mR, .int 0, .ref x1, .ref x2, .ref x3, .int 0, .ref mH, .int 0, .int 0, .int 0, .int 0, .int (-1), .int (-1), .int 0, .ref mY, .int 0, .ref mE, .int 0, .int 0, .ref mW, .int 0, .ref mO, .int 0, .ref y1, .ref y2, .ref y3, .ref y4, .ref mZ])), (mL, .inl (cI, 512, .inl fL)), (mB, .inl (cS, 131072, .inl fB)), (mD, .inl (cI, 2, .inl (fun _ => 0)))] → va_S A s.heap H locs → lv_has ls 9 [(7, .int xc_163), (6, .int 0), (0, .ref oM), (1, .int 4), (2, .int fr), (3, .int n), (4, .int le), (5, .int sp)] → W p l e (headSpec wsX12_span ({ frames := 1, cells := 0, slots := 0, locals := 20 } : Room)).room s m ([.ref oM, .int 4, .int fr, .int n, .int le, .int sp] : List Value).toArray below meth c H locs 0 0 (MQ below (va_Qi (fun (r : Int32) (_ : Unit) => r = g_span fr n le sp) (fun _ _ => True) A) ([.ref oM, .int 4, .int fr, .int n, .int le, .int sp] : List Value).toArray s 0 0 A) (F0 m 163 ls []) := by
                          intro k_163
                          induction k_163 with
                          | zero =>
                            intro i_163 xc_163 fL fB H locs ls hi_163 hxc_163  hP hD hS hl
                            have hi2_163 : i_163 = nn := by omega
                            refine lv_iload hx hb dX12_span_163 (lv_at hl 0 rfl) ?_
                            refine lv_iload_n hx hb dX12_span_165 rfl (lv_at hl 5 rfl) ?_
                            refine lv_icmp_ge (tgt := 223) hx hb dX12_span_166 (by decide) (fun c_42 => ?_) (fun c_42 => absurd (by rw [hxc_163, hn]; exact nI_le (a := nn) (b := i_163) (by omega) (by rw [hi2_163]; exact (by omega))) c_42)
                            refine lv_aload_n hx hb dX12_span_223 rfl (lv_at hl 2 rfl) ?_
                            refine va_get (D := (dC, dI)) (ci := 12) (v := .ref mD) (C := RX12) (T := TX12) (N := 40) hx hb hts in_X12 hown hK hP 0 rfl rfl 8 (by decide) (hts (.fieldLink RX12 27 "TextMenderModel" "told" "[I") (List.mem_of_getElem? (i := 6) rfl)) (fun _ h9 => h9) rfl dX12_span_224 ?_
                            refine lv_iload hx hb dX12_span_227 (lv_at hl 1 rfl) ?_
                            refine lv_dup2_11 hx hb dX12_span_229 rfl rfl ?_
                            refine va_iald hx hb hK hP 3 0 rfl rfl (by unfold vp_in; decide) dX12_span_230 ?_
                            refine k_i (y := 0) (by first | rfl | decide) ?_
                            refine lv_iload_n hx hb dX12_span_231 rfl (lv_at hl 5 rfl) ?_
                            refine lv_iadd hx hb dX12_span_232 ?_
                            refine lv_topi (fun x_43 ex_43 => ?_)
                            refine va_iast hx hb hK hP hD hS 3 0 rfl rfl (by unfold vp_in; decide) dX12_span_233 (fun H locs hP hD hS => ?_)
                            have hP : va_P (dC, dI) vwCl [(oM, .inr (12, [.ref mT, .int 0, .ref mS, .ref mX, .int 0, .int 0, .ref mL, .ref mB, .ref mD, .ref m1, .ref m2, .int 0, .ref mR, .int 0, .ref x1, .ref x2, .ref x3, .int 0, .ref mH, .int 0, .int 0, .int 0, .int 0, .int (-1), .int (-1), .int 0, .ref mY, .int 0, .ref mE, .int 0, .int 0, .ref mW, .int 0, .ref mO, .int 0, .ref y1, .ref y2, .ref y3, .ref y4, .ref mZ])), (mL, .inl (cI, 512, .inl fL)), (mB, .inl (cS, 131072, .inl fB)), (mD, .inl (cI, 2, .inl (upd (fun _ => 0) (0 : Int32).toNatClampNeg x_43)))] H := hP
                            have hD : va_D A [(oM, .inr (12, [.ref mT, .int 0, .ref mS, .ref mX, .int 0, .int 0, .ref mL, .ref mB, .ref mD, .ref m1, .ref m2, .int 0, .ref mR, .int 0, .ref x1, .ref x2, .ref x3, .int 0, .ref mH, .int 0, .int 0, .int 0, .int 0, .int (-1), .int (-1), .int 0, .ref mY, .int 0, .ref mE, .int 0, .int 0, .ref mW, .int 0, .ref mO, .int 0, .ref y1, .ref y2, .ref y3, .ref y4, .ref mZ])), (mL, .inl (cI, 512, .inl fL)), (mB, .inl (cS, 131072, .inl fB)), (mD, .inl (cI, 2, .inl (upd (fun _ => 0) (0 : Int32).toNatClampNeg x_43)))] := hD
                            refine lv_aload_n hx hb dX12_span_234 rfl (lv_at hl 2 rfl) ?_
                            refine lv_dup hx hb dX12_span_235 rfl ?_
                            refine va_get (D := (dC, dI)) (ci := 12) (v := .int 0) (C := RX12) (T := TX12) (N := 40) hx hb hts in_X12 hown hK hP 0 rfl rfl 22 (by decide) (hts (.fieldLink RX12 148 "TextMenderModel" "state" "I") (List.mem_of_getElem? (i := 7) rfl)) (fun _ h9 => h9) rfl dX12_span_236 ?_
                            refine lv_iconst (v := 1) hx hb dX12_span_239 (by decide) ?_
                            refine lv_iadd hx hb dX12_span_240 ?_
                            refine k_i (y := 1) (by decide) ?_
                            refine va_put (D := (dC, dI)) (ci := 12) (v := .int 1) (ty := .int) (C := RX12) (T := TX12) (N := 40) hx hb hts in_X12 tyX12 tyX12_ok nmX12 hown hK hP hD hS 0 rfl rfl 22 (by decide) (hts (.fieldLink RX12 148 "TextMenderModel" "state" "I") (List.mem_of_getElem? (i := 7) rfl)) (fun _ h9 => h9) rfl (by decide +kernel) rfl rfl (Nat.le_of_ble_eq_true rfl) dX12_span_241 (fun H locs hP hD hS => ?_)
                            have hP : va_P (dC, dI) vwCl [(oM, .inr (12, [.ref mT, .int 0, .ref mS, .ref mX, .int 0, .int 0, .ref mL, .ref mB, .ref mD, .ref m1, .ref m2, .int 0, .ref mR, .int 0, .ref x1, .ref x2, .ref x3, .int 0, .ref mH, .int 0, .int 0, .int 0, .int 1, .int (-1), .int (-1), .int 0, .ref mY, .int 0, .ref mE, .int 0, .int 0, .ref mW, .int 0, .ref mO, .int 0, .ref y1, .ref y2, .ref y3, .ref y4, .ref mZ])), (mL, .inl (cI, 512, .inl fL)), (mB, .inl (cS, 131072, .inl fB)), (mD, .inl (cI, 2, .inl (upd (fun _ => 0) (0 : Int32).toNatClampNeg x_43)))] H := hP
                            have hD : va_D A [(oM, .inr (12, [.ref mT, .int 0, .ref mS, .ref mX, .int 0, .int 0, .ref mL, .ref mB, .ref mD, .ref m1, .ref m2, .int 0, .ref mR, .int 0, .ref x1, .ref x2, .ref x3, .int 0, .ref mH, .int 0, .int 0, .int 0, .int 1, .int (-1), .int (-1), .int 0, .ref mY, .int 0, .ref mE, .int 0, .int 0, .ref mW, .int 0, .ref mO, .int 0, .ref y1, .ref y2, .ref y3, .ref y4, .ref mZ])), (mL, .inl (cI, 512, .inl fL)), (mB, .inl (cS, 131072, .inl fB)), (mD, .inl (cI, 2, .inl (upd (fun _ => 0) (0 : Int32).toNatClampNeg x_43)))] := hD
                            refine lv_aload_n hx hb dX12_span_244 rfl (lv_at hl 2 rfl) ?_
                            refine va_get (D := (dC, dI)) (ci := 12) (v := .ref mD) (C := RX12) (T := TX12) (N := 40) hx hb hts in_X12 hown hK hP 0 rfl rfl 8 (by decide) (hts (.fieldLink RX12 27 "TextMenderModel" "told" "[I") (List.mem_of_getElem? (i := 6) rfl)) (fun _ h9 => h9) rfl dX12_span_245 ?_
                            refine lv_iload hx hb dX12_span_248 (lv_at hl 1 rfl) ?_
                            refine va_iald hx hb hK hP 3 0 rfl rfl (by unfold vp_in; decide) dX12_span_250 ?_
                            refine k_i (y := x_43) (by first | rfl | decide) ?_
                            exact W.iret (v := x_43) hx hb hr (fun t ht hW => ⟨⟨x_43, (), rfl, by rw [g_span, if_neg (show ¬ g_can fr n le sp = 0 by rw [g_can, if_neg c_3, if_neg c_4, if_neg c_5, if_neg (show ¬ 256 - fr < n by rw [← ex_6]; exact c_7), if_neg c_8, if_neg c_9, if_neg (fun h => c_38 h.2), if_neg c_40, if_pos (fun j hj => hok j (by rw [hn, nI_clamp (by omega)] at hj; omega))]; decide), ex_43, Int32.zero_add], trivial⟩, hS.F ht⟩) (hS.2.2) dX12_span_251
                          | succ k_163 ih_163 =>
                            intro i_163 xc_163 fL fB H locs ls hi_163 hxc_163  hP hD hS hl
                            refine lv_iload hx hb dX12_span_163 (lv_at hl 0 rfl) ?_
                            refine lv_iload_n hx hb dX12_span_165 rfl (lv_at hl 5 rfl) ?_
                            refine lv_icmp_ge (tgt := 223) hx hb dX12_span_166 (by decide) (fun c_44 => absurd c_44 (by rw [hxc_163, hn]; exact nI_ge (a := i_163) (b := nn) (by omega) (by omega))) (fun c_44 => ?_)
                            refine lv_aload_n hx hb dX12_span_169 rfl (lv_at hl 2 rfl) ?_
                            refine va_get (D := (dC, dI)) (ci := 12) (v := .ref mL) (C := RX12) (T := TX12) (N := 40) hx hb hts in_X12 hown hK hP 0 rfl rfl 6 (by decide) (hts (.fieldLink RX12 19 "TextMenderModel" "letterOf" "[I") (List.mem_of_getElem? (i := 3) rfl)) (fun _ h9 => h9) rfl dX12_span_170 ?_
                            refine lv_sipush (v := 256) hx hb dX12_span_173 (by decide) ?_
                            refine lv_iload hx hb dX12_span_176 (lv_at hl 1 rfl) ?_
                            refine lv_imul hx hb dX12_span_178 ?_
                            refine k_i (y := 0) (by decide) ?_
                            refine lv_iload_n hx hb dX12_span_179 rfl (lv_at hl 4 rfl) ?_
                            refine lv_iadd hx hb dX12_span_180 ?_
                            refine lv_topi (fun x_45 ex_45 => ?_)
                            refine lv_iload hx hb dX12_span_181 (lv_at hl 0 rfl) ?_
                            refine lv_iadd hx hb dX12_span_183 ?_
                            refine lv_topi (fun x_46 ex_46 => ?_)
                            refine lv_iload hx hb dX12_span_184 (lv_at hl 6 rfl) ?_
                            refine lv_iload hx hb dX12_span_186 (lv_at hl 0 rfl) ?_
                            refine lv_iload hx hb dX12_span_188 (lv_at hl 7 rfl) ?_
                            refine lv_imul hx hb dX12_span_190 ?_
                            refine lv_topi (fun x_47 ex_47 => ?_)
                            refine lv_iadd hx hb dX12_span_191 ?_
                            refine lv_topi (fun x_48 ex_48 => ?_)
                            refine va_iast hx hb hK hP hD hS 1 0 rfl rfl (p_in3 0 ff i_163 512 ex_46 ex_45 rfl hff hxc_163 (by omega) (by decide)) dX12_span_192 (fun H locs hP hD hS => ?_)
                            have hP : va_P (dC, dI) vwCl [(oM, .inr (12, [.ref mT, .int 0, .ref mS, .ref mX, .int 0, .int 0, .ref mL, .ref mB, .ref mD, .ref m1, .ref m2, .int 0, .ref mR, .int 0, .ref x1, .ref x2, .ref x3, .int 0, .ref mH, .int 0, .int 0, .int 0, .int 0, .int (-1), .int (-1), .int 0, .ref mY, .int 0, .ref mE, .int 0, .int 0, .ref mW, .int 0, .ref mO, .int 0, .ref y1, .ref y2, .ref y3, .ref y4, .ref mZ])), (mL, .inl (cI, 512, .inl (upd fL (x_46 : Int32).toNatClampNeg x_48))), (mB, .inl (cS, 131072, .inl fB)), (mD, .inl (cI, 2, .inl (fun _ => 0)))] H := hP
                            have hD : va_D A [(oM, .inr (12, [.ref mT, .int 0, .ref mS, .ref mX, .int 0, .int 0, .ref mL, .ref mB, .ref mD, .ref m1, .ref m2, .int 0, .ref mR, .int 0, .ref x1, .ref x2, .ref x3, .int 0, .ref mH, .int 0, .int 0, .int 0, .int 0, .int (-1), .int (-1), .int 0, .ref mY, .int 0, .ref mE, .int 0, .int 0, .ref mW, .int 0, .ref mO, .int 0, .ref y1, .ref y2, .ref y3, .ref y4, .ref mZ])), (mL, .inl (cI, 512, .inl (upd fL (x_46 : Int32).toNatClampNeg x_48))), (mB, .inl (cS, 131072, .inl fB)), (mD, .inl (cI, 2, .inl (fun _ => 0)))] := hD
                            refine lv_aload_n hx hb dX12_span_193 rfl (lv_at hl 2 rfl) ?_
                            refine va_get (D := (dC, dI)) (ci := 12) (v := .ref mB) (C := RX12) (T := TX12) (N := 40) hx hb hts in_X12 hown hK hP 0 rfl rfl 7 (by decide) (hts (.fieldLink RX12 23 "TextMenderModel" "byteOfLetter" "[S") (List.mem_of_getElem? (i := 4) rfl)) (fun _ h9 => h9) rfl dX12_span_194 ?_
                            refine lv_ldc hx hb hown (hts (.constant RX12 88 (65536)) (List.mem_of_getElem? (i := 5) rfl)) dX12_span_197 ?_
                            refine lv_iload hx hb dX12_span_199 (lv_at hl 1 rfl) ?_
                            refine lv_imul hx hb dX12_span_201 ?_
                            refine k_i (y := 0) (by decide) ?_
                            refine lv_iload hx hb dX12_span_202 (lv_at hl 6 rfl) ?_
                            refine lv_iadd hx hb dX12_span_204 ?_
                            refine lv_topi (fun x_49 ex_49 => ?_)
                            refine lv_iload hx hb dX12_span_205 (lv_at hl 0 rfl) ?_
                            refine lv_iload hx hb dX12_span_207 (lv_at hl 7 rfl) ?_
                            refine lv_imul hx hb dX12_span_209 ?_
                            refine lv_topi (fun x_50 ex_50 => ?_)
                            refine lv_iadd hx hb dX12_span_210 ?_
                            refine lv_topi (fun x_51 ex_51 => ?_)
                            refine lv_iload_n hx hb dX12_span_211 rfl (lv_at hl 4 rfl) ?_
                            refine lv_iload hx hb dX12_span_212 (lv_at hl 0 rfl) ?_
                            refine lv_iadd hx hb dX12_span_214 ?_
                            refine lv_topi (fun x_52 ex_52 => ?_)
                            obtain ⟨x_53, ex_53⟩ : ∃ v : Int32, v = (x_52 : Int32).toInt16.toInt32 := ⟨_, rfl⟩
                            refine lv_i2s (v := x_53) hx hb dX12_span_215 ex_53.symm ?_
                            refine va_sast hx hb hK hP hD hS 2 1 rfl rfl (p_inlet2 0 131072 ex_51 ex_49 rfl (by rw [ex_50, hxc_163]; exact hok i_163 (by omega)) (by decide) (by decide)) dX12_span_216 (fun H locs hP hD hS => ?_)
                            have hP : va_P (dC, dI) vwCl [(oM, .inr (12, [.ref mT, .int 0, .ref mS, .ref mX, .int 0, .int 0, .ref mL, .ref mB, .ref mD, .ref m1, .ref m2, .int 0, .ref mR, .int 0, .ref x1, .ref x2, .ref x3, .int 0, .ref mH, .int 0, .int 0, .int 0, .int 0, .int (-1), .int (-1), .int 0, .ref mY, .int 0, .ref mE, .int 0, .int 0, .ref mW, .int 0, .ref mO, .int 0, .ref y1, .ref y2, .ref y3, .ref y4, .ref mZ])), (mL, .inl (cI, 512, .inl (upd fL (x_46 : Int32).toNatClampNeg x_48))), (mB, .inl (cS, 131072, .inl (upd fB (x_51 : Int32).toNatClampNeg (vp_nar .short x_53)))), (mD, .inl (cI, 2, .inl (fun _ => 0)))] H := hP
                            have hD : va_D A [(oM, .inr (12, [.ref mT, .int 0, .ref mS, .ref mX, .int 0, .int 0, .ref mL, .ref mB, .ref mD, .ref m1, .ref m2, .int 0, .ref mR, .int 0, .ref x1, .ref x2, .ref x3, .int 0, .ref mH, .int 0, .int 0, .int 0, .int 0, .int (-1), .int (-1), .int 0, .ref mY, .int 0, .ref mE, .int 0, .int 0, .ref mW, .int 0, .ref mO, .int 0, .ref y1, .ref y2, .ref y3, .ref y4, .ref mZ])), (mL, .inl (cI, 512, .inl (upd fL (x_46 : Int32).toNatClampNeg x_48))), (mB, .inl (cS, 131072, .inl (upd fB (x_51 : Int32).toNatClampNeg (vp_nar .short x_53)))), (mD, .inl (cI, 2, .inl (fun _ => 0)))] := hD
                            obtain ⟨x_54, ex_54⟩ : ∃ y : Int32, y = xc_163 + 1 := ⟨_, rfl⟩
                            refine lv_iinc (v := x_54) (lv' := [(7, .int x_54), (6, .int 0), (0, .ref oM), (1, .int 4), (2, .int fr), (3, .int n), (4, .int le), (5, .int sp)]) hx hb dX12_span_217 hl (k := 0) rfl (by rw [ex_54]; rfl) (by decide) rfl (fun ls hl => ?_)
                            refine lv_goto (tgt := 163) hx hb dX12_span_220 (by decide) ?_
                            exact ih_163 (i_163 + 1) x_54 (upd fL (x_46 : Int32).toNatClampNeg x_48) (upd fB (x_51 : Int32).toNatClampNeg (vp_nar .short x_53)) _ _ _ (by omega) (by rw [ex_54, hxc_163]; exact nI_1 i_163)  hP hD hS (lv_sub hl [0, 1, 2, 3, 4, 5, 6, 7] rfl)
                        exact LOOP_163 nn 0 0 (fun _ => (-1)) (fun _ => (-1)) _ _ _ (by omega) nI_0.symm  hP hD hS (lv_sub hl [0, 1, 2, 3, 4, 5, 6, 7] rfl)
                      | succ k_91 ih_91 =>
                        intro i_91 xc_91  H locs ls hi_91 hxc_91  hok hP hD hS hl
                        refine lv_iload hx hb dX12_span_91 (lv_at hl 0 rfl) ?_
                        refine lv_iload_n hx hb dX12_span_93 rfl (lv_at hl 5 rfl) ?_
                        refine lv_icmp_ge (tgt := 160) hx hb dX12_span_94 (by decide) (fun c_55 => absurd c_55 (by rw [hxc_91, hn]; exact nI_ge (a := i_91) (b := nn) (by omega) (by omega))) (fun c_55 => ?_)
                        refine lv_iload hx hb dX12_span_97 (lv_at hl 6 rfl) ?_
                        refine lv_iload hx hb dX12_span_99 (lv_at hl 0 rfl) ?_
                        refine lv_iload hx hb dX12_span_101 (lv_at hl 7 rfl) ?_
                        refine lv_imul hx hb dX12_span_103 ?_
                        refine lv_topi (fun x_56 ex_56 => ?_)
                        refine lv_iadd hx hb dX12_span_104 ?_
                        refine lv_topi (fun x_57 ex_57 => ?_)
                        refine lv_istore (lv' := [(8, .int x_57), (7, .int xc_91), (6, .int 0), (0, .ref oM), (1, .int 4), (2, .int fr), (3, .int n), (4, .int le), (5, .int sp)]) hx hb dX12_span_105 hl (by decide) rfl (fun ls hl => ?_)
                        refine lv_iload hx hb dX12_span_107 (lv_at hl 0 rfl) ?_
                        have hPc := hP.sub (ws' := []) [] rfl
                        have hDc := hD.sub (ws' := []) [] (by decide) rfl
                        have hFc := va_free (wc := []) hD hS hA [] rfl
                        refine va_calli (va_runS (As := [.int x_57]) (rest := []) ⟨hx, hb, hml, hown, hts⟩ (m_X12_isLetter l dC dI cI cS H.size x_57 ) (va_cwS 1 hts gX12_span_X12_isLetter rfl rfl rfl (by decide +kernel) ⟨Nat.le_of_ble_eq_true rfl, Nat.le_of_ble_eq_true rfl⟩) ⟨fun a U g mk q => by obtain ⟨q0, q1, qP, qK, qD⟩ := q; exact ⟨q0, q1, qP, va_K.moved (u := U) (U := U.calling g mk a) (Vm.Alike.refl U.vm) qK, qD⟩, fun U hU hW => ⟨rfl, by rw [hU], by rw [hU]; exact hPc, va_K.moved hW.alike hK, hDc.weaken (fun _ _ _ _ => trivial)⟩⟩ rfl rfl hl.1 rfl (lv_room (Nat.le_of_ble_eq_true rfl)) dX12_span_109 ⟨Nat.le_of_ble_eq_true rfl, Nat.le_of_ble_eq_true rfl⟩) hS (fun q _ h => hFc q h) hFc (fun r_58 u t H1 locs ht hvm hw hB hz1 hk1 hS => ?_)
                        obtain ⟨hP1, hD1⟩ := hB
                        rw [ht] at hP1
                        obtain ⟨hP, hD⟩ := va_join (wr := [(oM, .inr (12, [.ref mT, .int 0, .ref mS, .ref mX, .int 0, .int 0, .ref mL, .ref mB, .ref mD, .ref m1, .ref m2, .int 0, .ref mR, .int 0, .ref x1, .ref x2, .ref x3, .int 0, .ref mH, .int 0, .int 0, .int 0, .int 0, .int (-1), .int (-1), .int 0, .ref mY, .int 0, .ref mE, .int 0, .int 0, .ref mW, .int 0, .ref mO, .int 0, .ref y1, .ref y2, .ref y3, .ref y4, .ref mZ])), (mL, .inl (cI, 512, .inl (fun _ => (-1)))), (mB, .inl (cS, 131072, .inl (fun _ => (-1)))), (mD, .inl (cI, 2, .inl (fun _ => 0)))]) (w1 := []) hP hD [] [0, 1, 2, 3] rfl rfl (by decide) (by decide) hk1 hFc hP1 hD1
                        generalize H1 = H at hP hS ⊢
                        have hP : va_P (dC, dI) vwCl [(oM, .inr (12, [.ref mT, .int 0, .ref mS, .ref mX, .int 0, .int 0, .ref mL, .ref mB, .ref mD, .ref m1, .ref m2, .int 0, .ref mR, .int 0, .ref x1, .ref x2, .ref x3, .int 0, .ref mH, .int 0, .int 0, .int 0, .int 0, .int (-1), .int (-1), .int 0, .ref mY, .int 0, .ref mE, .int 0, .int 0, .ref mW, .int 0, .ref mO, .int 0, .ref y1, .ref y2, .ref y3, .ref y4, .ref mZ])), (mL, .inl (cI, 512, .inl (fun _ => (-1)))), (mB, .inl (cS, 131072, .inl (fun _ => (-1)))), (mD, .inl (cI, 2, .inl (fun _ => 0)))] H := hP
                        have hD : va_D A [(oM, .inr (12, [.ref mT, .int 0, .ref mS, .ref mX, .int 0, .int 0, .ref mL, .ref mB, .ref mD, .ref m1, .ref m2, .int 0, .ref mR, .int 0, .ref x1, .ref x2, .ref x3, .int 0, .ref mH, .int 0, .int 0, .int 0, .int 0, .int (-1), .int (-1), .int 0, .ref mY, .int 0, .ref mE, .int 0, .int 0, .ref mW, .int 0, .ref mO, .int 0, .ref y1, .ref y2, .ref y3, .ref y4, .ref mZ])), (mL, .inl (cI, 512, .inl (fun _ => (-1)))), (mB, .inl (cS, 131072, .inl (fun _ => (-1)))), (mD, .inl (cI, 2, .inl (fun _ => 0)))] := hD
                        rw [hw]
                        refine lv_if_eq (tgt := 152) hx hb dX12_span_112 (by decide) (fun c_59 => ?_) (fun c_59 => ?_)
                        · refine lv_iconst (v := (-1)) hx hb dX12_span_152 (by decide) ?_
                          exact W.iret (v := (-1)) hx hb hr (fun t ht hW => ⟨⟨(-1), (), rfl, by rw [g_span, if_pos (show g_can fr n le sp = 0 by rw [g_can, if_neg c_3, if_neg c_4, if_neg c_5, if_neg (show ¬ 256 - fr < n by rw [← ex_6]; exact c_7), if_neg c_8, if_neg c_9, if_neg (fun h => c_38 h.2), if_neg c_40, if_neg (fun h => h i_91 (by rw [hn, nI_clamp (by omega)]; omega) (by rw [← hxc_91, ← ex_56, ← ex_57]; exact c_59))])], trivial⟩, hS.F ht⟩) (hS.2.2) dX12_span_153
                        · refine lv_aload_n hx hb dX12_span_115 rfl (lv_at hl 3 rfl) ?_
                          refine va_get (D := (dC, dI)) (ci := 12) (v := .ref mL) (C := RX12) (T := TX12) (N := 40) hx hb hts in_X12 hown hK hP 0 rfl rfl 6 (by decide) (hts (.fieldLink RX12 19 "TextMenderModel" "letterOf" "[I") (List.mem_of_getElem? (i := 3) rfl)) (fun _ h9 => h9) rfl dX12_span_116 ?_
                          refine lv_sipush (v := 256) hx hb dX12_span_119 (by decide) ?_
                          refine lv_iload hx hb dX12_span_122 (lv_at hl 2 rfl) ?_
                          refine lv_imul hx hb dX12_span_124 ?_
                          refine k_i (y := 0) (by decide) ?_
                          refine lv_iload_n hx hb dX12_span_125 rfl (lv_at hl 5 rfl) ?_
                          refine lv_iadd hx hb dX12_span_126 ?_
                          refine lv_topi (fun x_60 ex_60 => ?_)
                          refine lv_iload hx hb dX12_span_127 (lv_at hl 1 rfl) ?_
                          refine lv_iadd hx hb dX12_span_129 ?_
                          refine lv_topi (fun x_61 ex_61 => ?_)
                          refine va_iald hx hb hK hP 1 0 rfl rfl (p_in3 0 ff i_91 512 ex_61 ex_60 rfl hff hxc_91 (by omega) (by decide)) dX12_span_130 ?_
                          refine k_i (y := (-1)) rfl ?_
                          refine lv_iconst (v := (-1)) hx hb dX12_span_131 (by decide) ?_
                          refine lv_icmp_ne (tgt := 152) hx hb dX12_span_132 (by decide) (fun c_62 => absurd (by decide) c_62) (fun c_62 => ?_)
                          refine lv_aload_n hx hb dX12_span_135 rfl (lv_at hl 3 rfl) ?_
                          refine va_get (D := (dC, dI)) (ci := 12) (v := .ref mB) (C := RX12) (T := TX12) (N := 40) hx hb hts in_X12 hown hK hP 0 rfl rfl 7 (by decide) (hts (.fieldLink RX12 23 "TextMenderModel" "byteOfLetter" "[S") (List.mem_of_getElem? (i := 4) rfl)) (fun _ h9 => h9) rfl dX12_span_136 ?_
                          refine lv_ldc hx hb hown (hts (.constant RX12 88 (65536)) (List.mem_of_getElem? (i := 5) rfl)) dX12_span_139 ?_
                          refine lv_iload hx hb dX12_span_141 (lv_at hl 2 rfl) ?_
                          refine lv_imul hx hb dX12_span_143 ?_
                          refine k_i (y := 0) (by decide) ?_
                          refine lv_iload hx hb dX12_span_144 (lv_at hl 0 rfl) ?_
                          refine lv_iadd hx hb dX12_span_146 ?_
                          refine lv_topi (fun x_63 ex_63 => ?_)
                          refine va_sald hx hb hK hP 2 1 rfl rfl (p_inlet 0 131072 ex_63 rfl c_59 (by decide) (by decide)) dX12_span_147 ?_
                          refine k_i (y := (-1)) rfl ?_
                          refine lv_iconst (v := (-1)) hx hb dX12_span_148 (by decide) ?_
                          refine lv_icmp_eq (tgt := 154) hx hb dX12_span_149 (by decide) (fun c_64 => ?_) (fun c_64 => absurd (by decide) c_64)
                          obtain ⟨x_65, ex_65⟩ : ∃ y : Int32, y = xc_91 + 1 := ⟨_, rfl⟩
                          refine lv_iinc (v := x_65) (lv' := [(7, .int x_65), (8, .int x_57), (6, .int 0), (0, .ref oM), (1, .int 4), (2, .int fr), (3, .int n), (4, .int le), (5, .int sp)]) hx hb dX12_span_154 hl (k := 1) rfl (by rw [ex_65]; rfl) (by decide) rfl (fun ls hl => ?_)
                          refine lv_goto (tgt := 91) hx hb dX12_span_157 (by decide) ?_
                          exact ih_91 (i_91 + 1) x_65  _ _ _ (by omega) (by rw [ex_65, hxc_91]; exact nI_1 i_91)  (lt_s hok (by rw [← hxc_91, ← ex_56, ← ex_57]; exact c_59)) hP hD hS (lv_sub hl [0, 2, 3, 4, 5, 6, 7, 8] rfl)
                    exact LOOP_91 nn 0 0  _ _ _ (by omega) nI_0.symm  (fun j hj => absurd hj (Nat.not_lt_zero j)) hP hD hS (lv_sub hl [0, 1, 2, 3, 4, 5, 6, 7] rfl)
                  · refine lv_iconst (v := (-1)) hx hb dX12_span_86 (by decide) ?_
                    exact W.iret (v := (-1)) hx hb hr (fun t ht hW => ⟨⟨(-1), (), rfl, by rw [g_span, if_pos (show g_can fr n le sp = 0 by simp [g_can, ← ex_6, c_3, c_4, c_5, c_7, c_8, c_9, c_10, c_38, c_40])], trivial⟩, hS.F ht⟩) (hS.2.2) dX12_span_87
                · refine lv_iconst (v := (-1)) hx hb dX12_span_71 (by decide) ?_
                  exact W.iret (v := (-1)) hx hb hr (fun t ht hW => ⟨⟨(-1), (), rfl, by rw [g_span, if_pos (show g_can fr n le sp = 0 by simp [g_can, ← ex_6, c_3, c_4, c_5, c_7, c_8, c_9, c_10, c_38])], trivial⟩, hS.F ht⟩) (hS.2.2) dX12_span_72

set_option maxHeartbeats 4000000 in
set_option maxRecDepth 100000 in
theorem y_span_5 (l : Launch) (dC : Nat → ClassId) (dI : Nat → Nat → Nat) (cI cS : ClassId) (sz : Nat) (oM : Nat) (mT : Nat) (mS : Nat) (mX : Nat) (mL : Nat) (mB : Nat) (mD : Nat) (m1 : Nat) (m2 : Nat) (mR : Nat) (x1 : Nat) (x2 : Nat) (x3 : Nat) (mH : Nat) (mY : Nat) (mE : Nat) (mW : Nat) (mO : Nat) (y1 : Nat) (y2 : Nat) (y3 : Nat) (y4 : Nat) (mZ : Nat) (fr : Int32) (n : Int32) (le : Int32) (sp : Int32)  : Met l yX12_span wsX12_span ({ frames := 1, cells := 0, slots := 0, locals := 20 } : Room) (va_Pc [.ref oM, .int 5, .int fr, .int n, .int le, .int sp] (fun U => U.heap.size = sz ∧ va_P (dC, dI) vwCl [(oM, .inr (12, [.ref mT, .int 0, .ref mS, .ref mX, .int 0, .int 0, .ref mL, .ref mB, .ref mD, .ref m1, .ref m2, .int 0, .ref mR, .int 0, .ref x1, .ref x2, .ref x3, .int 0, .ref mH, .int 0, .int 0, .int 0, .int 0, .int (-1), .int (-1), .int 0, .ref mY, .int 0, .ref mE, .int 0, .int 0, .ref mW, .int 0, .ref mO, .int 0, .ref y1, .ref y2, .ref y3, .ref y4, .ref mZ])), (mL, .inl (cI, 512, .inl (fun _ => (-1)))), (mB, .inl (cS, 131072, .inl (fun _ => (-1)))), (mD, .inl (cI, 2, .inl (fun _ => 0)))] U.heap ∧ va_K (dC, dI) vwCl [(cI, .int), (cS, .short)] U ∧ va_D (fun _ => True) [(oM, .inr (12, [.ref mT, .int 0, .ref mS, .ref mX, .int 0, .int 0, .ref mL, .ref mB, .ref mD, .ref m1, .ref m2, .int 0, .ref mR, .int 0, .ref x1, .ref x2, .ref x3, .int 0, .ref mH, .int 0, .int 0, .int 0, .int 0, .int (-1), .int (-1), .int 0, .ref mY, .int 0, .ref mE, .int 0, .int 0, .ref mW, .int 0, .ref mO, .int 0, .ref y1, .ref y2, .ref y3, .ref y4, .ref mZ])), (mL, .inl (cI, 512, .inl (fun _ => (-1)))), (mB, .inl (cS, 131072, .inl (fun _ => (-1)))), (mD, .inl (cI, 2, .inl (fun _ => 0)))])) (va_Qi (fun (r : Int32) (_ : Unit) => r = g_span fr n le sp) (fun _ _ => True) (va_A [(oM, .inr (12, [.ref mT, .int 0, .ref mS, .ref mX, .int 0, .int 0, .ref mL, .ref mB, .ref mD, .ref m1, .ref m2, .int 0, .ref mR, .int 0, .ref x1, .ref x2, .ref x3, .int 0, .ref mH, .int 0, .int 0, .int 0, .int 0, .int (-1), .int (-1), .int 0, .ref mY, .int 0, .ref mE, .int 0, .int 0, .ref mW, .int 0, .ref mO, .int 0, .ref y1, .ref y2, .ref y3, .ref y4, .ref mZ])), (mL, .inl (cI, 512, .inl (fun _ => (-1)))), (mB, .inl (cS, 131072, .inl (fun _ => (-1)))), (mD, .inl (cI, 2, .inl (fun _ => 0)))] sz)) 0 0 (va_A [(oM, .inr (12, [.ref mT, .int 0, .ref mS, .ref mX, .int 0, .int 0, .ref mL, .ref mB, .ref mD, .ref m1, .ref m2, .int 0, .ref mR, .int 0, .ref x1, .ref x2, .ref x3, .int 0, .ref mH, .int 0, .int 0, .int 0, .int 0, .int (-1), .int (-1), .int 0, .ref mY, .int 0, .ref mE, .int 0, .int 0, .ref mW, .int 0, .ref mO, .int 0, .ref y1, .ref y2, .ref y3, .ref y4, .ref mZ])), (mL, .inl (cI, 512, .inl (fun _ => (-1)))), (mB, .inl (cS, 131072, .inl (fun _ => (-1)))), (mD, .inl (cI, 2, .inl (fun _ => 0)))] sz) := by
  refine Met.ofW (cc := cX12_span) (maxL := 9) (ret := (some .int)) (by decide) rfl ?_
  intro p e s m args below meth c s₁ B hml hv
  obtain ⟨rfl, hsz, hP, hK, hD0⟩ := hv
  have hx := B.exec
  have hb := B.bytes
  have hr := B.returns
  have hts := atoms_spec (ws := wsX12_span) B.pre
  have hown : s.vm.findClass RX12 = some m.cls := findClass_of_methodNamed B.named
  have hlocks := B.notSynchronized
  have in_X12 : ∀ w ∈ wsX120, w ∈ wsX12_span := fun _ h => List.mem_cons_of_mem _ (List.mem_append_right _ (h))
  subst hsz
  have hD := hD0.self (sz := s.heap.size)
  generalize hAe : va_A [(oM, .inr (12, [.ref mT, .int 0, .ref mS, .ref mX, .int 0, .int 0, .ref mL, .ref mB, .ref mD, .ref m1, .ref m2, .int 0, .ref mR, .int 0, .ref x1, .ref x2, .ref x3, .int 0, .ref mH, .int 0, .int 0, .int 0, .int 0, .int (-1), .int (-1), .int 0, .ref mY, .int 0, .ref mE, .int 0, .int 0, .ref mW, .int 0, .ref mO, .int 0, .ref y1, .ref y2, .ref y3, .ref y4, .ref mZ])), (mL, .inl (cI, 512, .inl (fun _ => (-1)))), (mB, .inl (cS, 131072, .inl (fun _ => (-1)))), (mD, .inl (cI, 2, .inl (fun _ => 0)))] s.heap.size = A at hD ⊢
  have hA : ∀ q : Nat, s.heap.size ≤ q → A q := fun q h => by rw [← hAe]; exact Or.inr h
  have hS : va_S A s.heap s.heap [] := va_S.rf
  have hP : va_P (dC, dI) vwCl [(oM, .inr (12, [.ref mT, .int 0, .ref mS, .ref mX, .int 0, .int 0, .ref mL, .ref mB, .ref mD, .ref m1, .ref m2, .int 0, .ref mR, .int 0, .ref x1, .ref x2, .ref x3, .int 0, .ref mH, .int 0, .int 0, .int 0, .int 0, .int (-1), .int (-1), .int 0, .ref mY, .int 0, .ref mE, .int 0, .int 0, .ref mW, .int 0, .ref mO, .int 0, .ref y1, .ref y2, .ref y3, .ref y4, .ref mZ])), (mL, .inl (cI, 512, .inl (fun _ => (-1)))), (mB, .inl (cS, 131072, .inl (fun _ => (-1)))), (mD, .inl (cI, 2, .inl (fun _ => 0)))] s.heap := hP
  have hl := lv_entry ([.ref oM, .int 5, .int fr, .int n, .int le, .int sp]) (n := 9) (Nat.le_of_ble_eq_true rfl)
  rw [lg_entry_eq]
  generalize (lg_sl ([.ref oM, .int 5, .int fr, .int n, .int le, .int sp]) ++ List.replicate (9 - (lg_sl ([.ref oM, .int 5, .int fr, .int n, .int le, .int sp])).length) Slot.unset).toArray = ls at hl ⊢
  have hl : lv_has ls 9 [(0, .ref oM), (1, .int 5), (2, .int fr), (3, .int n), (4, .int le), (5, .int sp)] := hl
  refine lv_aload_n hx hb dX12_span_0 rfl (lv_at hl 0 rfl) ?_
  refine lv_iconst (v := 0) hx hb dX12_span_1 (by decide) ?_
  refine va_put (D := (dC, dI)) (ci := 12) (v := .int 0) (ty := .int) (C := RX12) (T := TX12) (N := 40) hx hb hts in_X12 tyX12 tyX12_ok nmX12 hown hK hP hD hS 0 rfl rfl 25 (by decide) (hts (.fieldLink RX12 85 "TextMenderModel" "thrown" "I") (List.mem_of_getElem? (i := 1) rfl)) (fun _ h9 => h9) rfl (by decide +kernel) rfl rfl (Nat.le_of_ble_eq_true rfl) dX12_span_2 (fun H locs hP hD hS => ?_)
  have hP : va_P (dC, dI) vwCl [(oM, .inr (12, [.ref mT, .int 0, .ref mS, .ref mX, .int 0, .int 0, .ref mL, .ref mB, .ref mD, .ref m1, .ref m2, .int 0, .ref mR, .int 0, .ref x1, .ref x2, .ref x3, .int 0, .ref mH, .int 0, .int 0, .int 0, .int 0, .int (-1), .int (-1), .int 0, .ref mY, .int 0, .ref mE, .int 0, .int 0, .ref mW, .int 0, .ref mO, .int 0, .ref y1, .ref y2, .ref y3, .ref y4, .ref mZ])), (mL, .inl (cI, 512, .inl (fun _ => (-1)))), (mB, .inl (cS, 131072, .inl (fun _ => (-1)))), (mD, .inl (cI, 2, .inl (fun _ => 0)))] H := hP
  have hD : va_D A [(oM, .inr (12, [.ref mT, .int 0, .ref mS, .ref mX, .int 0, .int 0, .ref mL, .ref mB, .ref mD, .ref m1, .ref m2, .int 0, .ref mR, .int 0, .ref x1, .ref x2, .ref x3, .int 0, .ref mH, .int 0, .int 0, .int 0, .int 0, .int (-1), .int (-1), .int 0, .ref mY, .int 0, .ref mE, .int 0, .int 0, .ref mW, .int 0, .ref mO, .int 0, .ref y1, .ref y2, .ref y3, .ref y4, .ref mZ])), (mL, .inl (cI, 512, .inl (fun _ => (-1)))), (mB, .inl (cS, 131072, .inl (fun _ => (-1)))), (mD, .inl (cI, 2, .inl (fun _ => 0)))] := hD
  refine lv_aload_n hx hb dX12_span_5 rfl (lv_at hl 0 rfl) ?_
  refine lv_iconst (v := (-1)) hx hb dX12_span_6 (by decide) ?_
  refine va_put (D := (dC, dI)) (ci := 12) (v := .int (-1)) (ty := .int) (C := RX12) (T := TX12) (N := 40) hx hb hts in_X12 tyX12 tyX12_ok nmX12 hown hK hP hD hS 0 rfl rfl 24 (by decide) (hts (.fieldLink RX12 55 "TextMenderModel" "where" "I") (List.mem_of_getElem? (i := 2) rfl)) (fun _ h9 => h9) rfl (by decide +kernel) rfl rfl (Nat.le_of_ble_eq_true rfl) dX12_span_7 (fun H locs hP hD hS => ?_)
  have hP : va_P (dC, dI) vwCl [(oM, .inr (12, [.ref mT, .int 0, .ref mS, .ref mX, .int 0, .int 0, .ref mL, .ref mB, .ref mD, .ref m1, .ref m2, .int 0, .ref mR, .int 0, .ref x1, .ref x2, .ref x3, .int 0, .ref mH, .int 0, .int 0, .int 0, .int 0, .int (-1), .int (-1), .int 0, .ref mY, .int 0, .ref mE, .int 0, .int 0, .ref mW, .int 0, .ref mO, .int 0, .ref y1, .ref y2, .ref y3, .ref y4, .ref mZ])), (mL, .inl (cI, 512, .inl (fun _ => (-1)))), (mB, .inl (cS, 131072, .inl (fun _ => (-1)))), (mD, .inl (cI, 2, .inl (fun _ => 0)))] H := hP
  have hD : va_D A [(oM, .inr (12, [.ref mT, .int 0, .ref mS, .ref mX, .int 0, .int 0, .ref mL, .ref mB, .ref mD, .ref m1, .ref m2, .int 0, .ref mR, .int 0, .ref x1, .ref x2, .ref x3, .int 0, .ref mH, .int 0, .int 0, .int 0, .int 0, .int (-1), .int (-1), .int 0, .ref mY, .int 0, .ref mE, .int 0, .int 0, .ref mW, .int 0, .ref mO, .int 0, .ref y1, .ref y2, .ref y3, .ref y4, .ref mZ])), (mL, .inl (cI, 512, .inl (fun _ => (-1)))), (mB, .inl (cS, 131072, .inl (fun _ => (-1)))), (mD, .inl (cI, 2, .inl (fun _ => 0)))] := hD
  refine lv_iload_n hx hb dX12_span_10 rfl (lv_at hl 1 rfl) ?_
  refine lv_iconst (v := 4) hx hb dX12_span_11 (by decide) ?_
  refine lv_icmp_lt (tgt := 71) hx hb dX12_span_12 (by decide) (fun c_1 => absurd c_1 (by decide)) (fun c_1 => ?_)
  refine lv_iload_n hx hb dX12_span_15 rfl (lv_at hl 1 rfl) ?_
  refine lv_iconst (v := 5) hx hb dX12_span_16 (by decide) ?_
  refine lv_icmp_gt (tgt := 71) hx hb dX12_span_17 (by decide) (fun c_2 => absurd c_2 (by decide)) (fun c_2 => ?_)
  refine lv_iload_n hx hb dX12_span_20 rfl (lv_at hl 2 rfl) ?_
  refine lv_if_lt (tgt := 71) hx hb dX12_span_21 (by decide) (fun c_3 => ?_) (fun c_3 => ?_)
  · refine lv_iconst (v := (-1)) hx hb dX12_span_71 (by decide) ?_
    exact W.iret (v := (-1)) hx hb hr (fun t ht hW => ⟨⟨(-1), (), rfl, by rw [g_span, if_pos (show g_can fr n le sp = 0 by simp [g_can, c_3])], trivial⟩, hS.F ht⟩) (hS.2.2) dX12_span_72
  · refine lv_iload_n hx hb dX12_span_24 rfl (lv_at hl 2 rfl) ?_
    refine lv_sipush (v := 255) hx hb dX12_span_25 (by decide) ?_
    refine lv_icmp_gt (tgt := 71) hx hb dX12_span_28 (by decide) (fun c_4 => ?_) (fun c_4 => ?_)
    · refine lv_iconst (v := (-1)) hx hb dX12_span_71 (by decide) ?_
      exact W.iret (v := (-1)) hx hb hr (fun t ht hW => ⟨⟨(-1), (), rfl, by rw [g_span, if_pos (show g_can fr n le sp = 0 by simp [g_can, c_3, c_4])], trivial⟩, hS.F ht⟩) (hS.2.2) dX12_span_72
    · refine lv_iload_n hx hb dX12_span_31 rfl (lv_at hl 3 rfl) ?_
      refine lv_iconst (v := 1) hx hb dX12_span_32 (by decide) ?_
      refine lv_icmp_lt (tgt := 71) hx hb dX12_span_33 (by decide) (fun c_5 => ?_) (fun c_5 => ?_)
      · refine lv_iconst (v := (-1)) hx hb dX12_span_71 (by decide) ?_
        exact W.iret (v := (-1)) hx hb hr (fun t ht hW => ⟨⟨(-1), (), rfl, by rw [g_span, if_pos (show g_can fr n le sp = 0 by simp [g_can, c_3, c_4, c_5])], trivial⟩, hS.F ht⟩) (hS.2.2) dX12_span_72
      · refine lv_iload_n hx hb dX12_span_36 rfl (lv_at hl 3 rfl) ?_
        refine lv_sipush (v := 256) hx hb dX12_span_37 (by decide) ?_
        refine lv_iload_n hx hb dX12_span_40 rfl (lv_at hl 2 rfl) ?_
        refine lv_isub hx hb dX12_span_41 ?_
        refine lv_topi (fun x_6 ex_6 => ?_)
        refine lv_icmp_gt (tgt := 71) hx hb dX12_span_42 (by decide) (fun c_7 => ?_) (fun c_7 => ?_)
        · refine lv_iconst (v := (-1)) hx hb dX12_span_71 (by decide) ?_
          exact W.iret (v := (-1)) hx hb hr (fun t ht hW => ⟨⟨(-1), (), rfl, by rw [g_span, if_pos (show g_can fr n le sp = 0 by simp [g_can, ← ex_6, c_3, c_4, c_5, c_7])], trivial⟩, hS.F ht⟩) (hS.2.2) dX12_span_72
        · refine lv_iload hx hb dX12_span_45 (lv_at hl 5 rfl) ?_
          refine lv_sipush (v := (-255)) hx hb dX12_span_47 (by decide) ?_
          refine lv_icmp_lt (tgt := 71) hx hb dX12_span_50 (by decide) (fun c_8 => ?_) (fun c_8 => ?_)
          · refine lv_iconst (v := (-1)) hx hb dX12_span_71 (by decide) ?_
            exact W.iret (v := (-1)) hx hb hr (fun t ht hW => ⟨⟨(-1), (), rfl, by rw [g_span, if_pos (show g_can fr n le sp = 0 by simp [g_can, ← ex_6, c_3, c_4, c_5, c_7, c_8])], trivial⟩, hS.F ht⟩) (hS.2.2) dX12_span_72
          · refine lv_iload hx hb dX12_span_53 (lv_at hl 5 rfl) ?_
            refine lv_sipush (v := 255) hx hb dX12_span_55 (by decide) ?_
            refine lv_icmp_gt (tgt := 71) hx hb dX12_span_58 (by decide) (fun c_9 => ?_) (fun c_9 => ?_)
            · refine lv_iconst (v := (-1)) hx hb dX12_span_71 (by decide) ?_
              exact W.iret (v := (-1)) hx hb hr (fun t ht hW => ⟨⟨(-1), (), rfl, by rw [g_span, if_pos (show g_can fr n le sp = 0 by simp [g_can, ← ex_6, c_3, c_4, c_5, c_7, c_8, c_9])], trivial⟩, hS.F ht⟩) (hS.2.2) dX12_span_72
            · refine lv_iload_n hx hb dX12_span_61 rfl (lv_at hl 3 rfl) ?_
              refine lv_iconst (v := 1) hx hb dX12_span_62 (by decide) ?_
              refine lv_icmp_le (tgt := 73) hx hb dX12_span_63 (by decide) (fun c_10 => ?_) (fun c_10 => ?_)
              · refine lv_iload_n hx hb dX12_span_73 rfl (lv_at hl 1 rfl) ?_
                refine lv_iconst (v := 4) hx hb dX12_span_74 (by decide) ?_
                refine lv_isub hx hb dX12_span_75 ?_
                refine k_i (y := 1) (by decide) ?_
                refine lv_istore (lv' := [(6, .int 1), (0, .ref oM), (1, .int 5), (2, .int fr), (3, .int n), (4, .int le), (5, .int sp)]) hx hb dX12_span_76 hl (by decide) rfl (fun ls hl => ?_)
                refine lv_iload hx hb dX12_span_78 (lv_at hl 5 rfl) ?_
                have hPc := hP.sub (ws' := []) [] rfl
                have hDc := hD.sub (ws' := []) [] (by decide) rfl
                have hFc := va_free (wc := []) hD hS hA [] rfl
                refine va_calli (va_runS (As := [.int le]) (rest := []) ⟨hx, hb, hml, hown, hts⟩ (m_X12_isLetter l dC dI cI cS H.size le ) (va_cwS 1 hts gX12_span_X12_isLetter rfl rfl rfl (by decide +kernel) ⟨Nat.le_of_ble_eq_true rfl, Nat.le_of_ble_eq_true rfl⟩) ⟨fun a U g mk q => by obtain ⟨q0, q1, qP, qK, qD⟩ := q; exact ⟨q0, q1, qP, va_K.moved (u := U) (U := U.calling g mk a) (Vm.Alike.refl U.vm) qK, qD⟩, fun U hU hW => ⟨rfl, by rw [hU], by rw [hU]; exact hPc, va_K.moved hW.alike hK, hDc.weaken (fun _ _ _ _ => trivial)⟩⟩ rfl rfl hl.1 rfl (lv_room (Nat.le_of_ble_eq_true rfl)) dX12_span_80 ⟨Nat.le_of_ble_eq_true rfl, Nat.le_of_ble_eq_true rfl⟩) hS (fun q _ h => hFc q h) hFc (fun r_11 u t H1 locs ht hvm hw hB hz1 hk1 hS => ?_)
                obtain ⟨hP1, hD1⟩ := hB
                rw [ht] at hP1
                obtain ⟨hP, hD⟩ := va_join (wr := [(oM, .inr (12, [.ref mT, .int 0, .ref mS, .ref mX, .int 0, .int 0, .ref mL, .ref mB, .ref mD, .ref m1, .ref m2, .int 0, .ref mR, .int 0, .ref x1, .ref x2, .ref x3, .int 0, .ref mH, .int 0, .int 0, .int 0, .int 0, .int (-1), .int (-1), .int 0, .ref mY, .int 0, .ref mE, .int 0, .int 0, .ref mW, .int 0, .ref mO, .int 0, .ref y1, .ref y2, .ref y3, .ref y4, .ref mZ])), (mL, .inl (cI, 512, .inl (fun _ => (-1)))), (mB, .inl (cS, 131072, .inl (fun _ => (-1)))), (mD, .inl (cI, 2, .inl (fun _ => 0)))]) (w1 := []) hP hD [] [0, 1, 2, 3] rfl rfl (by decide) (by decide) hk1 hFc hP1 hD1
                generalize H1 = H at hP hS ⊢
                have hP : va_P (dC, dI) vwCl [(oM, .inr (12, [.ref mT, .int 0, .ref mS, .ref mX, .int 0, .int 0, .ref mL, .ref mB, .ref mD, .ref m1, .ref m2, .int 0, .ref mR, .int 0, .ref x1, .ref x2, .ref x3, .int 0, .ref mH, .int 0, .int 0, .int 0, .int 0, .int (-1), .int (-1), .int 0, .ref mY, .int 0, .ref mE, .int 0, .int 0, .ref mW, .int 0, .ref mO, .int 0, .ref y1, .ref y2, .ref y3, .ref y4, .ref mZ])), (mL, .inl (cI, 512, .inl (fun _ => (-1)))), (mB, .inl (cS, 131072, .inl (fun _ => (-1)))), (mD, .inl (cI, 2, .inl (fun _ => 0)))] H := hP
                have hD : va_D A [(oM, .inr (12, [.ref mT, .int 0, .ref mS, .ref mX, .int 0, .int 0, .ref mL, .ref mB, .ref mD, .ref m1, .ref m2, .int 0, .ref mR, .int 0, .ref x1, .ref x2, .ref x3, .int 0, .ref mH, .int 0, .int 0, .int 0, .int 0, .int (-1), .int (-1), .int 0, .ref mY, .int 0, .ref mE, .int 0, .int 0, .ref mW, .int 0, .ref mO, .int 0, .ref y1, .ref y2, .ref y3, .ref y4, .ref mZ])), (mL, .inl (cI, 512, .inl (fun _ => (-1)))), (mB, .inl (cS, 131072, .inl (fun _ => (-1)))), (mD, .inl (cI, 2, .inl (fun _ => 0)))] := hD
                rw [hw]
                refine lv_if_ne (tgt := 88) hx hb dX12_span_83 (by decide) (fun c_12 => ?_) (fun c_12 => ?_)
                · refine lv_iconst (v := 0) hx hb dX12_span_88 (by decide) ?_
                  refine lv_istore (lv' := [(7, .int 0), (6, .int 1), (0, .ref oM), (1, .int 5), (2, .int fr), (3, .int n), (4, .int le), (5, .int sp)]) hx hb dX12_span_89 hl (by decide) rfl (fun ls hl => ?_)
                  obtain ⟨nn, ff, hn1, hn2, hn, hff⟩ := p_nn c_3 c_5 ex_6 c_7 (p_255 c_4)
                  have LOOP_91 : ∀ (k_91 i_91 : Nat) (xc_91 : Int32)  (H : Heap) (locs : List Loc) (ls : Array Slot), i_91 + k_91 = nn → xc_91 = nI i_91 →  (∀ j, j < i_91 → ¬ g_isL (le + nI j * sp) = 0) → va_P (dC, dI) vwCl [(oM, .inr (12, [.ref mT, .int 0, .ref mS, .ref mX, .int 0, .int 0, .ref mL, .ref mB, .ref mD, .ref m1, .ref m2, .int 0, .ref mR, .int 0, .ref x1, .ref x2, .ref x3, .int 0, .ref mH, .int 0, .int 0, .int 0, .int 0, .int (-1), .int (-1), .int 0, .ref mY, .int 0, .ref mE, .int 0, .int 0, .ref mW, .int 0, .ref mO, .int 0, .ref y1, .ref y2, .ref y3, .ref y4, .ref mZ])), (mL, .inl (cI, 512, .inl (fun _ => (-1)))), (mB, .inl (cS, 131072, .inl (fun _ => (-1)))), (mD, .inl (cI, 2, .inl (fun _ => 0)))] H → va_D A [(oM, .inr (12, [.ref mT, .int 0, .ref mS, .ref mX, .int 0, .int 0, .ref mL, .ref mB, .ref mD, .ref m1, .ref m2, .int 0, .ref mR, .int 0, .ref x1, .ref x2, .ref x3, .int 0, .ref mH, .int 0, .int 0, .int 0, .int 0, .int (-1), .int (-1), .int 0, .ref mY, .int 0, .ref mE, .int 0, .int 0, .ref mW, .int 0, .ref mO, .int 0, .ref y1, .ref y2, .ref y3, .ref y4, .ref mZ])), (mL, .inl (cI, 512, .inl (fun _ => (-1)))), (mB, .inl (cS, 131072, .inl (fun _ => (-1)))), (mD, .inl (cI, 2, .inl (fun _ => 0)))] → va_S A s.heap H locs → lv_has ls 9 [(7, .int xc_91), (6, .int 1), (0, .ref oM), (1, .int 5), (2, .int fr), (3, .int n), (4, .int le), (5, .int sp)] → W p l e (headSpec wsX12_span ({ frames := 1, cells := 0, slots := 0, locals := 20 } : Room)).room s m ([.ref oM, .int 5, .int fr, .int n, .int le, .int sp] : List Value).toArray below meth c H locs 0 0 (MQ below (va_Qi (fun (r : Int32) (_ : Unit) => r = g_span fr n le sp) (fun _ _ => True) A) ([.ref oM, .int 5, .int fr, .int n, .int le, .int sp] : List Value).toArray s 0 0 A) (F0 m 91 ls []) := by
                    intro k_91
                    induction k_91 with
                    | zero =>
                      intro i_91 xc_91  H locs ls hi_91 hxc_91  hok hP hD hS hl
                      have hi2_91 : i_91 = nn := by omega
                      refine lv_iload hx hb dX12_span_91 (lv_at hl 0 rfl) ?_
                      refine lv_iload_n hx hb dX12_span_93 rfl (lv_at hl 5 rfl) ?_
                      refine lv_icmp_ge (tgt := 160) hx hb dX12_span_94 (by decide) (fun c_13 => ?_) (fun c_13 => absurd (by rw [hxc_91, hn]; exact nI_le (a := nn) (b := i_91) (by omega) (by rw [hi2_91]; exact (by omega))) c_13)
                      refine lv_iconst (v := 0) hx hb dX12_span_160 (by decide) ?_
                      refine lv_istore (lv' := [(7, .int 0), (6, .int 1), (0, .ref oM), (1, .int 5), (2, .int fr), (3, .int n), (4, .int le), (5, .int sp)]) hx hb dX12_span_161 hl (by decide) rfl (fun ls hl => ?_)
                      have LOOP_163 : ∀ (k_163 i_163 : Nat) (xc_163 : Int32) (fL : Nat → Int32) (fB : Nat → Int32) (H : Heap) (locs : List Loc) (ls : Array Slot), i_163 + k_163 = nn → xc_163 = nI i_163 →  va_P (dC, dI) vwCl [(oM, .inr (12, [.ref mT, .int 0, .ref mS, .ref mX, .int 0, .int 0, .ref mL, .ref mB, .ref mD, .ref m1, .ref m2, .int 0, .ref mR, .int 0, .ref x1, .ref x2, .ref x3, .int 0, .ref mH, .int 0, .int 0, .int 0, .int 0, .int (-1), .int (-1), .int 0, .ref mY, .int 0, .ref mE, .int 0, .int 0, .ref mW, .int 0, .ref mO, .int 0, .ref y1, .ref y2, .ref y3, .ref y4, .ref mZ])), (mL, .inl (cI, 512, .inl fL)), (mB, .inl (cS, 131072, .inl fB)), (mD, .inl (cI, 2, .inl (fun _ => 0)))] H → va_D A [(oM, .inr (12, [.ref mT, .int 0, .ref mS, .ref mX, .int 0, .int 0, .ref mL, .ref mB, .ref mD, .ref m1, .ref m2, .int 0, .ref mR, .int 0, .ref x1, .ref x2, .ref x3, .int 0, .ref mH, .int 0, .int 0, .int 0, .int 0, .int (-1), .int (-1), .int 0, .ref mY, .int 0, .ref mE, .int 0, .int 0, .ref mW, .int 0, .ref mO, .int 0, .ref y1, .ref y2, .ref y3, .ref y4, .ref mZ])), (mL, .inl (cI, 512, .inl fL)), (mB, .inl (cS, 131072, .inl fB)), (mD, .inl (cI, 2, .inl (fun _ => 0)))] → va_S A s.heap H locs → lv_has ls 9 [(7, .int xc_163), (6, .int 1), (0, .ref oM), (1, .int 5), (2, .int fr), (3, .int n), (4, .int le), (5, .int sp)] → W p l e (headSpec wsX12_span ({ frames := 1, cells := 0, slots := 0, locals := 20 } : Room)).room s m ([.ref oM, .int 5, .int fr, .int n, .int le, .int sp] : List Value).toArray below meth c H locs 0 0 (MQ below (va_Qi (fun (r : Int32) (_ : Unit) => r = g_span fr n le sp) (fun _ _ => True) A) ([.ref oM, .int 5, .int fr, .int n, .int le, .int sp] : List Value).toArray s 0 0 A) (F0 m 163 ls []) := by
                        intro k_163
                        induction k_163 with
                        | zero =>
                          intro i_163 xc_163 fL fB H locs ls hi_163 hxc_163  hP hD hS hl
                          have hi2_163 : i_163 = nn := by omega
                          refine lv_iload hx hb dX12_span_163 (lv_at hl 0 rfl) ?_
                          refine lv_iload_n hx hb dX12_span_165 rfl (lv_at hl 5 rfl) ?_
                          refine lv_icmp_ge (tgt := 223) hx hb dX12_span_166 (by decide) (fun c_14 => ?_) (fun c_14 => absurd (by rw [hxc_163, hn]; exact nI_le (a := nn) (b := i_163) (by omega) (by rw [hi2_163]; exact (by omega))) c_14)
                          refine lv_aload_n hx hb dX12_span_223 rfl (lv_at hl 2 rfl) ?_
                          refine va_get (D := (dC, dI)) (ci := 12) (v := .ref mD) (C := RX12) (T := TX12) (N := 40) hx hb hts in_X12 hown hK hP 0 rfl rfl 8 (by decide) (hts (.fieldLink RX12 27 "TextMenderModel" "told" "[I") (List.mem_of_getElem? (i := 6) rfl)) (fun _ h9 => h9) rfl dX12_span_224 ?_
                          refine lv_iload hx hb dX12_span_227 (lv_at hl 1 rfl) ?_
                          refine lv_dup2_11 hx hb dX12_span_229 rfl rfl ?_
                          refine va_iald hx hb hK hP 3 0 rfl rfl (by unfold vp_in; decide) dX12_span_230 ?_
                          refine k_i (y := 0) (by first | rfl | decide) ?_
                          refine lv_iload_n hx hb dX12_span_231 rfl (lv_at hl 5 rfl) ?_
                          refine lv_iadd hx hb dX12_span_232 ?_
                          refine lv_topi (fun x_15 ex_15 => ?_)
                          refine va_iast hx hb hK hP hD hS 3 0 rfl rfl (by unfold vp_in; decide) dX12_span_233 (fun H locs hP hD hS => ?_)
                          have hP : va_P (dC, dI) vwCl [(oM, .inr (12, [.ref mT, .int 0, .ref mS, .ref mX, .int 0, .int 0, .ref mL, .ref mB, .ref mD, .ref m1, .ref m2, .int 0, .ref mR, .int 0, .ref x1, .ref x2, .ref x3, .int 0, .ref mH, .int 0, .int 0, .int 0, .int 0, .int (-1), .int (-1), .int 0, .ref mY, .int 0, .ref mE, .int 0, .int 0, .ref mW, .int 0, .ref mO, .int 0, .ref y1, .ref y2, .ref y3, .ref y4, .ref mZ])), (mL, .inl (cI, 512, .inl fL)), (mB, .inl (cS, 131072, .inl fB)), (mD, .inl (cI, 2, .inl (upd (fun _ => 0) (1 : Int32).toNatClampNeg x_15)))] H := hP
                          have hD : va_D A [(oM, .inr (12, [.ref mT, .int 0, .ref mS, .ref mX, .int 0, .int 0, .ref mL, .ref mB, .ref mD, .ref m1, .ref m2, .int 0, .ref mR, .int 0, .ref x1, .ref x2, .ref x3, .int 0, .ref mH, .int 0, .int 0, .int 0, .int 0, .int (-1), .int (-1), .int 0, .ref mY, .int 0, .ref mE, .int 0, .int 0, .ref mW, .int 0, .ref mO, .int 0, .ref y1, .ref y2, .ref y3, .ref y4, .ref mZ])), (mL, .inl (cI, 512, .inl fL)), (mB, .inl (cS, 131072, .inl fB)), (mD, .inl (cI, 2, .inl (upd (fun _ => 0) (1 : Int32).toNatClampNeg x_15)))] := hD
                          refine lv_aload_n hx hb dX12_span_234 rfl (lv_at hl 2 rfl) ?_
                          refine lv_dup hx hb dX12_span_235 rfl ?_
                          refine va_get (D := (dC, dI)) (ci := 12) (v := .int 0) (C := RX12) (T := TX12) (N := 40) hx hb hts in_X12 hown hK hP 0 rfl rfl 22 (by decide) (hts (.fieldLink RX12 148 "TextMenderModel" "state" "I") (List.mem_of_getElem? (i := 7) rfl)) (fun _ h9 => h9) rfl dX12_span_236 ?_
                          refine lv_iconst (v := 1) hx hb dX12_span_239 (by decide) ?_
                          refine lv_iadd hx hb dX12_span_240 ?_
                          refine k_i (y := 1) (by decide) ?_
                          refine va_put (D := (dC, dI)) (ci := 12) (v := .int 1) (ty := .int) (C := RX12) (T := TX12) (N := 40) hx hb hts in_X12 tyX12 tyX12_ok nmX12 hown hK hP hD hS 0 rfl rfl 22 (by decide) (hts (.fieldLink RX12 148 "TextMenderModel" "state" "I") (List.mem_of_getElem? (i := 7) rfl)) (fun _ h9 => h9) rfl (by decide +kernel) rfl rfl (Nat.le_of_ble_eq_true rfl) dX12_span_241 (fun H locs hP hD hS => ?_)
                          have hP : va_P (dC, dI) vwCl [(oM, .inr (12, [.ref mT, .int 0, .ref mS, .ref mX, .int 0, .int 0, .ref mL, .ref mB, .ref mD, .ref m1, .ref m2, .int 0, .ref mR, .int 0, .ref x1, .ref x2, .ref x3, .int 0, .ref mH, .int 0, .int 0, .int 0, .int 1, .int (-1), .int (-1), .int 0, .ref mY, .int 0, .ref mE, .int 0, .int 0, .ref mW, .int 0, .ref mO, .int 0, .ref y1, .ref y2, .ref y3, .ref y4, .ref mZ])), (mL, .inl (cI, 512, .inl fL)), (mB, .inl (cS, 131072, .inl fB)), (mD, .inl (cI, 2, .inl (upd (fun _ => 0) (1 : Int32).toNatClampNeg x_15)))] H := hP
                          have hD : va_D A [(oM, .inr (12, [.ref mT, .int 0, .ref mS, .ref mX, .int 0, .int 0, .ref mL, .ref mB, .ref mD, .ref m1, .ref m2, .int 0, .ref mR, .int 0, .ref x1, .ref x2, .ref x3, .int 0, .ref mH, .int 0, .int 0, .int 0, .int 1, .int (-1), .int (-1), .int 0, .ref mY, .int 0, .ref mE, .int 0, .int 0, .ref mW, .int 0, .ref mO, .int 0, .ref y1, .ref y2, .ref y3, .ref y4, .ref mZ])), (mL, .inl (cI, 512, .inl fL)), (mB, .inl (cS, 131072, .inl fB)), (mD, .inl (cI, 2, .inl (upd (fun _ => 0) (1 : Int32).toNatClampNeg x_15)))] := hD
                          refine lv_aload_n hx hb dX12_span_244 rfl (lv_at hl 2 rfl) ?_
                          refine va_get (D := (dC, dI)) (ci := 12) (v := .ref mD) (C := RX12) (T := TX12) (N := 40) hx hb hts in_X12 hown hK hP 0 rfl rfl 8 (by decide) (hts (.fieldLink RX12 27 "TextMenderModel" "told" "[I") (List.mem_of_getElem? (i := 6) rfl)) (fun _ h9 => h9) rfl dX12_span_245 ?_
                          refine lv_iload hx hb dX12_span_248 (lv_at hl 1 rfl) ?_
                          refine va_iald hx hb hK hP 3 0 rfl rfl (by unfold vp_in; decide) dX12_span_250 ?_
                          refine k_i (y := x_15) (by first | rfl | decide) ?_
                          exact W.iret (v := x_15) hx hb hr (fun t ht hW => ⟨⟨x_15, (), rfl, by rw [g_span, if_neg (show ¬ g_can fr n le sp = 0 by rw [g_can, if_neg c_3, if_neg c_4, if_neg c_5, if_neg (show ¬ 256 - fr < n by rw [← ex_6]; exact c_7), if_neg c_8, if_neg c_9, if_neg (fun h => h.1 c_10), if_neg c_12, if_pos (fun j hj => hok j (by rw [hn, nI_clamp (by omega)] at hj; omega))]; decide), ex_15, Int32.zero_add], trivial⟩, hS.F ht⟩) (hS.2.2) dX12_span_251
                        | succ k_163 ih_163 =>
                          intro i_163 xc_163 fL fB H locs ls hi_163 hxc_163  hP hD hS hl
                          refine lv_iload hx hb dX12_span_163 (lv_at hl 0 rfl) ?_
                          refine lv_iload_n hx hb dX12_span_165 rfl (lv_at hl 5 rfl) ?_
                          refine lv_icmp_ge (tgt := 223) hx hb dX12_span_166 (by decide) (fun c_16 => absurd c_16 (by rw [hxc_163, hn]; exact nI_ge (a := i_163) (b := nn) (by omega) (by omega))) (fun c_16 => ?_)
                          refine lv_aload_n hx hb dX12_span_169 rfl (lv_at hl 2 rfl) ?_
                          refine va_get (D := (dC, dI)) (ci := 12) (v := .ref mL) (C := RX12) (T := TX12) (N := 40) hx hb hts in_X12 hown hK hP 0 rfl rfl 6 (by decide) (hts (.fieldLink RX12 19 "TextMenderModel" "letterOf" "[I") (List.mem_of_getElem? (i := 3) rfl)) (fun _ h9 => h9) rfl dX12_span_170 ?_
                          refine lv_sipush (v := 256) hx hb dX12_span_173 (by decide) ?_
                          refine lv_iload hx hb dX12_span_176 (lv_at hl 1 rfl) ?_
                          refine lv_imul hx hb dX12_span_178 ?_
                          refine k_i (y := 256) (by decide) ?_
                          refine lv_iload_n hx hb dX12_span_179 rfl (lv_at hl 4 rfl) ?_
                          refine lv_iadd hx hb dX12_span_180 ?_
                          refine lv_topi (fun x_17 ex_17 => ?_)
                          refine lv_iload hx hb dX12_span_181 (lv_at hl 0 rfl) ?_
                          refine lv_iadd hx hb dX12_span_183 ?_
                          refine lv_topi (fun x_18 ex_18 => ?_)
                          refine lv_iload hx hb dX12_span_184 (lv_at hl 6 rfl) ?_
                          refine lv_iload hx hb dX12_span_186 (lv_at hl 0 rfl) ?_
                          refine lv_iload hx hb dX12_span_188 (lv_at hl 7 rfl) ?_
                          refine lv_imul hx hb dX12_span_190 ?_
                          refine lv_topi (fun x_19 ex_19 => ?_)
                          refine lv_iadd hx hb dX12_span_191 ?_
                          refine lv_topi (fun x_20 ex_20 => ?_)
                          refine va_iast hx hb hK hP hD hS 1 0 rfl rfl (p_in3 256 ff i_163 512 ex_18 ex_17 rfl hff hxc_163 (by omega) (by decide)) dX12_span_192 (fun H locs hP hD hS => ?_)
                          have hP : va_P (dC, dI) vwCl [(oM, .inr (12, [.ref mT, .int 0, .ref mS, .ref mX, .int 0, .int 0, .ref mL, .ref mB, .ref mD, .ref m1, .ref m2, .int 0, .ref mR, .int 0, .ref x1, .ref x2, .ref x3, .int 0, .ref mH, .int 0, .int 0, .int 0, .int 0, .int (-1), .int (-1), .int 0, .ref mY, .int 0, .ref mE, .int 0, .int 0, .ref mW, .int 0, .ref mO, .int 0, .ref y1, .ref y2, .ref y3, .ref y4, .ref mZ])), (mL, .inl (cI, 512, .inl (upd fL (x_18 : Int32).toNatClampNeg x_20))), (mB, .inl (cS, 131072, .inl fB)), (mD, .inl (cI, 2, .inl (fun _ => 0)))] H := hP
                          have hD : va_D A [(oM, .inr (12, [.ref mT, .int 0, .ref mS, .ref mX, .int 0, .int 0, .ref mL, .ref mB, .ref mD, .ref m1, .ref m2, .int 0, .ref mR, .int 0, .ref x1, .ref x2, .ref x3, .int 0, .ref mH, .int 0, .int 0, .int 0, .int 0, .int (-1), .int (-1), .int 0, .ref mY, .int 0, .ref mE, .int 0, .int 0, .ref mW, .int 0, .ref mO, .int 0, .ref y1, .ref y2, .ref y3, .ref y4, .ref mZ])), (mL, .inl (cI, 512, .inl (upd fL (x_18 : Int32).toNatClampNeg x_20))), (mB, .inl (cS, 131072, .inl fB)), (mD, .inl (cI, 2, .inl (fun _ => 0)))] := hD
                          refine lv_aload_n hx hb dX12_span_193 rfl (lv_at hl 2 rfl) ?_
                          refine va_get (D := (dC, dI)) (ci := 12) (v := .ref mB) (C := RX12) (T := TX12) (N := 40) hx hb hts in_X12 hown hK hP 0 rfl rfl 7 (by decide) (hts (.fieldLink RX12 23 "TextMenderModel" "byteOfLetter" "[S") (List.mem_of_getElem? (i := 4) rfl)) (fun _ h9 => h9) rfl dX12_span_194 ?_
                          refine lv_ldc hx hb hown (hts (.constant RX12 88 (65536)) (List.mem_of_getElem? (i := 5) rfl)) dX12_span_197 ?_
                          refine lv_iload hx hb dX12_span_199 (lv_at hl 1 rfl) ?_
                          refine lv_imul hx hb dX12_span_201 ?_
                          refine k_i (y := 65536) (by decide) ?_
                          refine lv_iload hx hb dX12_span_202 (lv_at hl 6 rfl) ?_
                          refine lv_iadd hx hb dX12_span_204 ?_
                          refine lv_topi (fun x_21 ex_21 => ?_)
                          refine lv_iload hx hb dX12_span_205 (lv_at hl 0 rfl) ?_
                          refine lv_iload hx hb dX12_span_207 (lv_at hl 7 rfl) ?_
                          refine lv_imul hx hb dX12_span_209 ?_
                          refine lv_topi (fun x_22 ex_22 => ?_)
                          refine lv_iadd hx hb dX12_span_210 ?_
                          refine lv_topi (fun x_23 ex_23 => ?_)
                          refine lv_iload_n hx hb dX12_span_211 rfl (lv_at hl 4 rfl) ?_
                          refine lv_iload hx hb dX12_span_212 (lv_at hl 0 rfl) ?_
                          refine lv_iadd hx hb dX12_span_214 ?_
                          refine lv_topi (fun x_24 ex_24 => ?_)
                          obtain ⟨x_25, ex_25⟩ : ∃ v : Int32, v = (x_24 : Int32).toInt16.toInt32 := ⟨_, rfl⟩
                          refine lv_i2s (v := x_25) hx hb dX12_span_215 ex_25.symm ?_
                          refine va_sast hx hb hK hP hD hS 2 1 rfl rfl (p_inlet2 65536 131072 ex_23 ex_21 rfl (by rw [ex_22, hxc_163]; exact hok i_163 (by omega)) (by decide) (by decide)) dX12_span_216 (fun H locs hP hD hS => ?_)
                          have hP : va_P (dC, dI) vwCl [(oM, .inr (12, [.ref mT, .int 0, .ref mS, .ref mX, .int 0, .int 0, .ref mL, .ref mB, .ref mD, .ref m1, .ref m2, .int 0, .ref mR, .int 0, .ref x1, .ref x2, .ref x3, .int 0, .ref mH, .int 0, .int 0, .int 0, .int 0, .int (-1), .int (-1), .int 0, .ref mY, .int 0, .ref mE, .int 0, .int 0, .ref mW, .int 0, .ref mO, .int 0, .ref y1, .ref y2, .ref y3, .ref y4, .ref mZ])), (mL, .inl (cI, 512, .inl (upd fL (x_18 : Int32).toNatClampNeg x_20))), (mB, .inl (cS, 131072, .inl (upd fB (x_23 : Int32).toNatClampNeg (vp_nar .short x_25)))), (mD, .inl (cI, 2, .inl (fun _ => 0)))] H := hP
                          have hD : va_D A [(oM, .inr (12, [.ref mT, .int 0, .ref mS, .ref mX, .int 0, .int 0, .ref mL, .ref mB, .ref mD, .ref m1, .ref m2, .int 0, .ref mR, .int 0, .ref x1, .ref x2, .ref x3, .int 0, .ref mH, .int 0, .int 0, .int 0, .int 0, .int (-1), .int (-1), .int 0, .ref mY, .int 0, .ref mE, .int 0, .int 0, .ref mW, .int 0, .ref mO, .int 0, .ref y1, .ref y2, .ref y3, .ref y4, .ref mZ])), (mL, .inl (cI, 512, .inl (upd fL (x_18 : Int32).toNatClampNeg x_20))), (mB, .inl (cS, 131072, .inl (upd fB (x_23 : Int32).toNatClampNeg (vp_nar .short x_25)))), (mD, .inl (cI, 2, .inl (fun _ => 0)))] := hD
                          obtain ⟨x_26, ex_26⟩ : ∃ y : Int32, y = xc_163 + 1 := ⟨_, rfl⟩
                          refine lv_iinc (v := x_26) (lv' := [(7, .int x_26), (6, .int 1), (0, .ref oM), (1, .int 5), (2, .int fr), (3, .int n), (4, .int le), (5, .int sp)]) hx hb dX12_span_217 hl (k := 0) rfl (by rw [ex_26]; rfl) (by decide) rfl (fun ls hl => ?_)
                          refine lv_goto (tgt := 163) hx hb dX12_span_220 (by decide) ?_
                          exact ih_163 (i_163 + 1) x_26 (upd fL (x_18 : Int32).toNatClampNeg x_20) (upd fB (x_23 : Int32).toNatClampNeg (vp_nar .short x_25)) _ _ _ (by omega) (by rw [ex_26, hxc_163]; exact nI_1 i_163)  hP hD hS (lv_sub hl [0, 1, 2, 3, 4, 5, 6, 7] rfl)
                      exact LOOP_163 nn 0 0 (fun _ => (-1)) (fun _ => (-1)) _ _ _ (by omega) nI_0.symm  hP hD hS (lv_sub hl [0, 1, 2, 3, 4, 5, 6, 7] rfl)
                    | succ k_91 ih_91 =>
                      intro i_91 xc_91  H locs ls hi_91 hxc_91  hok hP hD hS hl
                      refine lv_iload hx hb dX12_span_91 (lv_at hl 0 rfl) ?_
                      refine lv_iload_n hx hb dX12_span_93 rfl (lv_at hl 5 rfl) ?_
                      refine lv_icmp_ge (tgt := 160) hx hb dX12_span_94 (by decide) (fun c_27 => absurd c_27 (by rw [hxc_91, hn]; exact nI_ge (a := i_91) (b := nn) (by omega) (by omega))) (fun c_27 => ?_)
                      refine lv_iload hx hb dX12_span_97 (lv_at hl 6 rfl) ?_
                      refine lv_iload hx hb dX12_span_99 (lv_at hl 0 rfl) ?_
                      refine lv_iload hx hb dX12_span_101 (lv_at hl 7 rfl) ?_
                      refine lv_imul hx hb dX12_span_103 ?_
                      refine lv_topi (fun x_28 ex_28 => ?_)
                      refine lv_iadd hx hb dX12_span_104 ?_
                      refine lv_topi (fun x_29 ex_29 => ?_)
                      refine lv_istore (lv' := [(8, .int x_29), (7, .int xc_91), (6, .int 1), (0, .ref oM), (1, .int 5), (2, .int fr), (3, .int n), (4, .int le), (5, .int sp)]) hx hb dX12_span_105 hl (by decide) rfl (fun ls hl => ?_)
                      refine lv_iload hx hb dX12_span_107 (lv_at hl 0 rfl) ?_
                      have hPc := hP.sub (ws' := []) [] rfl
                      have hDc := hD.sub (ws' := []) [] (by decide) rfl
                      have hFc := va_free (wc := []) hD hS hA [] rfl
                      refine va_calli (va_runS (As := [.int x_29]) (rest := []) ⟨hx, hb, hml, hown, hts⟩ (m_X12_isLetter l dC dI cI cS H.size x_29 ) (va_cwS 1 hts gX12_span_X12_isLetter rfl rfl rfl (by decide +kernel) ⟨Nat.le_of_ble_eq_true rfl, Nat.le_of_ble_eq_true rfl⟩) ⟨fun a U g mk q => by obtain ⟨q0, q1, qP, qK, qD⟩ := q; exact ⟨q0, q1, qP, va_K.moved (u := U) (U := U.calling g mk a) (Vm.Alike.refl U.vm) qK, qD⟩, fun U hU hW => ⟨rfl, by rw [hU], by rw [hU]; exact hPc, va_K.moved hW.alike hK, hDc.weaken (fun _ _ _ _ => trivial)⟩⟩ rfl rfl hl.1 rfl (lv_room (Nat.le_of_ble_eq_true rfl)) dX12_span_109 ⟨Nat.le_of_ble_eq_true rfl, Nat.le_of_ble_eq_true rfl⟩) hS (fun q _ h => hFc q h) hFc (fun r_30 u t H1 locs ht hvm hw hB hz1 hk1 hS => ?_)
                      obtain ⟨hP1, hD1⟩ := hB
                      rw [ht] at hP1
                      obtain ⟨hP, hD⟩ := va_join (wr := [(oM, .inr (12, [.ref mT, .int 0, .ref mS, .ref mX, .int 0, .int 0, .ref mL, .ref mB, .ref mD, .ref m1, .ref m2, .int 0, .ref mR, .int 0, .ref x1, .ref x2, .ref x3, .int 0, .ref mH, .int 0, .int 0, .int 0, .int 0, .int (-1), .int (-1), .int 0, .ref mY, .int 0, .ref mE, .int 0, .int 0, .ref mW, .int 0, .ref mO, .int 0, .ref y1, .ref y2, .ref y3, .ref y4, .ref mZ])), (mL, .inl (cI, 512, .inl (fun _ => (-1)))), (mB, .inl (cS, 131072, .inl (fun _ => (-1)))), (mD, .inl (cI, 2, .inl (fun _ => 0)))]) (w1 := []) hP hD [] [0, 1, 2, 3] rfl rfl (by decide) (by decide) hk1 hFc hP1 hD1
                      generalize H1 = H at hP hS ⊢
                      have hP : va_P (dC, dI) vwCl [(oM, .inr (12, [.ref mT, .int 0, .ref mS, .ref mX, .int 0, .int 0, .ref mL, .ref mB, .ref mD, .ref m1, .ref m2, .int 0, .ref mR, .int 0, .ref x1, .ref x2, .ref x3, .int 0, .ref mH, .int 0, .int 0, .int 0, .int 0, .int (-1), .int (-1), .int 0, .ref mY, .int 0, .ref mE, .int 0, .int 0, .ref mW, .int 0, .ref mO, .int 0, .ref y1, .ref y2, .ref y3, .ref y4, .ref mZ])), (mL, .inl (cI, 512, .inl (fun _ => (-1)))), (mB, .inl (cS, 131072, .inl (fun _ => (-1)))), (mD, .inl (cI, 2, .inl (fun _ => 0)))] H := hP
                      have hD : va_D A [(oM, .inr (12, [.ref mT, .int 0, .ref mS, .ref mX, .int 0, .int 0, .ref mL, .ref mB, .ref mD, .ref m1, .ref m2, .int 0, .ref mR, .int 0, .ref x1, .ref x2, .ref x3, .int 0, .ref mH, .int 0, .int 0, .int 0, .int 0, .int (-1), .int (-1), .int 0, .ref mY, .int 0, .ref mE, .int 0, .int 0, .ref mW, .int 0, .ref mO, .int 0, .ref y1, .ref y2, .ref y3, .ref y4, .ref mZ])), (mL, .inl (cI, 512, .inl (fun _ => (-1)))), (mB, .inl (cS, 131072, .inl (fun _ => (-1)))), (mD, .inl (cI, 2, .inl (fun _ => 0)))] := hD
                      rw [hw]
                      refine lv_if_eq (tgt := 152) hx hb dX12_span_112 (by decide) (fun c_31 => ?_) (fun c_31 => ?_)
                      · refine lv_iconst (v := (-1)) hx hb dX12_span_152 (by decide) ?_
                        exact W.iret (v := (-1)) hx hb hr (fun t ht hW => ⟨⟨(-1), (), rfl, by rw [g_span, if_pos (show g_can fr n le sp = 0 by rw [g_can, if_neg c_3, if_neg c_4, if_neg c_5, if_neg (show ¬ 256 - fr < n by rw [← ex_6]; exact c_7), if_neg c_8, if_neg c_9, if_neg (fun h => h.1 c_10), if_neg c_12, if_neg (fun h => h i_91 (by rw [hn, nI_clamp (by omega)]; omega) (by rw [← hxc_91, ← ex_28, ← ex_29]; exact c_31))])], trivial⟩, hS.F ht⟩) (hS.2.2) dX12_span_153
                      · refine lv_aload_n hx hb dX12_span_115 rfl (lv_at hl 3 rfl) ?_
                        refine va_get (D := (dC, dI)) (ci := 12) (v := .ref mL) (C := RX12) (T := TX12) (N := 40) hx hb hts in_X12 hown hK hP 0 rfl rfl 6 (by decide) (hts (.fieldLink RX12 19 "TextMenderModel" "letterOf" "[I") (List.mem_of_getElem? (i := 3) rfl)) (fun _ h9 => h9) rfl dX12_span_116 ?_
                        refine lv_sipush (v := 256) hx hb dX12_span_119 (by decide) ?_
                        refine lv_iload hx hb dX12_span_122 (lv_at hl 2 rfl) ?_
                        refine lv_imul hx hb dX12_span_124 ?_
                        refine k_i (y := 256) (by decide) ?_
                        refine lv_iload_n hx hb dX12_span_125 rfl (lv_at hl 5 rfl) ?_
                        refine lv_iadd hx hb dX12_span_126 ?_
                        refine lv_topi (fun x_32 ex_32 => ?_)
                        refine lv_iload hx hb dX12_span_127 (lv_at hl 1 rfl) ?_
                        refine lv_iadd hx hb dX12_span_129 ?_
                        refine lv_topi (fun x_33 ex_33 => ?_)
                        refine va_iald hx hb hK hP 1 0 rfl rfl (p_in3 256 ff i_91 512 ex_33 ex_32 rfl hff hxc_91 (by omega) (by decide)) dX12_span_130 ?_
                        refine k_i (y := (-1)) rfl ?_
                        refine lv_iconst (v := (-1)) hx hb dX12_span_131 (by decide) ?_
                        refine lv_icmp_ne (tgt := 152) hx hb dX12_span_132 (by decide) (fun c_34 => absurd (by decide) c_34) (fun c_34 => ?_)
                        refine lv_aload_n hx hb dX12_span_135 rfl (lv_at hl 3 rfl) ?_
                        refine va_get (D := (dC, dI)) (ci := 12) (v := .ref mB) (C := RX12) (T := TX12) (N := 40) hx hb hts in_X12 hown hK hP 0 rfl rfl 7 (by decide) (hts (.fieldLink RX12 23 "TextMenderModel" "byteOfLetter" "[S") (List.mem_of_getElem? (i := 4) rfl)) (fun _ h9 => h9) rfl dX12_span_136 ?_
                        refine lv_ldc hx hb hown (hts (.constant RX12 88 (65536)) (List.mem_of_getElem? (i := 5) rfl)) dX12_span_139 ?_
                        refine lv_iload hx hb dX12_span_141 (lv_at hl 2 rfl) ?_
                        refine lv_imul hx hb dX12_span_143 ?_
                        refine k_i (y := 65536) (by decide) ?_
                        refine lv_iload hx hb dX12_span_144 (lv_at hl 0 rfl) ?_
                        refine lv_iadd hx hb dX12_span_146 ?_
                        refine lv_topi (fun x_35 ex_35 => ?_)
                        refine va_sald hx hb hK hP 2 1 rfl rfl (p_inlet 65536 131072 ex_35 rfl c_31 (by decide) (by decide)) dX12_span_147 ?_
                        refine k_i (y := (-1)) rfl ?_
                        refine lv_iconst (v := (-1)) hx hb dX12_span_148 (by decide) ?_
                        refine lv_icmp_eq (tgt := 154) hx hb dX12_span_149 (by decide) (fun c_36 => ?_) (fun c_36 => absurd (by decide) c_36)
                        obtain ⟨x_37, ex_37⟩ : ∃ y : Int32, y = xc_91 + 1 := ⟨_, rfl⟩
                        refine lv_iinc (v := x_37) (lv' := [(7, .int x_37), (8, .int x_29), (6, .int 1), (0, .ref oM), (1, .int 5), (2, .int fr), (3, .int n), (4, .int le), (5, .int sp)]) hx hb dX12_span_154 hl (k := 1) rfl (by rw [ex_37]; rfl) (by decide) rfl (fun ls hl => ?_)
                        refine lv_goto (tgt := 91) hx hb dX12_span_157 (by decide) ?_
                        exact ih_91 (i_91 + 1) x_37  _ _ _ (by omega) (by rw [ex_37, hxc_91]; exact nI_1 i_91)  (lt_s hok (by rw [← hxc_91, ← ex_28, ← ex_29]; exact c_31)) hP hD hS (lv_sub hl [0, 2, 3, 4, 5, 6, 7, 8] rfl)
                  exact LOOP_91 nn 0 0  _ _ _ (by omega) nI_0.symm  (fun j hj => absurd hj (Nat.not_lt_zero j)) hP hD hS (lv_sub hl [0, 1, 2, 3, 4, 5, 6, 7] rfl)
                · refine lv_iconst (v := (-1)) hx hb dX12_span_86 (by decide) ?_
                  exact W.iret (v := (-1)) hx hb hr (fun t ht hW => ⟨⟨(-1), (), rfl, by rw [g_span, if_pos (show g_can fr n le sp = 0 by simp [g_can, ← ex_6, c_3, c_4, c_5, c_7, c_8, c_9, c_10, c_12])], trivial⟩, hS.F ht⟩) (hS.2.2) dX12_span_87
              · refine lv_iload hx hb dX12_span_66 (lv_at hl 5 rfl) ?_
                refine lv_if_ne (tgt := 73) hx hb dX12_span_68 (by decide) (fun c_38 => ?_) (fun c_38 => ?_)
                · refine lv_iload_n hx hb dX12_span_73 rfl (lv_at hl 1 rfl) ?_
                  refine lv_iconst (v := 4) hx hb dX12_span_74 (by decide) ?_
                  refine lv_isub hx hb dX12_span_75 ?_
                  refine k_i (y := 1) (by decide) ?_
                  refine lv_istore (lv' := [(6, .int 1), (0, .ref oM), (1, .int 5), (2, .int fr), (3, .int n), (4, .int le), (5, .int sp)]) hx hb dX12_span_76 hl (by decide) rfl (fun ls hl => ?_)
                  refine lv_iload hx hb dX12_span_78 (lv_at hl 5 rfl) ?_
                  have hPc := hP.sub (ws' := []) [] rfl
                  have hDc := hD.sub (ws' := []) [] (by decide) rfl
                  have hFc := va_free (wc := []) hD hS hA [] rfl
                  refine va_calli (va_runS (As := [.int le]) (rest := []) ⟨hx, hb, hml, hown, hts⟩ (m_X12_isLetter l dC dI cI cS H.size le ) (va_cwS 1 hts gX12_span_X12_isLetter rfl rfl rfl (by decide +kernel) ⟨Nat.le_of_ble_eq_true rfl, Nat.le_of_ble_eq_true rfl⟩) ⟨fun a U g mk q => by obtain ⟨q0, q1, qP, qK, qD⟩ := q; exact ⟨q0, q1, qP, va_K.moved (u := U) (U := U.calling g mk a) (Vm.Alike.refl U.vm) qK, qD⟩, fun U hU hW => ⟨rfl, by rw [hU], by rw [hU]; exact hPc, va_K.moved hW.alike hK, hDc.weaken (fun _ _ _ _ => trivial)⟩⟩ rfl rfl hl.1 rfl (lv_room (Nat.le_of_ble_eq_true rfl)) dX12_span_80 ⟨Nat.le_of_ble_eq_true rfl, Nat.le_of_ble_eq_true rfl⟩) hS (fun q _ h => hFc q h) hFc (fun r_39 u t H1 locs ht hvm hw hB hz1 hk1 hS => ?_)
                  obtain ⟨hP1, hD1⟩ := hB
                  rw [ht] at hP1
                  obtain ⟨hP, hD⟩ := va_join (wr := [(oM, .inr (12, [.ref mT, .int 0, .ref mS, .ref mX, .int 0, .int 0, .ref mL, .ref mB, .ref mD, .ref m1, .ref m2, .int 0, .ref mR, .int 0, .ref x1, .ref x2, .ref x3, .int 0, .ref mH, .int 0, .int 0, .int 0, .int 0, .int (-1), .int (-1), .int 0, .ref mY, .int 0, .ref mE, .int 0, .int 0, .ref mW, .int 0, .ref mO, .int 0, .ref y1, .ref y2, .ref y3, .ref y4, .ref mZ])), (mL, .inl (cI, 512, .inl (fun _ => (-1)))), (mB, .inl (cS, 131072, .inl (fun _ => (-1)))), (mD, .inl (cI, 2, .inl (fun _ => 0)))]) (w1 := []) hP hD [] [0, 1, 2, 3] rfl rfl (by decide) (by decide) hk1 hFc hP1 hD1
                  generalize H1 = H at hP hS ⊢
                  have hP : va_P (dC, dI) vwCl [(oM, .inr (12, [.ref mT, .int 0, .ref mS, .ref mX, .int 0, .int 0, .ref mL, .ref mB, .ref mD, .ref m1, .ref m2, .int 0, .ref mR, .int 0, .ref x1, .ref x2, .ref x3, .int 0, .ref mH, .int 0, .int 0, .int 0, .int 0, .int (-1), .int (-1), .int 0, .ref mY, .int 0, .ref mE, .int 0, .int 0, .ref mW, .int 0, .ref mO, .int 0, .ref y1, .ref y2, .ref y3, .ref y4, .ref mZ])), (mL, .inl (cI, 512, .inl (fun _ => (-1)))), (mB, .inl (cS, 131072, .inl (fun _ => (-1)))), (mD, .inl (cI, 2, .inl (fun _ => 0)))] H := hP
                  have hD : va_D A [(oM, .inr (12, [.ref mT, .int 0, .ref mS, .ref mX, .int 0, .int 0, .ref mL, .ref mB, .ref mD, .ref m1, .ref m2, .int 0, .ref mR, .int 0, .ref x1, .ref x2, .ref x3, .int 0, .ref mH, .int 0, .int 0, .int 0, .int 0, .int (-1), .int (-1), .int 0, .ref mY, .int 0, .ref mE, .int 0, .int 0, .ref mW, .int 0, .ref mO, .int 0, .ref y1, .ref y2, .ref y3, .ref y4, .ref mZ])), (mL, .inl (cI, 512, .inl (fun _ => (-1)))), (mB, .inl (cS, 131072, .inl (fun _ => (-1)))), (mD, .inl (cI, 2, .inl (fun _ => 0)))] := hD
                  rw [hw]
                  refine lv_if_ne (tgt := 88) hx hb dX12_span_83 (by decide) (fun c_40 => ?_) (fun c_40 => ?_)
                  · refine lv_iconst (v := 0) hx hb dX12_span_88 (by decide) ?_
                    refine lv_istore (lv' := [(7, .int 0), (6, .int 1), (0, .ref oM), (1, .int 5), (2, .int fr), (3, .int n), (4, .int le), (5, .int sp)]) hx hb dX12_span_89 hl (by decide) rfl (fun ls hl => ?_)
                    obtain ⟨nn, ff, hn1, hn2, hn, hff⟩ := p_nn c_3 c_5 ex_6 c_7 (p_255 c_4)
                    have LOOP_91 : ∀ (k_91 i_91 : Nat) (xc_91 : Int32)  (H : Heap) (locs : List Loc) (ls : Array Slot), i_91 + k_91 = nn → xc_91 = nI i_91 →  (∀ j, j < i_91 → ¬ g_isL (le + nI j * sp) = 0) → va_P (dC, dI) vwCl [(oM, .inr (12, [.ref mT, .int 0, .ref mS, .ref mX, .int 0, .int 0, .ref mL, .ref mB, .ref mD, .ref m1, .ref m2, .int 0, .ref mR, .int 0, .ref x1, .ref x2, .ref x3, .int 0, .ref mH, .int 0, .int 0, .int 0, .int 0, .int (-1), .int (-1), .int 0, .ref mY, .int 0, .ref mE, .int 0, .int 0, .ref mW, .int 0, .ref mO, .int 0, .ref y1, .ref y2, .ref y3, .ref y4, .ref mZ])), (mL, .inl (cI, 512, .inl (fun _ => (-1)))), (mB, .inl (cS, 131072, .inl (fun _ => (-1)))), (mD, .inl (cI, 2, .inl (fun _ => 0)))] H → va_D A [(oM, .inr (12, [.ref mT, .int 0, .ref mS, .ref mX, .int 0, .int 0, .ref mL, .ref mB, .ref mD, .ref m1, .ref m2, .int 0, .ref mR, .int 0, .ref x1, .ref x2, .ref x3, .int 0, .ref mH, .int 0, .int 0, .int 0, .int 0, .int (-1), .int (-1), .int 0, .ref mY, .int 0, .ref mE, .int 0, .int 0, .ref mW, .int 0, .ref mO, .int 0, .ref y1, .ref y2, .ref y3, .ref y4, .ref mZ])), (mL, .inl (cI, 512, .inl (fun _ => (-1)))), (mB, .inl (cS, 131072, .inl (fun _ => (-1)))), (mD, .inl (cI, 2, .inl (fun _ => 0)))] → va_S A s.heap H locs → lv_has ls 9 [(7, .int xc_91), (6, .int 1), (0, .ref oM), (1, .int 5), (2, .int fr), (3, .int n), (4, .int le), (5, .int sp)] → W p l e (headSpec wsX12_span ({ frames := 1, cells := 0, slots := 0, locals := 20 } : Room)).room s m ([.ref oM, .int 5, .int fr, .int n, .int le, .int sp] : List Value).toArray below meth c H locs 0 0 (MQ below (va_Qi (fun (r : Int32) (_ : Unit) => r = g_span fr n le sp) (fun _ _ => True) A) ([.ref oM, .int 5, .int fr, .int n, .int le, .int sp] : List Value).toArray s 0 0 A) (F0 m 91 ls []) := by
                      intro k_91
                      induction k_91 with
                      | zero =>
                        intro i_91 xc_91  H locs ls hi_91 hxc_91  hok hP hD hS hl
                        have hi2_91 : i_91 = nn := by omega
                        refine lv_iload hx hb dX12_span_91 (lv_at hl 0 rfl) ?_
                        refine lv_iload_n hx hb dX12_span_93 rfl (lv_at hl 5 rfl) ?_
                        refine lv_icmp_ge (tgt := 160) hx hb dX12_span_94 (by decide) (fun c_41 => ?_) (fun c_41 => absurd (by rw [hxc_91, hn]; exact nI_le (a := nn) (b := i_91) (by omega) (by rw [hi2_91]; exact (by omega))) c_41)
                        refine lv_iconst (v := 0) hx hb dX12_span_160 (by decide) ?_
                        refine lv_istore (lv' := [(7, .int 0), (6, .int 1), (0, .ref oM), (1, .int 5), (2, .int fr), (3, .int n), (4, .int le), (5, .int sp)]) hx hb dX12_span_161 hl (by decide) rfl (fun ls hl => ?_)
                        have LOOP_163 : ∀ (k_163 i_163 : Nat) (xc_163 : Int32) (fL : Nat → Int32) (fB : Nat → Int32) (H : Heap) (locs : List Loc) (ls : Array Slot), i_163 + k_163 = nn → xc_163 = nI i_163 →  va_P (dC, dI) vwCl [(oM, .inr (12, [.ref mT, .int 0, .ref mS, .ref mX, .int 0, .int 0, .ref mL, .ref mB, .ref mD, .ref m1, .ref m2, .int 0, .ref mR, .int 0, .ref x1, .ref x2, .ref x3, .int 0, .ref mH, .int 0, .int 0, .int 0, .int 0, .int (-1), .int (-1), .int 0, .ref mY, .int 0, .ref mE, .int 0, .int 0, .ref mW, .int 0, .ref mO, .int 0, .ref y1, .ref y2, .ref y3, .ref y4, .ref mZ])), (mL, .inl (cI, 512, .inl fL)), (mB, .inl (cS, 131072, .inl fB)), (mD, .inl (cI, 2, .inl (fun _ => 0)))] H → va_D A [(oM, .inr (12, [.ref mT, .int 0, .ref mS, .ref mX, .int 0, .int 0, .ref mL, .ref mB, .ref mD, .ref m1, .ref m2, .int 0, .ref mR, .int 0, .ref x1, .ref x2, .ref x3, .int 0, .ref mH, .int 0, .int 0, .int 0, .int 0, .int (-1), .int (-1), .int 0, .ref mY, .int 0, .ref mE, .int 0, .int 0, .ref mW, .int 0, .ref mO, .int 0, .ref y1, .ref y2, .ref y3, .ref y4, .ref mZ])), (mL, .inl (cI, 512, .inl fL)), (mB, .inl (cS, 131072, .inl fB)), (mD, .inl (cI, 2, .inl (fun _ => 0)))] → va_S A s.heap H locs → lv_has ls 9 [(7, .int xc_163), (6, .int 1), (0, .ref oM), (1, .int 5), (2, .int fr), (3, .int n), (4, .int le), (5, .int sp)] → W p l e (headSpec wsX12_span ({ frames := 1, cells := 0, slots := 0, locals := 20 } : Room)).room s m ([.ref oM, .int 5, .int fr, .int n, .int le, .int sp] : List Value).toArray below meth c H locs 0 0 (MQ below (va_Qi (fun (r : Int32) (_ : Unit) => r = g_span fr n le sp) (fun _ _ => True) A) ([.ref oM, .int 5, .int fr, .int n, .int le, .int sp] : List Value).toArray s 0 0 A) (F0 m 163 ls []) := by
                          intro k_163
                          induction k_163 with
                          | zero =>
                            intro i_163 xc_163 fL fB H locs ls hi_163 hxc_163  hP hD hS hl
                            have hi2_163 : i_163 = nn := by omega
                            refine lv_iload hx hb dX12_span_163 (lv_at hl 0 rfl) ?_
                            refine lv_iload_n hx hb dX12_span_165 rfl (lv_at hl 5 rfl) ?_
                            refine lv_icmp_ge (tgt := 223) hx hb dX12_span_166 (by decide) (fun c_42 => ?_) (fun c_42 => absurd (by rw [hxc_163, hn]; exact nI_le (a := nn) (b := i_163) (by omega) (by rw [hi2_163]; exact (by omega))) c_42)
                            refine lv_aload_n hx hb dX12_span_223 rfl (lv_at hl 2 rfl) ?_
                            refine va_get (D := (dC, dI)) (ci := 12) (v := .ref mD) (C := RX12) (T := TX12) (N := 40) hx hb hts in_X12 hown hK hP 0 rfl rfl 8 (by decide) (hts (.fieldLink RX12 27 "TextMenderModel" "told" "[I") (List.mem_of_getElem? (i := 6) rfl)) (fun _ h9 => h9) rfl dX12_span_224 ?_
                            refine lv_iload hx hb dX12_span_227 (lv_at hl 1 rfl) ?_
                            refine lv_dup2_11 hx hb dX12_span_229 rfl rfl ?_
                            refine va_iald hx hb hK hP 3 0 rfl rfl (by unfold vp_in; decide) dX12_span_230 ?_
                            refine k_i (y := 0) (by first | rfl | decide) ?_
                            refine lv_iload_n hx hb dX12_span_231 rfl (lv_at hl 5 rfl) ?_
                            refine lv_iadd hx hb dX12_span_232 ?_
                            refine lv_topi (fun x_43 ex_43 => ?_)
                            refine va_iast hx hb hK hP hD hS 3 0 rfl rfl (by unfold vp_in; decide) dX12_span_233 (fun H locs hP hD hS => ?_)
                            have hP : va_P (dC, dI) vwCl [(oM, .inr (12, [.ref mT, .int 0, .ref mS, .ref mX, .int 0, .int 0, .ref mL, .ref mB, .ref mD, .ref m1, .ref m2, .int 0, .ref mR, .int 0, .ref x1, .ref x2, .ref x3, .int 0, .ref mH, .int 0, .int 0, .int 0, .int 0, .int (-1), .int (-1), .int 0, .ref mY, .int 0, .ref mE, .int 0, .int 0, .ref mW, .int 0, .ref mO, .int 0, .ref y1, .ref y2, .ref y3, .ref y4, .ref mZ])), (mL, .inl (cI, 512, .inl fL)), (mB, .inl (cS, 131072, .inl fB)), (mD, .inl (cI, 2, .inl (upd (fun _ => 0) (1 : Int32).toNatClampNeg x_43)))] H := hP
                            have hD : va_D A [(oM, .inr (12, [.ref mT, .int 0, .ref mS, .ref mX, .int 0, .int 0, .ref mL, .ref mB, .ref mD, .ref m1, .ref m2, .int 0, .ref mR, .int 0, .ref x1, .ref x2, .ref x3, .int 0, .ref mH, .int 0, .int 0, .int 0, .int 0, .int (-1), .int (-1), .int 0, .ref mY, .int 0, .ref mE, .int 0, .int 0, .ref mW, .int 0, .ref mO, .int 0, .ref y1, .ref y2, .ref y3, .ref y4, .ref mZ])), (mL, .inl (cI, 512, .inl fL)), (mB, .inl (cS, 131072, .inl fB)), (mD, .inl (cI, 2, .inl (upd (fun _ => 0) (1 : Int32).toNatClampNeg x_43)))] := hD
                            refine lv_aload_n hx hb dX12_span_234 rfl (lv_at hl 2 rfl) ?_
                            refine lv_dup hx hb dX12_span_235 rfl ?_
                            refine va_get (D := (dC, dI)) (ci := 12) (v := .int 0) (C := RX12) (T := TX12) (N := 40) hx hb hts in_X12 hown hK hP 0 rfl rfl 22 (by decide) (hts (.fieldLink RX12 148 "TextMenderModel" "state" "I") (List.mem_of_getElem? (i := 7) rfl)) (fun _ h9 => h9) rfl dX12_span_236 ?_
                            refine lv_iconst (v := 1) hx hb dX12_span_239 (by decide) ?_
                            refine lv_iadd hx hb dX12_span_240 ?_
                            refine k_i (y := 1) (by decide) ?_
                            refine va_put (D := (dC, dI)) (ci := 12) (v := .int 1) (ty := .int) (C := RX12) (T := TX12) (N := 40) hx hb hts in_X12 tyX12 tyX12_ok nmX12 hown hK hP hD hS 0 rfl rfl 22 (by decide) (hts (.fieldLink RX12 148 "TextMenderModel" "state" "I") (List.mem_of_getElem? (i := 7) rfl)) (fun _ h9 => h9) rfl (by decide +kernel) rfl rfl (Nat.le_of_ble_eq_true rfl) dX12_span_241 (fun H locs hP hD hS => ?_)
                            have hP : va_P (dC, dI) vwCl [(oM, .inr (12, [.ref mT, .int 0, .ref mS, .ref mX, .int 0, .int 0, .ref mL, .ref mB, .ref mD, .ref m1, .ref m2, .int 0, .ref mR, .int 0, .ref x1, .ref x2, .ref x3, .int 0, .ref mH, .int 0, .int 0, .int 0, .int 1, .int (-1), .int (-1), .int 0, .ref mY, .int 0, .ref mE, .int 0, .int 0, .ref mW, .int 0, .ref mO, .int 0, .ref y1, .ref y2, .ref y3, .ref y4, .ref mZ])), (mL, .inl (cI, 512, .inl fL)), (mB, .inl (cS, 131072, .inl fB)), (mD, .inl (cI, 2, .inl (upd (fun _ => 0) (1 : Int32).toNatClampNeg x_43)))] H := hP
                            have hD : va_D A [(oM, .inr (12, [.ref mT, .int 0, .ref mS, .ref mX, .int 0, .int 0, .ref mL, .ref mB, .ref mD, .ref m1, .ref m2, .int 0, .ref mR, .int 0, .ref x1, .ref x2, .ref x3, .int 0, .ref mH, .int 0, .int 0, .int 0, .int 1, .int (-1), .int (-1), .int 0, .ref mY, .int 0, .ref mE, .int 0, .int 0, .ref mW, .int 0, .ref mO, .int 0, .ref y1, .ref y2, .ref y3, .ref y4, .ref mZ])), (mL, .inl (cI, 512, .inl fL)), (mB, .inl (cS, 131072, .inl fB)), (mD, .inl (cI, 2, .inl (upd (fun _ => 0) (1 : Int32).toNatClampNeg x_43)))] := hD
                            refine lv_aload_n hx hb dX12_span_244 rfl (lv_at hl 2 rfl) ?_
                            refine va_get (D := (dC, dI)) (ci := 12) (v := .ref mD) (C := RX12) (T := TX12) (N := 40) hx hb hts in_X12 hown hK hP 0 rfl rfl 8 (by decide) (hts (.fieldLink RX12 27 "TextMenderModel" "told" "[I") (List.mem_of_getElem? (i := 6) rfl)) (fun _ h9 => h9) rfl dX12_span_245 ?_
                            refine lv_iload hx hb dX12_span_248 (lv_at hl 1 rfl) ?_
                            refine va_iald hx hb hK hP 3 0 rfl rfl (by unfold vp_in; decide) dX12_span_250 ?_
                            refine k_i (y := x_43) (by first | rfl | decide) ?_
                            exact W.iret (v := x_43) hx hb hr (fun t ht hW => ⟨⟨x_43, (), rfl, by rw [g_span, if_neg (show ¬ g_can fr n le sp = 0 by rw [g_can, if_neg c_3, if_neg c_4, if_neg c_5, if_neg (show ¬ 256 - fr < n by rw [← ex_6]; exact c_7), if_neg c_8, if_neg c_9, if_neg (fun h => c_38 h.2), if_neg c_40, if_pos (fun j hj => hok j (by rw [hn, nI_clamp (by omega)] at hj; omega))]; decide), ex_43, Int32.zero_add], trivial⟩, hS.F ht⟩) (hS.2.2) dX12_span_251
                          | succ k_163 ih_163 =>
                            intro i_163 xc_163 fL fB H locs ls hi_163 hxc_163  hP hD hS hl
                            refine lv_iload hx hb dX12_span_163 (lv_at hl 0 rfl) ?_
                            refine lv_iload_n hx hb dX12_span_165 rfl (lv_at hl 5 rfl) ?_
                            refine lv_icmp_ge (tgt := 223) hx hb dX12_span_166 (by decide) (fun c_44 => absurd c_44 (by rw [hxc_163, hn]; exact nI_ge (a := i_163) (b := nn) (by omega) (by omega))) (fun c_44 => ?_)
                            refine lv_aload_n hx hb dX12_span_169 rfl (lv_at hl 2 rfl) ?_
                            refine va_get (D := (dC, dI)) (ci := 12) (v := .ref mL) (C := RX12) (T := TX12) (N := 40) hx hb hts in_X12 hown hK hP 0 rfl rfl 6 (by decide) (hts (.fieldLink RX12 19 "TextMenderModel" "letterOf" "[I") (List.mem_of_getElem? (i := 3) rfl)) (fun _ h9 => h9) rfl dX12_span_170 ?_
                            refine lv_sipush (v := 256) hx hb dX12_span_173 (by decide) ?_
                            refine lv_iload hx hb dX12_span_176 (lv_at hl 1 rfl) ?_
                            refine lv_imul hx hb dX12_span_178 ?_
                            refine k_i (y := 256) (by decide) ?_
                            refine lv_iload_n hx hb dX12_span_179 rfl (lv_at hl 4 rfl) ?_
                            refine lv_iadd hx hb dX12_span_180 ?_
                            refine lv_topi (fun x_45 ex_45 => ?_)
                            refine lv_iload hx hb dX12_span_181 (lv_at hl 0 rfl) ?_
                            refine lv_iadd hx hb dX12_span_183 ?_
                            refine lv_topi (fun x_46 ex_46 => ?_)
                            refine lv_iload hx hb dX12_span_184 (lv_at hl 6 rfl) ?_
                            refine lv_iload hx hb dX12_span_186 (lv_at hl 0 rfl) ?_
                            refine lv_iload hx hb dX12_span_188 (lv_at hl 7 rfl) ?_
                            refine lv_imul hx hb dX12_span_190 ?_
                            refine lv_topi (fun x_47 ex_47 => ?_)
                            refine lv_iadd hx hb dX12_span_191 ?_
                            refine lv_topi (fun x_48 ex_48 => ?_)
                            refine va_iast hx hb hK hP hD hS 1 0 rfl rfl (p_in3 256 ff i_163 512 ex_46 ex_45 rfl hff hxc_163 (by omega) (by decide)) dX12_span_192 (fun H locs hP hD hS => ?_)
                            have hP : va_P (dC, dI) vwCl [(oM, .inr (12, [.ref mT, .int 0, .ref mS, .ref mX, .int 0, .int 0, .ref mL, .ref mB, .ref mD, .ref m1, .ref m2, .int 0, .ref mR, .int 0, .ref x1, .ref x2, .ref x3, .int 0, .ref mH, .int 0, .int 0, .int 0, .int 0, .int (-1), .int (-1), .int 0, .ref mY, .int 0, .ref mE, .int 0, .int 0, .ref mW, .int 0, .ref mO, .int 0, .ref y1, .ref y2, .ref y3, .ref y4, .ref mZ])), (mL, .inl (cI, 512, .inl (upd fL (x_46 : Int32).toNatClampNeg x_48))), (mB, .inl (cS, 131072, .inl fB)), (mD, .inl (cI, 2, .inl (fun _ => 0)))] H := hP
                            have hD : va_D A [(oM, .inr (12, [.ref mT, .int 0, .ref mS, .ref mX, .int 0, .int 0, .ref mL, .ref mB, .ref mD, .ref m1, .ref m2, .int 0, .ref mR, .int 0, .ref x1, .ref x2, .ref x3, .int 0, .ref mH, .int 0, .int 0, .int 0, .int 0, .int (-1), .int (-1), .int 0, .ref mY, .int 0, .ref mE, .int 0, .int 0, .ref mW, .int 0, .ref mO, .int 0, .ref y1, .ref y2, .ref y3, .ref y4, .ref mZ])), (mL, .inl (cI, 512, .inl (upd fL (x_46 : Int32).toNatClampNeg x_48))), (mB, .inl (cS, 131072, .inl fB)), (mD, .inl (cI, 2, .inl (fun _ => 0)))] := hD
                            refine lv_aload_n hx hb dX12_span_193 rfl (lv_at hl 2 rfl) ?_
                            refine va_get (D := (dC, dI)) (ci := 12) (v := .ref mB) (C := RX12) (T := TX12) (N := 40) hx hb hts in_X12 hown hK hP 0 rfl rfl 7 (by decide) (hts (.fieldLink RX12 23 "TextMenderModel" "byteOfLetter" "[S") (List.mem_of_getElem? (i := 4) rfl)) (fun _ h9 => h9) rfl dX12_span_194 ?_
                            refine lv_ldc hx hb hown (hts (.constant RX12 88 (65536)) (List.mem_of_getElem? (i := 5) rfl)) dX12_span_197 ?_
                            refine lv_iload hx hb dX12_span_199 (lv_at hl 1 rfl) ?_
                            refine lv_imul hx hb dX12_span_201 ?_
                            refine k_i (y := 65536) (by decide) ?_
                            refine lv_iload hx hb dX12_span_202 (lv_at hl 6 rfl) ?_
                            refine lv_iadd hx hb dX12_span_204 ?_
                            refine lv_topi (fun x_49 ex_49 => ?_)
                            refine lv_iload hx hb dX12_span_205 (lv_at hl 0 rfl) ?_
                            refine lv_iload hx hb dX12_span_207 (lv_at hl 7 rfl) ?_
                            refine lv_imul hx hb dX12_span_209 ?_
                            refine lv_topi (fun x_50 ex_50 => ?_)
                            refine lv_iadd hx hb dX12_span_210 ?_
                            refine lv_topi (fun x_51 ex_51 => ?_)
                            refine lv_iload_n hx hb dX12_span_211 rfl (lv_at hl 4 rfl) ?_
                            refine lv_iload hx hb dX12_span_212 (lv_at hl 0 rfl) ?_
                            refine lv_iadd hx hb dX12_span_214 ?_
                            refine lv_topi (fun x_52 ex_52 => ?_)
                            obtain ⟨x_53, ex_53⟩ : ∃ v : Int32, v = (x_52 : Int32).toInt16.toInt32 := ⟨_, rfl⟩
                            refine lv_i2s (v := x_53) hx hb dX12_span_215 ex_53.symm ?_
                            refine va_sast hx hb hK hP hD hS 2 1 rfl rfl (p_inlet2 65536 131072 ex_51 ex_49 rfl (by rw [ex_50, hxc_163]; exact hok i_163 (by omega)) (by decide) (by decide)) dX12_span_216 (fun H locs hP hD hS => ?_)
                            have hP : va_P (dC, dI) vwCl [(oM, .inr (12, [.ref mT, .int 0, .ref mS, .ref mX, .int 0, .int 0, .ref mL, .ref mB, .ref mD, .ref m1, .ref m2, .int 0, .ref mR, .int 0, .ref x1, .ref x2, .ref x3, .int 0, .ref mH, .int 0, .int 0, .int 0, .int 0, .int (-1), .int (-1), .int 0, .ref mY, .int 0, .ref mE, .int 0, .int 0, .ref mW, .int 0, .ref mO, .int 0, .ref y1, .ref y2, .ref y3, .ref y4, .ref mZ])), (mL, .inl (cI, 512, .inl (upd fL (x_46 : Int32).toNatClampNeg x_48))), (mB, .inl (cS, 131072, .inl (upd fB (x_51 : Int32).toNatClampNeg (vp_nar .short x_53)))), (mD, .inl (cI, 2, .inl (fun _ => 0)))] H := hP
                            have hD : va_D A [(oM, .inr (12, [.ref mT, .int 0, .ref mS, .ref mX, .int 0, .int 0, .ref mL, .ref mB, .ref mD, .ref m1, .ref m2, .int 0, .ref mR, .int 0, .ref x1, .ref x2, .ref x3, .int 0, .ref mH, .int 0, .int 0, .int 0, .int 0, .int (-1), .int (-1), .int 0, .ref mY, .int 0, .ref mE, .int 0, .int 0, .ref mW, .int 0, .ref mO, .int 0, .ref y1, .ref y2, .ref y3, .ref y4, .ref mZ])), (mL, .inl (cI, 512, .inl (upd fL (x_46 : Int32).toNatClampNeg x_48))), (mB, .inl (cS, 131072, .inl (upd fB (x_51 : Int32).toNatClampNeg (vp_nar .short x_53)))), (mD, .inl (cI, 2, .inl (fun _ => 0)))] := hD
                            obtain ⟨x_54, ex_54⟩ : ∃ y : Int32, y = xc_163 + 1 := ⟨_, rfl⟩
                            refine lv_iinc (v := x_54) (lv' := [(7, .int x_54), (6, .int 1), (0, .ref oM), (1, .int 5), (2, .int fr), (3, .int n), (4, .int le), (5, .int sp)]) hx hb dX12_span_217 hl (k := 0) rfl (by rw [ex_54]; rfl) (by decide) rfl (fun ls hl => ?_)
                            refine lv_goto (tgt := 163) hx hb dX12_span_220 (by decide) ?_
                            exact ih_163 (i_163 + 1) x_54 (upd fL (x_46 : Int32).toNatClampNeg x_48) (upd fB (x_51 : Int32).toNatClampNeg (vp_nar .short x_53)) _ _ _ (by omega) (by rw [ex_54, hxc_163]; exact nI_1 i_163)  hP hD hS (lv_sub hl [0, 1, 2, 3, 4, 5, 6, 7] rfl)
                        exact LOOP_163 nn 0 0 (fun _ => (-1)) (fun _ => (-1)) _ _ _ (by omega) nI_0.symm  hP hD hS (lv_sub hl [0, 1, 2, 3, 4, 5, 6, 7] rfl)
                      | succ k_91 ih_91 =>
                        intro i_91 xc_91  H locs ls hi_91 hxc_91  hok hP hD hS hl
                        refine lv_iload hx hb dX12_span_91 (lv_at hl 0 rfl) ?_
                        refine lv_iload_n hx hb dX12_span_93 rfl (lv_at hl 5 rfl) ?_
                        refine lv_icmp_ge (tgt := 160) hx hb dX12_span_94 (by decide) (fun c_55 => absurd c_55 (by rw [hxc_91, hn]; exact nI_ge (a := i_91) (b := nn) (by omega) (by omega))) (fun c_55 => ?_)
                        refine lv_iload hx hb dX12_span_97 (lv_at hl 6 rfl) ?_
                        refine lv_iload hx hb dX12_span_99 (lv_at hl 0 rfl) ?_
                        refine lv_iload hx hb dX12_span_101 (lv_at hl 7 rfl) ?_
                        refine lv_imul hx hb dX12_span_103 ?_
                        refine lv_topi (fun x_56 ex_56 => ?_)
                        refine lv_iadd hx hb dX12_span_104 ?_
                        refine lv_topi (fun x_57 ex_57 => ?_)
                        refine lv_istore (lv' := [(8, .int x_57), (7, .int xc_91), (6, .int 1), (0, .ref oM), (1, .int 5), (2, .int fr), (3, .int n), (4, .int le), (5, .int sp)]) hx hb dX12_span_105 hl (by decide) rfl (fun ls hl => ?_)
                        refine lv_iload hx hb dX12_span_107 (lv_at hl 0 rfl) ?_
                        have hPc := hP.sub (ws' := []) [] rfl
                        have hDc := hD.sub (ws' := []) [] (by decide) rfl
                        have hFc := va_free (wc := []) hD hS hA [] rfl
                        refine va_calli (va_runS (As := [.int x_57]) (rest := []) ⟨hx, hb, hml, hown, hts⟩ (m_X12_isLetter l dC dI cI cS H.size x_57 ) (va_cwS 1 hts gX12_span_X12_isLetter rfl rfl rfl (by decide +kernel) ⟨Nat.le_of_ble_eq_true rfl, Nat.le_of_ble_eq_true rfl⟩) ⟨fun a U g mk q => by obtain ⟨q0, q1, qP, qK, qD⟩ := q; exact ⟨q0, q1, qP, va_K.moved (u := U) (U := U.calling g mk a) (Vm.Alike.refl U.vm) qK, qD⟩, fun U hU hW => ⟨rfl, by rw [hU], by rw [hU]; exact hPc, va_K.moved hW.alike hK, hDc.weaken (fun _ _ _ _ => trivial)⟩⟩ rfl rfl hl.1 rfl (lv_room (Nat.le_of_ble_eq_true rfl)) dX12_span_109 ⟨Nat.le_of_ble_eq_true rfl, Nat.le_of_ble_eq_true rfl⟩) hS (fun q _ h => hFc q h) hFc (fun r_58 u t H1 locs ht hvm hw hB hz1 hk1 hS => ?_)
                        obtain ⟨hP1, hD1⟩ := hB
                        rw [ht] at hP1
                        obtain ⟨hP, hD⟩ := va_join (wr := [(oM, .inr (12, [.ref mT, .int 0, .ref mS, .ref mX, .int 0, .int 0, .ref mL, .ref mB, .ref mD, .ref m1, .ref m2, .int 0, .ref mR, .int 0, .ref x1, .ref x2, .ref x3, .int 0, .ref mH, .int 0, .int 0, .int 0, .int 0, .int (-1), .int (-1), .int 0, .ref mY, .int 0, .ref mE, .int 0, .int 0, .ref mW, .int 0, .ref mO, .int 0, .ref y1, .ref y2, .ref y3, .ref y4, .ref mZ])), (mL, .inl (cI, 512, .inl (fun _ => (-1)))), (mB, .inl (cS, 131072, .inl (fun _ => (-1)))), (mD, .inl (cI, 2, .inl (fun _ => 0)))]) (w1 := []) hP hD [] [0, 1, 2, 3] rfl rfl (by decide) (by decide) hk1 hFc hP1 hD1
                        generalize H1 = H at hP hS ⊢
                        have hP : va_P (dC, dI) vwCl [(oM, .inr (12, [.ref mT, .int 0, .ref mS, .ref mX, .int 0, .int 0, .ref mL, .ref mB, .ref mD, .ref m1, .ref m2, .int 0, .ref mR, .int 0, .ref x1, .ref x2, .ref x3, .int 0, .ref mH, .int 0, .int 0, .int 0, .int 0, .int (-1), .int (-1), .int 0, .ref mY, .int 0, .ref mE, .int 0, .int 0, .ref mW, .int 0, .ref mO, .int 0, .ref y1, .ref y2, .ref y3, .ref y4, .ref mZ])), (mL, .inl (cI, 512, .inl (fun _ => (-1)))), (mB, .inl (cS, 131072, .inl (fun _ => (-1)))), (mD, .inl (cI, 2, .inl (fun _ => 0)))] H := hP
                        have hD : va_D A [(oM, .inr (12, [.ref mT, .int 0, .ref mS, .ref mX, .int 0, .int 0, .ref mL, .ref mB, .ref mD, .ref m1, .ref m2, .int 0, .ref mR, .int 0, .ref x1, .ref x2, .ref x3, .int 0, .ref mH, .int 0, .int 0, .int 0, .int 0, .int (-1), .int (-1), .int 0, .ref mY, .int 0, .ref mE, .int 0, .int 0, .ref mW, .int 0, .ref mO, .int 0, .ref y1, .ref y2, .ref y3, .ref y4, .ref mZ])), (mL, .inl (cI, 512, .inl (fun _ => (-1)))), (mB, .inl (cS, 131072, .inl (fun _ => (-1)))), (mD, .inl (cI, 2, .inl (fun _ => 0)))] := hD
                        rw [hw]
                        refine lv_if_eq (tgt := 152) hx hb dX12_span_112 (by decide) (fun c_59 => ?_) (fun c_59 => ?_)
                        · refine lv_iconst (v := (-1)) hx hb dX12_span_152 (by decide) ?_
                          exact W.iret (v := (-1)) hx hb hr (fun t ht hW => ⟨⟨(-1), (), rfl, by rw [g_span, if_pos (show g_can fr n le sp = 0 by rw [g_can, if_neg c_3, if_neg c_4, if_neg c_5, if_neg (show ¬ 256 - fr < n by rw [← ex_6]; exact c_7), if_neg c_8, if_neg c_9, if_neg (fun h => c_38 h.2), if_neg c_40, if_neg (fun h => h i_91 (by rw [hn, nI_clamp (by omega)]; omega) (by rw [← hxc_91, ← ex_56, ← ex_57]; exact c_59))])], trivial⟩, hS.F ht⟩) (hS.2.2) dX12_span_153
                        · refine lv_aload_n hx hb dX12_span_115 rfl (lv_at hl 3 rfl) ?_
                          refine va_get (D := (dC, dI)) (ci := 12) (v := .ref mL) (C := RX12) (T := TX12) (N := 40) hx hb hts in_X12 hown hK hP 0 rfl rfl 6 (by decide) (hts (.fieldLink RX12 19 "TextMenderModel" "letterOf" "[I") (List.mem_of_getElem? (i := 3) rfl)) (fun _ h9 => h9) rfl dX12_span_116 ?_
                          refine lv_sipush (v := 256) hx hb dX12_span_119 (by decide) ?_
                          refine lv_iload hx hb dX12_span_122 (lv_at hl 2 rfl) ?_
                          refine lv_imul hx hb dX12_span_124 ?_
                          refine k_i (y := 256) (by decide) ?_
                          refine lv_iload_n hx hb dX12_span_125 rfl (lv_at hl 5 rfl) ?_
                          refine lv_iadd hx hb dX12_span_126 ?_
                          refine lv_topi (fun x_60 ex_60 => ?_)
                          refine lv_iload hx hb dX12_span_127 (lv_at hl 1 rfl) ?_
                          refine lv_iadd hx hb dX12_span_129 ?_
                          refine lv_topi (fun x_61 ex_61 => ?_)
                          refine va_iald hx hb hK hP 1 0 rfl rfl (p_in3 256 ff i_91 512 ex_61 ex_60 rfl hff hxc_91 (by omega) (by decide)) dX12_span_130 ?_
                          refine k_i (y := (-1)) rfl ?_
                          refine lv_iconst (v := (-1)) hx hb dX12_span_131 (by decide) ?_
                          refine lv_icmp_ne (tgt := 152) hx hb dX12_span_132 (by decide) (fun c_62 => absurd (by decide) c_62) (fun c_62 => ?_)
                          refine lv_aload_n hx hb dX12_span_135 rfl (lv_at hl 3 rfl) ?_
                          refine va_get (D := (dC, dI)) (ci := 12) (v := .ref mB) (C := RX12) (T := TX12) (N := 40) hx hb hts in_X12 hown hK hP 0 rfl rfl 7 (by decide) (hts (.fieldLink RX12 23 "TextMenderModel" "byteOfLetter" "[S") (List.mem_of_getElem? (i := 4) rfl)) (fun _ h9 => h9) rfl dX12_span_136 ?_
                          refine lv_ldc hx hb hown (hts (.constant RX12 88 (65536)) (List.mem_of_getElem? (i := 5) rfl)) dX12_span_139 ?_
                          refine lv_iload hx hb dX12_span_141 (lv_at hl 2 rfl) ?_
                          refine lv_imul hx hb dX12_span_143 ?_
                          refine k_i (y := 65536) (by decide) ?_
                          refine lv_iload hx hb dX12_span_144 (lv_at hl 0 rfl) ?_
                          refine lv_iadd hx hb dX12_span_146 ?_
                          refine lv_topi (fun x_63 ex_63 => ?_)
                          refine va_sald hx hb hK hP 2 1 rfl rfl (p_inlet 65536 131072 ex_63 rfl c_59 (by decide) (by decide)) dX12_span_147 ?_
                          refine k_i (y := (-1)) rfl ?_
                          refine lv_iconst (v := (-1)) hx hb dX12_span_148 (by decide) ?_
                          refine lv_icmp_eq (tgt := 154) hx hb dX12_span_149 (by decide) (fun c_64 => ?_) (fun c_64 => absurd (by decide) c_64)
                          obtain ⟨x_65, ex_65⟩ : ∃ y : Int32, y = xc_91 + 1 := ⟨_, rfl⟩
                          refine lv_iinc (v := x_65) (lv' := [(7, .int x_65), (8, .int x_57), (6, .int 1), (0, .ref oM), (1, .int 5), (2, .int fr), (3, .int n), (4, .int le), (5, .int sp)]) hx hb dX12_span_154 hl (k := 1) rfl (by rw [ex_65]; rfl) (by decide) rfl (fun ls hl => ?_)
                          refine lv_goto (tgt := 91) hx hb dX12_span_157 (by decide) ?_
                          exact ih_91 (i_91 + 1) x_65  _ _ _ (by omega) (by rw [ex_65, hxc_91]; exact nI_1 i_91)  (lt_s hok (by rw [← hxc_91, ← ex_56, ← ex_57]; exact c_59)) hP hD hS (lv_sub hl [0, 2, 3, 4, 5, 6, 7, 8] rfl)
                    exact LOOP_91 nn 0 0  _ _ _ (by omega) nI_0.symm  (fun j hj => absurd hj (Nat.not_lt_zero j)) hP hD hS (lv_sub hl [0, 1, 2, 3, 4, 5, 6, 7] rfl)
                  · refine lv_iconst (v := (-1)) hx hb dX12_span_86 (by decide) ?_
                    exact W.iret (v := (-1)) hx hb hr (fun t ht hW => ⟨⟨(-1), (), rfl, by rw [g_span, if_pos (show g_can fr n le sp = 0 by simp [g_can, ← ex_6, c_3, c_4, c_5, c_7, c_8, c_9, c_10, c_38, c_40])], trivial⟩, hS.F ht⟩) (hS.2.2) dX12_span_87
                · refine lv_iconst (v := (-1)) hx hb dX12_span_71 (by decide) ?_
                  exact W.iret (v := (-1)) hx hb hr (fun t ht hW => ⟨⟨(-1), (), rfl, by rw [g_span, if_pos (show g_can fr n le sp = 0 by simp [g_can, ← ex_6, c_3, c_4, c_5, c_7, c_8, c_9, c_10, c_38])], trivial⟩, hS.F ht⟩) (hS.2.2) dX12_span_72

set_option maxHeartbeats 4000000 in
set_option maxRecDepth 100000 in
theorem y_span_n (l : Launch) (dC : Nat → ClassId) (dI : Nat → Nat → Nat) (cI cS : ClassId) (sz : Nat) (oM : Nat) (mT : Nat) (mS : Nat) (mX : Nat) (mL : Nat) (mB : Nat) (mD : Nat) (m1 : Nat) (m2 : Nat) (mR : Nat) (x1 : Nat) (x2 : Nat) (x3 : Nat) (mH : Nat) (mY : Nat) (mE : Nat) (mW : Nat) (mO : Nat) (y1 : Nat) (y2 : Nat) (y3 : Nat) (y4 : Nat) (mZ : Nat) (cd : Int32) (fr : Int32) (n : Int32) (le : Int32) (sp : Int32) (h4 : ¬ cd = 4) (h5 : ¬ cd = 5) : Met l yX12_span wsX12_span ({ frames := 1, cells := 0, slots := 0, locals := 20 } : Room) (va_Pc [.ref oM, .int cd, .int fr, .int n, .int le, .int sp] (fun U => U.heap.size = sz ∧ va_P (dC, dI) vwCl [(oM, .inr (12, [.ref mT, .int 0, .ref mS, .ref mX, .int 0, .int 0, .ref mL, .ref mB, .ref mD, .ref m1, .ref m2, .int 0, .ref mR, .int 0, .ref x1, .ref x2, .ref x3, .int 0, .ref mH, .int 0, .int 0, .int 0, .int 0, .int (-1), .int (-1), .int 0, .ref mY, .int 0, .ref mE, .int 0, .int 0, .ref mW, .int 0, .ref mO, .int 0, .ref y1, .ref y2, .ref y3, .ref y4, .ref mZ])), (mL, .inl (cI, 512, .inl (fun _ => (-1)))), (mB, .inl (cS, 131072, .inl (fun _ => (-1)))), (mD, .inl (cI, 2, .inl (fun _ => 0)))] U.heap ∧ va_K (dC, dI) vwCl [(cI, .int), (cS, .short)] U ∧ va_D (fun _ => True) [(oM, .inr (12, [.ref mT, .int 0, .ref mS, .ref mX, .int 0, .int 0, .ref mL, .ref mB, .ref mD, .ref m1, .ref m2, .int 0, .ref mR, .int 0, .ref x1, .ref x2, .ref x3, .int 0, .ref mH, .int 0, .int 0, .int 0, .int 0, .int (-1), .int (-1), .int 0, .ref mY, .int 0, .ref mE, .int 0, .int 0, .ref mW, .int 0, .ref mO, .int 0, .ref y1, .ref y2, .ref y3, .ref y4, .ref mZ])), (mL, .inl (cI, 512, .inl (fun _ => (-1)))), (mB, .inl (cS, 131072, .inl (fun _ => (-1)))), (mD, .inl (cI, 2, .inl (fun _ => 0)))])) (va_Qi (fun (r : Int32) (_ : Unit) => r = (-1)) (fun _ _ => True) (va_A [(oM, .inr (12, [.ref mT, .int 0, .ref mS, .ref mX, .int 0, .int 0, .ref mL, .ref mB, .ref mD, .ref m1, .ref m2, .int 0, .ref mR, .int 0, .ref x1, .ref x2, .ref x3, .int 0, .ref mH, .int 0, .int 0, .int 0, .int 0, .int (-1), .int (-1), .int 0, .ref mY, .int 0, .ref mE, .int 0, .int 0, .ref mW, .int 0, .ref mO, .int 0, .ref y1, .ref y2, .ref y3, .ref y4, .ref mZ])), (mL, .inl (cI, 512, .inl (fun _ => (-1)))), (mB, .inl (cS, 131072, .inl (fun _ => (-1)))), (mD, .inl (cI, 2, .inl (fun _ => 0)))] sz)) 0 0 (va_A [(oM, .inr (12, [.ref mT, .int 0, .ref mS, .ref mX, .int 0, .int 0, .ref mL, .ref mB, .ref mD, .ref m1, .ref m2, .int 0, .ref mR, .int 0, .ref x1, .ref x2, .ref x3, .int 0, .ref mH, .int 0, .int 0, .int 0, .int 0, .int (-1), .int (-1), .int 0, .ref mY, .int 0, .ref mE, .int 0, .int 0, .ref mW, .int 0, .ref mO, .int 0, .ref y1, .ref y2, .ref y3, .ref y4, .ref mZ])), (mL, .inl (cI, 512, .inl (fun _ => (-1)))), (mB, .inl (cS, 131072, .inl (fun _ => (-1)))), (mD, .inl (cI, 2, .inl (fun _ => 0)))] sz) := by
  refine Met.ofW (cc := cX12_span) (maxL := 9) (ret := (some .int)) (by decide) rfl ?_
  intro p e s m args below meth c s₁ B hml hv
  obtain ⟨rfl, hsz, hP, hK, hD0⟩ := hv
  have hx := B.exec
  have hb := B.bytes
  have hr := B.returns
  have hts := atoms_spec (ws := wsX12_span) B.pre
  have hown : s.vm.findClass RX12 = some m.cls := findClass_of_methodNamed B.named
  have hlocks := B.notSynchronized
  have in_X12 : ∀ w ∈ wsX120, w ∈ wsX12_span := fun _ h => List.mem_cons_of_mem _ (List.mem_append_right _ (h))
  subst hsz
  have hD := hD0.self (sz := s.heap.size)
  generalize hAe : va_A [(oM, .inr (12, [.ref mT, .int 0, .ref mS, .ref mX, .int 0, .int 0, .ref mL, .ref mB, .ref mD, .ref m1, .ref m2, .int 0, .ref mR, .int 0, .ref x1, .ref x2, .ref x3, .int 0, .ref mH, .int 0, .int 0, .int 0, .int 0, .int (-1), .int (-1), .int 0, .ref mY, .int 0, .ref mE, .int 0, .int 0, .ref mW, .int 0, .ref mO, .int 0, .ref y1, .ref y2, .ref y3, .ref y4, .ref mZ])), (mL, .inl (cI, 512, .inl (fun _ => (-1)))), (mB, .inl (cS, 131072, .inl (fun _ => (-1)))), (mD, .inl (cI, 2, .inl (fun _ => 0)))] s.heap.size = A at hD ⊢
  have hA : ∀ q : Nat, s.heap.size ≤ q → A q := fun q h => by rw [← hAe]; exact Or.inr h
  have hS : va_S A s.heap s.heap [] := va_S.rf
  have hP : va_P (dC, dI) vwCl [(oM, .inr (12, [.ref mT, .int 0, .ref mS, .ref mX, .int 0, .int 0, .ref mL, .ref mB, .ref mD, .ref m1, .ref m2, .int 0, .ref mR, .int 0, .ref x1, .ref x2, .ref x3, .int 0, .ref mH, .int 0, .int 0, .int 0, .int 0, .int (-1), .int (-1), .int 0, .ref mY, .int 0, .ref mE, .int 0, .int 0, .ref mW, .int 0, .ref mO, .int 0, .ref y1, .ref y2, .ref y3, .ref y4, .ref mZ])), (mL, .inl (cI, 512, .inl (fun _ => (-1)))), (mB, .inl (cS, 131072, .inl (fun _ => (-1)))), (mD, .inl (cI, 2, .inl (fun _ => 0)))] s.heap := hP
  have hl := lv_entry ([.ref oM, .int cd, .int fr, .int n, .int le, .int sp]) (n := 9) (Nat.le_of_ble_eq_true rfl)
  rw [lg_entry_eq]
  generalize (lg_sl ([.ref oM, .int cd, .int fr, .int n, .int le, .int sp]) ++ List.replicate (9 - (lg_sl ([.ref oM, .int cd, .int fr, .int n, .int le, .int sp])).length) Slot.unset).toArray = ls at hl ⊢
  have hl : lv_has ls 9 [(0, .ref oM), (1, .int cd), (2, .int fr), (3, .int n), (4, .int le), (5, .int sp)] := hl
  refine lv_aload_n hx hb dX12_span_0 rfl (lv_at hl 0 rfl) ?_
  refine lv_iconst (v := 0) hx hb dX12_span_1 (by decide) ?_
  refine va_put (D := (dC, dI)) (ci := 12) (v := .int 0) (ty := .int) (C := RX12) (T := TX12) (N := 40) hx hb hts in_X12 tyX12 tyX12_ok nmX12 hown hK hP hD hS 0 rfl rfl 25 (by decide) (hts (.fieldLink RX12 85 "TextMenderModel" "thrown" "I") (List.mem_of_getElem? (i := 1) rfl)) (fun _ h9 => h9) rfl (by decide +kernel) rfl rfl (Nat.le_of_ble_eq_true rfl) dX12_span_2 (fun H locs hP hD hS => ?_)
  have hP : va_P (dC, dI) vwCl [(oM, .inr (12, [.ref mT, .int 0, .ref mS, .ref mX, .int 0, .int 0, .ref mL, .ref mB, .ref mD, .ref m1, .ref m2, .int 0, .ref mR, .int 0, .ref x1, .ref x2, .ref x3, .int 0, .ref mH, .int 0, .int 0, .int 0, .int 0, .int (-1), .int (-1), .int 0, .ref mY, .int 0, .ref mE, .int 0, .int 0, .ref mW, .int 0, .ref mO, .int 0, .ref y1, .ref y2, .ref y3, .ref y4, .ref mZ])), (mL, .inl (cI, 512, .inl (fun _ => (-1)))), (mB, .inl (cS, 131072, .inl (fun _ => (-1)))), (mD, .inl (cI, 2, .inl (fun _ => 0)))] H := hP
  have hD : va_D A [(oM, .inr (12, [.ref mT, .int 0, .ref mS, .ref mX, .int 0, .int 0, .ref mL, .ref mB, .ref mD, .ref m1, .ref m2, .int 0, .ref mR, .int 0, .ref x1, .ref x2, .ref x3, .int 0, .ref mH, .int 0, .int 0, .int 0, .int 0, .int (-1), .int (-1), .int 0, .ref mY, .int 0, .ref mE, .int 0, .int 0, .ref mW, .int 0, .ref mO, .int 0, .ref y1, .ref y2, .ref y3, .ref y4, .ref mZ])), (mL, .inl (cI, 512, .inl (fun _ => (-1)))), (mB, .inl (cS, 131072, .inl (fun _ => (-1)))), (mD, .inl (cI, 2, .inl (fun _ => 0)))] := hD
  refine lv_aload_n hx hb dX12_span_5 rfl (lv_at hl 0 rfl) ?_
  refine lv_iconst (v := (-1)) hx hb dX12_span_6 (by decide) ?_
  refine va_put (D := (dC, dI)) (ci := 12) (v := .int (-1)) (ty := .int) (C := RX12) (T := TX12) (N := 40) hx hb hts in_X12 tyX12 tyX12_ok nmX12 hown hK hP hD hS 0 rfl rfl 24 (by decide) (hts (.fieldLink RX12 55 "TextMenderModel" "where" "I") (List.mem_of_getElem? (i := 2) rfl)) (fun _ h9 => h9) rfl (by decide +kernel) rfl rfl (Nat.le_of_ble_eq_true rfl) dX12_span_7 (fun H locs hP hD hS => ?_)
  have hP : va_P (dC, dI) vwCl [(oM, .inr (12, [.ref mT, .int 0, .ref mS, .ref mX, .int 0, .int 0, .ref mL, .ref mB, .ref mD, .ref m1, .ref m2, .int 0, .ref mR, .int 0, .ref x1, .ref x2, .ref x3, .int 0, .ref mH, .int 0, .int 0, .int 0, .int 0, .int (-1), .int (-1), .int 0, .ref mY, .int 0, .ref mE, .int 0, .int 0, .ref mW, .int 0, .ref mO, .int 0, .ref y1, .ref y2, .ref y3, .ref y4, .ref mZ])), (mL, .inl (cI, 512, .inl (fun _ => (-1)))), (mB, .inl (cS, 131072, .inl (fun _ => (-1)))), (mD, .inl (cI, 2, .inl (fun _ => 0)))] H := hP
  have hD : va_D A [(oM, .inr (12, [.ref mT, .int 0, .ref mS, .ref mX, .int 0, .int 0, .ref mL, .ref mB, .ref mD, .ref m1, .ref m2, .int 0, .ref mR, .int 0, .ref x1, .ref x2, .ref x3, .int 0, .ref mH, .int 0, .int 0, .int 0, .int 0, .int (-1), .int (-1), .int 0, .ref mY, .int 0, .ref mE, .int 0, .int 0, .ref mW, .int 0, .ref mO, .int 0, .ref y1, .ref y2, .ref y3, .ref y4, .ref mZ])), (mL, .inl (cI, 512, .inl (fun _ => (-1)))), (mB, .inl (cS, 131072, .inl (fun _ => (-1)))), (mD, .inl (cI, 2, .inl (fun _ => 0)))] := hD
  refine lv_iload_n hx hb dX12_span_10 rfl (lv_at hl 1 rfl) ?_
  refine lv_iconst (v := 4) hx hb dX12_span_11 (by decide) ?_
  refine lv_icmp_lt (tgt := 71) hx hb dX12_span_12 (by decide) (fun c_1 => ?_) (fun c_1 => ?_)
  · refine lv_iconst (v := (-1)) hx hb dX12_span_71 (by decide) ?_
    exact W.iret (v := (-1)) hx hb hr (fun t ht hW => ⟨⟨(-1), (), rfl, rfl, trivial⟩, hS.F ht⟩) (hS.2.2) dX12_span_72
  · refine lv_iload_n hx hb dX12_span_15 rfl (lv_at hl 1 rfl) ?_
    refine lv_iconst (v := 5) hx hb dX12_span_16 (by decide) ?_
    refine lv_icmp_gt (tgt := 71) hx hb dX12_span_17 (by decide) (fun c_2 => ?_) (fun c_2 => absurd (Int32.not_le.mp (p_45 c_1 h4 h5)) c_2)
    refine lv_iconst (v := (-1)) hx hb dX12_span_71 (by decide) ?_
    exact W.iret (v := (-1)) hx hb hr (fun t ht hW => ⟨⟨(-1), (), rfl, rfl, trivial⟩, hS.F ht⟩) (hS.2.2) dX12_span_72

theorem y_span (l : Launch) (dC : Nat → ClassId) (dI : Nat → Nat → Nat) (cI cS : ClassId) (sz : Nat) (oM : Nat) (mT : Nat) (mS : Nat) (mX : Nat) (mL : Nat) (mB : Nat) (mD : Nat) (m1 : Nat) (m2 : Nat) (mR : Nat) (x1 : Nat) (x2 : Nat) (x3 : Nat) (mH : Nat) (mY : Nat) (mE : Nat) (mW : Nat) (mO : Nat) (y1 : Nat) (y2 : Nat) (y3 : Nat) (y4 : Nat) (mZ : Nat) (cd : Int32) (fr : Int32) (n : Int32) (le : Int32) (sp : Int32)  : Met l yX12_span wsX12_span ({ frames := 1, cells := 0, slots := 0, locals := 20 } : Room) (va_Pc [.ref oM, .int cd, .int fr, .int n, .int le, .int sp] (fun U => U.heap.size = sz ∧ va_P (dC, dI) vwCl [(oM, .inr (12, [.ref mT, .int 0, .ref mS, .ref mX, .int 0, .int 0, .ref mL, .ref mB, .ref mD, .ref m1, .ref m2, .int 0, .ref mR, .int 0, .ref x1, .ref x2, .ref x3, .int 0, .ref mH, .int 0, .int 0, .int 0, .int 0, .int (-1), .int (-1), .int 0, .ref mY, .int 0, .ref mE, .int 0, .int 0, .ref mW, .int 0, .ref mO, .int 0, .ref y1, .ref y2, .ref y3, .ref y4, .ref mZ])), (mL, .inl (cI, 512, .inl (fun _ => (-1)))), (mB, .inl (cS, 131072, .inl (fun _ => (-1)))), (mD, .inl (cI, 2, .inl (fun _ => 0)))] U.heap ∧ va_K (dC, dI) vwCl [(cI, .int), (cS, .short)] U ∧ va_D (fun _ => True) [(oM, .inr (12, [.ref mT, .int 0, .ref mS, .ref mX, .int 0, .int 0, .ref mL, .ref mB, .ref mD, .ref m1, .ref m2, .int 0, .ref mR, .int 0, .ref x1, .ref x2, .ref x3, .int 0, .ref mH, .int 0, .int 0, .int 0, .int 0, .int (-1), .int (-1), .int 0, .ref mY, .int 0, .ref mE, .int 0, .int 0, .ref mW, .int 0, .ref mO, .int 0, .ref y1, .ref y2, .ref y3, .ref y4, .ref mZ])), (mL, .inl (cI, 512, .inl (fun _ => (-1)))), (mB, .inl (cS, 131072, .inl (fun _ => (-1)))), (mD, .inl (cI, 2, .inl (fun _ => 0)))])) (va_Qi (fun (r : Int32) (_ : Unit) => r = g_spanc cd fr n le sp) (fun _ _ => True) (va_A [(oM, .inr (12, [.ref mT, .int 0, .ref mS, .ref mX, .int 0, .int 0, .ref mL, .ref mB, .ref mD, .ref m1, .ref m2, .int 0, .ref mR, .int 0, .ref x1, .ref x2, .ref x3, .int 0, .ref mH, .int 0, .int 0, .int 0, .int 0, .int (-1), .int (-1), .int 0, .ref mY, .int 0, .ref mE, .int 0, .int 0, .ref mW, .int 0, .ref mO, .int 0, .ref y1, .ref y2, .ref y3, .ref y4, .ref mZ])), (mL, .inl (cI, 512, .inl (fun _ => (-1)))), (mB, .inl (cS, 131072, .inl (fun _ => (-1)))), (mD, .inl (cI, 2, .inl (fun _ => 0)))] sz)) 0 0 (va_A [(oM, .inr (12, [.ref mT, .int 0, .ref mS, .ref mX, .int 0, .int 0, .ref mL, .ref mB, .ref mD, .ref m1, .ref m2, .int 0, .ref mR, .int 0, .ref x1, .ref x2, .ref x3, .int 0, .ref mH, .int 0, .int 0, .int 0, .int 0, .int (-1), .int (-1), .int 0, .ref mY, .int 0, .ref mE, .int 0, .int 0, .ref mW, .int 0, .ref mO, .int 0, .ref y1, .ref y2, .ref y3, .ref y4, .ref mZ])), (mL, .inl (cI, 512, .inl (fun _ => (-1)))), (mB, .inl (cS, 131072, .inl (fun _ => (-1)))), (mD, .inl (cI, 2, .inl (fun _ => 0)))] sz) := by
  by_cases h4 : cd = 4
  · subst h4
    have e : g_spanc 4 fr n le sp = g_span fr n le sp := by rw [g_spanc, if_pos rfl]
    rw [e]; exact y_span_4 l dC dI cI cS sz oM mT mS mX mL mB mD m1 m2 mR x1 x2 x3 mH mY mE mW mO y1 y2 y3 y4 mZ fr n le sp
  · by_cases h5 : cd = 5
    · subst h5
      have e : g_spanc 5 fr n le sp = g_span fr n le sp := by rw [g_spanc, if_neg (by decide), if_pos rfl]
      rw [e]; exact y_span_5 l dC dI cI cS sz oM mT mS mX mL mB mD m1 m2 mR x1 x2 x3 mH mY mE mW mO y1 y2 y3 y4 mZ fr n le sp
    · have e : g_spanc cd fr n le sp = (-1) := by rw [g_spanc, if_neg h4, if_neg h5]
      rw [e]; exact y_span_n l dC dI cI cS sz oM mT mS mX mL mB mD m1 m2 mR x1 x2 x3 mH mY mE mW mO y1 y2 y3 y4 mZ cd fr n le sp h4 h5
