set_option maxHeartbeats 4000000 in
set_option maxRecDepth 100000 in
theorem m_X12_isCode (l : Launch) (dC : Nat → ClassId) (dI : Nat → Nat → Nat) (cI cS : ClassId) (sz : Nat) (cd : Int32)  : Met l yX12_isCode wsX12_isCode ({ frames := 0, cells := 0, slots := 0, locals := 0 } : Room) (va_Pc [.int cd] (fun U => U.heap.size = sz ∧ va_P (dC, dI) vwCl [] U.heap ∧ va_K (dC, dI) vwCl [(cI, .int), (cS, .short)] U ∧ va_D (fun _ => True) [])) (va_Qi (fun (r : Int32) (_ : Unit) => r = g_code cd) (fun _ t => va_P (dC, dI) vwCl [] t.heap ∧ va_D (va_A [] sz) []) (va_A [] sz)) 0 0 (va_A [] sz) := by
  refine Met.ofW (cc := cX12_isCode) (maxL := 1) (ret := (some .boolean)) (by decide) rfl ?_
  intro p e s m args below meth c s₁ B hml hv
  obtain ⟨rfl, hsz, hP, hK, hD0⟩ := hv
  have hx := B.exec
  have hb := B.bytes
  have hr := B.returns
  have hts := atoms_spec (ws := wsX12_isCode) B.pre
  have hown : s.vm.findClass RX12 = some m.cls := findClass_of_methodNamed B.named
  have hlocks := B.notSynchronized
  subst hsz
  have hD := hD0.self (sz := s.heap.size)
  generalize hAe : va_A [] s.heap.size = A at hD ⊢
  have hA : ∀ q : Nat, s.heap.size ≤ q → A q := fun q h => by rw [← hAe]; exact Or.inr h
  have hS : va_S A s.heap s.heap [] := va_S.rf
  have hP : va_P (dC, dI) vwCl [] s.heap := hP
  have hl := lv_entry ([.int cd]) (n := 1) (Nat.le_of_ble_eq_true rfl)
  rw [lg_entry_eq]
  generalize (lg_sl ([.int cd]) ++ List.replicate (1 - (lg_sl ([.int cd])).length) Slot.unset).toArray = ls at hl ⊢
  have hl : lv_has ls 1 [(0, .int cd)] := hl
  refine lv_iload_n hx hb dX12_isCode_0 rfl (lv_at hl 0 rfl) ?_
  refine lv_if_lt (tgt := 14) hx hb dX12_isCode_1 (by decide) (fun c_1 => ?_) (fun c_1 => ?_)
  · refine lv_iconst (v := 0) hx hb dX12_isCode_14 (by decide) ?_
    have hP9 := hP.sub (ws' := []) [] rfl
    have hD9 := hD.sub (ws' := []) [] (by decide) rfl
    exact W.zret (v := 0) (ty := .boolean) hx hb hr (rfl) (fun t ht hW => ⟨⟨0, (), rfl, by first | rfl | assumption | simp [g_code, c_1], by rw [ht]; exact hP9, hD9⟩, hS.F ht⟩) (hS.2.2) dX12_isCode_15
  · refine lv_iload_n hx hb dX12_isCode_4 rfl (lv_at hl 0 rfl) ?_
    refine lv_bipush (v := 6) hx hb dX12_isCode_5 (by decide) ?_
    refine lv_icmp_ge (tgt := 14) hx hb dX12_isCode_7 (by decide) (fun c_2 => ?_) (fun c_2 => ?_)
    · refine lv_iconst (v := 0) hx hb dX12_isCode_14 (by decide) ?_
      have hP9 := hP.sub (ws' := []) [] rfl
      have hD9 := hD.sub (ws' := []) [] (by decide) rfl
      exact W.zret (v := 0) (ty := .boolean) hx hb hr (rfl) (fun t ht hW => ⟨⟨0, (), rfl, by first | rfl | assumption | simp [g_code, c_1, c_2], by rw [ht]; exact hP9, hD9⟩, hS.F ht⟩) (hS.2.2) dX12_isCode_15
    · refine lv_iconst (v := 1) hx hb dX12_isCode_10 (by decide) ?_
      refine lv_goto (tgt := 15) hx hb dX12_isCode_11 (by decide) ?_
      have hP9 := hP.sub (ws' := []) [] rfl
      have hD9 := hD.sub (ws' := []) [] (by decide) rfl
      exact W.zret (v := 1) (ty := .boolean) hx hb hr (rfl) (fun t ht hW => ⟨⟨1, (), rfl, by first | rfl | assumption | simp [g_code, c_1, c_2], by rw [ht]; exact hP9, hD9⟩, hS.F ht⟩) (hS.2.2) dX12_isCode_15

set_option maxHeartbeats 4000000 in
set_option maxRecDepth 100000 in
theorem m_X12_isLetter (l : Launch) (dC : Nat → ClassId) (dI : Nat → Nat → Nat) (cI cS : ClassId) (sz : Nat) (x : Int32)  : Met l yX12_isLetter wsX12_isLetter ({ frames := 0, cells := 0, slots := 0, locals := 0 } : Room) (va_Pc [.int x] (fun U => U.heap.size = sz ∧ va_P (dC, dI) vwCl [] U.heap ∧ va_K (dC, dI) vwCl [(cI, .int), (cS, .short)] U ∧ va_D (fun _ => True) [])) (va_Qi (fun (r : Int32) (_ : Unit) => r = g_isL x) (fun _ t => va_P (dC, dI) vwCl [] t.heap ∧ va_D (va_A [] sz) []) (va_A [] sz)) 0 0 (va_A [] sz) := by
  refine Met.ofW (cc := cX12_isLetter) (maxL := 1) (ret := (some .boolean)) (by decide) rfl ?_
  intro p e s m args below meth c s₁ B hml hv
  obtain ⟨rfl, hsz, hP, hK, hD0⟩ := hv
  have hx := B.exec
  have hb := B.bytes
  have hr := B.returns
  have hts := atoms_spec (ws := wsX12_isLetter) B.pre
  have hown : s.vm.findClass RX12 = some m.cls := findClass_of_methodNamed B.named
  have hlocks := B.notSynchronized
  subst hsz
  have hD := hD0.self (sz := s.heap.size)
  generalize hAe : va_A [] s.heap.size = A at hD ⊢
  have hA : ∀ q : Nat, s.heap.size ≤ q → A q := fun q h => by rw [← hAe]; exact Or.inr h
  have hS : va_S A s.heap s.heap [] := va_S.rf
  have hP : va_P (dC, dI) vwCl [] s.heap := hP
  have hl := lv_entry ([.int x]) (n := 1) (Nat.le_of_ble_eq_true rfl)
  rw [lg_entry_eq]
  generalize (lg_sl ([.int x]) ++ List.replicate (1 - (lg_sl ([.int x])).length) Slot.unset).toArray = ls at hl ⊢
  have hl : lv_has ls 1 [(0, .int x)] := hl
  refine lv_iload_n hx hb dX12_isLetter_0 rfl (lv_at hl 0 rfl) ?_
  refine lv_if_lt (tgt := 26) hx hb dX12_isLetter_1 (by decide) (fun c_1 => ?_) (fun c_1 => ?_)
  · refine lv_iconst (v := 0) hx hb dX12_isLetter_26 (by decide) ?_
    have hP9 := hP.sub (ws' := []) [] rfl
    have hD9 := hD.sub (ws' := []) [] (by decide) rfl
    exact W.zret (v := 0) (ty := .boolean) hx hb hr (rfl) (fun t ht hW => ⟨⟨0, (), rfl, by first | rfl | assumption | simp [g_isL, c_1], by rw [ht]; exact hP9, hD9⟩, hS.F ht⟩) (hS.2.2) dX12_isLetter_27
  · refine lv_iload_n hx hb dX12_isLetter_4 rfl (lv_at hl 0 rfl) ?_
    refine lv_ldc hx hb hown (hts (.constant RX12 88 (65536)) (List.mem_of_getElem? (i := 1) rfl)) dX12_isLetter_5 ?_
    refine lv_icmp_ge (tgt := 26) hx hb dX12_isLetter_7 (by decide) (fun c_2 => ?_) (fun c_2 => ?_)
    · refine lv_iconst (v := 0) hx hb dX12_isLetter_26 (by decide) ?_
      have hP9 := hP.sub (ws' := []) [] rfl
      have hD9 := hD.sub (ws' := []) [] (by decide) rfl
      exact W.zret (v := 0) (ty := .boolean) hx hb hr (rfl) (fun t ht hW => ⟨⟨0, (), rfl, by first | rfl | assumption | simp [g_isL, c_1, c_2], by rw [ht]; exact hP9, hD9⟩, hS.F ht⟩) (hS.2.2) dX12_isLetter_27
    · refine lv_iload_n hx hb dX12_isLetter_10 rfl (lv_at hl 0 rfl) ?_
      refine lv_ldc hx hb hown (hts (.constant RX12 89 (55296)) (List.mem_of_getElem? (i := 2) rfl)) dX12_isLetter_11 ?_
      refine lv_icmp_lt (tgt := 22) hx hb dX12_isLetter_13 (by decide) (fun c_3 => ?_) (fun c_3 => ?_)
      · refine lv_iconst (v := 1) hx hb dX12_isLetter_22 (by decide) ?_
        refine lv_goto (tgt := 27) hx hb dX12_isLetter_23 (by decide) ?_
        have hP9 := hP.sub (ws' := []) [] rfl
        have hD9 := hD.sub (ws' := []) [] (by decide) rfl
        exact W.zret (v := 1) (ty := .boolean) hx hb hr (rfl) (fun t ht hW => ⟨⟨1, (), rfl, by first | rfl | assumption | simp [g_isL, c_1, c_2, c_3], by rw [ht]; exact hP9, hD9⟩, hS.F ht⟩) (hS.2.2) dX12_isLetter_27
      · refine lv_iload_n hx hb dX12_isLetter_16 rfl (lv_at hl 0 rfl) ?_
        refine lv_ldc hx hb hown (hts (.constant RX12 90 (57343)) (List.mem_of_getElem? (i := 3) rfl)) dX12_isLetter_17 ?_
        refine lv_icmp_le (tgt := 26) hx hb dX12_isLetter_19 (by decide) (fun c_4 => ?_) (fun c_4 => ?_)
        · refine lv_iconst (v := 0) hx hb dX12_isLetter_26 (by decide) ?_
          have hP9 := hP.sub (ws' := []) [] rfl
          have hD9 := hD.sub (ws' := []) [] (by decide) rfl
          exact W.zret (v := 0) (ty := .boolean) hx hb hr (rfl) (fun t ht hW => ⟨⟨0, (), rfl, by first | rfl | assumption | simp [g_isL, c_1, c_2, c_3, c_4], by rw [ht]; exact hP9, hD9⟩, hS.F ht⟩) (hS.2.2) dX12_isLetter_27
        · refine lv_iconst (v := 1) hx hb dX12_isLetter_22 (by decide) ?_
          refine lv_goto (tgt := 27) hx hb dX12_isLetter_23 (by decide) ?_
          have hP9 := hP.sub (ws' := []) [] rfl
          have hD9 := hD.sub (ws' := []) [] (by decide) rfl
          exact W.zret (v := 1) (ty := .boolean) hx hb hr (rfl) (fun t ht hW => ⟨⟨1, (), rfl, by first | rfl | assumption | simp [g_isL, c_1, c_2, c_3, c_4], by rw [ht]; exact hP9, hD9⟩, hS.F ht⟩) (hS.2.2) dX12_isLetter_27

set_option maxHeartbeats 4000000 in
set_option maxRecDepth 100000 in
theorem m_X12_become (l : Launch) (dC : Nat → ClassId) (dI : Nat → Nat → Nat) (cI cS : ClassId) (sz : Nat) (oM : Nat) (mT : Nat) (mS : Nat) (mX : Nat) (mL : Nat) (mB : Nat) (mD : Nat) (m1 : Nat) (m2 : Nat) (mR : Nat) (x1 : Nat) (x2 : Nat) (x3 : Nat) (mH : Nat) (mY : Nat) (mE : Nat) (mW : Nat) (mO : Nat) (y1 : Nat) (y2 : Nat) (y3 : Nat) (y4 : Nat) (mZ : Nat) (row : Nat) (fa : Int32)  : Met l yX12_become wsX12_become ({ frames := 0, cells := 0, slots := 0, locals := 0 } : Room) (va_Pc [.ref oM, .ref row, .int 0] (fun U => U.heap.size = sz ∧ va_P (dC, dI) vwCl [(oM, .inr (12, [.ref mT, .int 0, .ref mS, .ref mX, .int 0, .int 0, .ref mL, .ref mB, .ref mD, .ref m1, .ref m2, .int 0, .ref mR, .int 0, .ref x1, .ref x2, .ref x3, .int 0, .ref mH, .int 0, .int 0, .int 0, .int 0, .int (-1), .int (-1), .int 0, .ref mY, .int 0, .ref mE, .int 0, .int fa, .ref mW, .int 0, .ref mO, .int 0, .ref y1, .ref y2, .ref y3, .ref y4, .ref mZ])), (mS, .inl (cI, 21, .inl (fun _ => 0)))] U.heap ∧ va_K (dC, dI) vwCl [(cI, .int), (cS, .short)] U ∧ va_D (fun _ => True) [(oM, .inr (12, [.ref mT, .int 0, .ref mS, .ref mX, .int 0, .int 0, .ref mL, .ref mB, .ref mD, .ref m1, .ref m2, .int 0, .ref mR, .int 0, .ref x1, .ref x2, .ref x3, .int 0, .ref mH, .int 0, .int 0, .int 0, .int 0, .int (-1), .int (-1), .int 0, .ref mY, .int 0, .ref mE, .int 0, .int fa, .ref mW, .int 0, .ref mO, .int 0, .ref y1, .ref y2, .ref y3, .ref y4, .ref mZ])), (mS, .inl (cI, 21, .inl (fun _ => 0)))])) (va_Qv (fun (_ : Unit) => True) (fun _ t => va_P (dC, dI) vwCl [(oM, .inr (12, [.ref mT, .int 0, .ref mS, .ref mX, .int 1, .int 0, .ref mL, .ref mB, .ref mD, .ref m1, .ref m2, .int 0, .ref mR, .int 0, .ref x1, .ref x2, .ref x3, .int 0, .ref mH, .int 0, .int 0, .int 0, .int 1, .int (-1), .int (-1), .int 0, .ref mY, .int 0, .ref mE, .int 0, .int fa, .ref mW, .int 0, .ref mO, .int 0, .ref y1, .ref y2, .ref y3, .ref y4, .ref mZ]))] t.heap ∧ va_D (va_A [(oM, .inr (12, [.ref mT, .int 0, .ref mS, .ref mX, .int 0, .int 0, .ref mL, .ref mB, .ref mD, .ref m1, .ref m2, .int 0, .ref mR, .int 0, .ref x1, .ref x2, .ref x3, .int 0, .ref mH, .int 0, .int 0, .int 0, .int 0, .int (-1), .int (-1), .int 0, .ref mY, .int 0, .ref mE, .int 0, .int fa, .ref mW, .int 0, .ref mO, .int 0, .ref y1, .ref y2, .ref y3, .ref y4, .ref mZ])), (mS, .inl (cI, 21, .inl (fun _ => 0)))] sz) [(oM, .inr (12, [.ref mT, .int 0, .ref mS, .ref mX, .int 1, .int 0, .ref mL, .ref mB, .ref mD, .ref m1, .ref m2, .int 0, .ref mR, .int 0, .ref x1, .ref x2, .ref x3, .int 0, .ref mH, .int 0, .int 0, .int 0, .int 1, .int (-1), .int (-1), .int 0, .ref mY, .int 0, .ref mE, .int 0, .int fa, .ref mW, .int 0, .ref mO, .int 0, .ref y1, .ref y2, .ref y3, .ref y4, .ref mZ]))]) (va_A [(oM, .inr (12, [.ref mT, .int 0, .ref mS, .ref mX, .int 0, .int 0, .ref mL, .ref mB, .ref mD, .ref m1, .ref m2, .int 0, .ref mR, .int 0, .ref x1, .ref x2, .ref x3, .int 0, .ref mH, .int 0, .int 0, .int 0, .int 0, .int (-1), .int (-1), .int 0, .ref mY, .int 0, .ref mE, .int 0, .int fa, .ref mW, .int 0, .ref mO, .int 0, .ref y1, .ref y2, .ref y3, .ref y4, .ref mZ])), (mS, .inl (cI, 21, .inl (fun _ => 0)))] sz)) 0 0 (va_A [(oM, .inr (12, [.ref mT, .int 0, .ref mS, .ref mX, .int 0, .int 0, .ref mL, .ref mB, .ref mD, .ref m1, .ref m2, .int 0, .ref mR, .int 0, .ref x1, .ref x2, .ref x3, .int 0, .ref mH, .int 0, .int 0, .int 0, .int 0, .int (-1), .int (-1), .int 0, .ref mY, .int 0, .ref mE, .int 0, .int fa, .ref mW, .int 0, .ref mO, .int 0, .ref y1, .ref y2, .ref y3, .ref y4, .ref mZ])), (mS, .inl (cI, 21, .inl (fun _ => 0)))] sz) := by
  refine Met.ofW (cc := cX12_become) (maxL := 5) (ret := none) (by decide) rfl ?_
  intro p e s m args below meth c s₁ B hml hv
  obtain ⟨rfl, hsz, hP, hK, hD0⟩ := hv
  have hx := B.exec
  have hb := B.bytes
  have hr := B.returns
  have hts := atoms_spec (ws := wsX12_become) B.pre
  have hown : s.vm.findClass RX12 = some m.cls := findClass_of_methodNamed B.named
  have hlocks := B.notSynchronized
  have in_X12 : ∀ w ∈ wsX120, w ∈ wsX12_become := fun _ h => List.mem_cons_of_mem _ (List.mem_append_right _ (h))
  subst hsz
  have hD := hD0.self (sz := s.heap.size)
  generalize hAe : va_A [(oM, .inr (12, [.ref mT, .int 0, .ref mS, .ref mX, .int 0, .int 0, .ref mL, .ref mB, .ref mD, .ref m1, .ref m2, .int 0, .ref mR, .int 0, .ref x1, .ref x2, .ref x3, .int 0, .ref mH, .int 0, .int 0, .int 0, .int 0, .int (-1), .int (-1), .int 0, .ref mY, .int 0, .ref mE, .int 0, .int fa, .ref mW, .int 0, .ref mO, .int 0, .ref y1, .ref y2, .ref y3, .ref y4, .ref mZ])), (mS, .inl (cI, 21, .inl (fun _ => 0)))] s.heap.size = A at hD ⊢
  have hA : ∀ q : Nat, s.heap.size ≤ q → A q := fun q h => by rw [← hAe]; exact Or.inr h
  have hS : va_S A s.heap s.heap [] := va_S.rf
  have hP : va_P (dC, dI) vwCl [(oM, .inr (12, [.ref mT, .int 0, .ref mS, .ref mX, .int 0, .int 0, .ref mL, .ref mB, .ref mD, .ref m1, .ref m2, .int 0, .ref mR, .int 0, .ref x1, .ref x2, .ref x3, .int 0, .ref mH, .int 0, .int 0, .int 0, .int 0, .int (-1), .int (-1), .int 0, .ref mY, .int 0, .ref mE, .int 0, .int fa, .ref mW, .int 0, .ref mO, .int 0, .ref y1, .ref y2, .ref y3, .ref y4, .ref mZ])), (mS, .inl (cI, 21, .inl (fun _ => 0)))] s.heap := hP
  have hl := lv_entry ([.ref oM, .ref row, .int 0]) (n := 5) (Nat.le_of_ble_eq_true rfl)
  rw [lg_entry_eq]
  generalize (lg_sl ([.ref oM, .ref row, .int 0]) ++ List.replicate (5 - (lg_sl ([.ref oM, .ref row, .int 0])).length) Slot.unset).toArray = ls at hl ⊢
  have hl : lv_has ls 5 [(0, .ref oM), (1, .ref row), (2, .int 0)] := hl
  refine lv_aload_n hx hb dX12_become_0 rfl (lv_at hl 0 rfl) ?_
  refine va_get (D := (dC, dI)) (ci := 12) (v := .int 0) (C := RX12) (T := TX12) (N := 40) hx hb hts in_X12 hown hK hP 0 rfl rfl 4 (by decide) (hts (.fieldLink RX12 142 "TextMenderModel" "past" "I") (List.mem_of_getElem? (i := 1) rfl)) (fun _ h9 => h9) rfl dX12_become_1 ?_
  refine lv_bipush (v := 20) hx hb dX12_become_4 (by decide) ?_
  refine lv_icmp_ne (tgt := 25) hx hb dX12_become_6 (by decide) (fun c_1 => ?_) (fun c_1 => absurd c_1 (by decide))
  refine lv_aload_n hx hb dX12_become_25 rfl (lv_at hl 0 rfl) ?_
  refine lv_dup hx hb dX12_become_26 rfl ?_
  refine va_get (D := (dC, dI)) (ci := 12) (v := .int 0) (C := RX12) (T := TX12) (N := 40) hx hb hts in_X12 hown hK hP 0 rfl rfl 4 (by decide) (hts (.fieldLink RX12 142 "TextMenderModel" "past" "I") (List.mem_of_getElem? (i := 1) rfl)) (fun _ h9 => h9) rfl dX12_become_27 ?_
  refine lv_iconst (v := 1) hx hb dX12_become_30 (by decide) ?_
  refine lv_iadd hx hb dX12_become_31 ?_
  refine k_i (y := 1) (by decide) ?_
  refine va_put (D := (dC, dI)) (ci := 12) (v := .int 1) (ty := .int) (C := RX12) (T := TX12) (N := 40) hx hb hts in_X12 tyX12 tyX12_ok nmX12 hown hK hP hD hS 0 rfl rfl 4 (by decide) (hts (.fieldLink RX12 142 "TextMenderModel" "past" "I") (List.mem_of_getElem? (i := 1) rfl)) (fun _ h9 => h9) rfl (by decide +kernel) rfl rfl (Nat.le_of_ble_eq_true rfl) dX12_become_32 (fun H locs hP hD hS => ?_)
  have hP : va_P (dC, dI) vwCl [(oM, .inr (12, [.ref mT, .int 0, .ref mS, .ref mX, .int 1, .int 0, .ref mL, .ref mB, .ref mD, .ref m1, .ref m2, .int 0, .ref mR, .int 0, .ref x1, .ref x2, .ref x3, .int 0, .ref mH, .int 0, .int 0, .int 0, .int 0, .int (-1), .int (-1), .int 0, .ref mY, .int 0, .ref mE, .int 0, .int fa, .ref mW, .int 0, .ref mO, .int 0, .ref y1, .ref y2, .ref y3, .ref y4, .ref mZ])), (mS, .inl (cI, 21, .inl (fun _ => 0)))] H := hP
  have hD : va_D A [(oM, .inr (12, [.ref mT, .int 0, .ref mS, .ref mX, .int 1, .int 0, .ref mL, .ref mB, .ref mD, .ref m1, .ref m2, .int 0, .ref mR, .int 0, .ref x1, .ref x2, .ref x3, .int 0, .ref mH, .int 0, .int 0, .int 0, .int 0, .int (-1), .int (-1), .int 0, .ref mY, .int 0, .ref mE, .int 0, .int fa, .ref mW, .int 0, .ref mO, .int 0, .ref y1, .ref y2, .ref y3, .ref y4, .ref mZ])), (mS, .inl (cI, 21, .inl (fun _ => 0)))] := hD
  refine lv_iconst (v := 1) hx hb dX12_become_35 (by decide) ?_
  refine lv_aload_n hx hb dX12_become_36 rfl (lv_at hl 0 rfl) ?_
  refine va_get (D := (dC, dI)) (ci := 12) (v := .int 0) (C := RX12) (T := TX12) (N := 40) hx hb hts in_X12 hown hK hP 0 rfl rfl 5 (by decide) (hts (.fieldLink RX12 145 "TextMenderModel" "firstPast" "I") (List.mem_of_getElem? (i := 2) rfl)) (fun _ h9 => h9) rfl dX12_become_37 ?_
  refine lv_aload_n hx hb dX12_become_40 rfl (lv_at hl 0 rfl) ?_
  refine va_get (D := (dC, dI)) (ci := 12) (v := .int 1) (C := RX12) (T := TX12) (N := 40) hx hb hts in_X12 hown hK hP 0 rfl rfl 4 (by decide) (hts (.fieldLink RX12 142 "TextMenderModel" "past" "I") (List.mem_of_getElem? (i := 1) rfl)) (fun _ h9 => h9) rfl dX12_become_41 ?_
  refine lv_iadd hx hb dX12_become_44 ?_
  refine k_i (y := 1) (by decide) ?_
  refine lv_iconst (v := 1) hx hb dX12_become_45 (by decide) ?_
  refine lv_isub hx hb dX12_become_46 ?_
  refine k_i (y := 0) (by decide) ?_
  refine lv_bipush (v := 20) hx hb dX12_become_47 (by decide) ?_
  refine lv_irem hx hb dX12_become_49 (by decide) ?_
  refine k_i (y := 0) (by decide) ?_
  refine lv_iadd hx hb dX12_become_50 ?_
  refine k_i (y := 1) (by decide) ?_
  refine lv_istore_n (lv' := [(3, .int 1), (0, .ref oM), (1, .ref row), (2, .int 0)]) hx hb dX12_become_51 rfl hl (by decide) rfl (fun ls hl => ?_)
  refine lv_aload_n hx hb dX12_become_52 rfl (lv_at hl 1 rfl) ?_
  refine va_get (D := (dC, dI)) (ci := 12) (v := .ref mS) (C := RX12) (T := TX12) (N := 40) hx hb hts in_X12 hown hK hP 0 rfl rfl 2 (by decide) (hts (.fieldLink RX12 13 "TextMenderModel" "sizes" "[I") (List.mem_of_getElem? (i := 3) rfl)) (fun _ h9 => h9) rfl dX12_become_53 ?_
  refine lv_iload_n hx hb dX12_become_56 rfl (lv_at hl 0 rfl) ?_
  refine lv_aload_n hx hb dX12_become_57 rfl (lv_at hl 1 rfl) ?_
  refine va_get (D := (dC, dI)) (ci := 12) (v := .ref mS) (C := RX12) (T := TX12) (N := 40) hx hb hts in_X12 hown hK hP 0 rfl rfl 2 (by decide) (hts (.fieldLink RX12 13 "TextMenderModel" "sizes" "[I") (List.mem_of_getElem? (i := 3) rfl)) (fun _ h9 => h9) rfl dX12_become_58 ?_
  refine lv_iconst (v := 0) hx hb dX12_become_61 (by decide) ?_
  refine va_iald hx hb hK hP 1 0 rfl rfl (by unfold vp_in; decide) dX12_become_62 ?_
  refine k_i (y := 0) (by first | rfl | decide) ?_
  refine va_iast hx hb hK hP hD hS 1 0 rfl rfl (by unfold vp_in; decide) dX12_become_63 (fun H locs hP hD hS => ?_)
  have hP : va_P (dC, dI) vwCl [(oM, .inr (12, [.ref mT, .int 0, .ref mS, .ref mX, .int 1, .int 0, .ref mL, .ref mB, .ref mD, .ref m1, .ref m2, .int 0, .ref mR, .int 0, .ref x1, .ref x2, .ref x3, .int 0, .ref mH, .int 0, .int 0, .int 0, .int 0, .int (-1), .int (-1), .int 0, .ref mY, .int 0, .ref mE, .int 0, .int fa, .ref mW, .int 0, .ref mO, .int 0, .ref y1, .ref y2, .ref y3, .ref y4, .ref mZ])), (mS, .inl (cI, 21, .inl (upd (fun _ => 0) (1 : Int32).toNatClampNeg 0)))] H := hP
  have hD : va_D A [(oM, .inr (12, [.ref mT, .int 0, .ref mS, .ref mX, .int 1, .int 0, .ref mL, .ref mB, .ref mD, .ref m1, .ref m2, .int 0, .ref mR, .int 0, .ref x1, .ref x2, .ref x3, .int 0, .ref mH, .int 0, .int 0, .int 0, .int 0, .int (-1), .int (-1), .int 0, .ref mY, .int 0, .ref mE, .int 0, .int fa, .ref mW, .int 0, .ref mO, .int 0, .ref y1, .ref y2, .ref y3, .ref y4, .ref mZ])), (mS, .inl (cI, 21, .inl (upd (fun _ => 0) (1 : Int32).toNatClampNeg 0)))] := hD
  refine lv_iconst (v := 0) hx hb dX12_become_64 (by decide) ?_
  refine lv_istore (lv' := [(4, .int 0), (3, .int 1), (0, .ref oM), (1, .ref row), (2, .int 0)]) hx hb dX12_become_65 hl (by decide) rfl (fun ls hl => ?_)
  refine lv_iload hx hb dX12_become_67 (lv_at hl 0 rfl) ?_
  refine lv_aload_n hx hb dX12_become_69 rfl (lv_at hl 2 rfl) ?_
  refine va_get (D := (dC, dI)) (ci := 12) (v := .ref mS) (C := RX12) (T := TX12) (N := 40) hx hb hts in_X12 hown hK hP 0 rfl rfl 2 (by decide) (hts (.fieldLink RX12 13 "TextMenderModel" "sizes" "[I") (List.mem_of_getElem? (i := 3) rfl)) (fun _ h9 => h9) rfl dX12_become_70 ?_
  refine lv_iconst (v := 0) hx hb dX12_become_73 (by decide) ?_
  refine va_iald hx hb hK hP 1 0 rfl rfl (by unfold vp_in; decide) dX12_become_74 ?_
  refine k_i (y := 0) (by first | rfl | decide) ?_
  refine lv_icmp_ge (tgt := 104) hx hb dX12_become_75 (by decide) (fun c_2 => ?_) (fun c_2 => absurd (by decide) c_2)
  refine lv_aload_n hx hb dX12_become_104 rfl (lv_at hl 2 rfl) ?_
  refine va_get (D := (dC, dI)) (ci := 12) (v := .ref mS) (C := RX12) (T := TX12) (N := 40) hx hb hts in_X12 hown hK hP 0 rfl rfl 2 (by decide) (hts (.fieldLink RX12 13 "TextMenderModel" "sizes" "[I") (List.mem_of_getElem? (i := 3) rfl)) (fun _ h9 => h9) rfl dX12_become_105 ?_
  refine lv_iconst (v := 0) hx hb dX12_become_108 (by decide) ?_
  refine lv_iload_n hx hb dX12_become_109 rfl (lv_at hl 4 rfl) ?_
  refine va_iast hx hb hK hP hD hS 1 0 rfl rfl (by unfold vp_in; decide) dX12_become_110 (fun H locs hP hD hS => ?_)
  have hP : va_P (dC, dI) vwCl [(oM, .inr (12, [.ref mT, .int 0, .ref mS, .ref mX, .int 1, .int 0, .ref mL, .ref mB, .ref mD, .ref m1, .ref m2, .int 0, .ref mR, .int 0, .ref x1, .ref x2, .ref x3, .int 0, .ref mH, .int 0, .int 0, .int 0, .int 0, .int (-1), .int (-1), .int 0, .ref mY, .int 0, .ref mE, .int 0, .int fa, .ref mW, .int 0, .ref mO, .int 0, .ref y1, .ref y2, .ref y3, .ref y4, .ref mZ])), (mS, .inl (cI, 21, .inl (upd (upd (fun _ => 0) (1 : Int32).toNatClampNeg 0) (0 : Int32).toNatClampNeg 0)))] H := hP
  have hD : va_D A [(oM, .inr (12, [.ref mT, .int 0, .ref mS, .ref mX, .int 1, .int 0, .ref mL, .ref mB, .ref mD, .ref m1, .ref m2, .int 0, .ref mR, .int 0, .ref x1, .ref x2, .ref x3, .int 0, .ref mH, .int 0, .int 0, .int 0, .int 0, .int (-1), .int (-1), .int 0, .ref mY, .int 0, .ref mE, .int 0, .int fa, .ref mW, .int 0, .ref mO, .int 0, .ref y1, .ref y2, .ref y3, .ref y4, .ref mZ])), (mS, .inl (cI, 21, .inl (upd (upd (fun _ => 0) (1 : Int32).toNatClampNeg 0) (0 : Int32).toNatClampNeg 0)))] := hD
  refine lv_iconst (v := 0) hx hb dX12_become_111 (by decide) ?_
  refine lv_istore (lv' := [(4, .int 0), (3, .int 1), (0, .ref oM), (1, .ref row), (2, .int 0)]) hx hb dX12_become_112 hl (by decide) rfl (fun ls hl => ?_)
  refine lv_iload hx hb dX12_become_114 (lv_at hl 0 rfl) ?_
  refine lv_iload_n hx hb dX12_become_116 rfl (lv_at hl 4 rfl) ?_
  refine lv_icmp_ge (tgt := 137) hx hb dX12_become_117 (by decide) (fun c_3 => ?_) (fun c_3 => absurd (by decide) c_3)
  refine lv_aload_n hx hb dX12_become_137 rfl (lv_at hl 2 rfl) ?_
  refine lv_dup hx hb dX12_become_138 rfl ?_
  refine va_get (D := (dC, dI)) (ci := 12) (v := .int 0) (C := RX12) (T := TX12) (N := 40) hx hb hts in_X12 hown hK hP 0 rfl rfl 22 (by decide) (hts (.fieldLink RX12 148 "TextMenderModel" "state" "I") (List.mem_of_getElem? (i := 5) rfl)) (fun _ h9 => h9) rfl dX12_become_139 ?_
  refine lv_iconst (v := 1) hx hb dX12_become_142 (by decide) ?_
  refine lv_iadd hx hb dX12_become_143 ?_
  refine k_i (y := 1) (by decide) ?_
  refine va_put (D := (dC, dI)) (ci := 12) (v := .int 1) (ty := .int) (C := RX12) (T := TX12) (N := 40) hx hb hts in_X12 tyX12 tyX12_ok nmX12 hown hK hP hD hS 0 rfl rfl 22 (by decide) (hts (.fieldLink RX12 148 "TextMenderModel" "state" "I") (List.mem_of_getElem? (i := 5) rfl)) (fun _ h9 => h9) rfl (by decide +kernel) rfl rfl (Nat.le_of_ble_eq_true rfl) dX12_become_144 (fun H locs hP hD hS => ?_)
  have hP : va_P (dC, dI) vwCl [(oM, .inr (12, [.ref mT, .int 0, .ref mS, .ref mX, .int 1, .int 0, .ref mL, .ref mB, .ref mD, .ref m1, .ref m2, .int 0, .ref mR, .int 0, .ref x1, .ref x2, .ref x3, .int 0, .ref mH, .int 0, .int 0, .int 0, .int 1, .int (-1), .int (-1), .int 0, .ref mY, .int 0, .ref mE, .int 0, .int fa, .ref mW, .int 0, .ref mO, .int 0, .ref y1, .ref y2, .ref y3, .ref y4, .ref mZ])), (mS, .inl (cI, 21, .inl (upd (upd (fun _ => 0) (1 : Int32).toNatClampNeg 0) (0 : Int32).toNatClampNeg 0)))] H := hP
  have hD : va_D A [(oM, .inr (12, [.ref mT, .int 0, .ref mS, .ref mX, .int 1, .int 0, .ref mL, .ref mB, .ref mD, .ref m1, .ref m2, .int 0, .ref mR, .int 0, .ref x1, .ref x2, .ref x3, .int 0, .ref mH, .int 0, .int 0, .int 0, .int 1, .int (-1), .int (-1), .int 0, .ref mY, .int 0, .ref mE, .int 0, .int fa, .ref mW, .int 0, .ref mO, .int 0, .ref y1, .ref y2, .ref y3, .ref y4, .ref mZ])), (mS, .inl (cI, 21, .inl (upd (upd (fun _ => 0) (1 : Int32).toNatClampNeg 0) (0 : Int32).toNatClampNeg 0)))] := hD
  have hP9 := hP.sub (ws' := [(oM, .inr (12, [.ref mT, .int 0, .ref mS, .ref mX, .int 1, .int 0, .ref mL, .ref mB, .ref mD, .ref m1, .ref m2, .int 0, .ref mR, .int 0, .ref x1, .ref x2, .ref x3, .int 0, .ref mH, .int 0, .int 0, .int 0, .int 1, .int (-1), .int (-1), .int 0, .ref mY, .int 0, .ref mE, .int 0, .int fa, .ref mW, .int 0, .ref mO, .int 0, .ref y1, .ref y2, .ref y3, .ref y4, .ref mZ]))]) [0] rfl
  have hD9 := hD.sub (ws' := [(oM, .inr (12, [.ref mT, .int 0, .ref mS, .ref mX, .int 1, .int 0, .ref mL, .ref mB, .ref mD, .ref m1, .ref m2, .int 0, .ref mR, .int 0, .ref x1, .ref x2, .ref x3, .int 0, .ref mH, .int 0, .int 0, .int 0, .int 1, .int (-1), .int (-1), .int 0, .ref mY, .int 0, .ref mE, .int 0, .int fa, .ref mW, .int 0, .ref mO, .int 0, .ref y1, .ref y2, .ref y3, .ref y4, .ref mZ]))]) [0] (by decide) rfl
  exact W.vret hx hb hr (fun t ht hW => ⟨⟨(), rfl, trivial, by rw [ht]; exact hP9, hD9⟩, hS.F ht⟩) (hS.2.2) dX12_become_147

set_option maxHeartbeats 4000000 in
set_option maxRecDepth 100000 in
theorem m_X12_write (l : Launch) (dC : Nat → ClassId) (dI : Nat → Nat → Nat) (cI cS : ClassId) (sz : Nat) (oM : Nat) (mT : Nat) (mS : Nat) (mX : Nat) (mL : Nat) (mB : Nat) (mD : Nat) (m1 : Nat) (m2 : Nat) (mR : Nat) (x1 : Nat) (x2 : Nat) (x3 : Nat) (mH : Nat) (mY : Nat) (mE : Nat) (mW : Nat) (mO : Nat) (y1 : Nat) (y2 : Nat) (y3 : Nat) (y4 : Nat) (mZ : Nat) (row : Nat) (fa : Int32) (cd : Int32)  : Met l yX12_write wsX12_write ({ frames := 0, cells := 0, slots := 0, locals := 0 } : Room) (va_Pc [.ref oM, .int cd, .ref row, .int 0] (fun U => U.heap.size = sz ∧ va_P (dC, dI) vwCl [(oM, .inr (12, [.ref mT, .int 0, .ref mS, .ref mX, .int 0, .int 0, .ref mL, .ref mB, .ref mD, .ref m1, .ref m2, .int 0, .ref mR, .int 0, .ref x1, .ref x2, .ref x3, .int 0, .ref mH, .int 0, .int 0, .int 0, .int 0, .int (-1), .int (-1), .int 0, .ref mY, .int 0, .ref mE, .int 0, .int fa, .ref mW, .int 0, .ref mO, .int 0, .ref y1, .ref y2, .ref y3, .ref y4, .ref mZ]))] U.heap ∧ va_K (dC, dI) vwCl [(cI, .int), (cS, .short)] U ∧ va_D (fun _ => True) [(oM, .inr (12, [.ref mT, .int 0, .ref mS, .ref mX, .int 0, .int 0, .ref mL, .ref mB, .ref mD, .ref m1, .ref m2, .int 0, .ref mR, .int 0, .ref x1, .ref x2, .ref x3, .int 0, .ref mH, .int 0, .int 0, .int 0, .int 0, .int (-1), .int (-1), .int 0, .ref mY, .int 0, .ref mE, .int 0, .int fa, .ref mW, .int 0, .ref mO, .int 0, .ref y1, .ref y2, .ref y3, .ref y4, .ref mZ]))])) (va_Qi (fun (r : Int32) (_ : Unit) => r = 1) (fun _ t => va_P (dC, dI) vwCl [(oM, .inr (12, [.ref mT, .int 0, .ref mS, .ref mX, .int 0, .int 0, .ref mL, .ref mB, .ref mD, .ref m1, .ref m2, .int 0, .ref mR, .int 0, .ref x1, .ref x2, .ref x3, .int 0, .ref mH, .int 0, .int 0, .int 0, .int 0, .int (-1), .int (-1), .int 0, .ref mY, .int 0, .ref mE, .int 0, .int fa, .ref mW, .int 0, .ref mO, .int 0, .ref y1, .ref y2, .ref y3, .ref y4, .ref mZ]))] t.heap ∧ va_D (va_A [(oM, .inr (12, [.ref mT, .int 0, .ref mS, .ref mX, .int 0, .int 0, .ref mL, .ref mB, .ref mD, .ref m1, .ref m2, .int 0, .ref mR, .int 0, .ref x1, .ref x2, .ref x3, .int 0, .ref mH, .int 0, .int 0, .int 0, .int 0, .int (-1), .int (-1), .int 0, .ref mY, .int 0, .ref mE, .int 0, .int fa, .ref mW, .int 0, .ref mO, .int 0, .ref y1, .ref y2, .ref y3, .ref y4, .ref mZ]))] sz) [(oM, .inr (12, [.ref mT, .int 0, .ref mS, .ref mX, .int 0, .int 0, .ref mL, .ref mB, .ref mD, .ref m1, .ref m2, .int 0, .ref mR, .int 0, .ref x1, .ref x2, .ref x3, .int 0, .ref mH, .int 0, .int 0, .int 0, .int 0, .int (-1), .int (-1), .int 0, .ref mY, .int 0, .ref mE, .int 0, .int fa, .ref mW, .int 0, .ref mO, .int 0, .ref y1, .ref y2, .ref y3, .ref y4, .ref mZ]))]) (va_A [(oM, .inr (12, [.ref mT, .int 0, .ref mS, .ref mX, .int 0, .int 0, .ref mL, .ref mB, .ref mD, .ref m1, .ref m2, .int 0, .ref mR, .int 0, .ref x1, .ref x2, .ref x3, .int 0, .ref mH, .int 0, .int 0, .int 0, .int 0, .int (-1), .int (-1), .int 0, .ref mY, .int 0, .ref mE, .int 0, .int fa, .ref mW, .int 0, .ref mO, .int 0, .ref y1, .ref y2, .ref y3, .ref y4, .ref mZ]))] sz)) 0 0 (va_A [(oM, .inr (12, [.ref mT, .int 0, .ref mS, .ref mX, .int 0, .int 0, .ref mL, .ref mB, .ref mD, .ref m1, .ref m2, .int 0, .ref mR, .int 0, .ref x1, .ref x2, .ref x3, .int 0, .ref mH, .int 0, .int 0, .int 0, .int 0, .int (-1), .int (-1), .int 0, .ref mY, .int 0, .ref mE, .int 0, .int fa, .ref mW, .int 0, .ref mO, .int 0, .ref y1, .ref y2, .ref y3, .ref y4, .ref mZ]))] sz) := by
  refine Met.ofW (cc := cX12_write) (maxL := 5) (ret := (some .boolean)) (by decide) rfl ?_
  intro p e s m args below meth c s₁ B hml hv
  obtain ⟨rfl, hsz, hP, hK, hD0⟩ := hv
  have hx := B.exec
  have hb := B.bytes
  have hr := B.returns
  have hts := atoms_spec (ws := wsX12_write) B.pre
  have hown : s.vm.findClass RX12 = some m.cls := findClass_of_methodNamed B.named
  have hlocks := B.notSynchronized
  have in_X12 : ∀ w ∈ wsX120, w ∈ wsX12_write := fun _ h => List.mem_cons_of_mem _ (List.mem_append_right _ (h))
  subst hsz
  have hD := hD0.self (sz := s.heap.size)
  generalize hAe : va_A [(oM, .inr (12, [.ref mT, .int 0, .ref mS, .ref mX, .int 0, .int 0, .ref mL, .ref mB, .ref mD, .ref m1, .ref m2, .int 0, .ref mR, .int 0, .ref x1, .ref x2, .ref x3, .int 0, .ref mH, .int 0, .int 0, .int 0, .int 0, .int (-1), .int (-1), .int 0, .ref mY, .int 0, .ref mE, .int 0, .int fa, .ref mW, .int 0, .ref mO, .int 0, .ref y1, .ref y2, .ref y3, .ref y4, .ref mZ]))] s.heap.size = A at hD ⊢
  have hA : ∀ q : Nat, s.heap.size ≤ q → A q := fun q h => by rw [← hAe]; exact Or.inr h
  have hS : va_S A s.heap s.heap [] := va_S.rf
  have hP : va_P (dC, dI) vwCl [(oM, .inr (12, [.ref mT, .int 0, .ref mS, .ref mX, .int 0, .int 0, .ref mL, .ref mB, .ref mD, .ref m1, .ref m2, .int 0, .ref mR, .int 0, .ref x1, .ref x2, .ref x3, .int 0, .ref mH, .int 0, .int 0, .int 0, .int 0, .int (-1), .int (-1), .int 0, .ref mY, .int 0, .ref mE, .int 0, .int fa, .ref mW, .int 0, .ref mO, .int 0, .ref y1, .ref y2, .ref y3, .ref y4, .ref mZ]))] s.heap := hP
  have hl := lv_entry ([.ref oM, .int cd, .ref row, .int 0]) (n := 5) (Nat.le_of_ble_eq_true rfl)
  rw [lg_entry_eq]
  generalize (lg_sl ([.ref oM, .int cd, .ref row, .int 0]) ++ List.replicate (5 - (lg_sl ([.ref oM, .int cd, .ref row, .int 0])).length) Slot.unset).toArray = ls at hl ⊢
  have hl : lv_has ls 5 [(0, .ref oM), (1, .int cd), (2, .ref row), (3, .int 0)] := hl
  refine lv_aload_n hx hb dX12_write_0 rfl (lv_at hl 0 rfl) ?_
  refine lv_iconst (v := 0) hx hb dX12_write_1 (by decide) ?_
  refine va_put (D := (dC, dI)) (ci := 12) (v := .int 0) (ty := .int) (C := RX12) (T := TX12) (N := 40) hx hb hts in_X12 tyX12 tyX12_ok nmX12 hown hK hP hD hS 0 rfl rfl 27 (by decide) (hts (.fieldLink RX12 91 "TextMenderModel" "byteMany" "I") (List.mem_of_getElem? (i := 1) rfl)) (fun _ h9 => h9) rfl (by decide +kernel) rfl rfl (Nat.le_of_ble_eq_true rfl) dX12_write_2 (fun H locs hP hD hS => ?_)
  have hP : va_P (dC, dI) vwCl [(oM, .inr (12, [.ref mT, .int 0, .ref mS, .ref mX, .int 0, .int 0, .ref mL, .ref mB, .ref mD, .ref m1, .ref m2, .int 0, .ref mR, .int 0, .ref x1, .ref x2, .ref x3, .int 0, .ref mH, .int 0, .int 0, .int 0, .int 0, .int (-1), .int (-1), .int 0, .ref mY, .int 0, .ref mE, .int 0, .int fa, .ref mW, .int 0, .ref mO, .int 0, .ref y1, .ref y2, .ref y3, .ref y4, .ref mZ]))] H := hP
  have hD : va_D A [(oM, .inr (12, [.ref mT, .int 0, .ref mS, .ref mX, .int 0, .int 0, .ref mL, .ref mB, .ref mD, .ref m1, .ref m2, .int 0, .ref mR, .int 0, .ref x1, .ref x2, .ref x3, .int 0, .ref mH, .int 0, .int 0, .int 0, .int 0, .int (-1), .int (-1), .int 0, .ref mY, .int 0, .ref mE, .int 0, .int fa, .ref mW, .int 0, .ref mO, .int 0, .ref y1, .ref y2, .ref y3, .ref y4, .ref mZ]))] := hD
  refine lv_iconst (v := 0) hx hb dX12_write_5 (by decide) ?_
  refine lv_istore (lv' := [(4, .int 0), (0, .ref oM), (1, .int cd), (2, .ref row), (3, .int 0)]) hx hb dX12_write_6 hl (by decide) rfl (fun ls hl => ?_)
  refine lv_iload hx hb dX12_write_8 (lv_at hl 0 rfl) ?_
  refine lv_iload_n hx hb dX12_write_10 rfl (lv_at hl 4 rfl) ?_
  refine lv_icmp_ge (tgt := 40) hx hb dX12_write_11 (by decide) (fun c_1 => ?_) (fun c_1 => absurd (by decide) c_1)
  refine lv_iconst (v := 1) hx hb dX12_write_40 (by decide) ?_
  have hP9 := hP.sub (ws' := [(oM, .inr (12, [.ref mT, .int 0, .ref mS, .ref mX, .int 0, .int 0, .ref mL, .ref mB, .ref mD, .ref m1, .ref m2, .int 0, .ref mR, .int 0, .ref x1, .ref x2, .ref x3, .int 0, .ref mH, .int 0, .int 0, .int 0, .int 0, .int (-1), .int (-1), .int 0, .ref mY, .int 0, .ref mE, .int 0, .int fa, .ref mW, .int 0, .ref mO, .int 0, .ref y1, .ref y2, .ref y3, .ref y4, .ref mZ]))]) [0] rfl
  have hD9 := hD.sub (ws' := [(oM, .inr (12, [.ref mT, .int 0, .ref mS, .ref mX, .int 0, .int 0, .ref mL, .ref mB, .ref mD, .ref m1, .ref m2, .int 0, .ref mR, .int 0, .ref x1, .ref x2, .ref x3, .int 0, .ref mH, .int 0, .int 0, .int 0, .int 0, .int (-1), .int (-1), .int 0, .ref mY, .int 0, .ref mE, .int 0, .int fa, .ref mW, .int 0, .ref mO, .int 0, .ref y1, .ref y2, .ref y3, .ref y4, .ref mZ]))]) [0] (by decide) rfl
  exact W.zret (v := 1) (ty := .boolean) hx hb hr (rfl) (fun t ht hW => ⟨⟨1, (), rfl, rfl, by rw [ht]; exact hP9, hD9⟩, hS.F ht⟩) (hS.2.2) dX12_write_41

set_option maxHeartbeats 4000000 in
set_option maxRecDepth 100000 in
theorem m_X12_read (l : Launch) (dC : Nat → ClassId) (dI : Nat → Nat → Nat) (cI cS : ClassId) (sz : Nat) (oM : Nat) (mT : Nat) (mS : Nat) (mX : Nat) (mL : Nat) (mB : Nat) (mD : Nat) (m1 : Nat) (m2 : Nat) (mR : Nat) (x1 : Nat) (x2 : Nat) (x3 : Nat) (mH : Nat) (mY : Nat) (mE : Nat) (mW : Nat) (mO : Nat) (y1 : Nat) (y2 : Nat) (y3 : Nat) (y4 : Nat) (mZ : Nat) (fa : Int32) (cd : Int32)  : Met l yX12_read wsX12_read ({ frames := 0, cells := 0, slots := 0, locals := 0 } : Room) (va_Pc [.ref oM, .int cd, .int 0] (fun U => U.heap.size = sz ∧ va_P (dC, dI) vwCl [(oM, .inr (12, [.ref mT, .int 0, .ref mS, .ref mX, .int 0, .int 0, .ref mL, .ref mB, .ref mD, .ref m1, .ref m2, .int 0, .ref mR, .int 0, .ref x1, .ref x2, .ref x3, .int 0, .ref mH, .int 0, .int 0, .int 0, .int 0, .int (-1), .int (-1), .int 0, .ref mY, .int 0, .ref mE, .int 0, .int fa, .ref mW, .int 0, .ref mO, .int 0, .ref y1, .ref y2, .ref y3, .ref y4, .ref mZ]))] U.heap ∧ va_K (dC, dI) vwCl [(cI, .int), (cS, .short)] U ∧ va_D (fun _ => True) [(oM, .inr (12, [.ref mT, .int 0, .ref mS, .ref mX, .int 0, .int 0, .ref mL, .ref mB, .ref mD, .ref m1, .ref m2, .int 0, .ref mR, .int 0, .ref x1, .ref x2, .ref x3, .int 0, .ref mH, .int 0, .int 0, .int 0, .int 0, .int (-1), .int (-1), .int 0, .ref mY, .int 0, .ref mE, .int 0, .int fa, .ref mW, .int 0, .ref mO, .int 0, .ref y1, .ref y2, .ref y3, .ref y4, .ref mZ]))])) (va_Qi (fun (r : Int32) (_ : Unit) => r = 1) (fun _ t => va_P (dC, dI) vwCl [(oM, .inr (12, [.ref mT, .int 0, .ref mS, .ref mX, .int 0, .int 0, .ref mL, .ref mB, .ref mD, .ref m1, .ref m2, .int 0, .ref mR, .int 0, .ref x1, .ref x2, .ref x3, .int 0, .ref mH, .int 0, .int 0, .int 0, .int 0, .int (-1), .int (-1), .int 0, .ref mY, .int 0, .ref mE, .int 0, .int fa, .ref mW, .int 0, .ref mO, .int 0, .ref y1, .ref y2, .ref y3, .ref y4, .ref mZ]))] t.heap ∧ va_D (va_A [(oM, .inr (12, [.ref mT, .int 0, .ref mS, .ref mX, .int 0, .int 0, .ref mL, .ref mB, .ref mD, .ref m1, .ref m2, .int 0, .ref mR, .int 0, .ref x1, .ref x2, .ref x3, .int 0, .ref mH, .int 0, .int 0, .int 0, .int 0, .int (-1), .int (-1), .int 0, .ref mY, .int 0, .ref mE, .int 0, .int fa, .ref mW, .int 0, .ref mO, .int 0, .ref y1, .ref y2, .ref y3, .ref y4, .ref mZ]))] sz) [(oM, .inr (12, [.ref mT, .int 0, .ref mS, .ref mX, .int 0, .int 0, .ref mL, .ref mB, .ref mD, .ref m1, .ref m2, .int 0, .ref mR, .int 0, .ref x1, .ref x2, .ref x3, .int 0, .ref mH, .int 0, .int 0, .int 0, .int 0, .int (-1), .int (-1), .int 0, .ref mY, .int 0, .ref mE, .int 0, .int fa, .ref mW, .int 0, .ref mO, .int 0, .ref y1, .ref y2, .ref y3, .ref y4, .ref mZ]))]) (va_A [(oM, .inr (12, [.ref mT, .int 0, .ref mS, .ref mX, .int 0, .int 0, .ref mL, .ref mB, .ref mD, .ref m1, .ref m2, .int 0, .ref mR, .int 0, .ref x1, .ref x2, .ref x3, .int 0, .ref mH, .int 0, .int 0, .int 0, .int 0, .int (-1), .int (-1), .int 0, .ref mY, .int 0, .ref mE, .int 0, .int fa, .ref mW, .int 0, .ref mO, .int 0, .ref y1, .ref y2, .ref y3, .ref y4, .ref mZ]))] sz)) 0 0 (va_A [(oM, .inr (12, [.ref mT, .int 0, .ref mS, .ref mX, .int 0, .int 0, .ref mL, .ref mB, .ref mD, .ref m1, .ref m2, .int 0, .ref mR, .int 0, .ref x1, .ref x2, .ref x3, .int 0, .ref mH, .int 0, .int 0, .int 0, .int 0, .int (-1), .int (-1), .int 0, .ref mY, .int 0, .ref mE, .int 0, .int fa, .ref mW, .int 0, .ref mO, .int 0, .ref y1, .ref y2, .ref y3, .ref y4, .ref mZ]))] sz) := by
  refine Met.ofW (cc := cX12_read) (maxL := 5) (ret := (some .boolean)) (by decide) rfl ?_
  intro p e s m args below meth c s₁ B hml hv
  obtain ⟨rfl, hsz, hP, hK, hD0⟩ := hv
  have hx := B.exec
  have hb := B.bytes
  have hr := B.returns
  have hts := atoms_spec (ws := wsX12_read) B.pre
  have hown : s.vm.findClass RX12 = some m.cls := findClass_of_methodNamed B.named
  have hlocks := B.notSynchronized
  have in_X12 : ∀ w ∈ wsX120, w ∈ wsX12_read := fun _ h => List.mem_cons_of_mem _ (List.mem_append_right _ (h))
  subst hsz
  have hD := hD0.self (sz := s.heap.size)
  generalize hAe : va_A [(oM, .inr (12, [.ref mT, .int 0, .ref mS, .ref mX, .int 0, .int 0, .ref mL, .ref mB, .ref mD, .ref m1, .ref m2, .int 0, .ref mR, .int 0, .ref x1, .ref x2, .ref x3, .int 0, .ref mH, .int 0, .int 0, .int 0, .int 0, .int (-1), .int (-1), .int 0, .ref mY, .int 0, .ref mE, .int 0, .int fa, .ref mW, .int 0, .ref mO, .int 0, .ref y1, .ref y2, .ref y3, .ref y4, .ref mZ]))] s.heap.size = A at hD ⊢
  have hA : ∀ q : Nat, s.heap.size ≤ q → A q := fun q h => by rw [← hAe]; exact Or.inr h
  have hS : va_S A s.heap s.heap [] := va_S.rf
  have hP : va_P (dC, dI) vwCl [(oM, .inr (12, [.ref mT, .int 0, .ref mS, .ref mX, .int 0, .int 0, .ref mL, .ref mB, .ref mD, .ref m1, .ref m2, .int 0, .ref mR, .int 0, .ref x1, .ref x2, .ref x3, .int 0, .ref mH, .int 0, .int 0, .int 0, .int 0, .int (-1), .int (-1), .int 0, .ref mY, .int 0, .ref mE, .int 0, .int fa, .ref mW, .int 0, .ref mO, .int 0, .ref y1, .ref y2, .ref y3, .ref y4, .ref mZ]))] s.heap := hP
  have hl := lv_entry ([.ref oM, .int cd, .int 0]) (n := 5) (Nat.le_of_ble_eq_true rfl)
  rw [lg_entry_eq]
  generalize (lg_sl ([.ref oM, .int cd, .int 0]) ++ List.replicate (5 - (lg_sl ([.ref oM, .int cd, .int 0])).length) Slot.unset).toArray = ls at hl ⊢
  have hl : lv_has ls 5 [(0, .ref oM), (1, .int cd), (2, .int 0)] := hl
  refine lv_aload_n hx hb dX12_read_0 rfl (lv_at hl 0 rfl) ?_
  refine lv_iconst (v := 0) hx hb dX12_read_1 (by decide) ?_
  refine va_put (D := (dC, dI)) (ci := 12) (v := .int 0) (ty := .int) (C := RX12) (T := TX12) (N := 40) hx hb hts in_X12 tyX12 tyX12_ok nmX12 hown hK hP hD hS 0 rfl rfl 29 (by decide) (hts (.fieldLink RX12 119 "TextMenderModel" "cameMany" "I") (List.mem_of_getElem? (i := 1) rfl)) (fun _ h9 => h9) rfl (by decide +kernel) rfl rfl (Nat.le_of_ble_eq_true rfl) dX12_read_2 (fun H locs hP hD hS => ?_)
  have hP : va_P (dC, dI) vwCl [(oM, .inr (12, [.ref mT, .int 0, .ref mS, .ref mX, .int 0, .int 0, .ref mL, .ref mB, .ref mD, .ref m1, .ref m2, .int 0, .ref mR, .int 0, .ref x1, .ref x2, .ref x3, .int 0, .ref mH, .int 0, .int 0, .int 0, .int 0, .int (-1), .int (-1), .int 0, .ref mY, .int 0, .ref mE, .int 0, .int fa, .ref mW, .int 0, .ref mO, .int 0, .ref y1, .ref y2, .ref y3, .ref y4, .ref mZ]))] H := hP
  have hD : va_D A [(oM, .inr (12, [.ref mT, .int 0, .ref mS, .ref mX, .int 0, .int 0, .ref mL, .ref mB, .ref mD, .ref m1, .ref m2, .int 0, .ref mR, .int 0, .ref x1, .ref x2, .ref x3, .int 0, .ref mH, .int 0, .int 0, .int 0, .int 0, .int (-1), .int (-1), .int 0, .ref mY, .int 0, .ref mE, .int 0, .int fa, .ref mW, .int 0, .ref mO, .int 0, .ref y1, .ref y2, .ref y3, .ref y4, .ref mZ]))] := hD
  refine lv_iconst (v := 0) hx hb dX12_read_5 (by decide) ?_
  refine lv_istore_n (lv' := [(3, .int 0), (0, .ref oM), (1, .int cd), (2, .int 0)]) hx hb dX12_read_6 rfl hl (by decide) rfl (fun ls hl => ?_)
  refine lv_iload_n hx hb dX12_read_7 rfl (lv_at hl 0 rfl) ?_
  refine lv_aload_n hx hb dX12_read_8 rfl (lv_at hl 1 rfl) ?_
  refine va_get (D := (dC, dI)) (ci := 12) (v := .int 0) (C := RX12) (T := TX12) (N := 40) hx hb hts in_X12 hown hK hP 0 rfl rfl 27 (by decide) (hts (.fieldLink RX12 91 "TextMenderModel" "byteMany" "I") (List.mem_of_getElem? (i := 2) rfl)) (fun _ h9 => h9) rfl dX12_read_9 ?_
  refine lv_icmp_ge (tgt := 89) hx hb dX12_read_12 (by decide) (fun c_1 => ?_) (fun c_1 => absurd (by decide) c_1)
  refine lv_iconst (v := 1) hx hb dX12_read_89 (by decide) ?_
  have hP9 := hP.sub (ws' := [(oM, .inr (12, [.ref mT, .int 0, .ref mS, .ref mX, .int 0, .int 0, .ref mL, .ref mB, .ref mD, .ref m1, .ref m2, .int 0, .ref mR, .int 0, .ref x1, .ref x2, .ref x3, .int 0, .ref mH, .int 0, .int 0, .int 0, .int 0, .int (-1), .int (-1), .int 0, .ref mY, .int 0, .ref mE, .int 0, .int fa, .ref mW, .int 0, .ref mO, .int 0, .ref y1, .ref y2, .ref y3, .ref y4, .ref mZ]))]) [0] rfl
  have hD9 := hD.sub (ws' := [(oM, .inr (12, [.ref mT, .int 0, .ref mS, .ref mX, .int 0, .int 0, .ref mL, .ref mB, .ref mD, .ref m1, .ref m2, .int 0, .ref mR, .int 0, .ref x1, .ref x2, .ref x3, .int 0, .ref mH, .int 0, .int 0, .int 0, .int 0, .int (-1), .int (-1), .int 0, .ref mY, .int 0, .ref mE, .int 0, .int fa, .ref mW, .int 0, .ref mO, .int 0, .ref y1, .ref y2, .ref y3, .ref y4, .ref mZ]))]) [0] (by decide) rfl
  exact W.zret (v := 1) (ty := .boolean) hx hb hr (rfl) (fun t ht hW => ⟨⟨1, (), rfl, rfl, by rw [ht]; exact hP9, hD9⟩, hS.F ht⟩) (hS.2.2) dX12_read_90

set_option maxHeartbeats 4000000 in
set_option maxRecDepth 100000 in
theorem m_X12_does (l : Launch) (dC : Nat → ClassId) (dI : Nat → Nat → Nat) (cI cS : ClassId) (sz : Nat) (oM : Nat) (mT : Nat) (mS : Nat) (mX : Nat) (mL : Nat) (mB : Nat) (mD : Nat) (m1 : Nat) (m2 : Nat) (mR : Nat) (x1 : Nat) (x2 : Nat) (x3 : Nat) (mH : Nat) (mY : Nat) (mE : Nat) (mW : Nat) (mO : Nat) (y1 : Nat) (y2 : Nat) (y3 : Nat) (y4 : Nat) (mZ : Nat) (row : Nat) (fa : Int32) (a : Int32) (b : Int32)  : Met l yX12_does wsX12_does ({ frames := 1, cells := 0, slots := 0, locals := 24 } : Room) (va_Pc [.ref oM, .int a, .int b, .ref row, .int 0] (fun U => U.heap.size = sz ∧ va_P (dC, dI) vwCl [(oM, .inr (12, [.ref mT, .int 0, .ref mS, .ref mX, .int 0, .int 0, .ref mL, .ref mB, .ref mD, .ref m1, .ref m2, .int 0, .ref mR, .int 0, .ref x1, .ref x2, .ref x3, .int 0, .ref mH, .int 0, .int 0, .int 0, .int 0, .int (-1), .int (-1), .int 0, .ref mY, .int 0, .ref mE, .int 0, .int fa, .ref mW, .int 0, .ref mO, .int 0, .ref y1, .ref y2, .ref y3, .ref y4, .ref mZ]))] U.heap ∧ va_K (dC, dI) vwCl [(cI, .int), (cS, .short)] U ∧ va_D (fun _ => True) [(oM, .inr (12, [.ref mT, .int 0, .ref mS, .ref mX, .int 0, .int 0, .ref mL, .ref mB, .ref mD, .ref m1, .ref m2, .int 0, .ref mR, .int 0, .ref x1, .ref x2, .ref x3, .int 0, .ref mH, .int 0, .int 0, .int 0, .int 0, .int (-1), .int (-1), .int 0, .ref mY, .int 0, .ref mE, .int 0, .int fa, .ref mW, .int 0, .ref mO, .int 0, .ref y1, .ref y2, .ref y3, .ref y4, .ref mZ]))])) (va_Qi (fun (r : Int32) (_ : Unit) => r = 1) (fun _ t => va_P (dC, dI) vwCl [(oM, .inr (12, [.ref mT, .int 0, .ref mS, .ref mX, .int 0, .int 0, .ref mL, .ref mB, .ref mD, .ref m1, .ref m2, .int 0, .ref mR, .int 0, .ref x1, .ref x2, .ref x3, .int 0, .ref mH, .int 0, .int 0, .int 0, .int 0, .int (-1), .int (-1), .int 0, .ref mY, .int 0, .ref mE, .int 0, .int (-1), .ref mW, .int 0, .ref mO, .int 0, .ref y1, .ref y2, .ref y3, .ref y4, .ref mZ]))] t.heap ∧ va_D (va_A [(oM, .inr (12, [.ref mT, .int 0, .ref mS, .ref mX, .int 0, .int 0, .ref mL, .ref mB, .ref mD, .ref m1, .ref m2, .int 0, .ref mR, .int 0, .ref x1, .ref x2, .ref x3, .int 0, .ref mH, .int 0, .int 0, .int 0, .int 0, .int (-1), .int (-1), .int 0, .ref mY, .int 0, .ref mE, .int 0, .int fa, .ref mW, .int 0, .ref mO, .int 0, .ref y1, .ref y2, .ref y3, .ref y4, .ref mZ]))] sz) [(oM, .inr (12, [.ref mT, .int 0, .ref mS, .ref mX, .int 0, .int 0, .ref mL, .ref mB, .ref mD, .ref m1, .ref m2, .int 0, .ref mR, .int 0, .ref x1, .ref x2, .ref x3, .int 0, .ref mH, .int 0, .int 0, .int 0, .int 0, .int (-1), .int (-1), .int 0, .ref mY, .int 0, .ref mE, .int 0, .int (-1), .ref mW, .int 0, .ref mO, .int 0, .ref y1, .ref y2, .ref y3, .ref y4, .ref mZ]))]) (va_A [(oM, .inr (12, [.ref mT, .int 0, .ref mS, .ref mX, .int 0, .int 0, .ref mL, .ref mB, .ref mD, .ref m1, .ref m2, .int 0, .ref mR, .int 0, .ref x1, .ref x2, .ref x3, .int 0, .ref mH, .int 0, .int 0, .int 0, .int 0, .int (-1), .int (-1), .int 0, .ref mY, .int 0, .ref mE, .int 0, .int fa, .ref mW, .int 0, .ref mO, .int 0, .ref y1, .ref y2, .ref y3, .ref y4, .ref mZ]))] sz)) 0 0 (va_A [(oM, .inr (12, [.ref mT, .int 0, .ref mS, .ref mX, .int 0, .int 0, .ref mL, .ref mB, .ref mD, .ref m1, .ref m2, .int 0, .ref mR, .int 0, .ref x1, .ref x2, .ref x3, .int 0, .ref mH, .int 0, .int 0, .int 0, .int 0, .int (-1), .int (-1), .int 0, .ref mY, .int 0, .ref mE, .int 0, .int fa, .ref mW, .int 0, .ref mO, .int 0, .ref y1, .ref y2, .ref y3, .ref y4, .ref mZ]))] sz) := by
  refine Met.ofW (cc := cX12_does) (maxL := 5) (ret := (some .boolean)) (by decide) rfl ?_
  intro p e s m args below meth c s₁ B hml hv
  obtain ⟨rfl, hsz, hP, hK, hD0⟩ := hv
  have hx := B.exec
  have hb := B.bytes
  have hr := B.returns
  have hts := atoms_spec (ws := wsX12_does) B.pre
  have hown : s.vm.findClass RX12 = some m.cls := findClass_of_methodNamed B.named
  have hlocks := B.notSynchronized
  have in_X12 : ∀ w ∈ wsX120, w ∈ wsX12_does := fun _ h => List.mem_cons_of_mem _ (List.mem_append_right _ (h))
  subst hsz
  have hD := hD0.self (sz := s.heap.size)
  generalize hAe : va_A [(oM, .inr (12, [.ref mT, .int 0, .ref mS, .ref mX, .int 0, .int 0, .ref mL, .ref mB, .ref mD, .ref m1, .ref m2, .int 0, .ref mR, .int 0, .ref x1, .ref x2, .ref x3, .int 0, .ref mH, .int 0, .int 0, .int 0, .int 0, .int (-1), .int (-1), .int 0, .ref mY, .int 0, .ref mE, .int 0, .int fa, .ref mW, .int 0, .ref mO, .int 0, .ref y1, .ref y2, .ref y3, .ref y4, .ref mZ]))] s.heap.size = A at hD ⊢
  have hA : ∀ q : Nat, s.heap.size ≤ q → A q := fun q h => by rw [← hAe]; exact Or.inr h
  have hS : va_S A s.heap s.heap [] := va_S.rf
  have hP : va_P (dC, dI) vwCl [(oM, .inr (12, [.ref mT, .int 0, .ref mS, .ref mX, .int 0, .int 0, .ref mL, .ref mB, .ref mD, .ref m1, .ref m2, .int 0, .ref mR, .int 0, .ref x1, .ref x2, .ref x3, .int 0, .ref mH, .int 0, .int 0, .int 0, .int 0, .int (-1), .int (-1), .int 0, .ref mY, .int 0, .ref mE, .int 0, .int fa, .ref mW, .int 0, .ref mO, .int 0, .ref y1, .ref y2, .ref y3, .ref y4, .ref mZ]))] s.heap := hP
  have hl := lv_entry ([.ref oM, .int a, .int b, .ref row, .int 0]) (n := 5) (Nat.le_of_ble_eq_true rfl)
  rw [lg_entry_eq]
  generalize (lg_sl ([.ref oM, .int a, .int b, .ref row, .int 0]) ++ List.replicate (5 - (lg_sl ([.ref oM, .int a, .int b, .ref row, .int 0])).length) Slot.unset).toArray = ls at hl ⊢
  have hl : lv_has ls 5 [(0, .ref oM), (1, .int a), (2, .int b), (3, .ref row), (4, .int 0)] := hl
  refine lv_aload_n hx hb dX12_does_0 rfl (lv_at hl 0 rfl) ?_
  refine lv_iconst (v := (-1)) hx hb dX12_does_1 (by decide) ?_
  refine va_put (D := (dC, dI)) (ci := 12) (v := .int (-1)) (ty := .int) (C := RX12) (T := TX12) (N := 40) hx hb hts in_X12 tyX12 tyX12_ok nmX12 hown hK hP hD hS 0 rfl rfl 30 (by decide) (hts (.fieldLink RX12 102 "TextMenderModel" "faultAt" "I") (List.mem_of_getElem? (i := 1) rfl)) (fun _ h9 => h9) rfl (by decide +kernel) rfl rfl (Nat.le_of_ble_eq_true rfl) dX12_does_2 (fun H locs hP hD hS => ?_)
  have hP : va_P (dC, dI) vwCl [(oM, .inr (12, [.ref mT, .int 0, .ref mS, .ref mX, .int 0, .int 0, .ref mL, .ref mB, .ref mD, .ref m1, .ref m2, .int 0, .ref mR, .int 0, .ref x1, .ref x2, .ref x3, .int 0, .ref mH, .int 0, .int 0, .int 0, .int 0, .int (-1), .int (-1), .int 0, .ref mY, .int 0, .ref mE, .int 0, .int (-1), .ref mW, .int 0, .ref mO, .int 0, .ref y1, .ref y2, .ref y3, .ref y4, .ref mZ]))] H := hP
  have hD : va_D A [(oM, .inr (12, [.ref mT, .int 0, .ref mS, .ref mX, .int 0, .int 0, .ref mL, .ref mB, .ref mD, .ref m1, .ref m2, .int 0, .ref mR, .int 0, .ref x1, .ref x2, .ref x3, .int 0, .ref mH, .int 0, .int 0, .int 0, .int 0, .int (-1), .int (-1), .int 0, .ref mY, .int 0, .ref mE, .int 0, .int (-1), .ref mW, .int 0, .ref mO, .int 0, .ref y1, .ref y2, .ref y3, .ref y4, .ref mZ]))] := hD
  refine lv_aload_n hx hb dX12_does_5 rfl (lv_at hl 0 rfl) ?_
  refine lv_iload_n hx hb dX12_does_6 rfl (lv_at hl 1 rfl) ?_
  refine lv_aload_n hx hb dX12_does_7 rfl (lv_at hl 3 rfl) ?_
  refine lv_iload hx hb dX12_does_8 (lv_at hl 4 rfl) ?_
  have hPc := hP.sub (ws' := [(oM, .inr (12, [.ref mT, .int 0, .ref mS, .ref mX, .int 0, .int 0, .ref mL, .ref mB, .ref mD, .ref m1, .ref m2, .int 0, .ref mR, .int 0, .ref x1, .ref x2, .ref x3, .int 0, .ref mH, .int 0, .int 0, .int 0, .int 0, .int (-1), .int (-1), .int 0, .ref mY, .int 0, .ref mE, .int 0, .int (-1), .ref mW, .int 0, .ref mO, .int 0, .ref y1, .ref y2, .ref y3, .ref y4, .ref mZ]))]) [0] rfl
  have hDc := hD.sub (ws' := [(oM, .inr (12, [.ref mT, .int 0, .ref mS, .ref mX, .int 0, .int 0, .ref mL, .ref mB, .ref mD, .ref m1, .ref m2, .int 0, .ref mR, .int 0, .ref x1, .ref x2, .ref x3, .int 0, .ref mH, .int 0, .int 0, .int 0, .int 0, .int (-1), .int (-1), .int 0, .ref mY, .int 0, .ref mE, .int 0, .int (-1), .ref mW, .int 0, .ref mO, .int 0, .ref y1, .ref y2, .ref y3, .ref y4, .ref mZ]))]) [0] (by decide) rfl
  have hFc := va_free (wc := [(oM, .inr (12, [.ref mT, .int 0, .ref mS, .ref mX, .int 0, .int 0, .ref mL, .ref mB, .ref mD, .ref m1, .ref m2, .int 0, .ref mR, .int 0, .ref x1, .ref x2, .ref x3, .int 0, .ref mH, .int 0, .int 0, .int 0, .int 0, .int (-1), .int (-1), .int 0, .ref mY, .int 0, .ref mE, .int 0, .int (-1), .ref mW, .int 0, .ref mO, .int 0, .ref y1, .ref y2, .ref y3, .ref y4, .ref mZ]))]) hD hS hA [0] rfl
  refine va_calli (va_runV (As := [.int a, .ref row, .int 0]) (rest := []) ⟨hx, hb, hml, hown, hts⟩ (m_X12_write l dC dI cI cS H.size oM mT mS mX mL mB mD m1 m2 mR x1 x2 x3 mH mY mE mW mO y1 y2 y3 y4 mZ row (-1) a ) (cwV 3 hts gX12_does_X12_write rfl rfl rfl (by decide +kernel) ⟨Nat.le_of_ble_eq_true rfl, Nat.le_of_ble_eq_true rfl⟩) ⟨fun a U g mk q => by obtain ⟨q0, q1, qP, qK, qD⟩ := q; exact ⟨q0, q1, qP, va_K.moved (u := U) (U := U.calling g mk a) (Vm.Alike.refl U.vm) qK, qD⟩, va_recv hK hPc (ci := 12) (q0 := 0) rfl rfl, fun U hU hW => ⟨rfl, by rw [hU], by rw [hU]; exact hPc, va_K.moved hW.alike hK, hDc.weaken (fun _ _ _ _ => trivial)⟩⟩ rfl rfl hl.1 rfl (lv_room (Nat.le_of_ble_eq_true rfl)) dX12_does_10 ⟨Nat.le_of_ble_eq_true rfl, Nat.le_of_ble_eq_true rfl⟩) hS (fun q _ h => hFc q h) hFc (fun r_1 u t H1 locs ht hvm hw hB hz1 hk1 hS => ?_)
  obtain ⟨hP1, hD1⟩ := hB
  rw [ht] at hP1
  obtain ⟨hP, hD⟩ := va_join (wr := []) (w1 := [(oM, .inr (12, [.ref mT, .int 0, .ref mS, .ref mX, .int 0, .int 0, .ref mL, .ref mB, .ref mD, .ref m1, .ref m2, .int 0, .ref mR, .int 0, .ref x1, .ref x2, .ref x3, .int 0, .ref mH, .int 0, .int 0, .int 0, .int 0, .int (-1), .int (-1), .int 0, .ref mY, .int 0, .ref mE, .int 0, .int (-1), .ref mW, .int 0, .ref mO, .int 0, .ref y1, .ref y2, .ref y3, .ref y4, .ref mZ]))]) hP hD [0] [] rfl rfl (by decide) (by decide) hk1 hFc hP1 hD1
  generalize H1 = H at hP hS ⊢
  have hP : va_P (dC, dI) vwCl [(oM, .inr (12, [.ref mT, .int 0, .ref mS, .ref mX, .int 0, .int 0, .ref mL, .ref mB, .ref mD, .ref m1, .ref m2, .int 0, .ref mR, .int 0, .ref x1, .ref x2, .ref x3, .int 0, .ref mH, .int 0, .int 0, .int 0, .int 0, .int (-1), .int (-1), .int 0, .ref mY, .int 0, .ref mE, .int 0, .int (-1), .ref mW, .int 0, .ref mO, .int 0, .ref y1, .ref y2, .ref y3, .ref y4, .ref mZ]))] H := hP
  have hD : va_D A [(oM, .inr (12, [.ref mT, .int 0, .ref mS, .ref mX, .int 0, .int 0, .ref mL, .ref mB, .ref mD, .ref m1, .ref m2, .int 0, .ref mR, .int 0, .ref x1, .ref x2, .ref x3, .int 0, .ref mH, .int 0, .int 0, .int 0, .int 0, .int (-1), .int (-1), .int 0, .ref mY, .int 0, .ref mE, .int 0, .int (-1), .ref mW, .int 0, .ref mO, .int 0, .ref y1, .ref y2, .ref y3, .ref y4, .ref mZ]))] := hD
  subst hw
  refine lv_if_ne (tgt := 18) hx hb dX12_does_13 (by decide) (fun c_2 => ?_) (fun c_2 => absurd c_2 (by decide))
  refine lv_aload_n hx hb dX12_does_18 rfl (lv_at hl 0 rfl) ?_
  refine va_get (D := (dC, dI)) (ci := 12) (v := .int 0) (C := RX12) (T := TX12) (N := 40) hx hb hts in_X12 hown hK hP 0 rfl rfl 27 (by decide) (hts (.fieldLink RX12 91 "TextMenderModel" "byteMany" "I") (List.mem_of_getElem? (i := 2) rfl)) (fun _ h9 => h9) rfl dX12_does_19 ?_
  refine lv_sipush (v := 900) hx hb dX12_does_22 (by decide) ?_
  refine lv_icmp_le (tgt := 30) hx hb dX12_does_25 (by decide) (fun c_3 => ?_) (fun c_3 => absurd (by decide) c_3)
  refine lv_aload_n hx hb dX12_does_30 rfl (lv_at hl 0 rfl) ?_
  refine lv_iload_n hx hb dX12_does_31 rfl (lv_at hl 2 rfl) ?_
  refine lv_iconst (v := 0) hx hb dX12_does_32 (by decide) ?_
  have hPc := hP.sub (ws' := [(oM, .inr (12, [.ref mT, .int 0, .ref mS, .ref mX, .int 0, .int 0, .ref mL, .ref mB, .ref mD, .ref m1, .ref m2, .int 0, .ref mR, .int 0, .ref x1, .ref x2, .ref x3, .int 0, .ref mH, .int 0, .int 0, .int 0, .int 0, .int (-1), .int (-1), .int 0, .ref mY, .int 0, .ref mE, .int 0, .int (-1), .ref mW, .int 0, .ref mO, .int 0, .ref y1, .ref y2, .ref y3, .ref y4, .ref mZ]))]) [0] rfl
  have hDc := hD.sub (ws' := [(oM, .inr (12, [.ref mT, .int 0, .ref mS, .ref mX, .int 0, .int 0, .ref mL, .ref mB, .ref mD, .ref m1, .ref m2, .int 0, .ref mR, .int 0, .ref x1, .ref x2, .ref x3, .int 0, .ref mH, .int 0, .int 0, .int 0, .int 0, .int (-1), .int (-1), .int 0, .ref mY, .int 0, .ref mE, .int 0, .int (-1), .ref mW, .int 0, .ref mO, .int 0, .ref y1, .ref y2, .ref y3, .ref y4, .ref mZ]))]) [0] (by decide) rfl
  have hFc := va_free (wc := [(oM, .inr (12, [.ref mT, .int 0, .ref mS, .ref mX, .int 0, .int 0, .ref mL, .ref mB, .ref mD, .ref m1, .ref m2, .int 0, .ref mR, .int 0, .ref x1, .ref x2, .ref x3, .int 0, .ref mH, .int 0, .int 0, .int 0, .int 0, .int (-1), .int (-1), .int 0, .ref mY, .int 0, .ref mE, .int 0, .int (-1), .ref mW, .int 0, .ref mO, .int 0, .ref y1, .ref y2, .ref y3, .ref y4, .ref mZ]))]) hD hS hA [0] rfl
  refine va_calli (va_runV (As := [.int b, .int 0]) (rest := []) ⟨hx, hb, hml, hown, hts⟩ (m_X12_read l dC dI cI cS H.size oM mT mS mX mL mB mD m1 m2 mR x1 x2 x3 mH mY mE mW mO y1 y2 y3 y4 mZ (-1) b ) (cwV 2 hts gX12_does_X12_read rfl rfl rfl (by decide +kernel) ⟨Nat.le_of_ble_eq_true rfl, Nat.le_of_ble_eq_true rfl⟩) ⟨fun a U g mk q => by obtain ⟨q0, q1, qP, qK, qD⟩ := q; exact ⟨q0, q1, qP, va_K.moved (u := U) (U := U.calling g mk a) (Vm.Alike.refl U.vm) qK, qD⟩, va_recv hK hPc (ci := 12) (q0 := 0) rfl rfl, fun U hU hW => ⟨rfl, by rw [hU], by rw [hU]; exact hPc, va_K.moved hW.alike hK, hDc.weaken (fun _ _ _ _ => trivial)⟩⟩ rfl rfl hl.1 rfl (lv_room (Nat.le_of_ble_eq_true rfl)) dX12_does_33 ⟨Nat.le_of_ble_eq_true rfl, Nat.le_of_ble_eq_true rfl⟩) hS (fun q _ h => hFc q h) hFc (fun r_4 u t H1 locs ht hvm hw hB hz1 hk1 hS => ?_)
  obtain ⟨hP1, hD1⟩ := hB
  rw [ht] at hP1
  obtain ⟨hP, hD⟩ := va_join (wr := []) (w1 := [(oM, .inr (12, [.ref mT, .int 0, .ref mS, .ref mX, .int 0, .int 0, .ref mL, .ref mB, .ref mD, .ref m1, .ref m2, .int 0, .ref mR, .int 0, .ref x1, .ref x2, .ref x3, .int 0, .ref mH, .int 0, .int 0, .int 0, .int 0, .int (-1), .int (-1), .int 0, .ref mY, .int 0, .ref mE, .int 0, .int (-1), .ref mW, .int 0, .ref mO, .int 0, .ref y1, .ref y2, .ref y3, .ref y4, .ref mZ]))]) hP hD [0] [] rfl rfl (by decide) (by decide) hk1 hFc hP1 hD1
  generalize H1 = H at hP hS ⊢
  have hP : va_P (dC, dI) vwCl [(oM, .inr (12, [.ref mT, .int 0, .ref mS, .ref mX, .int 0, .int 0, .ref mL, .ref mB, .ref mD, .ref m1, .ref m2, .int 0, .ref mR, .int 0, .ref x1, .ref x2, .ref x3, .int 0, .ref mH, .int 0, .int 0, .int 0, .int 0, .int (-1), .int (-1), .int 0, .ref mY, .int 0, .ref mE, .int 0, .int (-1), .ref mW, .int 0, .ref mO, .int 0, .ref y1, .ref y2, .ref y3, .ref y4, .ref mZ]))] H := hP
  have hD : va_D A [(oM, .inr (12, [.ref mT, .int 0, .ref mS, .ref mX, .int 0, .int 0, .ref mL, .ref mB, .ref mD, .ref m1, .ref m2, .int 0, .ref mR, .int 0, .ref x1, .ref x2, .ref x3, .int 0, .ref mH, .int 0, .int 0, .int 0, .int 0, .int (-1), .int (-1), .int 0, .ref mY, .int 0, .ref mE, .int 0, .int (-1), .ref mW, .int 0, .ref mO, .int 0, .ref y1, .ref y2, .ref y3, .ref y4, .ref mZ]))] := hD
  subst hw
  refine lv_if_ne (tgt := 41) hx hb dX12_does_36 (by decide) (fun c_5 => ?_) (fun c_5 => absurd c_5 (by decide))
  refine lv_aload_n hx hb dX12_does_41 rfl (lv_at hl 0 rfl) ?_
  refine va_get (D := (dC, dI)) (ci := 12) (v := .int 0) (C := RX12) (T := TX12) (N := 40) hx hb hts in_X12 hown hK hP 0 rfl rfl 29 (by decide) (hts (.fieldLink RX12 119 "TextMenderModel" "cameMany" "I") (List.mem_of_getElem? (i := 3) rfl)) (fun _ h9 => h9) rfl dX12_does_42 ?_
  refine lv_sipush (v := 300) hx hb dX12_does_45 (by decide) ?_
  refine lv_icmp_gt (tgt := 55) hx hb dX12_does_48 (by decide) (fun c_6 => absurd c_6 (by decide)) (fun c_6 => ?_)
  refine lv_iconst (v := 1) hx hb dX12_does_51 (by decide) ?_
  refine lv_goto (tgt := 56) hx hb dX12_does_52 (by decide) ?_
  have hP9 := hP.sub (ws' := [(oM, .inr (12, [.ref mT, .int 0, .ref mS, .ref mX, .int 0, .int 0, .ref mL, .ref mB, .ref mD, .ref m1, .ref m2, .int 0, .ref mR, .int 0, .ref x1, .ref x2, .ref x3, .int 0, .ref mH, .int 0, .int 0, .int 0, .int 0, .int (-1), .int (-1), .int 0, .ref mY, .int 0, .ref mE, .int 0, .int (-1), .ref mW, .int 0, .ref mO, .int 0, .ref y1, .ref y2, .ref y3, .ref y4, .ref mZ]))]) [0] rfl
  have hD9 := hD.sub (ws' := [(oM, .inr (12, [.ref mT, .int 0, .ref mS, .ref mX, .int 0, .int 0, .ref mL, .ref mB, .ref mD, .ref m1, .ref m2, .int 0, .ref mR, .int 0, .ref x1, .ref x2, .ref x3, .int 0, .ref mH, .int 0, .int 0, .int 0, .int 0, .int (-1), .int (-1), .int 0, .ref mY, .int 0, .ref mE, .int 0, .int (-1), .ref mW, .int 0, .ref mO, .int 0, .ref y1, .ref y2, .ref y3, .ref y4, .ref mZ]))]) [0] (by decide) rfl
  exact W.zret (v := 1) (ty := .boolean) hx hb hr (rfl) (fun t ht hW => ⟨⟨1, (), rfl, rfl, by rw [ht]; exact hP9, hD9⟩, hS.F ht⟩) (hS.2.2) dX12_does_56

set_option maxHeartbeats 4000000 in
set_option maxRecDepth 100000 in
theorem m_X12_takeText (l : Launch) (dC : Nat → ClassId) (dI : Nat → Nat → Nat) (cI cS : ClassId) (sz : Nat) (oM : Nat) (mT : Nat) (mS : Nat) (mX : Nat) (mL : Nat) (mB : Nat) (mD : Nat) (m1 : Nat) (m2 : Nat) (mR : Nat) (x1 : Nat) (x2 : Nat) (x3 : Nat) (mH : Nat) (mY : Nat) (mE : Nat) (mW : Nat) (mO : Nat) (y1 : Nat) (y2 : Nat) (y3 : Nat) (y4 : Nat) (mZ : Nat)  : Met l yX12_takeText wsX12_takeText ({ frames := 0, cells := 0, slots := 0, locals := 0 } : Room) (va_Pc [.ref oM] (fun U => U.heap.size = sz ∧ va_P (dC, dI) vwCl [(oM, .inr (12, [.ref mT, .int 0, .ref mS, .ref mX, .int 0, .int 0, .ref mL, .ref mB, .ref mD, .ref m1, .ref m2, .int 0, .ref mR, .int 0, .ref x1, .ref x2, .ref x3, .int 0, .ref mH, .int 0, .int 0, .int 0, .int 0, .int (-1), .int (-1), .int 0, .ref mY, .int 0, .ref mE, .int 0, .int 0, .ref mW, .int 0, .ref mO, .int 0, .ref y1, .ref y2, .ref y3, .ref y4, .ref mZ])), (mS, .inl (cI, 21, .inl (fun _ => 0)))] U.heap ∧ va_K (dC, dI) vwCl [(cI, .int), (cS, .short)] U ∧ va_D (fun _ => True) [(oM, .inr (12, [.ref mT, .int 0, .ref mS, .ref mX, .int 0, .int 0, .ref mL, .ref mB, .ref mD, .ref m1, .ref m2, .int 0, .ref mR, .int 0, .ref x1, .ref x2, .ref x3, .int 0, .ref mH, .int 0, .int 0, .int 0, .int 0, .int (-1), .int (-1), .int 0, .ref mY, .int 0, .ref mE, .int 0, .int 0, .ref mW, .int 0, .ref mO, .int 0, .ref y1, .ref y2, .ref y3, .ref y4, .ref mZ])), (mS, .inl (cI, 21, .inl (fun _ => 0)))])) (va_Qv (fun (_ : Unit) => True) (fun _ t => va_P (dC, dI) vwCl [(oM, .inr (12, [.ref mT, .int 0, .ref mS, .ref mX, .int 0, .int 0, .ref mL, .ref mB, .ref mD, .ref m1, .ref m2, .int 0, .ref mR, .int 0, .ref x1, .ref x2, .ref x3, .int 0, .ref mH, .int 0, .int 0, .int 0, .int 0, .int (-1), .int (-1), .int 0, .ref mY, .int 0, .ref mE, .int 0, .int 0, .ref mW, .int 0, .ref mO, .int 0, .ref y1, .ref y2, .ref y3, .ref y4, .ref mZ])), (mS, .inl (cI, 21, .inl (fun _ => 0)))] t.heap ∧ va_D (va_A [(oM, .inr (12, [.ref mT, .int 0, .ref mS, .ref mX, .int 0, .int 0, .ref mL, .ref mB, .ref mD, .ref m1, .ref m2, .int 0, .ref mR, .int 0, .ref x1, .ref x2, .ref x3, .int 0, .ref mH, .int 0, .int 0, .int 0, .int 0, .int (-1), .int (-1), .int 0, .ref mY, .int 0, .ref mE, .int 0, .int 0, .ref mW, .int 0, .ref mO, .int 0, .ref y1, .ref y2, .ref y3, .ref y4, .ref mZ])), (mS, .inl (cI, 21, .inl (fun _ => 0)))] sz) [(oM, .inr (12, [.ref mT, .int 0, .ref mS, .ref mX, .int 0, .int 0, .ref mL, .ref mB, .ref mD, .ref m1, .ref m2, .int 0, .ref mR, .int 0, .ref x1, .ref x2, .ref x3, .int 0, .ref mH, .int 0, .int 0, .int 0, .int 0, .int (-1), .int (-1), .int 0, .ref mY, .int 0, .ref mE, .int 0, .int 0, .ref mW, .int 0, .ref mO, .int 0, .ref y1, .ref y2, .ref y3, .ref y4, .ref mZ])), (mS, .inl (cI, 21, .inl (fun _ => 0)))]) (va_A [(oM, .inr (12, [.ref mT, .int 0, .ref mS, .ref mX, .int 0, .int 0, .ref mL, .ref mB, .ref mD, .ref m1, .ref m2, .int 0, .ref mR, .int 0, .ref x1, .ref x2, .ref x3, .int 0, .ref mH, .int 0, .int 0, .int 0, .int 0, .int (-1), .int (-1), .int 0, .ref mY, .int 0, .ref mE, .int 0, .int 0, .ref mW, .int 0, .ref mO, .int 0, .ref y1, .ref y2, .ref y3, .ref y4, .ref mZ])), (mS, .inl (cI, 21, .inl (fun _ => 0)))] sz)) 0 0 (va_A [(oM, .inr (12, [.ref mT, .int 0, .ref mS, .ref mX, .int 0, .int 0, .ref mL, .ref mB, .ref mD, .ref m1, .ref m2, .int 0, .ref mR, .int 0, .ref x1, .ref x2, .ref x3, .int 0, .ref mH, .int 0, .int 0, .int 0, .int 0, .int (-1), .int (-1), .int 0, .ref mY, .int 0, .ref mE, .int 0, .int 0, .ref mW, .int 0, .ref mO, .int 0, .ref y1, .ref y2, .ref y3, .ref y4, .ref mZ])), (mS, .inl (cI, 21, .inl (fun _ => 0)))] sz) := by
  refine Met.ofW (cc := cX12_takeText) (maxL := 2) (ret := none) (by decide) rfl ?_
  intro p e s m args below meth c s₁ B hml hv
  obtain ⟨rfl, hsz, hP, hK, hD0⟩ := hv
  have hx := B.exec
  have hb := B.bytes
  have hr := B.returns
  have hts := atoms_spec (ws := wsX12_takeText) B.pre
  have hown : s.vm.findClass RX12 = some m.cls := findClass_of_methodNamed B.named
  have hlocks := B.notSynchronized
  have in_X12 : ∀ w ∈ wsX120, w ∈ wsX12_takeText := fun _ h => List.mem_cons_of_mem _ (List.mem_append_right _ (h))
  subst hsz
  have hD := hD0.self (sz := s.heap.size)
  generalize hAe : va_A [(oM, .inr (12, [.ref mT, .int 0, .ref mS, .ref mX, .int 0, .int 0, .ref mL, .ref mB, .ref mD, .ref m1, .ref m2, .int 0, .ref mR, .int 0, .ref x1, .ref x2, .ref x3, .int 0, .ref mH, .int 0, .int 0, .int 0, .int 0, .int (-1), .int (-1), .int 0, .ref mY, .int 0, .ref mE, .int 0, .int 0, .ref mW, .int 0, .ref mO, .int 0, .ref y1, .ref y2, .ref y3, .ref y4, .ref mZ])), (mS, .inl (cI, 21, .inl (fun _ => 0)))] s.heap.size = A at hD ⊢
  have hA : ∀ q : Nat, s.heap.size ≤ q → A q := fun q h => by rw [← hAe]; exact Or.inr h
  have hS : va_S A s.heap s.heap [] := va_S.rf
  have hP : va_P (dC, dI) vwCl [(oM, .inr (12, [.ref mT, .int 0, .ref mS, .ref mX, .int 0, .int 0, .ref mL, .ref mB, .ref mD, .ref m1, .ref m2, .int 0, .ref mR, .int 0, .ref x1, .ref x2, .ref x3, .int 0, .ref mH, .int 0, .int 0, .int 0, .int 0, .int (-1), .int (-1), .int 0, .ref mY, .int 0, .ref mE, .int 0, .int 0, .ref mW, .int 0, .ref mO, .int 0, .ref y1, .ref y2, .ref y3, .ref y4, .ref mZ])), (mS, .inl (cI, 21, .inl (fun _ => 0)))] s.heap := hP
  have hl := lv_entry ([.ref oM]) (n := 2) (Nat.le_of_ble_eq_true rfl)
  rw [lg_entry_eq]
  generalize (lg_sl ([.ref oM]) ++ List.replicate (2 - (lg_sl ([.ref oM])).length) Slot.unset).toArray = ls at hl ⊢
  have hl : lv_has ls 2 [(0, .ref oM)] := hl
  refine lv_aload_n hx hb dX12_takeText_0 rfl (lv_at hl 0 rfl) ?_
  refine lv_aload_n hx hb dX12_takeText_1 rfl (lv_at hl 0 rfl) ?_
  refine va_get (D := (dC, dI)) (ci := 12) (v := .ref mS) (C := RX12) (T := TX12) (N := 40) hx hb hts in_X12 hown hK hP 0 rfl rfl 2 (by decide) (hts (.fieldLink RX12 13 "TextMenderModel" "sizes" "[I") (List.mem_of_getElem? (i := 1) rfl)) (fun _ h9 => h9) rfl dX12_takeText_2 ?_
  refine lv_iconst (v := 0) hx hb dX12_takeText_5 (by decide) ?_
  refine va_iald hx hb hK hP 1 0 rfl rfl (by unfold vp_in; decide) dX12_takeText_6 ?_
  refine k_i (y := 0) (by first | rfl | decide) ?_
  refine va_put (D := (dC, dI)) (ci := 12) (v := .int 0) (ty := .int) (C := RX12) (T := TX12) (N := 40) hx hb hts in_X12 tyX12 tyX12_ok nmX12 hown hK hP hD hS 0 rfl rfl 32 (by decide) (hts (.fieldLink RX12 135 "TextMenderModel" "workMany" "I") (List.mem_of_getElem? (i := 2) rfl)) (fun _ h9 => h9) rfl (by decide +kernel) rfl rfl (Nat.le_of_ble_eq_true rfl) dX12_takeText_7 (fun H locs hP hD hS => ?_)
  have hP : va_P (dC, dI) vwCl [(oM, .inr (12, [.ref mT, .int 0, .ref mS, .ref mX, .int 0, .int 0, .ref mL, .ref mB, .ref mD, .ref m1, .ref m2, .int 0, .ref mR, .int 0, .ref x1, .ref x2, .ref x3, .int 0, .ref mH, .int 0, .int 0, .int 0, .int 0, .int (-1), .int (-1), .int 0, .ref mY, .int 0, .ref mE, .int 0, .int 0, .ref mW, .int 0, .ref mO, .int 0, .ref y1, .ref y2, .ref y3, .ref y4, .ref mZ])), (mS, .inl (cI, 21, .inl (fun _ => 0)))] H := hP
  have hD : va_D A [(oM, .inr (12, [.ref mT, .int 0, .ref mS, .ref mX, .int 0, .int 0, .ref mL, .ref mB, .ref mD, .ref m1, .ref m2, .int 0, .ref mR, .int 0, .ref x1, .ref x2, .ref x3, .int 0, .ref mH, .int 0, .int 0, .int 0, .int 0, .int (-1), .int (-1), .int 0, .ref mY, .int 0, .ref mE, .int 0, .int 0, .ref mW, .int 0, .ref mO, .int 0, .ref y1, .ref y2, .ref y3, .ref y4, .ref mZ])), (mS, .inl (cI, 21, .inl (fun _ => 0)))] := hD
  refine lv_iconst (v := 0) hx hb dX12_takeText_10 (by decide) ?_
  refine lv_istore_n (lv' := [(1, .int 0), (0, .ref oM)]) hx hb dX12_takeText_11 rfl hl (by decide) rfl (fun ls hl => ?_)
  refine lv_iload_n hx hb dX12_takeText_12 rfl (lv_at hl 0 rfl) ?_
  refine lv_aload_n hx hb dX12_takeText_13 rfl (lv_at hl 1 rfl) ?_
  refine va_get (D := (dC, dI)) (ci := 12) (v := .int 0) (C := RX12) (T := TX12) (N := 40) hx hb hts in_X12 hown hK hP 0 rfl rfl 32 (by decide) (hts (.fieldLink RX12 135 "TextMenderModel" "workMany" "I") (List.mem_of_getElem? (i := 2) rfl)) (fun _ h9 => h9) rfl dX12_takeText_14 ?_
  refine lv_icmp_ge (tgt := 38) hx hb dX12_takeText_17 (by decide) (fun c_1 => ?_) (fun c_1 => absurd (by decide) c_1)
  have hP9 := hP.sub (ws' := [(oM, .inr (12, [.ref mT, .int 0, .ref mS, .ref mX, .int 0, .int 0, .ref mL, .ref mB, .ref mD, .ref m1, .ref m2, .int 0, .ref mR, .int 0, .ref x1, .ref x2, .ref x3, .int 0, .ref mH, .int 0, .int 0, .int 0, .int 0, .int (-1), .int (-1), .int 0, .ref mY, .int 0, .ref mE, .int 0, .int 0, .ref mW, .int 0, .ref mO, .int 0, .ref y1, .ref y2, .ref y3, .ref y4, .ref mZ])), (mS, .inl (cI, 21, .inl (fun _ => 0)))]) [0, 1] rfl
  have hD9 := hD.sub (ws' := [(oM, .inr (12, [.ref mT, .int 0, .ref mS, .ref mX, .int 0, .int 0, .ref mL, .ref mB, .ref mD, .ref m1, .ref m2, .int 0, .ref mR, .int 0, .ref x1, .ref x2, .ref x3, .int 0, .ref mH, .int 0, .int 0, .int 0, .int 0, .int (-1), .int (-1), .int 0, .ref mY, .int 0, .ref mE, .int 0, .int 0, .ref mW, .int 0, .ref mO, .int 0, .ref y1, .ref y2, .ref y3, .ref y4, .ref mZ])), (mS, .inl (cI, 21, .inl (fun _ => 0)))]) [0, 1] (by decide) rfl
  exact W.vret hx hb hr (fun t ht hW => ⟨⟨(), rfl, trivial, by rw [ht]; exact hP9, hD9⟩, hS.F ht⟩) (hS.2.2) dX12_takeText_38

set_option maxHeartbeats 4000000 in
set_option maxRecDepth 100000 in
theorem m_X12_undoes (l : Launch) (dC : Nat → ClassId) (dI : Nat → Nat → Nat) (cI cS : ClassId) (sz : Nat) (oM : Nat) (mT : Nat) (mS : Nat) (mX : Nat) (mL : Nat) (mB : Nat) (mD : Nat) (m1 : Nat) (m2 : Nat) (mR : Nat) (x1 : Nat) (x2 : Nat) (x3 : Nat) (mH : Nat) (mY : Nat) (mE : Nat) (mW : Nat) (mO : Nat) (y1 : Nat) (y2 : Nat) (y3 : Nat) (y4 : Nat) (mZ : Nat) (a : Int32) (b : Int32)  : Met l yX12_undoes wsX12_undoes ({ frames := 2, cells := 0, slots := 0, locals := 48 } : Room) (va_Pc [.ref oM, .int a, .int b] (fun U => U.heap.size = sz ∧ va_P (dC, dI) vwCl [(oM, .inr (12, [.ref mT, .int 0, .ref mS, .ref mX, .int 0, .int 0, .ref mL, .ref mB, .ref mD, .ref m1, .ref m2, .int 0, .ref mR, .int 0, .ref x1, .ref x2, .ref x3, .int 0, .ref mH, .int 0, .int 0, .int 0, .int 0, .int (-1), .int (-1), .int 0, .ref mY, .int 0, .ref mE, .int 0, .int 0, .ref mW, .int 0, .ref mO, .int 0, .ref y1, .ref y2, .ref y3, .ref y4, .ref mZ]))] U.heap ∧ va_K (dC, dI) vwCl [(cI, .int), (cS, .short)] U ∧ va_D (fun _ => True) [(oM, .inr (12, [.ref mT, .int 0, .ref mS, .ref mX, .int 0, .int 0, .ref mL, .ref mB, .ref mD, .ref m1, .ref m2, .int 0, .ref mR, .int 0, .ref x1, .ref x2, .ref x3, .int 0, .ref mH, .int 0, .int 0, .int 0, .int 0, .int (-1), .int (-1), .int 0, .ref mY, .int 0, .ref mE, .int 0, .int 0, .ref mW, .int 0, .ref mO, .int 0, .ref y1, .ref y2, .ref y3, .ref y4, .ref mZ]))])) (va_Qi (fun (r : Int32) (_ : Unit) => r = 1) (fun _ t => va_P (dC, dI) vwCl [(oM, .inr (12, [.ref mT, .int 0, .ref mS, .ref mX, .int 0, .int 0, .ref mL, .ref mB, .ref mD, .ref m1, .ref m2, .int 0, .ref mR, .int 0, .ref x1, .ref x2, .ref x3, .int 0, .ref mH, .int 0, .int 0, .int 0, .int 0, .int (-1), .int (-1), .int 0, .ref mY, .int 0, .ref mE, .int 0, .int (-1), .ref mW, .int 0, .ref mO, .int 0, .ref y1, .ref y2, .ref y3, .ref y4, .ref mZ]))] t.heap ∧ va_D (va_A [(oM, .inr (12, [.ref mT, .int 0, .ref mS, .ref mX, .int 0, .int 0, .ref mL, .ref mB, .ref mD, .ref m1, .ref m2, .int 0, .ref mR, .int 0, .ref x1, .ref x2, .ref x3, .int 0, .ref mH, .int 0, .int 0, .int 0, .int 0, .int (-1), .int (-1), .int 0, .ref mY, .int 0, .ref mE, .int 0, .int 0, .ref mW, .int 0, .ref mO, .int 0, .ref y1, .ref y2, .ref y3, .ref y4, .ref mZ]))] sz) [(oM, .inr (12, [.ref mT, .int 0, .ref mS, .ref mX, .int 0, .int 0, .ref mL, .ref mB, .ref mD, .ref m1, .ref m2, .int 0, .ref mR, .int 0, .ref x1, .ref x2, .ref x3, .int 0, .ref mH, .int 0, .int 0, .int 0, .int 0, .int (-1), .int (-1), .int 0, .ref mY, .int 0, .ref mE, .int 0, .int (-1), .ref mW, .int 0, .ref mO, .int 0, .ref y1, .ref y2, .ref y3, .ref y4, .ref mZ]))]) (va_A [(oM, .inr (12, [.ref mT, .int 0, .ref mS, .ref mX, .int 0, .int 0, .ref mL, .ref mB, .ref mD, .ref m1, .ref m2, .int 0, .ref mR, .int 0, .ref x1, .ref x2, .ref x3, .int 0, .ref mH, .int 0, .int 0, .int 0, .int 0, .int (-1), .int (-1), .int 0, .ref mY, .int 0, .ref mE, .int 0, .int 0, .ref mW, .int 0, .ref mO, .int 0, .ref y1, .ref y2, .ref y3, .ref y4, .ref mZ]))] sz)) 0 0 (va_A [(oM, .inr (12, [.ref mT, .int 0, .ref mS, .ref mX, .int 0, .int 0, .ref mL, .ref mB, .ref mD, .ref m1, .ref m2, .int 0, .ref mR, .int 0, .ref x1, .ref x2, .ref x3, .int 0, .ref mH, .int 0, .int 0, .int 0, .int 0, .int (-1), .int (-1), .int 0, .ref mY, .int 0, .ref mE, .int 0, .int 0, .ref mW, .int 0, .ref mO, .int 0, .ref y1, .ref y2, .ref y3, .ref y4, .ref mZ]))] sz) := by
  refine Met.ofW (cc := cX12_undoes) (maxL := 6) (ret := (some .boolean)) (by decide) rfl ?_
  intro p e s m args below meth c s₁ B hml hv
  obtain ⟨rfl, hsz, hP, hK, hD0⟩ := hv
  have hx := B.exec
  have hb := B.bytes
  have hr := B.returns
  have hts := atoms_spec (ws := wsX12_undoes) B.pre
  have hown : s.vm.findClass RX12 = some m.cls := findClass_of_methodNamed B.named
  have hlocks := B.notSynchronized
  have in_X12 : ∀ w ∈ wsX120, w ∈ wsX12_undoes := fun _ h => List.mem_cons_of_mem _ (List.mem_append_right _ (h))
  subst hsz
  have hD := hD0.self (sz := s.heap.size)
  generalize hAe : va_A [(oM, .inr (12, [.ref mT, .int 0, .ref mS, .ref mX, .int 0, .int 0, .ref mL, .ref mB, .ref mD, .ref m1, .ref m2, .int 0, .ref mR, .int 0, .ref x1, .ref x2, .ref x3, .int 0, .ref mH, .int 0, .int 0, .int 0, .int 0, .int (-1), .int (-1), .int 0, .ref mY, .int 0, .ref mE, .int 0, .int 0, .ref mW, .int 0, .ref mO, .int 0, .ref y1, .ref y2, .ref y3, .ref y4, .ref mZ]))] s.heap.size = A at hD ⊢
  have hA : ∀ q : Nat, s.heap.size ≤ q → A q := fun q h => by rw [← hAe]; exact Or.inr h
  have hS : va_S A s.heap s.heap [] := va_S.rf
  have hP : va_P (dC, dI) vwCl [(oM, .inr (12, [.ref mT, .int 0, .ref mS, .ref mX, .int 0, .int 0, .ref mL, .ref mB, .ref mD, .ref m1, .ref m2, .int 0, .ref mR, .int 0, .ref x1, .ref x2, .ref x3, .int 0, .ref mH, .int 0, .int 0, .int 0, .int 0, .int (-1), .int (-1), .int 0, .ref mY, .int 0, .ref mE, .int 0, .int 0, .ref mW, .int 0, .ref mO, .int 0, .ref y1, .ref y2, .ref y3, .ref y4, .ref mZ]))] s.heap := hP
  have hl := lv_entry ([.ref oM, .int a, .int b]) (n := 6) (Nat.le_of_ble_eq_true rfl)
  rw [lg_entry_eq]
  generalize (lg_sl ([.ref oM, .int a, .int b]) ++ List.replicate (6 - (lg_sl ([.ref oM, .int a, .int b])).length) Slot.unset).toArray = ls at hl ⊢
  have hl : lv_has ls 6 [(0, .ref oM), (1, .int a), (2, .int b)] := hl
  refine lv_aload_n hx hb dX12_undoes_0 rfl (lv_at hl 0 rfl) ?_
  refine lv_iload_n hx hb dX12_undoes_1 rfl (lv_at hl 2 rfl) ?_
  refine lv_iload_n hx hb dX12_undoes_2 rfl (lv_at hl 1 rfl) ?_
  refine lv_aload_n hx hb dX12_undoes_3 rfl (lv_at hl 0 rfl) ?_
  refine va_get (D := (dC, dI)) (ci := 12) (v := .ref mW) (C := RX12) (T := TX12) (N := 40) hx hb hts in_X12 hown hK hP 0 rfl rfl 31 (by decide) (hts (.fieldLink RX12 64 "TextMenderModel" "work" "[I") (List.mem_of_getElem? (i := 1) rfl)) (fun _ h9 => h9) rfl dX12_undoes_4 ?_
  refine lv_aload_n hx hb dX12_undoes_7 rfl (lv_at hl 0 rfl) ?_
  refine va_get (D := (dC, dI)) (ci := 12) (v := .int 0) (C := RX12) (T := TX12) (N := 40) hx hb hts in_X12 hown hK hP 0 rfl rfl 32 (by decide) (hts (.fieldLink RX12 135 "TextMenderModel" "workMany" "I") (List.mem_of_getElem? (i := 2) rfl)) (fun _ h9 => h9) rfl dX12_undoes_8 ?_
  have hPc := hP.sub (ws' := [(oM, .inr (12, [.ref mT, .int 0, .ref mS, .ref mX, .int 0, .int 0, .ref mL, .ref mB, .ref mD, .ref m1, .ref m2, .int 0, .ref mR, .int 0, .ref x1, .ref x2, .ref x3, .int 0, .ref mH, .int 0, .int 0, .int 0, .int 0, .int (-1), .int (-1), .int 0, .ref mY, .int 0, .ref mE, .int 0, .int 0, .ref mW, .int 0, .ref mO, .int 0, .ref y1, .ref y2, .ref y3, .ref y4, .ref mZ]))]) [0] rfl
  have hDc := hD.sub (ws' := [(oM, .inr (12, [.ref mT, .int 0, .ref mS, .ref mX, .int 0, .int 0, .ref mL, .ref mB, .ref mD, .ref m1, .ref m2, .int 0, .ref mR, .int 0, .ref x1, .ref x2, .ref x3, .int 0, .ref mH, .int 0, .int 0, .int 0, .int 0, .int (-1), .int (-1), .int 0, .ref mY, .int 0, .ref mE, .int 0, .int 0, .ref mW, .int 0, .ref mO, .int 0, .ref y1, .ref y2, .ref y3, .ref y4, .ref mZ]))]) [0] (by decide) rfl
  have hFc := va_free (wc := [(oM, .inr (12, [.ref mT, .int 0, .ref mS, .ref mX, .int 0, .int 0, .ref mL, .ref mB, .ref mD, .ref m1, .ref m2, .int 0, .ref mR, .int 0, .ref x1, .ref x2, .ref x3, .int 0, .ref mH, .int 0, .int 0, .int 0, .int 0, .int (-1), .int (-1), .int 0, .ref mY, .int 0, .ref mE, .int 0, .int 0, .ref mW, .int 0, .ref mO, .int 0, .ref y1, .ref y2, .ref y3, .ref y4, .ref mZ]))]) hD hS hA [0] rfl
  refine va_calli (va_runV (As := [.int b, .int a, .ref mW, .int 0]) (rest := []) ⟨hx, hb, hml, hown, hts⟩ (m_X12_does l dC dI cI cS s.heap.size oM mT mS mX mL mB mD m1 m2 mR x1 x2 x3 mH mY mE mW mO y1 y2 y3 y4 mZ mW 0 b a ) (cwV 4 hts gX12_undoes_X12_does rfl rfl rfl (by decide +kernel) ⟨Nat.le_of_ble_eq_true rfl, Nat.le_of_ble_eq_true rfl⟩) ⟨fun a U g mk q => by obtain ⟨q0, q1, qP, qK, qD⟩ := q; exact ⟨q0, q1, qP, va_K.moved (u := U) (U := U.calling g mk a) (Vm.Alike.refl U.vm) qK, qD⟩, va_recv hK hPc (ci := 12) (q0 := 0) rfl rfl, fun U hU hW => ⟨rfl, by rw [hU], by rw [hU]; exact hPc, va_K.moved hW.alike hK, hDc.weaken (fun _ _ _ _ => trivial)⟩⟩ rfl rfl hl.1 rfl (lv_room (Nat.le_of_ble_eq_true rfl)) dX12_undoes_11 ⟨Nat.le_of_ble_eq_true rfl, Nat.le_of_ble_eq_true rfl⟩) hS (fun q _ h => hFc q h) hFc (fun r_1 u t H1 locs ht hvm hw hB hz1 hk1 hS => ?_)
  obtain ⟨hP1, hD1⟩ := hB
  rw [ht] at hP1
  obtain ⟨hP, hD⟩ := va_join (wr := []) (w1 := [(oM, .inr (12, [.ref mT, .int 0, .ref mS, .ref mX, .int 0, .int 0, .ref mL, .ref mB, .ref mD, .ref m1, .ref m2, .int 0, .ref mR, .int 0, .ref x1, .ref x2, .ref x3, .int 0, .ref mH, .int 0, .int 0, .int 0, .int 0, .int (-1), .int (-1), .int 0, .ref mY, .int 0, .ref mE, .int 0, .int (-1), .ref mW, .int 0, .ref mO, .int 0, .ref y1, .ref y2, .ref y3, .ref y4, .ref mZ]))]) hP hD [0] [] rfl rfl (by decide) (by decide) hk1 hFc hP1 hD1
  generalize H1 = H at hP hS ⊢
  have hP : va_P (dC, dI) vwCl [(oM, .inr (12, [.ref mT, .int 0, .ref mS, .ref mX, .int 0, .int 0, .ref mL, .ref mB, .ref mD, .ref m1, .ref m2, .int 0, .ref mR, .int 0, .ref x1, .ref x2, .ref x3, .int 0, .ref mH, .int 0, .int 0, .int 0, .int 0, .int (-1), .int (-1), .int 0, .ref mY, .int 0, .ref mE, .int 0, .int (-1), .ref mW, .int 0, .ref mO, .int 0, .ref y1, .ref y2, .ref y3, .ref y4, .ref mZ]))] H := hP
  have hD : va_D A [(oM, .inr (12, [.ref mT, .int 0, .ref mS, .ref mX, .int 0, .int 0, .ref mL, .ref mB, .ref mD, .ref m1, .ref m2, .int 0, .ref mR, .int 0, .ref x1, .ref x2, .ref x3, .int 0, .ref mH, .int 0, .int 0, .int 0, .int 0, .int (-1), .int (-1), .int 0, .ref mY, .int 0, .ref mE, .int 0, .int (-1), .ref mW, .int 0, .ref mO, .int 0, .ref y1, .ref y2, .ref y3, .ref y4, .ref mZ]))] := hD
  subst hw
  refine lv_if_ne (tgt := 19) hx hb dX12_undoes_14 (by decide) (fun c_2 => ?_) (fun c_2 => absurd c_2 (by decide))
  refine lv_aload_n hx hb dX12_undoes_19 rfl (lv_at hl 0 rfl) ?_
  refine va_get (D := (dC, dI)) (ci := 12) (v := .int 0) (C := RX12) (T := TX12) (N := 40) hx hb hts in_X12 hown hK hP 0 rfl rfl 29 (by decide) (hts (.fieldLink RX12 119 "TextMenderModel" "cameMany" "I") (List.mem_of_getElem? (i := 3) rfl)) (fun _ h9 => h9) rfl dX12_undoes_20 ?_
  refine lv_istore_n (lv' := [(3, .int 0), (0, .ref oM), (1, .int a), (2, .int b)]) hx hb dX12_undoes_23 rfl hl (by decide) rfl (fun ls hl => ?_)
  refine lv_iconst (v := 0) hx hb dX12_undoes_24 (by decide) ?_
  refine lv_istore (lv' := [(4, .int 0), (3, .int 0), (0, .ref oM), (1, .int a), (2, .int b)]) hx hb dX12_undoes_25 hl (by decide) rfl (fun ls hl => ?_)
  refine lv_iload hx hb dX12_undoes_27 (lv_at hl 0 rfl) ?_
  refine lv_iload_n hx hb dX12_undoes_29 rfl (lv_at hl 1 rfl) ?_
  refine lv_icmp_ge (tgt := 53) hx hb dX12_undoes_30 (by decide) (fun c_3 => ?_) (fun c_3 => absurd (by decide) c_3)
  refine lv_aload_n hx hb dX12_undoes_53 rfl (lv_at hl 2 rfl) ?_
  refine lv_iload_n hx hb dX12_undoes_54 rfl (lv_at hl 3 rfl) ?_
  refine lv_iload_n hx hb dX12_undoes_55 rfl (lv_at hl 4 rfl) ?_
  refine lv_aload_n hx hb dX12_undoes_56 rfl (lv_at hl 2 rfl) ?_
  refine va_get (D := (dC, dI)) (ci := 12) (v := .ref mO) (C := RX12) (T := TX12) (N := 40) hx hb hts in_X12 hown hK hP 0 rfl rfl 33 (by decide) (hts (.fieldLink RX12 67 "TextMenderModel" "other" "[I") (List.mem_of_getElem? (i := 4) rfl)) (fun _ h9 => h9) rfl dX12_undoes_57 ?_
  refine lv_iload_n hx hb dX12_undoes_60 rfl (lv_at hl 1 rfl) ?_
  have hPc := hP.sub (ws' := [(oM, .inr (12, [.ref mT, .int 0, .ref mS, .ref mX, .int 0, .int 0, .ref mL, .ref mB, .ref mD, .ref m1, .ref m2, .int 0, .ref mR, .int 0, .ref x1, .ref x2, .ref x3, .int 0, .ref mH, .int 0, .int 0, .int 0, .int 0, .int (-1), .int (-1), .int 0, .ref mY, .int 0, .ref mE, .int 0, .int (-1), .ref mW, .int 0, .ref mO, .int 0, .ref y1, .ref y2, .ref y3, .ref y4, .ref mZ]))]) [0] rfl
  have hDc := hD.sub (ws' := [(oM, .inr (12, [.ref mT, .int 0, .ref mS, .ref mX, .int 0, .int 0, .ref mL, .ref mB, .ref mD, .ref m1, .ref m2, .int 0, .ref mR, .int 0, .ref x1, .ref x2, .ref x3, .int 0, .ref mH, .int 0, .int 0, .int 0, .int 0, .int (-1), .int (-1), .int 0, .ref mY, .int 0, .ref mE, .int 0, .int (-1), .ref mW, .int 0, .ref mO, .int 0, .ref y1, .ref y2, .ref y3, .ref y4, .ref mZ]))]) [0] (by decide) rfl
  have hFc := va_free (wc := [(oM, .inr (12, [.ref mT, .int 0, .ref mS, .ref mX, .int 0, .int 0, .ref mL, .ref mB, .ref mD, .ref m1, .ref m2, .int 0, .ref mR, .int 0, .ref x1, .ref x2, .ref x3, .int 0, .ref mH, .int 0, .int 0, .int 0, .int 0, .int (-1), .int (-1), .int 0, .ref mY, .int 0, .ref mE, .int 0, .int (-1), .ref mW, .int 0, .ref mO, .int 0, .ref y1, .ref y2, .ref y3, .ref y4, .ref mZ]))]) hD hS hA [0] rfl
  refine va_calli (va_runV (As := [.int a, .int b, .ref mO, .int 0]) (rest := []) ⟨hx, hb, hml, hown, hts⟩ (m_X12_does l dC dI cI cS H.size oM mT mS mX mL mB mD m1 m2 mR x1 x2 x3 mH mY mE mW mO y1 y2 y3 y4 mZ mO (-1) a b ) (cwV 4 hts gX12_undoes_X12_does rfl rfl rfl (by decide +kernel) ⟨Nat.le_of_ble_eq_true rfl, Nat.le_of_ble_eq_true rfl⟩) ⟨fun a U g mk q => by obtain ⟨q0, q1, qP, qK, qD⟩ := q; exact ⟨q0, q1, qP, va_K.moved (u := U) (U := U.calling g mk a) (Vm.Alike.refl U.vm) qK, qD⟩, va_recv hK hPc (ci := 12) (q0 := 0) rfl rfl, fun U hU hW => ⟨rfl, by rw [hU], by rw [hU]; exact hPc, va_K.moved hW.alike hK, hDc.weaken (fun _ _ _ _ => trivial)⟩⟩ rfl rfl hl.1 rfl (lv_room (Nat.le_of_ble_eq_true rfl)) dX12_undoes_61 ⟨Nat.le_of_ble_eq_true rfl, Nat.le_of_ble_eq_true rfl⟩) hS (fun q _ h => hFc q h) hFc (fun r_4 u t H1 locs ht hvm hw hB hz1 hk1 hS => ?_)
  obtain ⟨hP1, hD1⟩ := hB
  rw [ht] at hP1
  obtain ⟨hP, hD⟩ := va_join (wr := []) (w1 := [(oM, .inr (12, [.ref mT, .int 0, .ref mS, .ref mX, .int 0, .int 0, .ref mL, .ref mB, .ref mD, .ref m1, .ref m2, .int 0, .ref mR, .int 0, .ref x1, .ref x2, .ref x3, .int 0, .ref mH, .int 0, .int 0, .int 0, .int 0, .int (-1), .int (-1), .int 0, .ref mY, .int 0, .ref mE, .int 0, .int (-1), .ref mW, .int 0, .ref mO, .int 0, .ref y1, .ref y2, .ref y3, .ref y4, .ref mZ]))]) hP hD [0] [] rfl rfl (by decide) (by decide) hk1 hFc hP1 hD1
  generalize H1 = H at hP hS ⊢
  have hP : va_P (dC, dI) vwCl [(oM, .inr (12, [.ref mT, .int 0, .ref mS, .ref mX, .int 0, .int 0, .ref mL, .ref mB, .ref mD, .ref m1, .ref m2, .int 0, .ref mR, .int 0, .ref x1, .ref x2, .ref x3, .int 0, .ref mH, .int 0, .int 0, .int 0, .int 0, .int (-1), .int (-1), .int 0, .ref mY, .int 0, .ref mE, .int 0, .int (-1), .ref mW, .int 0, .ref mO, .int 0, .ref y1, .ref y2, .ref y3, .ref y4, .ref mZ]))] H := hP
  have hD : va_D A [(oM, .inr (12, [.ref mT, .int 0, .ref mS, .ref mX, .int 0, .int 0, .ref mL, .ref mB, .ref mD, .ref m1, .ref m2, .int 0, .ref mR, .int 0, .ref x1, .ref x2, .ref x3, .int 0, .ref mH, .int 0, .int 0, .int 0, .int 0, .int (-1), .int (-1), .int 0, .ref mY, .int 0, .ref mE, .int 0, .int (-1), .ref mW, .int 0, .ref mO, .int 0, .ref y1, .ref y2, .ref y3, .ref y4, .ref mZ]))] := hD
  subst hw
  refine lv_if_eq (tgt := 82) hx hb dX12_undoes_64 (by decide) (fun c_5 => absurd c_5 (by decide)) (fun c_5 => ?_)
  refine lv_aload_n hx hb dX12_undoes_67 rfl (lv_at hl 2 rfl) ?_
  refine va_get (D := (dC, dI)) (ci := 12) (v := .int 0) (C := RX12) (T := TX12) (N := 40) hx hb hts in_X12 hown hK hP 0 rfl rfl 29 (by decide) (hts (.fieldLink RX12 119 "TextMenderModel" "cameMany" "I") (List.mem_of_getElem? (i := 3) rfl)) (fun _ h9 => h9) rfl dX12_undoes_68 ?_
  refine lv_aload_n hx hb dX12_undoes_71 rfl (lv_at hl 2 rfl) ?_
  refine va_get (D := (dC, dI)) (ci := 12) (v := .int 0) (C := RX12) (T := TX12) (N := 40) hx hb hts in_X12 hown hK hP 0 rfl rfl 32 (by decide) (hts (.fieldLink RX12 135 "TextMenderModel" "workMany" "I") (List.mem_of_getElem? (i := 2) rfl)) (fun _ h9 => h9) rfl dX12_undoes_72 ?_
  refine lv_icmp_ne (tgt := 82) hx hb dX12_undoes_75 (by decide) (fun c_6 => absurd (by decide) c_6) (fun c_6 => ?_)
  refine lv_iconst (v := 1) hx hb dX12_undoes_78 (by decide) ?_
  refine lv_goto (tgt := 83) hx hb dX12_undoes_79 (by decide) ?_
  refine lv_istore (lv' := [(4, .int 1), (3, .int 0), (0, .ref oM), (1, .int a), (2, .int b)]) hx hb dX12_undoes_83 hl (by decide) rfl (fun ls hl => ?_)
  refine lv_iconst (v := 0) hx hb dX12_undoes_85 (by decide) ?_
  refine lv_istore (lv' := [(5, .int 0), (4, .int 1), (3, .int 0), (0, .ref oM), (1, .int a), (2, .int b)]) hx hb dX12_undoes_86 hl (by decide) rfl (fun ls hl => ?_)
  refine lv_iload hx hb dX12_undoes_88 (lv_at hl 1 rfl) ?_
  refine lv_if_eq (tgt := 132) hx hb dX12_undoes_90 (by decide) (fun c_7 => absurd c_7 (by decide)) (fun c_7 => ?_)
  refine lv_iload hx hb dX12_undoes_93 (lv_at hl 0 rfl) ?_
  refine lv_aload_n hx hb dX12_undoes_95 rfl (lv_at hl 3 rfl) ?_
  refine va_get (D := (dC, dI)) (ci := 12) (v := .int 0) (C := RX12) (T := TX12) (N := 40) hx hb hts in_X12 hown hK hP 0 rfl rfl 32 (by decide) (hts (.fieldLink RX12 135 "TextMenderModel" "workMany" "I") (List.mem_of_getElem? (i := 2) rfl)) (fun _ h9 => h9) rfl dX12_undoes_96 ?_
  refine lv_icmp_ge (tgt := 132) hx hb dX12_undoes_99 (by decide) (fun c_8 => ?_) (fun c_8 => absurd (by decide) c_8)
  refine lv_aload_n hx hb dX12_undoes_132 rfl (lv_at hl 3 rfl) ?_
  refine lv_iconst (v := (-1)) hx hb dX12_undoes_133 (by decide) ?_
  refine va_put (D := (dC, dI)) (ci := 12) (v := .int (-1)) (ty := .int) (C := RX12) (T := TX12) (N := 40) hx hb hts in_X12 tyX12 tyX12_ok nmX12 hown hK hP hD hS 0 rfl rfl 30 (by decide) (hts (.fieldLink RX12 102 "TextMenderModel" "faultAt" "I") (List.mem_of_getElem? (i := 6) rfl)) (fun _ h9 => h9) rfl (by decide +kernel) rfl rfl (Nat.le_of_ble_eq_true rfl) dX12_undoes_134 (fun H locs hP hD hS => ?_)
  have hP : va_P (dC, dI) vwCl [(oM, .inr (12, [.ref mT, .int 0, .ref mS, .ref mX, .int 0, .int 0, .ref mL, .ref mB, .ref mD, .ref m1, .ref m2, .int 0, .ref mR, .int 0, .ref x1, .ref x2, .ref x3, .int 0, .ref mH, .int 0, .int 0, .int 0, .int 0, .int (-1), .int (-1), .int 0, .ref mY, .int 0, .ref mE, .int 0, .int (-1), .ref mW, .int 0, .ref mO, .int 0, .ref y1, .ref y2, .ref y3, .ref y4, .ref mZ]))] H := hP
  have hD : va_D A [(oM, .inr (12, [.ref mT, .int 0, .ref mS, .ref mX, .int 0, .int 0, .ref mL, .ref mB, .ref mD, .ref m1, .ref m2, .int 0, .ref mR, .int 0, .ref x1, .ref x2, .ref x3, .int 0, .ref mH, .int 0, .int 0, .int 0, .int 0, .int (-1), .int (-1), .int 0, .ref mY, .int 0, .ref mE, .int 0, .int (-1), .ref mW, .int 0, .ref mO, .int 0, .ref y1, .ref y2, .ref y3, .ref y4, .ref mZ]))] := hD
  refine lv_iload hx hb dX12_undoes_137 (lv_at hl 1 rfl) ?_
  refine lv_if_ne (tgt := 144) hx hb dX12_undoes_139 (by decide) (fun c_9 => ?_) (fun c_9 => absurd c_9 (by decide))
  refine lv_iconst (v := 0) hx hb dX12_undoes_144 (by decide) ?_
  refine lv_istore (lv' := [(5, .int 0), (4, .int 1), (3, .int 0), (0, .ref oM), (1, .int a), (2, .int b)]) hx hb dX12_undoes_145 hl (by decide) rfl (fun ls hl => ?_)
  refine lv_iload hx hb dX12_undoes_147 (lv_at hl 0 rfl) ?_
  refine lv_iload_n hx hb dX12_undoes_149 rfl (lv_at hl 2 rfl) ?_
  refine lv_icmp_ge (tgt := 173) hx hb dX12_undoes_150 (by decide) (fun c_10 => ?_) (fun c_10 => absurd (by decide) c_10)
  refine lv_aload_n hx hb dX12_undoes_173 rfl (lv_at hl 3 rfl) ?_
  refine lv_iload_n hx hb dX12_undoes_174 rfl (lv_at hl 2 rfl) ?_
  refine va_put (D := (dC, dI)) (ci := 12) (v := .int 0) (ty := .int) (C := RX12) (T := TX12) (N := 40) hx hb hts in_X12 tyX12 tyX12_ok nmX12 hown hK hP hD hS 0 rfl rfl 32 (by decide) (hts (.fieldLink RX12 135 "TextMenderModel" "workMany" "I") (List.mem_of_getElem? (i := 2) rfl)) (fun _ h9 => h9) rfl (by decide +kernel) rfl rfl (Nat.le_of_ble_eq_true rfl) dX12_undoes_175 (fun H locs hP hD hS => ?_)
  have hP : va_P (dC, dI) vwCl [(oM, .inr (12, [.ref mT, .int 0, .ref mS, .ref mX, .int 0, .int 0, .ref mL, .ref mB, .ref mD, .ref m1, .ref m2, .int 0, .ref mR, .int 0, .ref x1, .ref x2, .ref x3, .int 0, .ref mH, .int 0, .int 0, .int 0, .int 0, .int (-1), .int (-1), .int 0, .ref mY, .int 0, .ref mE, .int 0, .int (-1), .ref mW, .int 0, .ref mO, .int 0, .ref y1, .ref y2, .ref y3, .ref y4, .ref mZ]))] H := hP
  have hD : va_D A [(oM, .inr (12, [.ref mT, .int 0, .ref mS, .ref mX, .int 0, .int 0, .ref mL, .ref mB, .ref mD, .ref m1, .ref m2, .int 0, .ref mR, .int 0, .ref x1, .ref x2, .ref x3, .int 0, .ref mH, .int 0, .int 0, .int 0, .int 0, .int (-1), .int (-1), .int 0, .ref mY, .int 0, .ref mE, .int 0, .int (-1), .ref mW, .int 0, .ref mO, .int 0, .ref y1, .ref y2, .ref y3, .ref y4, .ref mZ]))] := hD
  refine lv_iconst (v := 1) hx hb dX12_undoes_178 (by decide) ?_
  have hP9 := hP.sub (ws' := [(oM, .inr (12, [.ref mT, .int 0, .ref mS, .ref mX, .int 0, .int 0, .ref mL, .ref mB, .ref mD, .ref m1, .ref m2, .int 0, .ref mR, .int 0, .ref x1, .ref x2, .ref x3, .int 0, .ref mH, .int 0, .int 0, .int 0, .int 0, .int (-1), .int (-1), .int 0, .ref mY, .int 0, .ref mE, .int 0, .int (-1), .ref mW, .int 0, .ref mO, .int 0, .ref y1, .ref y2, .ref y3, .ref y4, .ref mZ]))]) [0] rfl
  have hD9 := hD.sub (ws' := [(oM, .inr (12, [.ref mT, .int 0, .ref mS, .ref mX, .int 0, .int 0, .ref mL, .ref mB, .ref mD, .ref m1, .ref m2, .int 0, .ref mR, .int 0, .ref x1, .ref x2, .ref x3, .int 0, .ref mH, .int 0, .int 0, .int 0, .int 0, .int (-1), .int (-1), .int 0, .ref mY, .int 0, .ref mE, .int 0, .int (-1), .ref mW, .int 0, .ref mO, .int 0, .ref y1, .ref y2, .ref y3, .ref y4, .ref mZ]))]) [0] (by decide) rfl
  exact W.zret (v := 1) (ty := .boolean) hx hb hr (rfl) (fun t ht hW => ⟨⟨1, (), rfl, rfl, by rw [ht]; exact hP9, hD9⟩, hS.F ht⟩) (hS.2.2) dX12_undoes_179

set_option maxHeartbeats 4000000 in
set_option maxRecDepth 100000 in
theorem m_X12_marksOf (l : Launch) (dC : Nat → ClassId) (dI : Nat → Nat → Nat) (cI cS : ClassId) (sz : Nat) (oM : Nat) (mT : Nat) (mS : Nat) (mX : Nat) (mL : Nat) (mB : Nat) (mD : Nat) (m1 : Nat) (m2 : Nat) (mR : Nat) (x1 : Nat) (x2 : Nat) (x3 : Nat) (mH : Nat) (mY : Nat) (mE : Nat) (mW : Nat) (mO : Nat) (y1 : Nat) (y2 : Nat) (y3 : Nat) (y4 : Nat) (mZ : Nat)  : Met l yX12_marksOf wsX12_marksOf ({ frames := 0, cells := 0, slots := 0, locals := 0 } : Room) (va_Pc [.ref oM] (fun U => U.heap.size = sz ∧ va_P (dC, dI) vwCl [(oM, .inr (12, [.ref mT, .int 0, .ref mS, .ref mX, .int 0, .int 0, .ref mL, .ref mB, .ref mD, .ref m1, .ref m2, .int 0, .ref mR, .int 0, .ref x1, .ref x2, .ref x3, .int 0, .ref mH, .int 0, .int 0, .int 0, .int 0, .int (-1), .int (-1), .int 0, .ref mY, .int 0, .ref mE, .int 0, .int 0, .ref mW, .int 0, .ref mO, .int 0, .ref y1, .ref y2, .ref y3, .ref y4, .ref mZ])), (mS, .inl (cI, 21, .inl (fun _ => 0)))] U.heap ∧ va_K (dC, dI) vwCl [(cI, .int), (cS, .short)] U ∧ va_D (fun _ => True) [(oM, .inr (12, [.ref mT, .int 0, .ref mS, .ref mX, .int 0, .int 0, .ref mL, .ref mB, .ref mD, .ref m1, .ref m2, .int 0, .ref mR, .int 0, .ref x1, .ref x2, .ref x3, .int 0, .ref mH, .int 0, .int 0, .int 0, .int 0, .int (-1), .int (-1), .int 0, .ref mY, .int 0, .ref mE, .int 0, .int 0, .ref mW, .int 0, .ref mO, .int 0, .ref y1, .ref y2, .ref y3, .ref y4, .ref mZ])), (mS, .inl (cI, 21, .inl (fun _ => 0)))])) (va_Qi (fun (r : Int32) (_ : Unit) => r = 0) (fun _ t => va_P (dC, dI) vwCl [(oM, .inr (12, [.ref mT, .int 0, .ref mS, .ref mX, .int 0, .int 0, .ref mL, .ref mB, .ref mD, .ref m1, .ref m2, .int 0, .ref mR, .int 0, .ref x1, .ref x2, .ref x3, .int 0, .ref mH, .int 0, .int 0, .int 0, .int 0, .int (-1), .int (-1), .int 0, .ref mY, .int 0, .ref mE, .int 0, .int 0, .ref mW, .int 0, .ref mO, .int 0, .ref y1, .ref y2, .ref y3, .ref y4, .ref mZ])), (mS, .inl (cI, 21, .inl (fun _ => 0)))] t.heap ∧ va_D (va_A [(oM, .inr (12, [.ref mT, .int 0, .ref mS, .ref mX, .int 0, .int 0, .ref mL, .ref mB, .ref mD, .ref m1, .ref m2, .int 0, .ref mR, .int 0, .ref x1, .ref x2, .ref x3, .int 0, .ref mH, .int 0, .int 0, .int 0, .int 0, .int (-1), .int (-1), .int 0, .ref mY, .int 0, .ref mE, .int 0, .int 0, .ref mW, .int 0, .ref mO, .int 0, .ref y1, .ref y2, .ref y3, .ref y4, .ref mZ])), (mS, .inl (cI, 21, .inl (fun _ => 0)))] sz) [(oM, .inr (12, [.ref mT, .int 0, .ref mS, .ref mX, .int 0, .int 0, .ref mL, .ref mB, .ref mD, .ref m1, .ref m2, .int 0, .ref mR, .int 0, .ref x1, .ref x2, .ref x3, .int 0, .ref mH, .int 0, .int 0, .int 0, .int 0, .int (-1), .int (-1), .int 0, .ref mY, .int 0, .ref mE, .int 0, .int 0, .ref mW, .int 0, .ref mO, .int 0, .ref y1, .ref y2, .ref y3, .ref y4, .ref mZ])), (mS, .inl (cI, 21, .inl (fun _ => 0)))]) (va_A [(oM, .inr (12, [.ref mT, .int 0, .ref mS, .ref mX, .int 0, .int 0, .ref mL, .ref mB, .ref mD, .ref m1, .ref m2, .int 0, .ref mR, .int 0, .ref x1, .ref x2, .ref x3, .int 0, .ref mH, .int 0, .int 0, .int 0, .int 0, .int (-1), .int (-1), .int 0, .ref mY, .int 0, .ref mE, .int 0, .int 0, .ref mW, .int 0, .ref mO, .int 0, .ref y1, .ref y2, .ref y3, .ref y4, .ref mZ])), (mS, .inl (cI, 21, .inl (fun _ => 0)))] sz)) 0 0 (va_A [(oM, .inr (12, [.ref mT, .int 0, .ref mS, .ref mX, .int 0, .int 0, .ref mL, .ref mB, .ref mD, .ref m1, .ref m2, .int 0, .ref mR, .int 0, .ref x1, .ref x2, .ref x3, .int 0, .ref mH, .int 0, .int 0, .int 0, .int 0, .int (-1), .int (-1), .int 0, .ref mY, .int 0, .ref mE, .int 0, .int 0, .ref mW, .int 0, .ref mO, .int 0, .ref y1, .ref y2, .ref y3, .ref y4, .ref mZ])), (mS, .inl (cI, 21, .inl (fun _ => 0)))] sz) := by
  refine Met.ofW (cc := cX12_marksOf) (maxL := 3) (ret := (some .int)) (by decide) rfl ?_
  intro p e s m args below meth c s₁ B hml hv
  obtain ⟨rfl, hsz, hP, hK, hD0⟩ := hv
  have hx := B.exec
  have hb := B.bytes
  have hr := B.returns
  have hts := atoms_spec (ws := wsX12_marksOf) B.pre
  have hown : s.vm.findClass RX12 = some m.cls := findClass_of_methodNamed B.named
  have hlocks := B.notSynchronized
  have in_X12 : ∀ w ∈ wsX120, w ∈ wsX12_marksOf := fun _ h => List.mem_cons_of_mem _ (List.mem_append_right _ (h))
  subst hsz
  have hD := hD0.self (sz := s.heap.size)
  generalize hAe : va_A [(oM, .inr (12, [.ref mT, .int 0, .ref mS, .ref mX, .int 0, .int 0, .ref mL, .ref mB, .ref mD, .ref m1, .ref m2, .int 0, .ref mR, .int 0, .ref x1, .ref x2, .ref x3, .int 0, .ref mH, .int 0, .int 0, .int 0, .int 0, .int (-1), .int (-1), .int 0, .ref mY, .int 0, .ref mE, .int 0, .int 0, .ref mW, .int 0, .ref mO, .int 0, .ref y1, .ref y2, .ref y3, .ref y4, .ref mZ])), (mS, .inl (cI, 21, .inl (fun _ => 0)))] s.heap.size = A at hD ⊢
  have hA : ∀ q : Nat, s.heap.size ≤ q → A q := fun q h => by rw [← hAe]; exact Or.inr h
  have hS : va_S A s.heap s.heap [] := va_S.rf
  have hP : va_P (dC, dI) vwCl [(oM, .inr (12, [.ref mT, .int 0, .ref mS, .ref mX, .int 0, .int 0, .ref mL, .ref mB, .ref mD, .ref m1, .ref m2, .int 0, .ref mR, .int 0, .ref x1, .ref x2, .ref x3, .int 0, .ref mH, .int 0, .int 0, .int 0, .int 0, .int (-1), .int (-1), .int 0, .ref mY, .int 0, .ref mE, .int 0, .int 0, .ref mW, .int 0, .ref mO, .int 0, .ref y1, .ref y2, .ref y3, .ref y4, .ref mZ])), (mS, .inl (cI, 21, .inl (fun _ => 0)))] s.heap := hP
  have hl := lv_entry ([.ref oM]) (n := 3) (Nat.le_of_ble_eq_true rfl)
  rw [lg_entry_eq]
  generalize (lg_sl ([.ref oM]) ++ List.replicate (3 - (lg_sl ([.ref oM])).length) Slot.unset).toArray = ls at hl ⊢
  have hl : lv_has ls 3 [(0, .ref oM)] := hl
  refine lv_iconst (v := 0) hx hb dX12_marksOf_0 (by decide) ?_
  refine lv_istore_n (lv' := [(1, .int 0), (0, .ref oM)]) hx hb dX12_marksOf_1 rfl hl (by decide) rfl (fun ls hl => ?_)
  refine lv_iconst (v := 0) hx hb dX12_marksOf_2 (by decide) ?_
  refine lv_istore_n (lv' := [(2, .int 0), (1, .int 0), (0, .ref oM)]) hx hb dX12_marksOf_3 rfl hl (by decide) rfl (fun ls hl => ?_)
  refine lv_iload_n hx hb dX12_marksOf_4 rfl (lv_at hl 0 rfl) ?_
  refine lv_aload_n hx hb dX12_marksOf_5 rfl (lv_at hl 2 rfl) ?_
  refine va_get (D := (dC, dI)) (ci := 12) (v := .ref mS) (C := RX12) (T := TX12) (N := 40) hx hb hts in_X12 hown hK hP 0 rfl rfl 2 (by decide) (hts (.fieldLink RX12 13 "TextMenderModel" "sizes" "[I") (List.mem_of_getElem? (i := 1) rfl)) (fun _ h9 => h9) rfl dX12_marksOf_6 ?_
  refine lv_iconst (v := 0) hx hb dX12_marksOf_9 (by decide) ?_
  refine va_iald hx hb hK hP 1 0 rfl rfl (by unfold vp_in; decide) dX12_marksOf_10 ?_
  refine k_i (y := 0) (by first | rfl | decide) ?_
  refine lv_icmp_ge (tgt := 34) hx hb dX12_marksOf_11 (by decide) (fun c_1 => ?_) (fun c_1 => absurd (by decide) c_1)
  refine lv_iload_n hx hb dX12_marksOf_34 rfl (lv_at hl 1 rfl) ?_
  have hP9 := hP.sub (ws' := [(oM, .inr (12, [.ref mT, .int 0, .ref mS, .ref mX, .int 0, .int 0, .ref mL, .ref mB, .ref mD, .ref m1, .ref m2, .int 0, .ref mR, .int 0, .ref x1, .ref x2, .ref x3, .int 0, .ref mH, .int 0, .int 0, .int 0, .int 0, .int (-1), .int (-1), .int 0, .ref mY, .int 0, .ref mE, .int 0, .int 0, .ref mW, .int 0, .ref mO, .int 0, .ref y1, .ref y2, .ref y3, .ref y4, .ref mZ])), (mS, .inl (cI, 21, .inl (fun _ => 0)))]) [0, 1] rfl
  have hD9 := hD.sub (ws' := [(oM, .inr (12, [.ref mT, .int 0, .ref mS, .ref mX, .int 0, .int 0, .ref mL, .ref mB, .ref mD, .ref m1, .ref m2, .int 0, .ref mR, .int 0, .ref x1, .ref x2, .ref x3, .int 0, .ref mH, .int 0, .int 0, .int 0, .int 0, .int (-1), .int (-1), .int 0, .ref mY, .int 0, .ref mE, .int 0, .int 0, .ref mW, .int 0, .ref mO, .int 0, .ref y1, .ref y2, .ref y3, .ref y4, .ref mZ])), (mS, .inl (cI, 21, .inl (fun _ => 0)))]) [0, 1] (by decide) rfl
  exact W.iret (v := 0) hx hb hr (fun t ht hW => ⟨⟨0, (), rfl, rfl, by rw [ht]; exact hP9, hD9⟩, hS.F ht⟩) (hS.2.2) dX12_marksOf_35

set_option maxHeartbeats 4000000 in
set_option maxRecDepth 100000 in
theorem m_X12_sortOf (l : Launch) (dC : Nat → ClassId) (dI : Nat → Nat → Nat) (cI cS : ClassId) (sz : Nat)   : Met l yX12_sortOf wsX12_sortOf ({ frames := 0, cells := 0, slots := 0, locals := 0 } : Room) (va_Pc [.int 32] (fun U => U.heap.size = sz ∧ va_P (dC, dI) vwCl [] U.heap ∧ va_K (dC, dI) vwCl [(cI, .int), (cS, .short)] U ∧ va_D (fun _ => True) [])) (va_Qi (fun (r : Int32) (_ : Unit) => r = 4) (fun _ t => va_P (dC, dI) vwCl [] t.heap ∧ va_D (va_A [] sz) []) (va_A [] sz)) 0 0 (va_A [] sz) := by
  refine Met.ofW (cc := cX12_sortOf) (maxL := 1) (ret := (some .int)) (by decide) rfl ?_
  intro p e s m args below meth c s₁ B hml hv
  obtain ⟨rfl, hsz, hP, hK, hD0⟩ := hv
  have hx := B.exec
  have hb := B.bytes
  have hr := B.returns
  have hts := atoms_spec (ws := wsX12_sortOf) B.pre
  have hown : s.vm.findClass RX12 = some m.cls := findClass_of_methodNamed B.named
  have hlocks := B.notSynchronized
  subst hsz
  have hD := hD0.self (sz := s.heap.size)
  generalize hAe : va_A [] s.heap.size = A at hD ⊢
  have hA : ∀ q : Nat, s.heap.size ≤ q → A q := fun q h => by rw [← hAe]; exact Or.inr h
  have hS : va_S A s.heap s.heap [] := va_S.rf
  have hP : va_P (dC, dI) vwCl [] s.heap := hP
  have hl := lv_entry ([.int 32]) (n := 1) (Nat.le_of_ble_eq_true rfl)
  rw [lg_entry_eq]
  generalize (lg_sl ([.int 32]) ++ List.replicate (1 - (lg_sl ([.int 32])).length) Slot.unset).toArray = ls at hl ⊢
  have hl : lv_has ls 1 [(0, .int 32)] := hl
  refine lv_iload_n hx hb dX12_sortOf_0 rfl (lv_at hl 0 rfl) ?_
  refine lv_bipush (v := 97) hx hb dX12_sortOf_1 (by decide) ?_
  refine lv_icmp_lt (tgt := 14) hx hb dX12_sortOf_3 (by decide) (fun c_1 => ?_) (fun c_1 => absurd (by decide) c_1)
  refine lv_iload_n hx hb dX12_sortOf_14 rfl (lv_at hl 0 rfl) ?_
  refine lv_bipush (v := 65) hx hb dX12_sortOf_15 (by decide) ?_
  refine lv_icmp_lt (tgt := 28) hx hb dX12_sortOf_17 (by decide) (fun c_2 => ?_) (fun c_2 => absurd (by decide) c_2)
  refine lv_iload_n hx hb dX12_sortOf_28 rfl (lv_at hl 0 rfl) ?_
  refine lv_bipush (v := 48) hx hb dX12_sortOf_29 (by decide) ?_
  refine lv_icmp_lt (tgt := 42) hx hb dX12_sortOf_31 (by decide) (fun c_3 => ?_) (fun c_3 => absurd (by decide) c_3)
  refine lv_iload_n hx hb dX12_sortOf_42 rfl (lv_at hl 0 rfl) ?_
  refine lv_bipush (v := 32) hx hb dX12_sortOf_43 (by decide) ?_
  refine lv_icmp_ne (tgt := 50) hx hb dX12_sortOf_45 (by decide) (fun c_4 => absurd (by decide) c_4) (fun c_4 => ?_)
  refine lv_iconst (v := 4) hx hb dX12_sortOf_48 (by decide) ?_
  have hP9 := hP.sub (ws' := []) [] rfl
  have hD9 := hD.sub (ws' := []) [] (by decide) rfl
  exact W.iret (v := 4) hx hb hr (fun t ht hW => ⟨⟨4, (), rfl, rfl, by rw [ht]; exact hP9, hD9⟩, hS.F ht⟩) (hS.2.2) dX12_sortOf_49

set_option maxHeartbeats 4000000 in
set_option maxRecDepth 100000 in
theorem m_X12_costOf (l : Launch) (dC : Nat → ClassId) (dI : Nat → Nat → Nat) (cI cS : ClassId) (sz : Nat) (oM : Nat) (mT : Nat) (mS : Nat) (mX : Nat) (mL : Nat) (mB : Nat) (mD : Nat) (m1 : Nat) (m2 : Nat) (mR : Nat) (x1 : Nat) (x2 : Nat) (x3 : Nat) (mH : Nat) (mY : Nat) (mE : Nat) (mW : Nat) (mO : Nat) (y1 : Nat) (y2 : Nat) (y3 : Nat) (y4 : Nat) (mZ : Nat)  : Met l yX12_costOf wsX12_costOf ({ frames := 1, cells := 0, slots := 0, locals := 20 } : Room) (va_Pc [.ref oM, .int 32, .int 32] (fun U => U.heap.size = sz ∧ va_P (dC, dI) vwCl [(oM, .inr (12, [.ref mT, .int 0, .ref mS, .ref mX, .int 0, .int 0, .ref mL, .ref mB, .ref mD, .ref m1, .ref m2, .int 0, .ref mR, .int 0, .ref x1, .ref x2, .ref x3, .int 0, .ref mH, .int 0, .int 0, .int 0, .int 0, .int (-1), .int (-1), .int 0, .ref mY, .int 0, .ref mE, .int 0, .int 0, .ref mW, .int 0, .ref mO, .int 0, .ref y1, .ref y2, .ref y3, .ref y4, .ref mZ]))] U.heap ∧ va_K (dC, dI) vwCl [(cI, .int), (cS, .short)] U ∧ va_D (fun _ => True) [(oM, .inr (12, [.ref mT, .int 0, .ref mS, .ref mX, .int 0, .int 0, .ref mL, .ref mB, .ref mD, .ref m1, .ref m2, .int 0, .ref mR, .int 0, .ref x1, .ref x2, .ref x3, .int 0, .ref mH, .int 0, .int 0, .int 0, .int 0, .int (-1), .int (-1), .int 0, .ref mY, .int 0, .ref mE, .int 0, .int 0, .ref mW, .int 0, .ref mO, .int 0, .ref y1, .ref y2, .ref y3, .ref y4, .ref mZ]))])) (va_Qi (fun (r : Int32) (_ : Unit) => r = 4) (fun _ t => va_P (dC, dI) vwCl [(oM, .inr (12, [.ref mT, .int 0, .ref mS, .ref mX, .int 0, .int 0, .ref mL, .ref mB, .ref mD, .ref m1, .ref m2, .int 0, .ref mR, .int 0, .ref x1, .ref x2, .ref x3, .int 0, .ref mH, .int 0, .int 0, .int 0, .int 0, .int (-1), .int (-1), .int 0, .ref mY, .int 0, .ref mE, .int 0, .int 0, .ref mW, .int 0, .ref mO, .int 0, .ref y1, .ref y2, .ref y3, .ref y4, .ref mZ]))] t.heap ∧ va_D (va_A [(oM, .inr (12, [.ref mT, .int 0, .ref mS, .ref mX, .int 0, .int 0, .ref mL, .ref mB, .ref mD, .ref m1, .ref m2, .int 0, .ref mR, .int 0, .ref x1, .ref x2, .ref x3, .int 0, .ref mH, .int 0, .int 0, .int 0, .int 0, .int (-1), .int (-1), .int 0, .ref mY, .int 0, .ref mE, .int 0, .int 0, .ref mW, .int 0, .ref mO, .int 0, .ref y1, .ref y2, .ref y3, .ref y4, .ref mZ]))] sz) [(oM, .inr (12, [.ref mT, .int 0, .ref mS, .ref mX, .int 0, .int 0, .ref mL, .ref mB, .ref mD, .ref m1, .ref m2, .int 0, .ref mR, .int 0, .ref x1, .ref x2, .ref x3, .int 0, .ref mH, .int 0, .int 0, .int 0, .int 0, .int (-1), .int (-1), .int 0, .ref mY, .int 0, .ref mE, .int 0, .int 0, .ref mW, .int 0, .ref mO, .int 0, .ref y1, .ref y2, .ref y3, .ref y4, .ref mZ]))]) (va_A [(oM, .inr (12, [.ref mT, .int 0, .ref mS, .ref mX, .int 0, .int 0, .ref mL, .ref mB, .ref mD, .ref m1, .ref m2, .int 0, .ref mR, .int 0, .ref x1, .ref x2, .ref x3, .int 0, .ref mH, .int 0, .int 0, .int 0, .int 0, .int (-1), .int (-1), .int 0, .ref mY, .int 0, .ref mE, .int 0, .int 0, .ref mW, .int 0, .ref mO, .int 0, .ref y1, .ref y2, .ref y3, .ref y4, .ref mZ]))] sz)) 0 0 (va_A [(oM, .inr (12, [.ref mT, .int 0, .ref mS, .ref mX, .int 0, .int 0, .ref mL, .ref mB, .ref mD, .ref m1, .ref m2, .int 0, .ref mR, .int 0, .ref x1, .ref x2, .ref x3, .int 0, .ref mH, .int 0, .int 0, .int 0, .int 0, .int (-1), .int (-1), .int 0, .ref mY, .int 0, .ref mE, .int 0, .int 0, .ref mW, .int 0, .ref mO, .int 0, .ref y1, .ref y2, .ref y3, .ref y4, .ref mZ]))] sz) := by
  refine Met.ofW (cc := cX12_costOf) (maxL := 5) (ret := (some .int)) (by decide) rfl ?_
  intro p e s m args below meth c s₁ B hml hv
  obtain ⟨rfl, hsz, hP, hK, hD0⟩ := hv
  have hx := B.exec
  have hb := B.bytes
  have hr := B.returns
  have hts := atoms_spec (ws := wsX12_costOf) B.pre
  have hown : s.vm.findClass RX12 = some m.cls := findClass_of_methodNamed B.named
  have hlocks := B.notSynchronized
  have in_X12 : ∀ w ∈ wsX120, w ∈ wsX12_costOf := fun _ h => List.mem_cons_of_mem _ (List.mem_append_right _ (h))
  subst hsz
  have hD := hD0.self (sz := s.heap.size)
  generalize hAe : va_A [(oM, .inr (12, [.ref mT, .int 0, .ref mS, .ref mX, .int 0, .int 0, .ref mL, .ref mB, .ref mD, .ref m1, .ref m2, .int 0, .ref mR, .int 0, .ref x1, .ref x2, .ref x3, .int 0, .ref mH, .int 0, .int 0, .int 0, .int 0, .int (-1), .int (-1), .int 0, .ref mY, .int 0, .ref mE, .int 0, .int 0, .ref mW, .int 0, .ref mO, .int 0, .ref y1, .ref y2, .ref y3, .ref y4, .ref mZ]))] s.heap.size = A at hD ⊢
  have hA : ∀ q : Nat, s.heap.size ≤ q → A q := fun q h => by rw [← hAe]; exact Or.inr h
  have hS : va_S A s.heap s.heap [] := va_S.rf
  have hP : va_P (dC, dI) vwCl [(oM, .inr (12, [.ref mT, .int 0, .ref mS, .ref mX, .int 0, .int 0, .ref mL, .ref mB, .ref mD, .ref m1, .ref m2, .int 0, .ref mR, .int 0, .ref x1, .ref x2, .ref x3, .int 0, .ref mH, .int 0, .int 0, .int 0, .int 0, .int (-1), .int (-1), .int 0, .ref mY, .int 0, .ref mE, .int 0, .int 0, .ref mW, .int 0, .ref mO, .int 0, .ref y1, .ref y2, .ref y3, .ref y4, .ref mZ]))] s.heap := hP
  have hl := lv_entry ([.ref oM, .int 32, .int 32]) (n := 5) (Nat.le_of_ble_eq_true rfl)
  rw [lg_entry_eq]
  generalize (lg_sl ([.ref oM, .int 32, .int 32]) ++ List.replicate (5 - (lg_sl ([.ref oM, .int 32, .int 32])).length) Slot.unset).toArray = ls at hl ⊢
  have hl : lv_has ls 5 [(0, .ref oM), (1, .int 32), (2, .int 32)] := hl
  refine lv_iconst (v := 0) hx hb dX12_costOf_0 (by decide) ?_
  refine lv_istore_n (lv' := [(3, .int 0), (0, .ref oM), (1, .int 32), (2, .int 32)]) hx hb dX12_costOf_1 rfl hl (by decide) rfl (fun ls hl => ?_)
  refine lv_iload_n hx hb dX12_costOf_2 rfl (lv_at hl 0 rfl) ?_
  refine lv_aload_n hx hb dX12_costOf_3 rfl (lv_at hl 1 rfl) ?_
  refine va_get (D := (dC, dI)) (ci := 12) (v := .int 0) (C := RX12) (T := TX12) (N := 40) hx hb hts in_X12 hown hK hP 0 rfl rfl 17 (by decide) (hts (.fieldLink RX12 168 "TextMenderModel" "costs" "I") (List.mem_of_getElem? (i := 1) rfl)) (fun _ h9 => h9) rfl dX12_costOf_4 ?_
  refine lv_icmp_ge (tgt := 43) hx hb dX12_costOf_7 (by decide) (fun c_1 => ?_) (fun c_1 => absurd (by decide) c_1)
  refine lv_iload_n hx hb dX12_costOf_43 rfl (lv_at hl 2 rfl) ?_
  have hPc := hP.sub (ws' := []) [] rfl
  have hDc := hD.sub (ws' := []) [] (by decide) rfl
  have hFc := va_free (wc := []) hD hS hA [] rfl
  refine va_calli (va_runS (As := [.int 32]) (rest := []) ⟨hx, hb, hml, hown, hts⟩ (m_X12_sortOf l dC dI cI cS s.heap.size  ) (va_cwS 1 hts gX12_costOf_X12_sortOf rfl rfl rfl (by decide +kernel) ⟨Nat.le_of_ble_eq_true rfl, Nat.le_of_ble_eq_true rfl⟩) ⟨fun a U g mk q => by obtain ⟨q0, q1, qP, qK, qD⟩ := q; exact ⟨q0, q1, qP, va_K.moved (u := U) (U := U.calling g mk a) (Vm.Alike.refl U.vm) qK, qD⟩, fun U hU hW => ⟨rfl, by rw [hU], by rw [hU]; exact hPc, va_K.moved hW.alike hK, hDc.weaken (fun _ _ _ _ => trivial)⟩⟩ rfl rfl hl.1 rfl (lv_room (Nat.le_of_ble_eq_true rfl)) dX12_costOf_44 ⟨Nat.le_of_ble_eq_true rfl, Nat.le_of_ble_eq_true rfl⟩) hS (fun q _ h => hFc q h) hFc (fun r_2 u t H1 locs ht hvm hw hB hz1 hk1 hS => ?_)
  obtain ⟨hP1, hD1⟩ := hB
  rw [ht] at hP1
  obtain ⟨hP, hD⟩ := va_join (wr := [(oM, .inr (12, [.ref mT, .int 0, .ref mS, .ref mX, .int 0, .int 0, .ref mL, .ref mB, .ref mD, .ref m1, .ref m2, .int 0, .ref mR, .int 0, .ref x1, .ref x2, .ref x3, .int 0, .ref mH, .int 0, .int 0, .int 0, .int 0, .int (-1), .int (-1), .int 0, .ref mY, .int 0, .ref mE, .int 0, .int 0, .ref mW, .int 0, .ref mO, .int 0, .ref y1, .ref y2, .ref y3, .ref y4, .ref mZ]))]) (w1 := []) hP hD [] [0] rfl rfl (by decide) (by decide) hk1 hFc hP1 hD1
  generalize H1 = H at hP hS ⊢
  have hP : va_P (dC, dI) vwCl [(oM, .inr (12, [.ref mT, .int 0, .ref mS, .ref mX, .int 0, .int 0, .ref mL, .ref mB, .ref mD, .ref m1, .ref m2, .int 0, .ref mR, .int 0, .ref x1, .ref x2, .ref x3, .int 0, .ref mH, .int 0, .int 0, .int 0, .int 0, .int (-1), .int (-1), .int 0, .ref mY, .int 0, .ref mE, .int 0, .int 0, .ref mW, .int 0, .ref mO, .int 0, .ref y1, .ref y2, .ref y3, .ref y4, .ref mZ]))] H := hP
  have hD : va_D A [(oM, .inr (12, [.ref mT, .int 0, .ref mS, .ref mX, .int 0, .int 0, .ref mL, .ref mB, .ref mD, .ref m1, .ref m2, .int 0, .ref mR, .int 0, .ref x1, .ref x2, .ref x3, .int 0, .ref mH, .int 0, .int 0, .int 0, .int 0, .int (-1), .int (-1), .int 0, .ref mY, .int 0, .ref mE, .int 0, .int 0, .ref mW, .int 0, .ref mO, .int 0, .ref y1, .ref y2, .ref y3, .ref y4, .ref mZ]))] := hD
  subst hw
  refine lv_istore_n (lv' := [(3, .int 4), (0, .ref oM), (1, .int 32), (2, .int 32)]) hx hb dX12_costOf_47 rfl hl (by decide) rfl (fun ls hl => ?_)
  refine lv_iload_n hx hb dX12_costOf_48 rfl (lv_at hl 3 rfl) ?_
  have hPc := hP.sub (ws' := []) [] rfl
  have hDc := hD.sub (ws' := []) [] (by decide) rfl
  have hFc := va_free (wc := []) hD hS hA [] rfl
  refine va_calli (va_runS (As := [.int 32]) (rest := []) ⟨hx, hb, hml, hown, hts⟩ (m_X12_sortOf l dC dI cI cS H.size  ) (va_cwS 1 hts gX12_costOf_X12_sortOf rfl rfl rfl (by decide +kernel) ⟨Nat.le_of_ble_eq_true rfl, Nat.le_of_ble_eq_true rfl⟩) ⟨fun a U g mk q => by obtain ⟨q0, q1, qP, qK, qD⟩ := q; exact ⟨q0, q1, qP, va_K.moved (u := U) (U := U.calling g mk a) (Vm.Alike.refl U.vm) qK, qD⟩, fun U hU hW => ⟨rfl, by rw [hU], by rw [hU]; exact hPc, va_K.moved hW.alike hK, hDc.weaken (fun _ _ _ _ => trivial)⟩⟩ rfl rfl hl.1 rfl (lv_room (Nat.le_of_ble_eq_true rfl)) dX12_costOf_49 ⟨Nat.le_of_ble_eq_true rfl, Nat.le_of_ble_eq_true rfl⟩) hS (fun q _ h => hFc q h) hFc (fun r_3 u t H1 locs ht hvm hw hB hz1 hk1 hS => ?_)
  obtain ⟨hP1, hD1⟩ := hB
  rw [ht] at hP1
  obtain ⟨hP, hD⟩ := va_join (wr := [(oM, .inr (12, [.ref mT, .int 0, .ref mS, .ref mX, .int 0, .int 0, .ref mL, .ref mB, .ref mD, .ref m1, .ref m2, .int 0, .ref mR, .int 0, .ref x1, .ref x2, .ref x3, .int 0, .ref mH, .int 0, .int 0, .int 0, .int 0, .int (-1), .int (-1), .int 0, .ref mY, .int 0, .ref mE, .int 0, .int 0, .ref mW, .int 0, .ref mO, .int 0, .ref y1, .ref y2, .ref y3, .ref y4, .ref mZ]))]) (w1 := []) hP hD [] [0] rfl rfl (by decide) (by decide) hk1 hFc hP1 hD1
  generalize H1 = H at hP hS ⊢
  have hP : va_P (dC, dI) vwCl [(oM, .inr (12, [.ref mT, .int 0, .ref mS, .ref mX, .int 0, .int 0, .ref mL, .ref mB, .ref mD, .ref m1, .ref m2, .int 0, .ref mR, .int 0, .ref x1, .ref x2, .ref x3, .int 0, .ref mH, .int 0, .int 0, .int 0, .int 0, .int (-1), .int (-1), .int 0, .ref mY, .int 0, .ref mE, .int 0, .int 0, .ref mW, .int 0, .ref mO, .int 0, .ref y1, .ref y2, .ref y3, .ref y4, .ref mZ]))] H := hP
  have hD : va_D A [(oM, .inr (12, [.ref mT, .int 0, .ref mS, .ref mX, .int 0, .int 0, .ref mL, .ref mB, .ref mD, .ref m1, .ref m2, .int 0, .ref mR, .int 0, .ref x1, .ref x2, .ref x3, .int 0, .ref mH, .int 0, .int 0, .int 0, .int 0, .int (-1), .int (-1), .int 0, .ref mY, .int 0, .ref mE, .int 0, .int 0, .ref mW, .int 0, .ref mO, .int 0, .ref y1, .ref y2, .ref y3, .ref y4, .ref mZ]))] := hD
  subst hw
  refine lv_istore (lv' := [(4, .int 4), (3, .int 4), (0, .ref oM), (1, .int 32), (2, .int 32)]) hx hb dX12_costOf_52 hl (by decide) rfl (fun ls hl => ?_)
  refine lv_iload_n hx hb dX12_costOf_54 rfl (lv_at hl 1 rfl) ?_
  refine lv_iload hx hb dX12_costOf_55 (lv_at hl 0 rfl) ?_
  refine lv_icmp_ne (tgt := 64) hx hb dX12_costOf_57 (by decide) (fun c_4 => absurd (by decide) c_4) (fun c_4 => ?_)
  refine lv_iconst (v := 4) hx hb dX12_costOf_60 (by decide) ?_
  refine lv_goto (tgt := 66) hx hb dX12_costOf_61 (by decide) ?_
  refine lv_iload_n hx hb dX12_costOf_66 rfl (lv_at hl 1 rfl) ?_
  refine lv_if_ne (tgt := 75) hx hb dX12_costOf_67 (by decide) (fun c_5 => ?_) (fun c_5 => absurd c_5 (by decide))
  refine lv_iconst (v := 0) hx hb dX12_costOf_75 (by decide) ?_
  refine lv_iadd hx hb dX12_costOf_76 ?_
  refine k_i (y := 4) (by decide) ?_
  refine lv_iload hx hb dX12_costOf_77 (lv_at hl 0 rfl) ?_
  refine lv_if_ne (tgt := 87) hx hb dX12_costOf_79 (by decide) (fun c_6 => ?_) (fun c_6 => absurd c_6 (by decide))
  refine lv_iconst (v := 0) hx hb dX12_costOf_87 (by decide) ?_
  refine lv_iadd hx hb dX12_costOf_88 ?_
  refine k_i (y := 4) (by decide) ?_
  have hP9 := hP.sub (ws' := [(oM, .inr (12, [.ref mT, .int 0, .ref mS, .ref mX, .int 0, .int 0, .ref mL, .ref mB, .ref mD, .ref m1, .ref m2, .int 0, .ref mR, .int 0, .ref x1, .ref x2, .ref x3, .int 0, .ref mH, .int 0, .int 0, .int 0, .int 0, .int (-1), .int (-1), .int 0, .ref mY, .int 0, .ref mE, .int 0, .int 0, .ref mW, .int 0, .ref mO, .int 0, .ref y1, .ref y2, .ref y3, .ref y4, .ref mZ]))]) [0] rfl
  have hD9 := hD.sub (ws' := [(oM, .inr (12, [.ref mT, .int 0, .ref mS, .ref mX, .int 0, .int 0, .ref mL, .ref mB, .ref mD, .ref m1, .ref m2, .int 0, .ref mR, .int 0, .ref x1, .ref x2, .ref x3, .int 0, .ref mH, .int 0, .int 0, .int 0, .int 0, .int (-1), .int (-1), .int 0, .ref mY, .int 0, .ref mE, .int 0, .int 0, .ref mW, .int 0, .ref mO, .int 0, .ref y1, .ref y2, .ref y3, .ref y4, .ref mZ]))]) [0] (by decide) rfl
  exact W.iret (v := 4) hx hb hr (fun t ht hW => ⟨⟨4, (), rfl, rfl, by rw [ht]; exact hP9, hD9⟩, hS.F ht⟩) (hS.2.2) dX12_costOf_89

set_option maxHeartbeats 4000000 in
set_option maxRecDepth 100000 in
theorem m_X12_costOf_ (l : Launch) (dC : Nat → ClassId) (dI : Nat → Nat → Nat) (cI cS : ClassId) (sz : Nat) (oM : Nat) (mT : Nat) (mS : Nat) (mX : Nat) (mL : Nat) (mB : Nat) (mD : Nat) (m1 : Nat) (m2 : Nat) (mR : Nat) (x1 : Nat) (x2 : Nat) (x3 : Nat) (mH : Nat) (mY : Nat) (mE : Nat) (mW : Nat) (mO : Nat) (y1 : Nat) (y2 : Nat) (y3 : Nat) (y4 : Nat) (mZ : Nat) (row : Nat)  : Met l yX12_costOf_ wsX12_costOf_ ({ frames := 2, cells := 0, slots := 0, locals := 44 } : Room) (va_Pc [.ref oM, .ref row, .int 0, .int 0] (fun U => U.heap.size = sz ∧ va_P (dC, dI) vwCl [(oM, .inr (12, [.ref mT, .int 0, .ref mS, .ref mX, .int 0, .int 0, .ref mL, .ref mB, .ref mD, .ref m1, .ref m2, .int 0, .ref mR, .int 0, .ref x1, .ref x2, .ref x3, .int 0, .ref mH, .int 0, .int 0, .int 0, .int 0, .int (-1), .int (-1), .int 0, .ref mY, .int 0, .ref mE, .int 0, .int 0, .ref mW, .int 0, .ref mO, .int 0, .ref y1, .ref y2, .ref y3, .ref y4, .ref mZ]))] U.heap ∧ va_K (dC, dI) vwCl [(cI, .int), (cS, .short)] U ∧ va_D (fun _ => True) [(oM, .inr (12, [.ref mT, .int 0, .ref mS, .ref mX, .int 0, .int 0, .ref mL, .ref mB, .ref mD, .ref m1, .ref m2, .int 0, .ref mR, .int 0, .ref x1, .ref x2, .ref x3, .int 0, .ref mH, .int 0, .int 0, .int 0, .int 0, .int (-1), .int (-1), .int 0, .ref mY, .int 0, .ref mE, .int 0, .int 0, .ref mW, .int 0, .ref mO, .int 0, .ref y1, .ref y2, .ref y3, .ref y4, .ref mZ]))])) (va_Qi (fun (r : Int32) (_ : Unit) => r = 4) (fun _ t => va_P (dC, dI) vwCl [(oM, .inr (12, [.ref mT, .int 0, .ref mS, .ref mX, .int 0, .int 0, .ref mL, .ref mB, .ref mD, .ref m1, .ref m2, .int 0, .ref mR, .int 0, .ref x1, .ref x2, .ref x3, .int 0, .ref mH, .int 0, .int 0, .int 0, .int 0, .int (-1), .int (-1), .int 0, .ref mY, .int 0, .ref mE, .int 0, .int 0, .ref mW, .int 0, .ref mO, .int 0, .ref y1, .ref y2, .ref y3, .ref y4, .ref mZ]))] t.heap ∧ va_D (va_A [(oM, .inr (12, [.ref mT, .int 0, .ref mS, .ref mX, .int 0, .int 0, .ref mL, .ref mB, .ref mD, .ref m1, .ref m2, .int 0, .ref mR, .int 0, .ref x1, .ref x2, .ref x3, .int 0, .ref mH, .int 0, .int 0, .int 0, .int 0, .int (-1), .int (-1), .int 0, .ref mY, .int 0, .ref mE, .int 0, .int 0, .ref mW, .int 0, .ref mO, .int 0, .ref y1, .ref y2, .ref y3, .ref y4, .ref mZ]))] sz) [(oM, .inr (12, [.ref mT, .int 0, .ref mS, .ref mX, .int 0, .int 0, .ref mL, .ref mB, .ref mD, .ref m1, .ref m2, .int 0, .ref mR, .int 0, .ref x1, .ref x2, .ref x3, .int 0, .ref mH, .int 0, .int 0, .int 0, .int 0, .int (-1), .int (-1), .int 0, .ref mY, .int 0, .ref mE, .int 0, .int 0, .ref mW, .int 0, .ref mO, .int 0, .ref y1, .ref y2, .ref y3, .ref y4, .ref mZ]))]) (va_A [(oM, .inr (12, [.ref mT, .int 0, .ref mS, .ref mX, .int 0, .int 0, .ref mL, .ref mB, .ref mD, .ref m1, .ref m2, .int 0, .ref mR, .int 0, .ref x1, .ref x2, .ref x3, .int 0, .ref mH, .int 0, .int 0, .int 0, .int 0, .int (-1), .int (-1), .int 0, .ref mY, .int 0, .ref mE, .int 0, .int 0, .ref mW, .int 0, .ref mO, .int 0, .ref y1, .ref y2, .ref y3, .ref y4, .ref mZ]))] sz)) 0 0 (va_A [(oM, .inr (12, [.ref mT, .int 0, .ref mS, .ref mX, .int 0, .int 0, .ref mL, .ref mB, .ref mD, .ref m1, .ref m2, .int 0, .ref mR, .int 0, .ref x1, .ref x2, .ref x3, .int 0, .ref mH, .int 0, .int 0, .int 0, .int 0, .int (-1), .int (-1), .int 0, .ref mY, .int 0, .ref mE, .int 0, .int 0, .ref mW, .int 0, .ref mO, .int 0, .ref y1, .ref y2, .ref y3, .ref y4, .ref mZ]))] sz) := by
  refine Met.ofW (cc := cX12_costOf_) (maxL := 7) (ret := (some .int)) (by decide) rfl ?_
  intro p e s m args below meth c s₁ B hml hv
  obtain ⟨rfl, hsz, hP, hK, hD0⟩ := hv
  have hx := B.exec
  have hb := B.bytes
  have hr := B.returns
  have hts := atoms_spec (ws := wsX12_costOf_) B.pre
  have hown : s.vm.findClass RX12 = some m.cls := findClass_of_methodNamed B.named
  have hlocks := B.notSynchronized
  subst hsz
  have hD := hD0.self (sz := s.heap.size)
  generalize hAe : va_A [(oM, .inr (12, [.ref mT, .int 0, .ref mS, .ref mX, .int 0, .int 0, .ref mL, .ref mB, .ref mD, .ref m1, .ref m2, .int 0, .ref mR, .int 0, .ref x1, .ref x2, .ref x3, .int 0, .ref mH, .int 0, .int 0, .int 0, .int 0, .int (-1), .int (-1), .int 0, .ref mY, .int 0, .ref mE, .int 0, .int 0, .ref mW, .int 0, .ref mO, .int 0, .ref y1, .ref y2, .ref y3, .ref y4, .ref mZ]))] s.heap.size = A at hD ⊢
  have hA : ∀ q : Nat, s.heap.size ≤ q → A q := fun q h => by rw [← hAe]; exact Or.inr h
  have hS : va_S A s.heap s.heap [] := va_S.rf
  have hP : va_P (dC, dI) vwCl [(oM, .inr (12, [.ref mT, .int 0, .ref mS, .ref mX, .int 0, .int 0, .ref mL, .ref mB, .ref mD, .ref m1, .ref m2, .int 0, .ref mR, .int 0, .ref x1, .ref x2, .ref x3, .int 0, .ref mH, .int 0, .int 0, .int 0, .int 0, .int (-1), .int (-1), .int 0, .ref mY, .int 0, .ref mE, .int 0, .int 0, .ref mW, .int 0, .ref mO, .int 0, .ref y1, .ref y2, .ref y3, .ref y4, .ref mZ]))] s.heap := hP
  have hl := lv_entry ([.ref oM, .ref row, .int 0, .int 0]) (n := 7) (Nat.le_of_ble_eq_true rfl)
  rw [lg_entry_eq]
  generalize (lg_sl ([.ref oM, .ref row, .int 0, .int 0]) ++ List.replicate (7 - (lg_sl ([.ref oM, .ref row, .int 0, .int 0])).length) Slot.unset).toArray = ls at hl ⊢
  have hl : lv_has ls 7 [(0, .ref oM), (1, .ref row), (2, .int 0), (3, .int 0)] := hl
  refine lv_iconst (v := 0) hx hb dX12_costOf__0 (by decide) ?_
  refine lv_istore (lv' := [(4, .int 0), (0, .ref oM), (1, .ref row), (2, .int 0), (3, .int 0)]) hx hb dX12_costOf__1 hl (by decide) rfl (fun ls hl => ?_)
  refine lv_bipush (v := 32) hx hb dX12_costOf__3 (by decide) ?_
  refine lv_istore (lv' := [(5, .int 32), (4, .int 0), (0, .ref oM), (1, .ref row), (2, .int 0), (3, .int 0)]) hx hb dX12_costOf__5 hl (by decide) rfl (fun ls hl => ?_)
  refine lv_iload_n hx hb dX12_costOf__7 rfl (lv_at hl 4 rfl) ?_
  refine lv_istore (lv' := [(6, .int 0), (5, .int 32), (4, .int 0), (0, .ref oM), (1, .ref row), (2, .int 0), (3, .int 0)]) hx hb dX12_costOf__8 hl (by decide) rfl (fun ls hl => ?_)
  refine lv_iload hx hb dX12_costOf__10 (lv_at hl 0 rfl) ?_
  refine lv_iload_n hx hb dX12_costOf__12 rfl (lv_at hl 6 rfl) ?_
  refine lv_icmp_ge (tgt := 43) hx hb dX12_costOf__13 (by decide) (fun c_1 => ?_) (fun c_1 => absurd (by decide) c_1)
  refine lv_iload hx hb dX12_costOf__43 (lv_at hl 2 rfl) ?_
  refine lv_aload_n hx hb dX12_costOf__45 rfl (lv_at hl 3 rfl) ?_
  refine lv_iload hx hb dX12_costOf__46 (lv_at hl 1 rfl) ?_
  refine lv_bipush (v := 32) hx hb dX12_costOf__48 (by decide) ?_
  have hPc := hP.sub (ws' := [(oM, .inr (12, [.ref mT, .int 0, .ref mS, .ref mX, .int 0, .int 0, .ref mL, .ref mB, .ref mD, .ref m1, .ref m2, .int 0, .ref mR, .int 0, .ref x1, .ref x2, .ref x3, .int 0, .ref mH, .int 0, .int 0, .int 0, .int 0, .int (-1), .int (-1), .int 0, .ref mY, .int 0, .ref mE, .int 0, .int 0, .ref mW, .int 0, .ref mO, .int 0, .ref y1, .ref y2, .ref y3, .ref y4, .ref mZ]))]) [0] rfl
  have hDc := hD.sub (ws' := [(oM, .inr (12, [.ref mT, .int 0, .ref mS, .ref mX, .int 0, .int 0, .ref mL, .ref mB, .ref mD, .ref m1, .ref m2, .int 0, .ref mR, .int 0, .ref x1, .ref x2, .ref x3, .int 0, .ref mH, .int 0, .int 0, .int 0, .int 0, .int (-1), .int (-1), .int 0, .ref mY, .int 0, .ref mE, .int 0, .int 0, .ref mW, .int 0, .ref mO, .int 0, .ref y1, .ref y2, .ref y3, .ref y4, .ref mZ]))]) [0] (by decide) rfl
  have hFc := va_free (wc := [(oM, .inr (12, [.ref mT, .int 0, .ref mS, .ref mX, .int 0, .int 0, .ref mL, .ref mB, .ref mD, .ref m1, .ref m2, .int 0, .ref mR, .int 0, .ref x1, .ref x2, .ref x3, .int 0, .ref mH, .int 0, .int 0, .int 0, .int 0, .int (-1), .int (-1), .int 0, .ref mY, .int 0, .ref mE, .int 0, .int 0, .ref mW, .int 0, .ref mO, .int 0, .ref y1, .ref y2, .ref y3, .ref y4, .ref mZ]))]) hD hS hA [0] rfl
  refine va_calli (va_runV (As := [.int 32, .int 32]) (rest := [.int 0]) ⟨hx, hb, hml, hown, hts⟩ (m_X12_costOf l dC dI cI cS s.heap.size oM mT mS mX mL mB mD m1 m2 mR x1 x2 x3 mH mY mE mW mO y1 y2 y3 y4 mZ ) (cwV 2 hts gX12_costOf__X12_costOf rfl rfl rfl (by decide +kernel) ⟨Nat.le_of_ble_eq_true rfl, Nat.le_of_ble_eq_true rfl⟩) ⟨fun a U g mk q => by obtain ⟨q0, q1, qP, qK, qD⟩ := q; exact ⟨q0, q1, qP, va_K.moved (u := U) (U := U.calling g mk a) (Vm.Alike.refl U.vm) qK, qD⟩, va_recv hK hPc (ci := 12) (q0 := 0) rfl rfl, fun U hU hW => ⟨rfl, by rw [hU], by rw [hU]; exact hPc, va_K.moved hW.alike hK, hDc.weaken (fun _ _ _ _ => trivial)⟩⟩ rfl rfl hl.1 rfl (lv_room (Nat.le_of_ble_eq_true rfl)) dX12_costOf__50 ⟨Nat.le_of_ble_eq_true rfl, Nat.le_of_ble_eq_true rfl⟩) hS (fun q _ h => hFc q h) hFc (fun r_2 u t H1 locs ht hvm hw hB hz1 hk1 hS => ?_)
  obtain ⟨hP1, hD1⟩ := hB
  rw [ht] at hP1
  obtain ⟨hP, hD⟩ := va_join (wr := []) (w1 := [(oM, .inr (12, [.ref mT, .int 0, .ref mS, .ref mX, .int 0, .int 0, .ref mL, .ref mB, .ref mD, .ref m1, .ref m2, .int 0, .ref mR, .int 0, .ref x1, .ref x2, .ref x3, .int 0, .ref mH, .int 0, .int 0, .int 0, .int 0, .int (-1), .int (-1), .int 0, .ref mY, .int 0, .ref mE, .int 0, .int 0, .ref mW, .int 0, .ref mO, .int 0, .ref y1, .ref y2, .ref y3, .ref y4, .ref mZ]))]) hP hD [0] [] rfl rfl (by decide) (by decide) hk1 hFc hP1 hD1
  generalize H1 = H at hP hS ⊢
  have hP : va_P (dC, dI) vwCl [(oM, .inr (12, [.ref mT, .int 0, .ref mS, .ref mX, .int 0, .int 0, .ref mL, .ref mB, .ref mD, .ref m1, .ref m2, .int 0, .ref mR, .int 0, .ref x1, .ref x2, .ref x3, .int 0, .ref mH, .int 0, .int 0, .int 0, .int 0, .int (-1), .int (-1), .int 0, .ref mY, .int 0, .ref mE, .int 0, .int 0, .ref mW, .int 0, .ref mO, .int 0, .ref y1, .ref y2, .ref y3, .ref y4, .ref mZ]))] H := hP
  have hD : va_D A [(oM, .inr (12, [.ref mT, .int 0, .ref mS, .ref mX, .int 0, .int 0, .ref mL, .ref mB, .ref mD, .ref m1, .ref m2, .int 0, .ref mR, .int 0, .ref x1, .ref x2, .ref x3, .int 0, .ref mH, .int 0, .int 0, .int 0, .int 0, .int (-1), .int (-1), .int 0, .ref mY, .int 0, .ref mE, .int 0, .int 0, .ref mW, .int 0, .ref mO, .int 0, .ref y1, .ref y2, .ref y3, .ref y4, .ref mZ]))] := hD
  subst hw
  refine lv_iadd hx hb dX12_costOf__53 ?_
  refine k_i (y := 4) (by decide) ?_
  have hP9 := hP.sub (ws' := [(oM, .inr (12, [.ref mT, .int 0, .ref mS, .ref mX, .int 0, .int 0, .ref mL, .ref mB, .ref mD, .ref m1, .ref m2, .int 0, .ref mR, .int 0, .ref x1, .ref x2, .ref x3, .int 0, .ref mH, .int 0, .int 0, .int 0, .int 0, .int (-1), .int (-1), .int 0, .ref mY, .int 0, .ref mE, .int 0, .int 0, .ref mW, .int 0, .ref mO, .int 0, .ref y1, .ref y2, .ref y3, .ref y4, .ref mZ]))]) [0] rfl
  have hD9 := hD.sub (ws' := [(oM, .inr (12, [.ref mT, .int 0, .ref mS, .ref mX, .int 0, .int 0, .ref mL, .ref mB, .ref mD, .ref m1, .ref m2, .int 0, .ref mR, .int 0, .ref x1, .ref x2, .ref x3, .int 0, .ref mH, .int 0, .int 0, .int 0, .int 0, .int (-1), .int (-1), .int 0, .ref mY, .int 0, .ref mE, .int 0, .int 0, .ref mW, .int 0, .ref mO, .int 0, .ref y1, .ref y2, .ref y3, .ref y4, .ref mZ]))]) [0] (by decide) rfl
  exact W.iret (v := 4) hx hb hr (fun t ht hW => ⟨⟨4, (), rfl, rfl, by rw [ht]; exact hP9, hD9⟩, hS.F ht⟩) (hS.2.2) dX12_costOf__54

set_option maxHeartbeats 4000000 in
set_option maxRecDepth 100000 in
theorem m_X12_isToldChoice (l : Launch) (dC : Nat → ClassId) (dI : Nat → Nat → Nat) (cI cS : ClassId) (sz : Nat) (oM : Nat) (mT : Nat) (mS : Nat) (mX : Nat) (mL : Nat) (mB : Nat) (mD : Nat) (m1 : Nat) (m2 : Nat) (mR : Nat) (x1 : Nat) (x2 : Nat) (x3 : Nat) (mH : Nat) (mY : Nat) (mE : Nat) (mW : Nat) (mO : Nat) (y1 : Nat) (y2 : Nat) (y3 : Nat) (y4 : Nat) (mZ : Nat) (i : Int32)  : Met l yX12_isToldChoice wsX12_isToldChoice ({ frames := 0, cells := 0, slots := 0, locals := 0 } : Room) (va_Pc [.ref oM, .int i] (fun U => U.heap.size = sz ∧ va_P (dC, dI) vwCl [(oM, .inr (12, [.ref mT, .int 0, .ref mS, .ref mX, .int 0, .int 0, .ref mL, .ref mB, .ref mD, .ref m1, .ref m2, .int 0, .ref mR, .int 0, .ref x1, .ref x2, .ref x3, .int 0, .ref mH, .int 0, .int 0, .int 0, .int 0, .int (-1), .int (-1), .int 0, .ref mY, .int 0, .ref mE, .int 0, .int 0, .ref mW, .int 0, .ref mO, .int 0, .ref y1, .ref y2, .ref y3, .ref y4, .ref mZ]))] U.heap ∧ va_K (dC, dI) vwCl [(cI, .int), (cS, .short)] U ∧ va_D (fun _ => True) [(oM, .inr (12, [.ref mT, .int 0, .ref mS, .ref mX, .int 0, .int 0, .ref mL, .ref mB, .ref mD, .ref m1, .ref m2, .int 0, .ref mR, .int 0, .ref x1, .ref x2, .ref x3, .int 0, .ref mH, .int 0, .int 0, .int 0, .int 0, .int (-1), .int (-1), .int 0, .ref mY, .int 0, .ref mE, .int 0, .int 0, .ref mW, .int 0, .ref mO, .int 0, .ref y1, .ref y2, .ref y3, .ref y4, .ref mZ]))])) (va_Qi (fun (r : Int32) (_ : Unit) => r = 0) (fun _ t => va_P (dC, dI) vwCl [(oM, .inr (12, [.ref mT, .int 0, .ref mS, .ref mX, .int 0, .int 0, .ref mL, .ref mB, .ref mD, .ref m1, .ref m2, .int 0, .ref mR, .int 0, .ref x1, .ref x2, .ref x3, .int 0, .ref mH, .int 0, .int 0, .int 0, .int 0, .int (-1), .int (-1), .int 0, .ref mY, .int 0, .ref mE, .int 0, .int 0, .ref mW, .int 0, .ref mO, .int 0, .ref y1, .ref y2, .ref y3, .ref y4, .ref mZ]))] t.heap ∧ va_D (va_A [(oM, .inr (12, [.ref mT, .int 0, .ref mS, .ref mX, .int 0, .int 0, .ref mL, .ref mB, .ref mD, .ref m1, .ref m2, .int 0, .ref mR, .int 0, .ref x1, .ref x2, .ref x3, .int 0, .ref mH, .int 0, .int 0, .int 0, .int 0, .int (-1), .int (-1), .int 0, .ref mY, .int 0, .ref mE, .int 0, .int 0, .ref mW, .int 0, .ref mO, .int 0, .ref y1, .ref y2, .ref y3, .ref y4, .ref mZ]))] sz) [(oM, .inr (12, [.ref mT, .int 0, .ref mS, .ref mX, .int 0, .int 0, .ref mL, .ref mB, .ref mD, .ref m1, .ref m2, .int 0, .ref mR, .int 0, .ref x1, .ref x2, .ref x3, .int 0, .ref mH, .int 0, .int 0, .int 0, .int 0, .int (-1), .int (-1), .int 0, .ref mY, .int 0, .ref mE, .int 0, .int 0, .ref mW, .int 0, .ref mO, .int 0, .ref y1, .ref y2, .ref y3, .ref y4, .ref mZ]))]) (va_A [(oM, .inr (12, [.ref mT, .int 0, .ref mS, .ref mX, .int 0, .int 0, .ref mL, .ref mB, .ref mD, .ref m1, .ref m2, .int 0, .ref mR, .int 0, .ref x1, .ref x2, .ref x3, .int 0, .ref mH, .int 0, .int 0, .int 0, .int 0, .int (-1), .int (-1), .int 0, .ref mY, .int 0, .ref mE, .int 0, .int 0, .ref mW, .int 0, .ref mO, .int 0, .ref y1, .ref y2, .ref y3, .ref y4, .ref mZ]))] sz)) 0 0 (va_A [(oM, .inr (12, [.ref mT, .int 0, .ref mS, .ref mX, .int 0, .int 0, .ref mL, .ref mB, .ref mD, .ref m1, .ref m2, .int 0, .ref mR, .int 0, .ref x1, .ref x2, .ref x3, .int 0, .ref mH, .int 0, .int 0, .int 0, .int 0, .int (-1), .int (-1), .int 0, .ref mY, .int 0, .ref mE, .int 0, .int 0, .ref mW, .int 0, .ref mO, .int 0, .ref y1, .ref y2, .ref y3, .ref y4, .ref mZ]))] sz) := by
  refine Met.ofW (cc := cX12_isToldChoice) (maxL := 2) (ret := (some .boolean)) (by decide) rfl ?_
  intro p e s m args below meth c s₁ B hml hv
  obtain ⟨rfl, hsz, hP, hK, hD0⟩ := hv
  have hx := B.exec
  have hb := B.bytes
  have hr := B.returns
  have hts := atoms_spec (ws := wsX12_isToldChoice) B.pre
  have hown : s.vm.findClass RX12 = some m.cls := findClass_of_methodNamed B.named
  have hlocks := B.notSynchronized
  have in_X12 : ∀ w ∈ wsX120, w ∈ wsX12_isToldChoice := fun _ h => List.mem_cons_of_mem _ (List.mem_append_right _ (h))
  subst hsz
  have hD := hD0.self (sz := s.heap.size)
  generalize hAe : va_A [(oM, .inr (12, [.ref mT, .int 0, .ref mS, .ref mX, .int 0, .int 0, .ref mL, .ref mB, .ref mD, .ref m1, .ref m2, .int 0, .ref mR, .int 0, .ref x1, .ref x2, .ref x3, .int 0, .ref mH, .int 0, .int 0, .int 0, .int 0, .int (-1), .int (-1), .int 0, .ref mY, .int 0, .ref mE, .int 0, .int 0, .ref mW, .int 0, .ref mO, .int 0, .ref y1, .ref y2, .ref y3, .ref y4, .ref mZ]))] s.heap.size = A at hD ⊢
  have hA : ∀ q : Nat, s.heap.size ≤ q → A q := fun q h => by rw [← hAe]; exact Or.inr h
  have hS : va_S A s.heap s.heap [] := va_S.rf
  have hP : va_P (dC, dI) vwCl [(oM, .inr (12, [.ref mT, .int 0, .ref mS, .ref mX, .int 0, .int 0, .ref mL, .ref mB, .ref mD, .ref m1, .ref m2, .int 0, .ref mR, .int 0, .ref x1, .ref x2, .ref x3, .int 0, .ref mH, .int 0, .int 0, .int 0, .int 0, .int (-1), .int (-1), .int 0, .ref mY, .int 0, .ref mE, .int 0, .int 0, .ref mW, .int 0, .ref mO, .int 0, .ref y1, .ref y2, .ref y3, .ref y4, .ref mZ]))] s.heap := hP
  have hl := lv_entry ([.ref oM, .int i]) (n := 2) (Nat.le_of_ble_eq_true rfl)
  rw [lg_entry_eq]
  generalize (lg_sl ([.ref oM, .int i]) ++ List.replicate (2 - (lg_sl ([.ref oM, .int i])).length) Slot.unset).toArray = ls at hl ⊢
  have hl : lv_has ls 2 [(0, .ref oM), (1, .int i)] := hl
  refine lv_iload_n hx hb dX12_isToldChoice_0 rfl (lv_at hl 1 rfl) ?_
  refine lv_if_lt (tgt := 23) hx hb dX12_isToldChoice_1 (by decide) (fun c_1 => ?_) (fun c_1 => ?_)
  · refine lv_iconst (v := 0) hx hb dX12_isToldChoice_23 (by decide) ?_
    have hP9 := hP.sub (ws' := [(oM, .inr (12, [.ref mT, .int 0, .ref mS, .ref mX, .int 0, .int 0, .ref mL, .ref mB, .ref mD, .ref m1, .ref m2, .int 0, .ref mR, .int 0, .ref x1, .ref x2, .ref x3, .int 0, .ref mH, .int 0, .int 0, .int 0, .int 0, .int (-1), .int (-1), .int 0, .ref mY, .int 0, .ref mE, .int 0, .int 0, .ref mW, .int 0, .ref mO, .int 0, .ref y1, .ref y2, .ref y3, .ref y4, .ref mZ]))]) [0] rfl
    have hD9 := hD.sub (ws' := [(oM, .inr (12, [.ref mT, .int 0, .ref mS, .ref mX, .int 0, .int 0, .ref mL, .ref mB, .ref mD, .ref m1, .ref m2, .int 0, .ref mR, .int 0, .ref x1, .ref x2, .ref x3, .int 0, .ref mH, .int 0, .int 0, .int 0, .int 0, .int (-1), .int (-1), .int 0, .ref mY, .int 0, .ref mE, .int 0, .int 0, .ref mW, .int 0, .ref mO, .int 0, .ref y1, .ref y2, .ref y3, .ref y4, .ref mZ]))]) [0] (by decide) rfl
    exact W.zret (v := 0) (ty := .boolean) hx hb hr (rfl) (fun t ht hW => ⟨⟨0, (), rfl, rfl, by rw [ht]; exact hP9, hD9⟩, hS.F ht⟩) (hS.2.2) dX12_isToldChoice_24
  · refine lv_iload_n hx hb dX12_isToldChoice_4 rfl (lv_at hl 1 rfl) ?_
    refine lv_aload_n hx hb dX12_isToldChoice_5 rfl (lv_at hl 0 rfl) ?_
    refine va_get (D := (dC, dI)) (ci := 12) (v := .int 0) (C := RX12) (T := TX12) (N := 40) hx hb hts in_X12 hown hK hP 0 rfl rfl 19 (by decide) (hts (.fieldLink RX12 213 "TextMenderModel" "choiceMany" "I") (List.mem_of_getElem? (i := 1) rfl)) (fun _ h9 => h9) rfl dX12_isToldChoice_6 ?_
    refine lv_icmp_ge (tgt := 23) hx hb dX12_isToldChoice_9 (by decide) (fun c_2 => ?_) (fun c_2 => absurd (Int32.not_lt.mp c_1) c_2)
    refine lv_iconst (v := 0) hx hb dX12_isToldChoice_23 (by decide) ?_
    have hP9 := hP.sub (ws' := [(oM, .inr (12, [.ref mT, .int 0, .ref mS, .ref mX, .int 0, .int 0, .ref mL, .ref mB, .ref mD, .ref m1, .ref m2, .int 0, .ref mR, .int 0, .ref x1, .ref x2, .ref x3, .int 0, .ref mH, .int 0, .int 0, .int 0, .int 0, .int (-1), .int (-1), .int 0, .ref mY, .int 0, .ref mE, .int 0, .int 0, .ref mW, .int 0, .ref mO, .int 0, .ref y1, .ref y2, .ref y3, .ref y4, .ref mZ]))]) [0] rfl
    have hD9 := hD.sub (ws' := [(oM, .inr (12, [.ref mT, .int 0, .ref mS, .ref mX, .int 0, .int 0, .ref mL, .ref mB, .ref mD, .ref m1, .ref m2, .int 0, .ref mR, .int 0, .ref x1, .ref x2, .ref x3, .int 0, .ref mH, .int 0, .int 0, .int 0, .int 0, .int (-1), .int (-1), .int 0, .ref mY, .int 0, .ref mE, .int 0, .int 0, .ref mW, .int 0, .ref mO, .int 0, .ref y1, .ref y2, .ref y3, .ref y4, .ref mZ]))]) [0] (by decide) rfl
    exact W.zret (v := 0) (ty := .boolean) hx hb hr (rfl) (fun t ht hW => ⟨⟨0, (), rfl, rfl, by rw [ht]; exact hP9, hD9⟩, hS.F ht⟩) (hS.2.2) dX12_isToldChoice_24
