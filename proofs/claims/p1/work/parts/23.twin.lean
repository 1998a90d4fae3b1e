set_option maxHeartbeats 4000000 in
set_option maxRecDepth 100000 in
theorem y_back (l : Launch) (dC : Nat → ClassId) (dI : Nat → Nat → Nat) (cI cS : ClassId) (sz : Nat) (oM : Nat) (mT : Nat) (mS : Nat) (mX : Nat) (mL : Nat) (mB : Nat) (mD : Nat) (m1 : Nat) (m2 : Nat) (mR : Nat) (x1 : Nat) (x2 : Nat) (x3 : Nat) (mH : Nat) (mY : Nat) (mE : Nat) (mW : Nat) (mO : Nat) (y1 : Nat) (y2 : Nat) (y3 : Nat) (y4 : Nat) (mZ : Nat)  : Met l yX12_back wsX12_back ({ frames := 0, cells := 0, slots := 0, locals := 0 } : Room) (va_Pc [.ref oM] (fun U => U.heap.size = sz ∧ va_P (dC, dI) vwCl [(oM, .inr (12, [.ref mT, .int 0, .ref mS, .ref mX, .int 0, .int 0, .ref mL, .ref mB, .ref mD, .ref m1, .ref m2, .int 0, .ref mR, .int 0, .ref x1, .ref x2, .ref x3, .int 0, .ref mH, .int 0, .int 0, .int 0, .int 0, .int (-1), .int (-1), .int 0, .ref mY, .int 0, .ref mE, .int 0, .int 0, .ref mW, .int 0, .ref mO, .int 0, .ref y1, .ref y2, .ref y3, .ref y4, .ref mZ]))] U.heap ∧ va_K (dC, dI) vwCl [(cI, .int), (cS, .short)] U ∧ va_D (fun _ => True) [(oM, .inr (12, [.ref mT, .int 0, .ref mS, .ref mX, .int 0, .int 0, .ref mL, .ref mB, .ref mD, .ref m1, .ref m2, .int 0, .ref mR, .int 0, .ref x1, .ref x2, .ref x3, .int 0, .ref mH, .int 0, .int 0, .int 0, .int 0, .int (-1), .int (-1), .int 0, .ref mY, .int 0, .ref mE, .int 0, .int 0, .ref mW, .int 0, .ref mO, .int 0, .ref y1, .ref y2, .ref y3, .ref y4, .ref mZ]))])) (va_Qi (fun (r : Int32) (_ : Unit) => r = (-1)) (fun _ _ => True) (va_A [(oM, .inr (12, [.ref mT, .int 0, .ref mS, .ref mX, .int 0, .int 0, .ref mL, .ref mB, .ref mD, .ref m1, .ref m2, .int 0, .ref mR, .int 0, .ref x1, .ref x2, .ref x3, .int 0, .ref mH, .int 0, .int 0, .int 0, .int 0, .int (-1), .int (-1), .int 0, .ref mY, .int 0, .ref mE, .int 0, .int 0, .ref mW, .int 0, .ref mO, .int 0, .ref y1, .ref y2, .ref y3, .ref y4, .ref mZ]))] sz)) 0 0 (va_A [(oM, .inr (12, [.ref mT, .int 0, .ref mS, .ref mX, .int 0, .int 0, .ref mL, .ref mB, .ref mD, .ref m1, .ref m2, .int 0, .ref mR, .int 0, .ref x1, .ref x2, .ref x3, .int 0, .ref mH, .int 0, .int 0, .int 0, .int 0, .int (-1), .int (-1), .int 0, .ref mY, .int 0, .ref mE, .int 0, .int 0, .ref mW, .int 0, .ref mO, .int 0, .ref y1, .ref y2, .ref y3, .ref y4, .ref mZ]))] sz) := by
  refine Met.ofW (cc := cX12_back) (maxL := 3) (ret := (some .int)) (by decide) rfl ?_
  intro p e s m args below meth c s₁ B hml hv
  obtain ⟨rfl, hsz, hP, hK, hD0⟩ := hv
  have hx := B.exec
  have hb := B.bytes
  have hr := B.returns
  have hts := atoms_spec (ws := wsX12_back) B.pre
  have hown : s.vm.findClass RX12 = some m.cls := findClass_of_methodNamed B.named
  have hlocks := B.notSynchronized
  have in_X12 : ∀ w ∈ wsX120, w ∈ wsX12_back := fun _ h => List.mem_cons_of_mem _ (List.mem_append_right _ (h))
  subst hsz
  have hD := hD0.self (sz := s.heap.size)
  generalize hAe : va_A [(oM, .inr (12, [.ref mT, .int 0, .ref mS, .ref mX, .int 0, .int 0, .ref mL, .ref mB, .ref mD, .ref m1, .ref m2, .int 0, .ref mR, .int 0, .ref x1, .ref x2, .ref x3, .int 0, .ref mH, .int 0, .int 0, .int 0, .int 0, .int (-1), .int (-1), .int 0, .ref mY, .int 0, .ref mE, .int 0, .int 0, .ref mW, .int 0, .ref mO, .int 0, .ref y1, .ref y2, .ref y3, .ref y4, .ref mZ]))] s.heap.size = A at hD ⊢
  have hA : ∀ q : Nat, s.heap.size ≤ q → A q := fun q h => by rw [← hAe]; exact Or.inr h
  have hS : va_S A s.heap s.heap [] := va_S.rf
  have hP : va_P (dC, dI) vwCl [(oM, .inr (12, [.ref mT, .int 0, .ref mS, .ref mX, .int 0, .int 0, .ref mL, .ref mB, .ref mD, .ref m1, .ref m2, .int 0, .ref mR, .int 0, .ref x1, .ref x2, .ref x3, .int 0, .ref mH, .int 0, .int 0, .int 0, .int 0, .int (-1), .int (-1), .int 0, .ref mY, .int 0, .ref mE, .int 0, .int 0, .ref mW, .int 0, .ref mO, .int 0, .ref y1, .ref y2, .ref y3, .ref y4, .ref mZ]))] s.heap := hP
  have hl := lv_entry ([.ref oM]) (n := 3) (Nat.le_of_ble_eq_true rfl)
  rw [lg_entry_eq]
  generalize (lg_sl ([.ref oM]) ++ List.replicate (3 - (lg_sl ([.ref oM])).length) Slot.unset).toArray = ls at hl ⊢
  have hl : lv_has ls 3 [(0, .ref oM)] := hl
  refine lv_aload_n hx hb dX12_back_0 rfl (lv_at hl 0 rfl) ?_
  refine lv_iconst (v := 0) hx hb dX12_back_1 (by decide) ?_
  refine va_put (D := (dC, dI)) (ci := 12) (v := .int 0) (ty := .int) (C := RX12) (T := TX12) (N := 40) hx hb hts in_X12 tyX12 tyX12_ok nmX12 hown hK hP hD hS 0 rfl rfl 25 (by decide) (hts (.fieldLink RX12 85 "TextMenderModel" "thrown" "I") (List.mem_of_getElem? (i := 1) rfl)) (fun _ h9 => h9) rfl (by decide +kernel) rfl rfl (Nat.le_of_ble_eq_true rfl) dX12_back_2 (fun H locs hP hD hS => ?_)
  have hP : va_P (dC, dI) vwCl [(oM, .inr (12, [.ref mT, .int 0, .ref mS, .ref mX, .int 0, .int 0, .ref mL, .ref mB, .ref mD, .ref m1, .ref m2, .int 0, .ref mR, .int 0, .ref x1, .ref x2, .ref x3, .int 0, .ref mH, .int 0, .int 0, .int 0, .int 0, .int (-1), .int (-1), .int 0, .ref mY, .int 0, .ref mE, .int 0, .int 0, .ref mW, .int 0, .ref mO, .int 0, .ref y1, .ref y2, .ref y3, .ref y4, .ref mZ]))] H := hP
  have hD : va_D A [(oM, .inr (12, [.ref mT, .int 0, .ref mS, .ref mX, .int 0, .int 0, .ref mL, .ref mB, .ref mD, .ref m1, .ref m2, .int 0, .ref mR, .int 0, .ref x1, .ref x2, .ref x3, .int 0, .ref mH, .int 0, .int 0, .int 0, .int 0, .int (-1), .int (-1), .int 0, .ref mY, .int 0, .ref mE, .int 0, .int 0, .ref mW, .int 0, .ref mO, .int 0, .ref y1, .ref y2, .ref y3, .ref y4, .ref mZ]))] := hD
  refine lv_aload_n hx hb dX12_back_5 rfl (lv_at hl 0 rfl) ?_
  refine va_get (D := (dC, dI)) (ci := 12) (v := .int 0) (C := RX12) (T := TX12) (N := 40) hx hb hts in_X12 hown hK hP 0 rfl rfl 4 (by decide) (hts (.fieldLink RX12 142 "TextMenderModel" "past" "I") (List.mem_of_getElem? (i := 2) rfl)) (fun _ h9 => h9) rfl dX12_back_6 ?_
  refine lv_if_ne (tgt := 14) hx hb dX12_back_9 (by decide) (fun c_1 => absurd (by decide) c_1) (fun c_1 => ?_)
  refine lv_iconst (v := (-1)) hx hb dX12_back_12 (by decide) ?_
  exact W.iret (v := (-1)) hx hb hr (fun t ht hW => ⟨⟨(-1), (), rfl, rfl, trivial⟩, hS.F ht⟩) (hS.2.2) dX12_back_13

set_option maxHeartbeats 4000000 in
set_option maxRecDepth 100000 in
theorem y_list (l : Launch) (dC : Nat → ClassId) (dI : Nat → Nat → Nat) (cI cS : ClassId) (sz : Nat) (oM : Nat) (mT : Nat) (mS : Nat) (mX : Nat) (mL : Nat) (mB : Nat) (mD : Nat) (m1 : Nat) (m2 : Nat) (mR : Nat) (x1 : Nat) (x2 : Nat) (x3 : Nat) (mH : Nat) (mY : Nat) (mE : Nat) (mW : Nat) (mO : Nat) (y1 : Nat) (y2 : Nat) (y3 : Nat) (y4 : Nat) (mZ : Nat) (a : Int32) (b : Int32)  : Met l yX12_list wsX12_list ({ frames := 1, cells := 0, slots := 0, locals := 20 } : Room) (va_Pc [.ref oM, .int a, .int b] (fun U => U.heap.size = sz ∧ va_P (dC, dI) vwCl [(oM, .inr (12, [.ref mT, .int 0, .ref mS, .ref mX, .int 0, .int 0, .ref mL, .ref mB, .ref mD, .ref m1, .ref m2, .int 0, .ref mR, .int 0, .ref x1, .ref x2, .ref x3, .int 0, .ref mH, .int 0, .int 0, .int 0, .int 0, .int (-1), .int (-1), .int 0, .ref mY, .int 0, .ref mE, .int 0, .int 0, .ref mW, .int 0, .ref mO, .int 0, .ref y1, .ref y2, .ref y3, .ref y4, .ref mZ])), (m1, .inl (cI, 6, .inl (fun _ => 0))), (m2, .inl (cI, 6, .inl (fun _ => 0)))] U.heap ∧ va_K (dC, dI) vwCl [(cI, .int), (cS, .short)] U ∧ va_D (fun _ => True) [(oM, .inr (12, [.ref mT, .int 0, .ref mS, .ref mX, .int 0, .int 0, .ref mL, .ref mB, .ref mD, .ref m1, .ref m2, .int 0, .ref mR, .int 0, .ref x1, .ref x2, .ref x3, .int 0, .ref mH, .int 0, .int 0, .int 0, .int 0, .int (-1), .int (-1), .int 0, .ref mY, .int 0, .ref mE, .int 0, .int 0, .ref mW, .int 0, .ref mO, .int 0, .ref y1, .ref y2, .ref y3, .ref y4, .ref mZ])), (m1, .inl (cI, 6, .inl (fun _ => 0))), (m2, .inl (cI, 6, .inl (fun _ => 0)))])) (va_Qi (fun (r : Int32) (_ : Unit) => r = g_two a b) (fun _ _ => True) (va_A [(oM, .inr (12, [.ref mT, .int 0, .ref mS, .ref mX, .int 0, .int 0, .ref mL, .ref mB, .ref mD, .ref m1, .ref m2, .int 0, .ref mR, .int 0, .ref x1, .ref x2, .ref x3, .int 0, .ref mH, .int 0, .int 0, .int 0, .int 0, .int (-1), .int (-1), .int 0, .ref mY, .int 0, .ref mE, .int 0, .int 0, .ref mW, .int 0, .ref mO, .int 0, .ref y1, .ref y2, .ref y3, .ref y4, .ref mZ])), (m1, .inl (cI, 6, .inl (fun _ => 0))), (m2, .inl (cI, 6, .inl (fun _ => 0)))] sz)) 0 0 (va_A [(oM, .inr (12, [.ref mT, .int 0, .ref mS, .ref mX, .int 0, .int 0, .ref mL, .ref mB, .ref mD, .ref m1, .ref m2, .int 0, .ref mR, .int 0, .ref x1, .ref x2, .ref x3, .int 0, .ref mH, .int 0, .int 0, .int 0, .int 0, .int (-1), .int (-1), .int 0, .ref mY, .int 0, .ref mE, .int 0, .int 0, .ref mW, .int 0, .ref mO, .int 0, .ref y1, .ref y2, .ref y3, .ref y4, .ref mZ])), (m1, .inl (cI, 6, .inl (fun _ => 0))), (m2, .inl (cI, 6, .inl (fun _ => 0)))] sz) := by
  refine Met.ofW (cc := cX12_list) (maxL := 4) (ret := (some .int)) (by decide) rfl ?_
  intro p e s m args below meth c s₁ B hml hv
  obtain ⟨rfl, hsz, hP, hK, hD0⟩ := hv
  have hx := B.exec
  have hb := B.bytes
  have hr := B.returns
  have hts := atoms_spec (ws := wsX12_list) B.pre
  have hown : s.vm.findClass RX12 = some m.cls := findClass_of_methodNamed B.named
  have hlocks := B.notSynchronized
  have in_X12 : ∀ w ∈ wsX120, w ∈ wsX12_list := fun _ h => List.mem_cons_of_mem _ (List.mem_append_right _ (h))
  subst hsz
  have hD := hD0.self (sz := s.heap.size)
  generalize hAe : va_A [(oM, .inr (12, [.ref mT, .int 0, .ref mS, .ref mX, .int 0, .int 0, .ref mL, .ref mB, .ref mD, .ref m1, .ref m2, .int 0, .ref mR, .int 0, .ref x1, .ref x2, .ref x3, .int 0, .ref mH, .int 0, .int 0, .int 0, .int 0, .int (-1), .int (-1), .int 0, .ref mY, .int 0, .ref mE, .int 0, .int 0, .ref mW, .int 0, .ref mO, .int 0, .ref y1, .ref y2, .ref y3, .ref y4, .ref mZ])), (m1, .inl (cI, 6, .inl (fun _ => 0))), (m2, .inl (cI, 6, .inl (fun _ => 0)))] s.heap.size = A at hD ⊢
  have hA : ∀ q : Nat, s.heap.size ≤ q → A q := fun q h => by rw [← hAe]; exact Or.inr h
  have hS : va_S A s.heap s.heap [] := va_S.rf
  have hP : va_P (dC, dI) vwCl [(oM, .inr (12, [.ref mT, .int 0, .ref mS, .ref mX, .int 0, .int 0, .ref mL, .ref mB, .ref mD, .ref m1, .ref m2, .int 0, .ref mR, .int 0, .ref x1, .ref x2, .ref x3, .int 0, .ref mH, .int 0, .int 0, .int 0, .int 0, .int (-1), .int (-1), .int 0, .ref mY, .int 0, .ref mE, .int 0, .int 0, .ref mW, .int 0, .ref mO, .int 0, .ref y1, .ref y2, .ref y3, .ref y4, .ref mZ])), (m1, .inl (cI, 6, .inl (fun _ => 0))), (m2, .inl (cI, 6, .inl (fun _ => 0)))] s.heap := hP
  have hl := lv_entry ([.ref oM, .int a, .int b]) (n := 4) (Nat.le_of_ble_eq_true rfl)
  rw [lg_entry_eq]
  generalize (lg_sl ([.ref oM, .int a, .int b]) ++ List.replicate (4 - (lg_sl ([.ref oM, .int a, .int b])).length) Slot.unset).toArray = ls at hl ⊢
  have hl : lv_has ls 4 [(0, .ref oM), (1, .int a), (2, .int b)] := hl
  refine lv_aload_n hx hb dX12_list_0 rfl (lv_at hl 0 rfl) ?_
  refine lv_iconst (v := 0) hx hb dX12_list_1 (by decide) ?_
  refine va_put (D := (dC, dI)) (ci := 12) (v := .int 0) (ty := .int) (C := RX12) (T := TX12) (N := 40) hx hb hts in_X12 tyX12 tyX12_ok nmX12 hown hK hP hD hS 0 rfl rfl 25 (by decide) (hts (.fieldLink RX12 85 "TextMenderModel" "thrown" "I") (List.mem_of_getElem? (i := 1) rfl)) (fun _ h9 => h9) rfl (by decide +kernel) rfl rfl (Nat.le_of_ble_eq_true rfl) dX12_list_2 (fun H locs hP hD hS => ?_)
  have hP : va_P (dC, dI) vwCl [(oM, .inr (12, [.ref mT, .int 0, .ref mS, .ref mX, .int 0, .int 0, .ref mL, .ref mB, .ref mD, .ref m1, .ref m2, .int 0, .ref mR, .int 0, .ref x1, .ref x2, .ref x3, .int 0, .ref mH, .int 0, .int 0, .int 0, .int 0, .int (-1), .int (-1), .int 0, .ref mY, .int 0, .ref mE, .int 0, .int 0, .ref mW, .int 0, .ref mO, .int 0, .ref y1, .ref y2, .ref y3, .ref y4, .ref mZ])), (m1, .inl (cI, 6, .inl (fun _ => 0))), (m2, .inl (cI, 6, .inl (fun _ => 0)))] H := hP
  have hD : va_D A [(oM, .inr (12, [.ref mT, .int 0, .ref mS, .ref mX, .int 0, .int 0, .ref mL, .ref mB, .ref mD, .ref m1, .ref m2, .int 0, .ref mR, .int 0, .ref x1, .ref x2, .ref x3, .int 0, .ref mH, .int 0, .int 0, .int 0, .int 0, .int (-1), .int (-1), .int 0, .ref mY, .int 0, .ref mE, .int 0, .int 0, .ref mW, .int 0, .ref mO, .int 0, .ref y1, .ref y2, .ref y3, .ref y4, .ref mZ])), (m1, .inl (cI, 6, .inl (fun _ => 0))), (m2, .inl (cI, 6, .inl (fun _ => 0)))] := hD
  refine lv_aload_n hx hb dX12_list_5 rfl (lv_at hl 0 rfl) ?_
  refine lv_iconst (v := (-1)) hx hb dX12_list_6 (by decide) ?_
  refine va_put (D := (dC, dI)) (ci := 12) (v := .int (-1)) (ty := .int) (C := RX12) (T := TX12) (N := 40) hx hb hts in_X12 tyX12 tyX12_ok nmX12 hown hK hP hD hS 0 rfl rfl 24 (by decide) (hts (.fieldLink RX12 55 "TextMenderModel" "where" "I") (List.mem_of_getElem? (i := 2) rfl)) (fun _ h9 => h9) rfl (by decide +kernel) rfl rfl (Nat.le_of_ble_eq_true rfl) dX12_list_7 (fun H locs hP hD hS => ?_)
  have hP : va_P (dC, dI) vwCl [(oM, .inr (12, [.ref mT, .int 0, .ref mS, .ref mX, .int 0, .int 0, .ref mL, .ref mB, .ref mD, .ref m1, .ref m2, .int 0, .ref mR, .int 0, .ref x1, .ref x2, .ref x3, .int 0, .ref mH, .int 0, .int 0, .int 0, .int 0, .int (-1), .int (-1), .int 0, .ref mY, .int 0, .ref mE, .int 0, .int 0, .ref mW, .int 0, .ref mO, .int 0, .ref y1, .ref y2, .ref y3, .ref y4, .ref mZ])), (m1, .inl (cI, 6, .inl (fun _ => 0))), (m2, .inl (cI, 6, .inl (fun _ => 0)))] H := hP
  have hD : va_D A [(oM, .inr (12, [.ref mT, .int 0, .ref mS, .ref mX, .int 0, .int 0, .ref mL, .ref mB, .ref mD, .ref m1, .ref m2, .int 0, .ref mR, .int 0, .ref x1, .ref x2, .ref x3, .int 0, .ref mH, .int 0, .int 0, .int 0, .int 0, .int (-1), .int (-1), .int 0, .ref mY, .int 0, .ref mE, .int 0, .int 0, .ref mW, .int 0, .ref mO, .int 0, .ref y1, .ref y2, .ref y3, .ref y4, .ref mZ])), (m1, .inl (cI, 6, .inl (fun _ => 0))), (m2, .inl (cI, 6, .inl (fun _ => 0)))] := hD
  refine lv_iload_n hx hb dX12_list_10 rfl (lv_at hl 1 rfl) ?_
  have hPc := hP.sub (ws' := []) [] rfl
  have hDc := hD.sub (ws' := []) [] (by decide) rfl
  have hFc := va_free (wc := []) hD hS hA [] rfl
  refine va_calli (va_runS (As := [.int a]) (rest := []) ⟨hx, hb, hml, hown, hts⟩ (m_X12_isCode l dC dI cI cS H.size a ) (va_cwS 1 hts gX12_list_X12_isCode rfl rfl rfl (by decide +kernel) ⟨Nat.le_of_ble_eq_true rfl, Nat.le_of_ble_eq_true rfl⟩) ⟨fun a U g mk q => by obtain ⟨q0, q1, qP, qK, qD⟩ := q; exact ⟨q0, q1, qP, va_K.moved (u := U) (U := U.calling g mk a) (Vm.Alike.refl U.vm) qK, qD⟩, fun U hU hW => ⟨rfl, by rw [hU], by rw [hU]; exact hPc, va_K.moved hW.alike hK, hDc.weaken (fun _ _ _ _ => trivial)⟩⟩ rfl rfl hl.1 rfl (lv_room (Nat.le_of_ble_eq_true rfl)) dX12_list_11 ⟨Nat.le_of_ble_eq_true rfl, Nat.le_of_ble_eq_true rfl⟩) hS (fun q _ h => hFc q h) hFc (fun r_1 u t H1 locs ht hvm hw hB hz1 hk1 hS => ?_)
  obtain ⟨hP1, hD1⟩ := hB
  rw [ht] at hP1
  obtain ⟨hP, hD⟩ := va_join (wr := [(oM, .inr (12, [.ref mT, .int 0, .ref mS, .ref mX, .int 0, .int 0, .ref mL, .ref mB, .ref mD, .ref m1, .ref m2, .int 0, .ref mR, .int 0, .ref x1, .ref x2, .ref x3, .int 0, .ref mH, .int 0, .int 0, .int 0, .int 0, .int (-1), .int (-1), .int 0, .ref mY, .int 0, .ref mE, .int 0, .int 0, .ref mW, .int 0, .ref mO, .int 0, .ref y1, .ref y2, .ref y3, .ref y4, .ref mZ])), (m1, .inl (cI, 6, .inl (fun _ => 0))), (m2, .inl (cI, 6, .inl (fun _ => 0)))]) (w1 := []) hP hD [] [0, 1, 2] rfl rfl (by decide) (by decide) hk1 hFc hP1 hD1
  generalize H1 = H at hP hS ⊢
  have hP : va_P (dC, dI) vwCl [(oM, .inr (12, [.ref mT, .int 0, .ref mS, .ref mX, .int 0, .int 0, .ref mL, .ref mB, .ref mD, .ref m1, .ref m2, .int 0, .ref mR, .int 0, .ref x1, .ref x2, .ref x3, .int 0, .ref mH, .int 0, .int 0, .int 0, .int 0, .int (-1), .int (-1), .int 0, .ref mY, .int 0, .ref mE, .int 0, .int 0, .ref mW, .int 0, .ref mO, .int 0, .ref y1, .ref y2, .ref y3, .ref y4, .ref mZ])), (m1, .inl (cI, 6, .inl (fun _ => 0))), (m2, .inl (cI, 6, .inl (fun _ => 0)))] H := hP
  have hD : va_D A [(oM, .inr (12, [.ref mT, .int 0, .ref mS, .ref mX, .int 0, .int 0, .ref mL, .ref mB, .ref mD, .ref m1, .ref m2, .int 0, .ref mR, .int 0, .ref x1, .ref x2, .ref x3, .int 0, .ref mH, .int 0, .int 0, .int 0, .int 0, .int (-1), .int (-1), .int 0, .ref mY, .int 0, .ref mE, .int 0, .int 0, .ref mW, .int 0, .ref mO, .int 0, .ref y1, .ref y2, .ref y3, .ref y4, .ref mZ])), (m1, .inl (cI, 6, .inl (fun _ => 0))), (m2, .inl (cI, 6, .inl (fun _ => 0)))] := hD
  subst hw
  refine lv_if_eq (tgt := 33) hx hb dX12_list_14 (by decide) (fun c_2 => ?_) (fun c_2 => ?_)
  · refine lv_iconst (v := (-1)) hx hb dX12_list_33 (by decide) ?_
    exact W.iret (v := (-1)) hx hb hr (fun t ht hW => ⟨⟨(-1), (), rfl, by first | rfl | assumption | simp [g_two, c_2], trivial⟩, hS.F ht⟩) (hS.2.2) dX12_list_34
  · refine lv_iload_n hx hb dX12_list_17 rfl (lv_at hl 2 rfl) ?_
    have hPc := hP.sub (ws' := []) [] rfl
    have hDc := hD.sub (ws' := []) [] (by decide) rfl
    have hFc := va_free (wc := []) hD hS hA [] rfl
    refine va_calli (va_runS (As := [.int b]) (rest := []) ⟨hx, hb, hml, hown, hts⟩ (m_X12_isCode l dC dI cI cS H.size b ) (va_cwS 1 hts gX12_list_X12_isCode rfl rfl rfl (by decide +kernel) ⟨Nat.le_of_ble_eq_true rfl, Nat.le_of_ble_eq_true rfl⟩) ⟨fun a U g mk q => by obtain ⟨q0, q1, qP, qK, qD⟩ := q; exact ⟨q0, q1, qP, va_K.moved (u := U) (U := U.calling g mk a) (Vm.Alike.refl U.vm) qK, qD⟩, fun U hU hW => ⟨rfl, by rw [hU], by rw [hU]; exact hPc, va_K.moved hW.alike hK, hDc.weaken (fun _ _ _ _ => trivial)⟩⟩ rfl rfl hl.1 rfl (lv_room (Nat.le_of_ble_eq_true rfl)) dX12_list_18 ⟨Nat.le_of_ble_eq_true rfl, Nat.le_of_ble_eq_true rfl⟩) hS (fun q _ h => hFc q h) hFc (fun r_3 u t H1 locs ht hvm hw hB hz1 hk1 hS => ?_)
    obtain ⟨hP1, hD1⟩ := hB
    rw [ht] at hP1
    obtain ⟨hP, hD⟩ := va_join (wr := [(oM, .inr (12, [.ref mT, .int 0, .ref mS, .ref mX, .int 0, .int 0, .ref mL, .ref mB, .ref mD, .ref m1, .ref m2, .int 0, .ref mR, .int 0, .ref x1, .ref x2, .ref x3, .int 0, .ref mH, .int 0, .int 0, .int 0, .int 0, .int (-1), .int (-1), .int 0, .ref mY, .int 0, .ref mE, .int 0, .int 0, .ref mW, .int 0, .ref mO, .int 0, .ref y1, .ref y2, .ref y3, .ref y4, .ref mZ])), (m1, .inl (cI, 6, .inl (fun _ => 0))), (m2, .inl (cI, 6, .inl (fun _ => 0)))]) (w1 := []) hP hD [] [0, 1, 2] rfl rfl (by decide) (by decide) hk1 hFc hP1 hD1
    generalize H1 = H at hP hS ⊢
    have hP : va_P (dC, dI) vwCl [(oM, .inr (12, [.ref mT, .int 0, .ref mS, .ref mX, .int 0, .int 0, .ref mL, .ref mB, .ref mD, .ref m1, .ref m2, .int 0, .ref mR, .int 0, .ref x1, .ref x2, .ref x3, .int 0, .ref mH, .int 0, .int 0, .int 0, .int 0, .int (-1), .int (-1), .int 0, .ref mY, .int 0, .ref mE, .int 0, .int 0, .ref mW, .int 0, .ref mO, .int 0, .ref y1, .ref y2, .ref y3, .ref y4, .ref mZ])), (m1, .inl (cI, 6, .inl (fun _ => 0))), (m2, .inl (cI, 6, .inl (fun _ => 0)))] H := hP
    have hD : va_D A [(oM, .inr (12, [.ref mT, .int 0, .ref mS, .ref mX, .int 0, .int 0, .ref mL, .ref mB, .ref mD, .ref m1, .ref m2, .int 0, .ref mR, .int 0, .ref x1, .ref x2, .ref x3, .int 0, .ref mH, .int 0, .int 0, .int 0, .int 0, .int (-1), .int (-1), .int 0, .ref mY, .int 0, .ref mE, .int 0, .int 0, .ref mW, .int 0, .ref mO, .int 0, .ref y1, .ref y2, .ref y3, .ref y4, .ref mZ])), (m1, .inl (cI, 6, .inl (fun _ => 0))), (m2, .inl (cI, 6, .inl (fun _ => 0)))] := hD
    subst hw
    refine lv_if_eq (tgt := 33) hx hb dX12_list_21 (by decide) (fun c_4 => ?_) (fun c_4 => ?_)
    · refine lv_iconst (v := (-1)) hx hb dX12_list_33 (by decide) ?_
      exact W.iret (v := (-1)) hx hb hr (fun t ht hW => ⟨⟨(-1), (), rfl, by first | rfl | assumption | simp [g_two, c_2, c_4], trivial⟩, hS.F ht⟩) (hS.2.2) dX12_list_34
    · refine lv_aload_n hx hb dX12_list_24 rfl (lv_at hl 0 rfl) ?_
      refine va_get (D := (dC, dI)) (ci := 12) (v := .int 0) (C := RX12) (T := TX12) (N := 40) hx hb hts in_X12 hown hK hP 0 rfl rfl 11 (by decide) (hts (.fieldLink RX12 161 "TextMenderModel" "harms" "I") (List.mem_of_getElem? (i := 3) rfl)) (fun _ h9 => h9) rfl dX12_list_25 ?_
      refine lv_bipush (v := 6) hx hb dX12_list_28 (by decide) ?_
      refine lv_icmp_ne (tgt := 35) hx hb dX12_list_30 (by decide) (fun c_5 => ?_) (fun c_5 => absurd c_5 (by decide))
      refine lv_iconst (v := 0) hx hb dX12_list_35 (by decide) ?_
      refine lv_istore_n (lv' := [(3, .int 0), (0, .ref oM), (1, .int a), (2, .int b)]) hx hb dX12_list_36 rfl hl (by decide) rfl (fun ls hl => ?_)
      refine lv_iload_n hx hb dX12_list_37 rfl (lv_at hl 0 rfl) ?_
      refine lv_aload_n hx hb dX12_list_38 rfl (lv_at hl 1 rfl) ?_
      refine va_get (D := (dC, dI)) (ci := 12) (v := .int 0) (C := RX12) (T := TX12) (N := 40) hx hb hts in_X12 hown hK hP 0 rfl rfl 11 (by decide) (hts (.fieldLink RX12 161 "TextMenderModel" "harms" "I") (List.mem_of_getElem? (i := 3) rfl)) (fun _ h9 => h9) rfl dX12_list_39 ?_
      refine lv_icmp_ge (tgt := 73) hx hb dX12_list_42 (by decide) (fun c_6 => ?_) (fun c_6 => absurd (by decide) c_6)
      refine lv_aload_n hx hb dX12_list_73 rfl (lv_at hl 1 rfl) ?_
      refine va_get (D := (dC, dI)) (ci := 12) (v := .ref m1) (C := RX12) (T := TX12) (N := 40) hx hb hts in_X12 hown hK hP 0 rfl rfl 9 (by decide) (hts (.fieldLink RX12 30 "TextMenderModel" "harmA" "[I") (List.mem_of_getElem? (i := 4) rfl)) (fun _ h9 => h9) rfl dX12_list_74 ?_
      refine lv_aload_n hx hb dX12_list_77 rfl (lv_at hl 1 rfl) ?_
      refine va_get (D := (dC, dI)) (ci := 12) (v := .int 0) (C := RX12) (T := TX12) (N := 40) hx hb hts in_X12 hown hK hP 0 rfl rfl 11 (by decide) (hts (.fieldLink RX12 161 "TextMenderModel" "harms" "I") (List.mem_of_getElem? (i := 3) rfl)) (fun _ h9 => h9) rfl dX12_list_78 ?_
      refine lv_iload_n hx hb dX12_list_81 rfl (lv_at hl 2 rfl) ?_
      refine va_iast hx hb hK hP hD hS 1 0 rfl rfl (by unfold vp_in; decide) dX12_list_82 (fun H locs hP hD hS => ?_)
      have hP : va_P (dC, dI) vwCl [(oM, .inr (12, [.ref mT, .int 0, .ref mS, .ref mX, .int 0, .int 0, .ref mL, .ref mB, .ref mD, .ref m1, .ref m2, .int 0, .ref mR, .int 0, .ref x1, .ref x2, .ref x3, .int 0, .ref mH, .int 0, .int 0, .int 0, .int 0, .int (-1), .int (-1), .int 0, .ref mY, .int 0, .ref mE, .int 0, .int 0, .ref mW, .int 0, .ref mO, .int 0, .ref y1, .ref y2, .ref y3, .ref y4, .ref mZ])), (m1, .inl (cI, 6, .inl (upd (fun _ => 0) (0 : Int32).toNatClampNeg a))), (m2, .inl (cI, 6, .inl (fun _ => 0)))] H := hP
      have hD : va_D A [(oM, .inr (12, [.ref mT, .int 0, .ref mS, .ref mX, .int 0, .int 0, .ref mL, .ref mB, .ref mD, .ref m1, .ref m2, .int 0, .ref mR, .int 0, .ref x1, .ref x2, .ref x3, .int 0, .ref mH, .int 0, .int 0, .int 0, .int 0, .int (-1), .int (-1), .int 0, .ref mY, .int 0, .ref mE, .int 0, .int 0, .ref mW, .int 0, .ref mO, .int 0, .ref y1, .ref y2, .ref y3, .ref y4, .ref mZ])), (m1, .inl (cI, 6, .inl (upd (fun _ => 0) (0 : Int32).toNatClampNeg a))), (m2, .inl (cI, 6, .inl (fun _ => 0)))] := hD
      refine lv_aload_n hx hb dX12_list_83 rfl (lv_at hl 1 rfl) ?_
      refine va_get (D := (dC, dI)) (ci := 12) (v := .ref m2) (C := RX12) (T := TX12) (N := 40) hx hb hts in_X12 hown hK hP 0 rfl rfl 10 (by decide) (hts (.fieldLink RX12 33 "TextMenderModel" "harmB" "[I") (List.mem_of_getElem? (i := 5) rfl)) (fun _ h9 => h9) rfl dX12_list_84 ?_
      refine lv_aload_n hx hb dX12_list_87 rfl (lv_at hl 1 rfl) ?_
      refine va_get (D := (dC, dI)) (ci := 12) (v := .int 0) (C := RX12) (T := TX12) (N := 40) hx hb hts in_X12 hown hK hP 0 rfl rfl 11 (by decide) (hts (.fieldLink RX12 161 "TextMenderModel" "harms" "I") (List.mem_of_getElem? (i := 3) rfl)) (fun _ h9 => h9) rfl dX12_list_88 ?_
      refine lv_iload_n hx hb dX12_list_91 rfl (lv_at hl 3 rfl) ?_
      refine va_iast hx hb hK hP hD hS 2 0 rfl rfl (by unfold vp_in; decide) dX12_list_92 (fun H locs hP hD hS => ?_)
      have hP : va_P (dC, dI) vwCl [(oM, .inr (12, [.ref mT, .int 0, .ref mS, .ref mX, .int 0, .int 0, .ref mL, .ref mB, .ref mD, .ref m1, .ref m2, .int 0, .ref mR, .int 0, .ref x1, .ref x2, .ref x3, .int 0, .ref mH, .int 0, .int 0, .int 0, .int 0, .int (-1), .int (-1), .int 0, .ref mY, .int 0, .ref mE, .int 0, .int 0, .ref mW, .int 0, .ref mO, .int 0, .ref y1, .ref y2, .ref y3, .ref y4, .ref mZ])), (m1, .inl (cI, 6, .inl (upd (fun _ => 0) (0 : Int32).toNatClampNeg a))), (m2, .inl (cI, 6, .inl (upd (fun _ => 0) (0 : Int32).toNatClampNeg b)))] H := hP
      have hD : va_D A [(oM, .inr (12, [.ref mT, .int 0, .ref mS, .ref mX, .int 0, .int 0, .ref mL, .ref mB, .ref mD, .ref m1, .ref m2, .int 0, .ref mR, .int 0, .ref x1, .ref x2, .ref x3, .int 0, .ref mH, .int 0, .int 0, .int 0, .int 0, .int (-1), .int (-1), .int 0, .ref mY, .int 0, .ref mE, .int 0, .int 0, .ref mW, .int 0, .ref mO, .int 0, .ref y1, .ref y2, .ref y3, .ref y4, .ref mZ])), (m1, .inl (cI, 6, .inl (upd (fun _ => 0) (0 : Int32).toNatClampNeg a))), (m2, .inl (cI, 6, .inl (upd (fun _ => 0) (0 : Int32).toNatClampNeg b)))] := hD
      refine lv_aload_n hx hb dX12_list_93 rfl (lv_at hl 1 rfl) ?_
      refine lv_dup hx hb dX12_list_94 rfl ?_
      refine va_get (D := (dC, dI)) (ci := 12) (v := .int 0) (C := RX12) (T := TX12) (N := 40) hx hb hts in_X12 hown hK hP 0 rfl rfl 11 (by decide) (hts (.fieldLink RX12 161 "TextMenderModel" "harms" "I") (List.mem_of_getElem? (i := 3) rfl)) (fun _ h9 => h9) rfl dX12_list_95 ?_
      refine lv_iconst (v := 1) hx hb dX12_list_98 (by decide) ?_
      refine lv_iadd hx hb dX12_list_99 ?_
      refine k_i (y := 1) (by decide) ?_
      refine va_put (D := (dC, dI)) (ci := 12) (v := .int 1) (ty := .int) (C := RX12) (T := TX12) (N := 40) hx hb hts in_X12 tyX12 tyX12_ok nmX12 hown hK hP hD hS 0 rfl rfl 11 (by decide) (hts (.fieldLink RX12 161 "TextMenderModel" "harms" "I") (List.mem_of_getElem? (i := 3) rfl)) (fun _ h9 => h9) rfl (by decide +kernel) rfl rfl (Nat.le_of_ble_eq_true rfl) dX12_list_100 (fun H locs hP hD hS => ?_)
      have hP : va_P (dC, dI) vwCl [(oM, .inr (12, [.ref mT, .int 0, .ref mS, .ref mX, .int 0, .int 0, .ref mL, .ref mB, .ref mD, .ref m1, .ref m2, .int 1, .ref mR, .int 0, .ref x1, .ref x2, .ref x3, .int 0, .ref mH, .int 0, .int 0, .int 0, .int 0, .int (-1), .int (-1), .int 0, .ref mY, .int 0, .ref mE, .int 0, .int 0, .ref mW, .int 0, .ref mO, .int 0, .ref y1, .ref y2, .ref y3, .ref y4, .ref mZ])), (m1, .inl (cI, 6, .inl (upd (fun _ => 0) (0 : Int32).toNatClampNeg a))), (m2, .inl (cI, 6, .inl (upd (fun _ => 0) (0 : Int32).toNatClampNeg b)))] H := hP
      have hD : va_D A [(oM, .inr (12, [.ref mT, .int 0, .ref mS, .ref mX, .int 0, .int 0, .ref mL, .ref mB, .ref mD, .ref m1, .ref m2, .int 1, .ref mR, .int 0, .ref x1, .ref x2, .ref x3, .int 0, .ref mH, .int 0, .int 0, .int 0, .int 0, .int (-1), .int (-1), .int 0, .ref mY, .int 0, .ref mE, .int 0, .int 0, .ref mW, .int 0, .ref mO, .int 0, .ref y1, .ref y2, .ref y3, .ref y4, .ref mZ])), (m1, .inl (cI, 6, .inl (upd (fun _ => 0) (0 : Int32).toNatClampNeg a))), (m2, .inl (cI, 6, .inl (upd (fun _ => 0) (0 : Int32).toNatClampNeg b)))] := hD
      refine lv_aload_n hx hb dX12_list_103 rfl (lv_at hl 1 rfl) ?_
      refine lv_dup hx hb dX12_list_104 rfl ?_
      refine va_get (D := (dC, dI)) (ci := 12) (v := .int 0) (C := RX12) (T := TX12) (N := 40) hx hb hts in_X12 hown hK hP 0 rfl rfl 22 (by decide) (hts (.fieldLink RX12 148 "TextMenderModel" "state" "I") (List.mem_of_getElem? (i := 6) rfl)) (fun _ h9 => h9) rfl dX12_list_105 ?_
      refine lv_iconst (v := 1) hx hb dX12_list_108 (by decide) ?_
      refine lv_iadd hx hb dX12_list_109 ?_
      refine k_i (y := 1) (by decide) ?_
      refine va_put (D := (dC, dI)) (ci := 12) (v := .int 1) (ty := .int) (C := RX12) (T := TX12) (N := 40) hx hb hts in_X12 tyX12 tyX12_ok nmX12 hown hK hP hD hS 0 rfl rfl 22 (by decide) (hts (.fieldLink RX12 148 "TextMenderModel" "state" "I") (List.mem_of_getElem? (i := 6) rfl)) (fun _ h9 => h9) rfl (by decide +kernel) rfl rfl (Nat.le_of_ble_eq_true rfl) dX12_list_110 (fun H locs hP hD hS => ?_)
      have hP : va_P (dC, dI) vwCl [(oM, .inr (12, [.ref mT, .int 0, .ref mS, .ref mX, .int 0, .int 0, .ref mL, .ref mB, .ref mD, .ref m1, .ref m2, .int 1, .ref mR, .int 0, .ref x1, .ref x2, .ref x3, .int 0, .ref mH, .int 0, .int 0, .int 0, .int 1, .int (-1), .int (-1), .int 0, .ref mY, .int 0, .ref mE, .int 0, .int 0, .ref mW, .int 0, .ref mO, .int 0, .ref y1, .ref y2, .ref y3, .ref y4, .ref mZ])), (m1, .inl (cI, 6, .inl (upd (fun _ => 0) (0 : Int32).toNatClampNeg a))), (m2, .inl (cI, 6, .inl (upd (fun _ => 0) (0 : Int32).toNatClampNeg b)))] H := hP
      have hD : va_D A [(oM, .inr (12, [.ref mT, .int 0, .ref mS, .ref mX, .int 0, .int 0, .ref mL, .ref mB, .ref mD, .ref m1, .ref m2, .int 1, .ref mR, .int 0, .ref x1, .ref x2, .ref x3, .int 0, .ref mH, .int 0, .int 0, .int 0, .int 1, .int (-1), .int (-1), .int 0, .ref mY, .int 0, .ref mE, .int 0, .int 0, .ref mW, .int 0, .ref mO, .int 0, .ref y1, .ref y2, .ref y3, .ref y4, .ref mZ])), (m1, .inl (cI, 6, .inl (upd (fun _ => 0) (0 : Int32).toNatClampNeg a))), (m2, .inl (cI, 6, .inl (upd (fun _ => 0) (0 : Int32).toNatClampNeg b)))] := hD
      refine lv_aload_n hx hb dX12_list_113 rfl (lv_at hl 1 rfl) ?_
      refine va_get (D := (dC, dI)) (ci := 12) (v := .int 1) (C := RX12) (T := TX12) (N := 40) hx hb hts in_X12 hown hK hP 0 rfl rfl 11 (by decide) (hts (.fieldLink RX12 161 "TextMenderModel" "harms" "I") (List.mem_of_getElem? (i := 3) rfl)) (fun _ h9 => h9) rfl dX12_list_114 ?_
      refine lv_iconst (v := 1) hx hb dX12_list_117 (by decide) ?_
      refine lv_isub hx hb dX12_list_118 ?_
      refine k_i (y := 0) (by decide) ?_
      exact W.iret (v := 0) hx hb hr (fun t ht hW => ⟨⟨0, (), rfl, by first | rfl | assumption | simp [g_two, c_2, c_4], trivial⟩, hS.F ht⟩) (hS.2.2) dX12_list_119

set_option maxHeartbeats 4000000 in
set_option maxRecDepth 100000 in
theorem y_unlist (l : Launch) (dC : Nat → ClassId) (dI : Nat → Nat → Nat) (cI cS : ClassId) (sz : Nat) (oM : Nat) (mT : Nat) (mS : Nat) (mX : Nat) (mL : Nat) (mB : Nat) (mD : Nat) (m1 : Nat) (m2 : Nat) (mR : Nat) (x1 : Nat) (x2 : Nat) (x3 : Nat) (mH : Nat) (mY : Nat) (mE : Nat) (mW : Nat) (mO : Nat) (y1 : Nat) (y2 : Nat) (y3 : Nat) (y4 : Nat) (mZ : Nat)  : Met l yX12_unlist wsX12_unlist ({ frames := 0, cells := 0, slots := 0, locals := 0 } : Room) (va_Pc [.ref oM] (fun U => U.heap.size = sz ∧ va_P (dC, dI) vwCl [(oM, .inr (12, [.ref mT, .int 0, .ref mS, .ref mX, .int 0, .int 0, .ref mL, .ref mB, .ref mD, .ref m1, .ref m2, .int 0, .ref mR, .int 0, .ref x1, .ref x2, .ref x3, .int 0, .ref mH, .int 0, .int 0, .int 0, .int 0, .int (-1), .int (-1), .int 0, .ref mY, .int 0, .ref mE, .int 0, .int 0, .ref mW, .int 0, .ref mO, .int 0, .ref y1, .ref y2, .ref y3, .ref y4, .ref mZ]))] U.heap ∧ va_K (dC, dI) vwCl [(cI, .int), (cS, .short)] U ∧ va_D (fun _ => True) [(oM, .inr (12, [.ref mT, .int 0, .ref mS, .ref mX, .int 0, .int 0, .ref mL, .ref mB, .ref mD, .ref m1, .ref m2, .int 0, .ref mR, .int 0, .ref x1, .ref x2, .ref x3, .int 0, .ref mH, .int 0, .int 0, .int 0, .int 0, .int (-1), .int (-1), .int 0, .ref mY, .int 0, .ref mE, .int 0, .int 0, .ref mW, .int 0, .ref mO, .int 0, .ref y1, .ref y2, .ref y3, .ref y4, .ref mZ]))])) (va_Qi (fun (r : Int32) (_ : Unit) => r = 0) (fun _ _ => True) (va_A [(oM, .inr (12, [.ref mT, .int 0, .ref mS, .ref mX, .int 0, .int 0, .ref mL, .ref mB, .ref mD, .ref m1, .ref m2, .int 0, .ref mR, .int 0, .ref x1, .ref x2, .ref x3, .int 0, .ref mH, .int 0, .int 0, .int 0, .int 0, .int (-1), .int (-1), .int 0, .ref mY, .int 0, .ref mE, .int 0, .int 0, .ref mW, .int 0, .ref mO, .int 0, .ref y1, .ref y2, .ref y3, .ref y4, .ref mZ]))] sz)) 0 0 (va_A [(oM, .inr (12, [.ref mT, .int 0, .ref mS, .ref mX, .int 0, .int 0, .ref mL, .ref mB, .ref mD, .ref m1, .ref m2, .int 0, .ref mR, .int 0, .ref x1, .ref x2, .ref x3, .int 0, .ref mH, .int 0, .int 0, .int 0, .int 0, .int (-1), .int (-1), .int 0, .ref mY, .int 0, .ref mE, .int 0, .int 0, .ref mW, .int 0, .ref mO, .int 0, .ref y1, .ref y2, .ref y3, .ref y4, .ref mZ]))] sz) := by
  refine Met.ofW (cc := cX12_unlist) (maxL := 2) (ret := (some .int)) (by decide) rfl ?_
  intro p e s m args below meth c s₁ B hml hv
  obtain ⟨rfl, hsz, hP, hK, hD0⟩ := hv
  have hx := B.exec
  have hb := B.bytes
  have hr := B.returns
  have hts := atoms_spec (ws := wsX12_unlist) B.pre
  have hown : s.vm.findClass RX12 = some m.cls := findClass_of_methodNamed B.named
  have hlocks := B.notSynchronized
  have in_X12 : ∀ w ∈ wsX120, w ∈ wsX12_unlist := fun _ h => List.mem_cons_of_mem _ (List.mem_append_right _ (h))
  subst hsz
  have hD := hD0.self (sz := s.heap.size)
  generalize hAe : va_A [(oM, .inr (12, [.ref mT, .int 0, .ref mS, .ref mX, .int 0, .int 0, .ref mL, .ref mB, .ref mD, .ref m1, .ref m2, .int 0, .ref mR, .int 0, .ref x1, .ref x2, .ref x3, .int 0, .ref mH, .int 0, .int 0, .int 0, .int 0, .int (-1), .int (-1), .int 0, .ref mY, .int 0, .ref mE, .int 0, .int 0, .ref mW, .int 0, .ref mO, .int 0, .ref y1, .ref y2, .ref y3, .ref y4, .ref mZ]))] s.heap.size = A at hD ⊢
  have hA : ∀ q : Nat, s.heap.size ≤ q → A q := fun q h => by rw [← hAe]; exact Or.inr h
  have hS : va_S A s.heap s.heap [] := va_S.rf
  have hP : va_P (dC, dI) vwCl [(oM, .inr (12, [.ref mT, .int 0, .ref mS, .ref mX, .int 0, .int 0, .ref mL, .ref mB, .ref mD, .ref m1, .ref m2, .int 0, .ref mR, .int 0, .ref x1, .ref x2, .ref x3, .int 0, .ref mH, .int 0, .int 0, .int 0, .int 0, .int (-1), .int (-1), .int 0, .ref mY, .int 0, .ref mE, .int 0, .int 0, .ref mW, .int 0, .ref mO, .int 0, .ref y1, .ref y2, .ref y3, .ref y4, .ref mZ]))] s.heap := hP
  have hl := lv_entry ([.ref oM]) (n := 2) (Nat.le_of_ble_eq_true rfl)
  rw [lg_entry_eq]
  generalize (lg_sl ([.ref oM]) ++ List.replicate (2 - (lg_sl ([.ref oM])).length) Slot.unset).toArray = ls at hl ⊢
  have hl : lv_has ls 2 [(0, .ref oM)] := hl
  refine lv_aload_n hx hb dX12_unlist_0 rfl (lv_at hl 0 rfl) ?_
  refine lv_iconst (v := 0) hx hb dX12_unlist_1 (by decide) ?_
  refine va_put (D := (dC, dI)) (ci := 12) (v := .int 0) (ty := .int) (C := RX12) (T := TX12) (N := 40) hx hb hts in_X12 tyX12 tyX12_ok nmX12 hown hK hP hD hS 0 rfl rfl 25 (by decide) (hts (.fieldLink RX12 85 "TextMenderModel" "thrown" "I") (List.mem_of_getElem? (i := 1) rfl)) (fun _ h9 => h9) rfl (by decide +kernel) rfl rfl (Nat.le_of_ble_eq_true rfl) dX12_unlist_2 (fun H locs hP hD hS => ?_)
  have hP : va_P (dC, dI) vwCl [(oM, .inr (12, [.ref mT, .int 0, .ref mS, .ref mX, .int 0, .int 0, .ref mL, .ref mB, .ref mD, .ref m1, .ref m2, .int 0, .ref mR, .int 0, .ref x1, .ref x2, .ref x3, .int 0, .ref mH, .int 0, .int 0, .int 0, .int 0, .int (-1), .int (-1), .int 0, .ref mY, .int 0, .ref mE, .int 0, .int 0, .ref mW, .int 0, .ref mO, .int 0, .ref y1, .ref y2, .ref y3, .ref y4, .ref mZ]))] H := hP
  have hD : va_D A [(oM, .inr (12, [.ref mT, .int 0, .ref mS, .ref mX, .int 0, .int 0, .ref mL, .ref mB, .ref mD, .ref m1, .ref m2, .int 0, .ref mR, .int 0, .ref x1, .ref x2, .ref x3, .int 0, .ref mH, .int 0, .int 0, .int 0, .int 0, .int (-1), .int (-1), .int 0, .ref mY, .int 0, .ref mE, .int 0, .int 0, .ref mW, .int 0, .ref mO, .int 0, .ref y1, .ref y2, .ref y3, .ref y4, .ref mZ]))] := hD
  refine lv_aload_n hx hb dX12_unlist_5 rfl (lv_at hl 0 rfl) ?_
  refine va_get (D := (dC, dI)) (ci := 12) (v := .int 0) (C := RX12) (T := TX12) (N := 40) hx hb hts in_X12 hown hK hP 0 rfl rfl 11 (by decide) (hts (.fieldLink RX12 161 "TextMenderModel" "harms" "I") (List.mem_of_getElem? (i := 2) rfl)) (fun _ h9 => h9) rfl dX12_unlist_6 ?_
  refine lv_istore_n (lv' := [(1, .int 0), (0, .ref oM)]) hx hb dX12_unlist_9 rfl hl (by decide) rfl (fun ls hl => ?_)
  refine lv_aload_n hx hb dX12_unlist_10 rfl (lv_at hl 1 rfl) ?_
  refine lv_iconst (v := 0) hx hb dX12_unlist_11 (by decide) ?_
  refine va_put (D := (dC, dI)) (ci := 12) (v := .int 0) (ty := .int) (C := RX12) (T := TX12) (N := 40) hx hb hts in_X12 tyX12 tyX12_ok nmX12 hown hK hP hD hS 0 rfl rfl 11 (by decide) (hts (.fieldLink RX12 161 "TextMenderModel" "harms" "I") (List.mem_of_getElem? (i := 2) rfl)) (fun _ h9 => h9) rfl (by decide +kernel) rfl rfl (Nat.le_of_ble_eq_true rfl) dX12_unlist_12 (fun H locs hP hD hS => ?_)
  have hP : va_P (dC, dI) vwCl [(oM, .inr (12, [.ref mT, .int 0, .ref mS, .ref mX, .int 0, .int 0, .ref mL, .ref mB, .ref mD, .ref m1, .ref m2, .int 0, .ref mR, .int 0, .ref x1, .ref x2, .ref x3, .int 0, .ref mH, .int 0, .int 0, .int 0, .int 0, .int (-1), .int (-1), .int 0, .ref mY, .int 0, .ref mE, .int 0, .int 0, .ref mW, .int 0, .ref mO, .int 0, .ref y1, .ref y2, .ref y3, .ref y4, .ref mZ]))] H := hP
  have hD : va_D A [(oM, .inr (12, [.ref mT, .int 0, .ref mS, .ref mX, .int 0, .int 0, .ref mL, .ref mB, .ref mD, .ref m1, .ref m2, .int 0, .ref mR, .int 0, .ref x1, .ref x2, .ref x3, .int 0, .ref mH, .int 0, .int 0, .int 0, .int 0, .int (-1), .int (-1), .int 0, .ref mY, .int 0, .ref mE, .int 0, .int 0, .ref mW, .int 0, .ref mO, .int 0, .ref y1, .ref y2, .ref y3, .ref y4, .ref mZ]))] := hD
  refine lv_aload_n hx hb dX12_unlist_15 rfl (lv_at hl 1 rfl) ?_
  refine lv_dup hx hb dX12_unlist_16 rfl ?_
  refine va_get (D := (dC, dI)) (ci := 12) (v := .int 0) (C := RX12) (T := TX12) (N := 40) hx hb hts in_X12 hown hK hP 0 rfl rfl 22 (by decide) (hts (.fieldLink RX12 148 "TextMenderModel" "state" "I") (List.mem_of_getElem? (i := 3) rfl)) (fun _ h9 => h9) rfl dX12_unlist_17 ?_
  refine lv_iconst (v := 1) hx hb dX12_unlist_20 (by decide) ?_
  refine lv_iadd hx hb dX12_unlist_21 ?_
  refine k_i (y := 1) (by decide) ?_
  refine va_put (D := (dC, dI)) (ci := 12) (v := .int 1) (ty := .int) (C := RX12) (T := TX12) (N := 40) hx hb hts in_X12 tyX12 tyX12_ok nmX12 hown hK hP hD hS 0 rfl rfl 22 (by decide) (hts (.fieldLink RX12 148 "TextMenderModel" "state" "I") (List.mem_of_getElem? (i := 3) rfl)) (fun _ h9 => h9) rfl (by decide +kernel) rfl rfl (Nat.le_of_ble_eq_true rfl) dX12_unlist_22 (fun H locs hP hD hS => ?_)
  have hP : va_P (dC, dI) vwCl [(oM, .inr (12, [.ref mT, .int 0, .ref mS, .ref mX, .int 0, .int 0, .ref mL, .ref mB, .ref mD, .ref m1, .ref m2, .int 0, .ref mR, .int 0, .ref x1, .ref x2, .ref x3, .int 0, .ref mH, .int 0, .int 0, .int 0, .int 1, .int (-1), .int (-1), .int 0, .ref mY, .int 0, .ref mE, .int 0, .int 0, .ref mW, .int 0, .ref mO, .int 0, .ref y1, .ref y2, .ref y3, .ref y4, .ref mZ]))] H := hP
  have hD : va_D A [(oM, .inr (12, [.ref mT, .int 0, .ref mS, .ref mX, .int 0, .int 0, .ref mL, .ref mB, .ref mD, .ref m1, .ref m2, .int 0, .ref mR, .int 0, .ref x1, .ref x2, .ref x3, .int 0, .ref mH, .int 0, .int 0, .int 0, .int 1, .int (-1), .int (-1), .int 0, .ref mY, .int 0, .ref mE, .int 0, .int 0, .ref mW, .int 0, .ref mO, .int 0, .ref y1, .ref y2, .ref y3, .ref y4, .ref mZ]))] := hD
  refine lv_iload_n hx hb dX12_unlist_25 rfl (lv_at hl 0 rfl) ?_
  exact W.iret (v := 0) hx hb hr (fun t ht hW => ⟨⟨0, (), rfl, rfl, trivial⟩, hS.F ht⟩) (hS.2.2) dX12_unlist_26

set_option maxHeartbeats 4000000 in
set_option maxRecDepth 100000 in
theorem y_rows (l : Launch) (dC : Nat → ClassId) (dI : Nat → Nat → Nat) (cI cS : ClassId) (sz : Nat) (oM : Nat) (mT : Nat) (mS : Nat) (mX : Nat) (mL : Nat) (mB : Nat) (mD : Nat) (m1 : Nat) (m2 : Nat) (mR : Nat) (x1 : Nat) (x2 : Nat) (x3 : Nat) (mH : Nat) (mY : Nat) (mE : Nat) (mW : Nat) (mO : Nat) (y1 : Nat) (y2 : Nat) (y3 : Nat) (y4 : Nat) (mZ : Nat) (n : Int32)  : Met l yX12_rows wsX12_rows ({ frames := 0, cells := 0, slots := 0, locals := 0 } : Room) (va_Pc [.ref oM, .int n] (fun U => U.heap.size = sz ∧ va_P (dC, dI) vwCl [(oM, .inr (12, [.ref mT, .int 0, .ref mS, .ref mX, .int 0, .int 0, .ref mL, .ref mB, .ref mD, .ref m1, .ref m2, .int 0, .ref mR, .int 0, .ref x1, .ref x2, .ref x3, .int 0, .ref mH, .int 0, .int 0, .int 0, .int 0, .int (-1), .int (-1), .int 0, .ref mY, .int 0, .ref mE, .int 0, .int 0, .ref mW, .int 0, .ref mO, .int 0, .ref y1, .ref y2, .ref y3, .ref y4, .ref mZ]))] U.heap ∧ va_K (dC, dI) vwCl [(cI, .int), (cS, .short)] U ∧ va_D (fun _ => True) [(oM, .inr (12, [.ref mT, .int 0, .ref mS, .ref mX, .int 0, .int 0, .ref mL, .ref mB, .ref mD, .ref m1, .ref m2, .int 0, .ref mR, .int 0, .ref x1, .ref x2, .ref x3, .int 0, .ref mH, .int 0, .int 0, .int 0, .int 0, .int (-1), .int (-1), .int 0, .ref mY, .int 0, .ref mE, .int 0, .int 0, .ref mW, .int 0, .ref mO, .int 0, .ref y1, .ref y2, .ref y3, .ref y4, .ref mZ]))])) (va_Qi (fun (r : Int32) (_ : Unit) => r = f_rows n) (fun _ _ => True) (va_A [(oM, .inr (12, [.ref mT, .int 0, .ref mS, .ref mX, .int 0, .int 0, .ref mL, .ref mB, .ref mD, .ref m1, .ref m2, .int 0, .ref mR, .int 0, .ref x1, .ref x2, .ref x3, .int 0, .ref mH, .int 0, .int 0, .int 0, .int 0, .int (-1), .int (-1), .int 0, .ref mY, .int 0, .ref mE, .int 0, .int 0, .ref mW, .int 0, .ref mO, .int 0, .ref y1, .ref y2, .ref y3, .ref y4, .ref mZ]))] sz)) 0 0 (va_A [(oM, .inr (12, [.ref mT, .int 0, .ref mS, .ref mX, .int 0, .int 0, .ref mL, .ref mB, .ref mD, .ref m1, .ref m2, .int 0, .ref mR, .int 0, .ref x1, .ref x2, .ref x3, .int 0, .ref mH, .int 0, .int 0, .int 0, .int 0, .int (-1), .int (-1), .int 0, .ref mY, .int 0, .ref mE, .int 0, .int 0, .ref mW, .int 0, .ref mO, .int 0, .ref y1, .ref y2, .ref y3, .ref y4, .ref mZ]))] sz) := by
  refine Met.ofW (cc := cX12_rows) (maxL := 7) (ret := (some .int)) (by decide) rfl ?_
  intro p e s m args below meth c s₁ B hml hv
  obtain ⟨rfl, hsz, hP, hK, hD0⟩ := hv
  have hx := B.exec
  have hb := B.bytes
  have hr := B.returns
  have hts := atoms_spec (ws := wsX12_rows) B.pre
  have hown : s.vm.findClass RX12 = some m.cls := findClass_of_methodNamed B.named
  have hlocks := B.notSynchronized
  have in_X12 : ∀ w ∈ wsX120, w ∈ wsX12_rows := fun _ h => List.mem_cons_of_mem _ (List.mem_append_right _ (h))
  subst hsz
  have hD := hD0.self (sz := s.heap.size)
  generalize hAe : va_A [(oM, .inr (12, [.ref mT, .int 0, .ref mS, .ref mX, .int 0, .int 0, .ref mL, .ref mB, .ref mD, .ref m1, .ref m2, .int 0, .ref mR, .int 0, .ref x1, .ref x2, .ref x3, .int 0, .ref mH, .int 0, .int 0, .int 0, .int 0, .int (-1), .int (-1), .int 0, .ref mY, .int 0, .ref mE, .int 0, .int 0, .ref mW, .int 0, .ref mO, .int 0, .ref y1, .ref y2, .ref y3, .ref y4, .ref mZ]))] s.heap.size = A at hD ⊢
  have hA : ∀ q : Nat, s.heap.size ≤ q → A q := fun q h => by rw [← hAe]; exact Or.inr h
  have hS : va_S A s.heap s.heap [] := va_S.rf
  have hP : va_P (dC, dI) vwCl [(oM, .inr (12, [.ref mT, .int 0, .ref mS, .ref mX, .int 0, .int 0, .ref mL, .ref mB, .ref mD, .ref m1, .ref m2, .int 0, .ref mR, .int 0, .ref x1, .ref x2, .ref x3, .int 0, .ref mH, .int 0, .int 0, .int 0, .int 0, .int (-1), .int (-1), .int 0, .ref mY, .int 0, .ref mE, .int 0, .int 0, .ref mW, .int 0, .ref mO, .int 0, .ref y1, .ref y2, .ref y3, .ref y4, .ref mZ]))] s.heap := hP
  have hl := lv_entry ([.ref oM, .int n]) (n := 7) (Nat.le_of_ble_eq_true rfl)
  rw [lg_entry_eq]
  generalize (lg_sl ([.ref oM, .int n]) ++ List.replicate (7 - (lg_sl ([.ref oM, .int n])).length) Slot.unset).toArray = ls at hl ⊢
  have hl : lv_has ls 7 [(0, .ref oM), (1, .int n)] := hl
  refine lv_aload_n hx hb dX12_rows_0 rfl (lv_at hl 0 rfl) ?_
  refine lv_iconst (v := 0) hx hb dX12_rows_1 (by decide) ?_
  refine va_put (D := (dC, dI)) (ci := 12) (v := .int 0) (ty := .int) (C := RX12) (T := TX12) (N := 40) hx hb hts in_X12 tyX12 tyX12_ok nmX12 hown hK hP hD hS 0 rfl rfl 25 (by decide) (hts (.fieldLink RX12 85 "TextMenderModel" "thrown" "I") (List.mem_of_getElem? (i := 1) rfl)) (fun _ h9 => h9) rfl (by decide +kernel) rfl rfl (Nat.le_of_ble_eq_true rfl) dX12_rows_2 (fun H locs hP hD hS => ?_)
  have hP : va_P (dC, dI) vwCl [(oM, .inr (12, [.ref mT, .int 0, .ref mS, .ref mX, .int 0, .int 0, .ref mL, .ref mB, .ref mD, .ref m1, .ref m2, .int 0, .ref mR, .int 0, .ref x1, .ref x2, .ref x3, .int 0, .ref mH, .int 0, .int 0, .int 0, .int 0, .int (-1), .int (-1), .int 0, .ref mY, .int 0, .ref mE, .int 0, .int 0, .ref mW, .int 0, .ref mO, .int 0, .ref y1, .ref y2, .ref y3, .ref y4, .ref mZ]))] H := hP
  have hD : va_D A [(oM, .inr (12, [.ref mT, .int 0, .ref mS, .ref mX, .int 0, .int 0, .ref mL, .ref mB, .ref mD, .ref m1, .ref m2, .int 0, .ref mR, .int 0, .ref x1, .ref x2, .ref x3, .int 0, .ref mH, .int 0, .int 0, .int 0, .int 0, .int (-1), .int (-1), .int 0, .ref mY, .int 0, .ref mE, .int 0, .int 0, .ref mW, .int 0, .ref mO, .int 0, .ref y1, .ref y2, .ref y3, .ref y4, .ref mZ]))] := hD
  refine lv_aload_n hx hb dX12_rows_5 rfl (lv_at hl 0 rfl) ?_
  refine lv_iconst (v := (-1)) hx hb dX12_rows_6 (by decide) ?_
  refine va_put (D := (dC, dI)) (ci := 12) (v := .int (-1)) (ty := .int) (C := RX12) (T := TX12) (N := 40) hx hb hts in_X12 tyX12 tyX12_ok nmX12 hown hK hP hD hS 0 rfl rfl 24 (by decide) (hts (.fieldLink RX12 55 "TextMenderModel" "where" "I") (List.mem_of_getElem? (i := 2) rfl)) (fun _ h9 => h9) rfl (by decide +kernel) rfl rfl (Nat.le_of_ble_eq_true rfl) dX12_rows_7 (fun H locs hP hD hS => ?_)
  have hP : va_P (dC, dI) vwCl [(oM, .inr (12, [.ref mT, .int 0, .ref mS, .ref mX, .int 0, .int 0, .ref mL, .ref mB, .ref mD, .ref m1, .ref m2, .int 0, .ref mR, .int 0, .ref x1, .ref x2, .ref x3, .int 0, .ref mH, .int 0, .int 0, .int 0, .int 0, .int (-1), .int (-1), .int 0, .ref mY, .int 0, .ref mE, .int 0, .int 0, .ref mW, .int 0, .ref mO, .int 0, .ref y1, .ref y2, .ref y3, .ref y4, .ref mZ]))] H := hP
  have hD : va_D A [(oM, .inr (12, [.ref mT, .int 0, .ref mS, .ref mX, .int 0, .int 0, .ref mL, .ref mB, .ref mD, .ref m1, .ref m2, .int 0, .ref mR, .int 0, .ref x1, .ref x2, .ref x3, .int 0, .ref mH, .int 0, .int 0, .int 0, .int 0, .int (-1), .int (-1), .int 0, .ref mY, .int 0, .ref mE, .int 0, .int 0, .ref mW, .int 0, .ref mO, .int 0, .ref y1, .ref y2, .ref y3, .ref y4, .ref mZ]))] := hD
  refine lv_iload_n hx hb dX12_rows_10 rfl (lv_at hl 1 rfl) ?_
  refine lv_iconst (v := 1) hx hb dX12_rows_11 (by decide) ?_
  refine lv_icmp_lt (tgt := 20) hx hb dX12_rows_12 (by decide) (fun c_1 => ?_) (fun c_1 => ?_)
  · refine lv_iconst (v := (-1)) hx hb dX12_rows_20 (by decide) ?_
    exact W.iret (v := (-1)) hx hb hr (fun t ht hW => ⟨⟨(-1), (), rfl, by first | rfl | assumption | simp [f_rows, c_1], trivial⟩, hS.F ht⟩) (hS.2.2) dX12_rows_21
  · refine lv_iload_n hx hb dX12_rows_15 rfl (lv_at hl 1 rfl) ?_
    refine lv_iconst (v := 3) hx hb dX12_rows_16 (by decide) ?_
    refine lv_icmp_le (tgt := 22) hx hb dX12_rows_17 (by decide) (fun c_2 => ?_) (fun c_2 => ?_)
    · refine lv_aload_n hx hb dX12_rows_22 rfl (lv_at hl 0 rfl) ?_
      refine lv_iconst (v := 0) hx hb dX12_rows_23 (by decide) ?_
      refine va_put (D := (dC, dI)) (ci := 12) (v := .int 0) (ty := .int) (C := RX12) (T := TX12) (N := 40) hx hb hts in_X12 tyX12 tyX12_ok nmX12 hown hK hP hD hS 0 rfl rfl 13 (by decide) (hts (.fieldLink RX12 180 "TextMenderModel" "rowMany" "I") (List.mem_of_getElem? (i := 3) rfl)) (fun _ h9 => h9) rfl (by decide +kernel) rfl rfl (Nat.le_of_ble_eq_true rfl) dX12_rows_24 (fun H locs hP hD hS => ?_)
      have hP : va_P (dC, dI) vwCl [(oM, .inr (12, [.ref mT, .int 0, .ref mS, .ref mX, .int 0, .int 0, .ref mL, .ref mB, .ref mD, .ref m1, .ref m2, .int 0, .ref mR, .int 0, .ref x1, .ref x2, .ref x3, .int 0, .ref mH, .int 0, .int 0, .int 0, .int 0, .int (-1), .int (-1), .int 0, .ref mY, .int 0, .ref mE, .int 0, .int 0, .ref mW, .int 0, .ref mO, .int 0, .ref y1, .ref y2, .ref y3, .ref y4, .ref mZ]))] H := hP
      have hD : va_D A [(oM, .inr (12, [.ref mT, .int 0, .ref mS, .ref mX, .int 0, .int 0, .ref mL, .ref mB, .ref mD, .ref m1, .ref m2, .int 0, .ref mR, .int 0, .ref x1, .ref x2, .ref x3, .int 0, .ref mH, .int 0, .int 0, .int 0, .int 0, .int (-1), .int (-1), .int 0, .ref mY, .int 0, .ref mE, .int 0, .int 0, .ref mW, .int 0, .ref mO, .int 0, .ref y1, .ref y2, .ref y3, .ref y4, .ref mZ]))] := hD
      refine lv_iconst (v := 1) hx hb dX12_rows_27 (by decide) ?_
      refine lv_istore_n (lv' := [(2, .int 1), (0, .ref oM), (1, .int n)]) hx hb dX12_rows_28 rfl hl (by decide) rfl (fun ls hl => ?_)
      refine lv_iload_n hx hb dX12_rows_29 rfl (lv_at hl 0 rfl) ?_
      refine lv_iload_n hx hb dX12_rows_30 rfl (lv_at hl 2 rfl) ?_
      refine lv_icmp_gt (tgt := 208) hx hb dX12_rows_31 (by decide) (fun c_3 => absurd c_3 (c_1)) (fun c_3 => ?_)
      refine lv_aload_n hx hb dX12_rows_34 rfl (lv_at hl 1 rfl) ?_
      refine va_get (D := (dC, dI)) (ci := 12) (v := .int 0) (C := RX12) (T := TX12) (N := 40) hx hb hts in_X12 hown hK hP 0 rfl rfl 11 (by decide) (hts (.fieldLink RX12 161 "TextMenderModel" "harms" "I") (List.mem_of_getElem? (i := 4) rfl)) (fun _ h9 => h9) rfl dX12_rows_35 ?_
      refine lv_if_ne (tgt := 45) hx hb dX12_rows_38 (by decide) (fun c_4 => absurd (by decide) c_4) (fun c_4 => ?_)
      refine lv_iconst (v := 0) hx hb dX12_rows_41 (by decide) ?_
      refine lv_goto (tgt := 53) hx hb dX12_rows_42 (by decide) ?_
      refine lv_istore_n (lv' := [(3, .int 0), (2, .int 1), (0, .ref oM), (1, .int n)]) hx hb dX12_rows_53 rfl hl (by decide) rfl (fun ls hl => ?_)
      refine lv_iconst (v := 0) hx hb dX12_rows_54 (by decide) ?_
      refine lv_istore (lv' := [(4, .int 0), (3, .int 0), (2, .int 1), (0, .ref oM), (1, .int n)]) hx hb dX12_rows_55 hl (by decide) rfl (fun ls hl => ?_)
      refine lv_iload hx hb dX12_rows_57 (lv_at hl 0 rfl) ?_
      refine lv_iload_n hx hb dX12_rows_59 rfl (lv_at hl 1 rfl) ?_
      refine lv_icmp_ge (tgt := 202) hx hb dX12_rows_60 (by decide) (fun c_5 => ?_) (fun c_5 => absurd (by decide) c_5)
      refine lv_iinc (v := 2) (lv' := [(2, .int 2), (4, .int 0), (3, .int 0), (0, .ref oM), (1, .int n)]) hx hb dX12_rows_202 hl (k := 2) rfl (by decide) (by decide) rfl (fun ls hl => ?_)
      refine lv_goto (tgt := 29) hx hb dX12_rows_205 (by decide) ?_
      refine lv_iload_n hx hb dX12_rows_29 rfl (lv_at hl 0 rfl) ?_
      refine lv_iload_n hx hb dX12_rows_30 rfl (lv_at hl 4 rfl) ?_
      refine lv_icmp_gt (tgt := 208) hx hb dX12_rows_31 (by decide) (fun c_6 => ?_) (fun c_6 => ?_)
      · refine lv_aload_n hx hb dX12_rows_208 rfl (lv_at hl 3 rfl) ?_
        refine va_get (D := (dC, dI)) (ci := 12) (v := .int 0) (C := RX12) (T := TX12) (N := 40) hx hb hts in_X12 hown hK hP 0 rfl rfl 13 (by decide) (hts (.fieldLink RX12 180 "TextMenderModel" "rowMany" "I") (List.mem_of_getElem? (i := 3) rfl)) (fun _ h9 => h9) rfl dX12_rows_209 ?_
        exact W.iret (v := 0) hx hb hr (fun t ht hW => ⟨⟨0, (), rfl, by first | rfl | assumption | simp [f_rows, c_1, c_2, c_6], trivial⟩, hS.F ht⟩) (hS.2.2) dX12_rows_212
      · refine lv_aload_n hx hb dX12_rows_34 rfl (lv_at hl 3 rfl) ?_
        refine va_get (D := (dC, dI)) (ci := 12) (v := .int 0) (C := RX12) (T := TX12) (N := 40) hx hb hts in_X12 hown hK hP 0 rfl rfl 11 (by decide) (hts (.fieldLink RX12 161 "TextMenderModel" "harms" "I") (List.mem_of_getElem? (i := 4) rfl)) (fun _ h9 => h9) rfl dX12_rows_35 ?_
        refine lv_if_ne (tgt := 45) hx hb dX12_rows_38 (by decide) (fun c_7 => absurd (by decide) c_7) (fun c_7 => ?_)
        refine lv_iconst (v := 0) hx hb dX12_rows_41 (by decide) ?_
        refine lv_goto (tgt := 53) hx hb dX12_rows_42 (by decide) ?_
        refine lv_istore_n (lv' := [(3, .int 0), (2, .int 2), (4, .int 0), (0, .ref oM), (1, .int n)]) hx hb dX12_rows_53 rfl hl (by decide) rfl (fun ls hl => ?_)
        refine lv_iconst (v := 0) hx hb dX12_rows_54 (by decide) ?_
        refine lv_istore (lv' := [(4, .int 0), (3, .int 0), (2, .int 2), (0, .ref oM), (1, .int n)]) hx hb dX12_rows_55 hl (by decide) rfl (fun ls hl => ?_)
        refine lv_iload hx hb dX12_rows_57 (lv_at hl 0 rfl) ?_
        refine lv_iload_n hx hb dX12_rows_59 rfl (lv_at hl 1 rfl) ?_
        refine lv_icmp_ge (tgt := 202) hx hb dX12_rows_60 (by decide) (fun c_8 => ?_) (fun c_8 => absurd (by decide) c_8)
        refine lv_iinc (v := 3) (lv' := [(2, .int 3), (4, .int 0), (3, .int 0), (0, .ref oM), (1, .int n)]) hx hb dX12_rows_202 hl (k := 2) rfl (by decide) (by decide) rfl (fun ls hl => ?_)
        refine lv_goto (tgt := 29) hx hb dX12_rows_205 (by decide) ?_
        refine lv_iload_n hx hb dX12_rows_29 rfl (lv_at hl 0 rfl) ?_
        refine lv_iload_n hx hb dX12_rows_30 rfl (lv_at hl 4 rfl) ?_
        refine lv_icmp_gt (tgt := 208) hx hb dX12_rows_31 (by decide) (fun c_9 => ?_) (fun c_9 => ?_)
        · refine lv_aload_n hx hb dX12_rows_208 rfl (lv_at hl 3 rfl) ?_
          refine va_get (D := (dC, dI)) (ci := 12) (v := .int 0) (C := RX12) (T := TX12) (N := 40) hx hb hts in_X12 hown hK hP 0 rfl rfl 13 (by decide) (hts (.fieldLink RX12 180 "TextMenderModel" "rowMany" "I") (List.mem_of_getElem? (i := 3) rfl)) (fun _ h9 => h9) rfl dX12_rows_209 ?_
          exact W.iret (v := 0) hx hb hr (fun t ht hW => ⟨⟨0, (), rfl, by first | rfl | assumption | simp [f_rows, c_1, c_2, c_6, c_9], trivial⟩, hS.F ht⟩) (hS.2.2) dX12_rows_212
        · refine lv_aload_n hx hb dX12_rows_34 rfl (lv_at hl 3 rfl) ?_
          refine va_get (D := (dC, dI)) (ci := 12) (v := .int 0) (C := RX12) (T := TX12) (N := 40) hx hb hts in_X12 hown hK hP 0 rfl rfl 11 (by decide) (hts (.fieldLink RX12 161 "TextMenderModel" "harms" "I") (List.mem_of_getElem? (i := 4) rfl)) (fun _ h9 => h9) rfl dX12_rows_35 ?_
          refine lv_if_ne (tgt := 45) hx hb dX12_rows_38 (by decide) (fun c_10 => absurd (by decide) c_10) (fun c_10 => ?_)
          refine lv_iconst (v := 0) hx hb dX12_rows_41 (by decide) ?_
          refine lv_goto (tgt := 53) hx hb dX12_rows_42 (by decide) ?_
          refine lv_istore_n (lv' := [(3, .int 0), (2, .int 3), (4, .int 0), (0, .ref oM), (1, .int n)]) hx hb dX12_rows_53 rfl hl (by decide) rfl (fun ls hl => ?_)
          refine lv_iconst (v := 0) hx hb dX12_rows_54 (by decide) ?_
          refine lv_istore (lv' := [(4, .int 0), (3, .int 0), (2, .int 3), (0, .ref oM), (1, .int n)]) hx hb dX12_rows_55 hl (by decide) rfl (fun ls hl => ?_)
          refine lv_iload hx hb dX12_rows_57 (lv_at hl 0 rfl) ?_
          refine lv_iload_n hx hb dX12_rows_59 rfl (lv_at hl 1 rfl) ?_
          refine lv_icmp_ge (tgt := 202) hx hb dX12_rows_60 (by decide) (fun c_11 => ?_) (fun c_11 => absurd (by decide) c_11)
          refine lv_iinc (v := 4) (lv' := [(2, .int 4), (4, .int 0), (3, .int 0), (0, .ref oM), (1, .int n)]) hx hb dX12_rows_202 hl (k := 2) rfl (by decide) (by decide) rfl (fun ls hl => ?_)
          refine lv_goto (tgt := 29) hx hb dX12_rows_205 (by decide) ?_
          refine lv_iload_n hx hb dX12_rows_29 rfl (lv_at hl 0 rfl) ?_
          refine lv_iload_n hx hb dX12_rows_30 rfl (lv_at hl 4 rfl) ?_
          refine lv_icmp_gt (tgt := 208) hx hb dX12_rows_31 (by decide) (fun c_12 => ?_) (fun c_12 => absurd (Int32.lt_of_le_of_lt c_2 (by decide)) c_12)
          refine lv_aload_n hx hb dX12_rows_208 rfl (lv_at hl 3 rfl) ?_
          refine va_get (D := (dC, dI)) (ci := 12) (v := .int 0) (C := RX12) (T := TX12) (N := 40) hx hb hts in_X12 hown hK hP 0 rfl rfl 13 (by decide) (hts (.fieldLink RX12 180 "TextMenderModel" "rowMany" "I") (List.mem_of_getElem? (i := 3) rfl)) (fun _ h9 => h9) rfl dX12_rows_209 ?_
          exact W.iret (v := 0) hx hb hr (fun t ht hW => ⟨⟨0, (), rfl, by first | rfl | assumption | simp [f_rows, c_1, c_2, c_6, c_9], trivial⟩, hS.F ht⟩) (hS.2.2) dX12_rows_212
    · refine lv_iconst (v := (-1)) hx hb dX12_rows_20 (by decide) ?_
      exact W.iret (v := (-1)) hx hb hr (fun t ht hW => ⟨⟨(-1), (), rfl, by first | rfl | assumption | simp [f_rows, c_1, c_2], trivial⟩, hS.F ht⟩) (hS.2.2) dX12_rows_21

set_option maxHeartbeats 4000000 in
set_option maxRecDepth 100000 in
theorem y_row (l : Launch) (dC : Nat → ClassId) (dI : Nat → Nat → Nat) (cI cS : ClassId) (sz : Nat) (oM : Nat) (mT : Nat) (mS : Nat) (mX : Nat) (mL : Nat) (mB : Nat) (mD : Nat) (m1 : Nat) (m2 : Nat) (mR : Nat) (x1 : Nat) (x2 : Nat) (x3 : Nat) (mH : Nat) (mY : Nat) (mE : Nat) (mW : Nat) (mO : Nat) (y1 : Nat) (y2 : Nat) (y3 : Nat) (y4 : Nat) (mZ : Nat) (i : Int32) (wh : Int32)  : Met l yX12_row wsX12_row ({ frames := 0, cells := 0, slots := 0, locals := 0 } : Room) (va_Pc [.ref oM, .int i, .int wh] (fun U => U.heap.size = sz ∧ va_P (dC, dI) vwCl [(oM, .inr (12, [.ref mT, .int 0, .ref mS, .ref mX, .int 0, .int 0, .ref mL, .ref mB, .ref mD, .ref m1, .ref m2, .int 0, .ref mR, .int 0, .ref x1, .ref x2, .ref x3, .int 0, .ref mH, .int 0, .int 0, .int 0, .int 0, .int (-1), .int (-1), .int 0, .ref mY, .int 0, .ref mE, .int 0, .int 0, .ref mW, .int 0, .ref mO, .int 0, .ref y1, .ref y2, .ref y3, .ref y4, .ref mZ]))] U.heap ∧ va_K (dC, dI) vwCl [(cI, .int), (cS, .short)] U ∧ va_D (fun _ => True) [(oM, .inr (12, [.ref mT, .int 0, .ref mS, .ref mX, .int 0, .int 0, .ref mL, .ref mB, .ref mD, .ref m1, .ref m2, .int 0, .ref mR, .int 0, .ref x1, .ref x2, .ref x3, .int 0, .ref mH, .int 0, .int 0, .int 0, .int 0, .int (-1), .int (-1), .int 0, .ref mY, .int 0, .ref mE, .int 0, .int 0, .ref mW, .int 0, .ref mO, .int 0, .ref y1, .ref y2, .ref y3, .ref y4, .ref mZ]))])) (va_Qi (fun (r : Int32) (_ : Unit) => r = (-1)) (fun _ _ => True) (va_A [(oM, .inr (12, [.ref mT, .int 0, .ref mS, .ref mX, .int 0, .int 0, .ref mL, .ref mB, .ref mD, .ref m1, .ref m2, .int 0, .ref mR, .int 0, .ref x1, .ref x2, .ref x3, .int 0, .ref mH, .int 0, .int 0, .int 0, .int 0, .int (-1), .int (-1), .int 0, .ref mY, .int 0, .ref mE, .int 0, .int 0, .ref mW, .int 0, .ref mO, .int 0, .ref y1, .ref y2, .ref y3, .ref y4, .ref mZ]))] sz)) 0 0 (va_A [(oM, .inr (12, [.ref mT, .int 0, .ref mS, .ref mX, .int 0, .int 0, .ref mL, .ref mB, .ref mD, .ref m1, .ref m2, .int 0, .ref mR, .int 0, .ref x1, .ref x2, .ref x3, .int 0, .ref mH, .int 0, .int 0, .int 0, .int 0, .int (-1), .int (-1), .int 0, .ref mY, .int 0, .ref mE, .int 0, .int 0, .ref mW, .int 0, .ref mO, .int 0, .ref y1, .ref y2, .ref y3, .ref y4, .ref mZ]))] sz) := by
  refine Met.ofW (cc := cX12_row) (maxL := 3) (ret := (some .int)) (by decide) rfl ?_
  intro p e s m args below meth c s₁ B hml hv
  obtain ⟨rfl, hsz, hP, hK, hD0⟩ := hv
  have hx := B.exec
  have hb := B.bytes
  have hr := B.returns
  have hts := atoms_spec (ws := wsX12_row) B.pre
  have hown : s.vm.findClass RX12 = some m.cls := findClass_of_methodNamed B.named
  have hlocks := B.notSynchronized
  have in_X12 : ∀ w ∈ wsX120, w ∈ wsX12_row := fun _ h => List.mem_cons_of_mem _ (List.mem_append_right _ (h))
  subst hsz
  have hD := hD0.self (sz := s.heap.size)
  generalize hAe : va_A [(oM, .inr (12, [.ref mT, .int 0, .ref mS, .ref mX, .int 0, .int 0, .ref mL, .ref mB, .ref mD, .ref m1, .ref m2, .int 0, .ref mR, .int 0, .ref x1, .ref x2, .ref x3, .int 0, .ref mH, .int 0, .int 0, .int 0, .int 0, .int (-1), .int (-1), .int 0, .ref mY, .int 0, .ref mE, .int 0, .int 0, .ref mW, .int 0, .ref mO, .int 0, .ref y1, .ref y2, .ref y3, .ref y4, .ref mZ]))] s.heap.size = A at hD ⊢
  have hA : ∀ q : Nat, s.heap.size ≤ q → A q := fun q h => by rw [← hAe]; exact Or.inr h
  have hS : va_S A s.heap s.heap [] := va_S.rf
  have hP : va_P (dC, dI) vwCl [(oM, .inr (12, [.ref mT, .int 0, .ref mS, .ref mX, .int 0, .int 0, .ref mL, .ref mB, .ref mD, .ref m1, .ref m2, .int 0, .ref mR, .int 0, .ref x1, .ref x2, .ref x3, .int 0, .ref mH, .int 0, .int 0, .int 0, .int 0, .int (-1), .int (-1), .int 0, .ref mY, .int 0, .ref mE, .int 0, .int 0, .ref mW, .int 0, .ref mO, .int 0, .ref y1, .ref y2, .ref y3, .ref y4, .ref mZ]))] s.heap := hP
  have hl := lv_entry ([.ref oM, .int i, .int wh]) (n := 3) (Nat.le_of_ble_eq_true rfl)
  rw [lg_entry_eq]
  generalize (lg_sl ([.ref oM, .int i, .int wh]) ++ List.replicate (3 - (lg_sl ([.ref oM, .int i, .int wh])).length) Slot.unset).toArray = ls at hl ⊢
  have hl : lv_has ls 3 [(0, .ref oM), (1, .int i), (2, .int wh)] := hl
  refine lv_aload_n hx hb dX12_row_0 rfl (lv_at hl 0 rfl) ?_
  refine lv_iconst (v := 0) hx hb dX12_row_1 (by decide) ?_
  refine va_put (D := (dC, dI)) (ci := 12) (v := .int 0) (ty := .int) (C := RX12) (T := TX12) (N := 40) hx hb hts in_X12 tyX12 tyX12_ok nmX12 hown hK hP hD hS 0 rfl rfl 25 (by decide) (hts (.fieldLink RX12 85 "TextMenderModel" "thrown" "I") (List.mem_of_getElem? (i := 1) rfl)) (fun _ h9 => h9) rfl (by decide +kernel) rfl rfl (Nat.le_of_ble_eq_true rfl) dX12_row_2 (fun H locs hP hD hS => ?_)
  have hP : va_P (dC, dI) vwCl [(oM, .inr (12, [.ref mT, .int 0, .ref mS, .ref mX, .int 0, .int 0, .ref mL, .ref mB, .ref mD, .ref m1, .ref m2, .int 0, .ref mR, .int 0, .ref x1, .ref x2, .ref x3, .int 0, .ref mH, .int 0, .int 0, .int 0, .int 0, .int (-1), .int (-1), .int 0, .ref mY, .int 0, .ref mE, .int 0, .int 0, .ref mW, .int 0, .ref mO, .int 0, .ref y1, .ref y2, .ref y3, .ref y4, .ref mZ]))] H := hP
  have hD : va_D A [(oM, .inr (12, [.ref mT, .int 0, .ref mS, .ref mX, .int 0, .int 0, .ref mL, .ref mB, .ref mD, .ref m1, .ref m2, .int 0, .ref mR, .int 0, .ref x1, .ref x2, .ref x3, .int 0, .ref mH, .int 0, .int 0, .int 0, .int 0, .int (-1), .int (-1), .int 0, .ref mY, .int 0, .ref mE, .int 0, .int 0, .ref mW, .int 0, .ref mO, .int 0, .ref y1, .ref y2, .ref y3, .ref y4, .ref mZ]))] := hD
  refine lv_iload_n hx hb dX12_row_5 rfl (lv_at hl 1 rfl) ?_
  refine lv_if_lt (tgt := 41) hx hb dX12_row_6 (by decide) (fun c_1 => ?_) (fun c_1 => ?_)
  · refine lv_iconst (v := (-1)) hx hb dX12_row_41 (by decide) ?_
    exact W.iret (v := (-1)) hx hb hr (fun t ht hW => ⟨⟨(-1), (), rfl, rfl, trivial⟩, hS.F ht⟩) (hS.2.2) dX12_row_42
  · refine lv_iload_n hx hb dX12_row_9 rfl (lv_at hl 1 rfl) ?_
    refine lv_aload_n hx hb dX12_row_10 rfl (lv_at hl 0 rfl) ?_
    refine va_get (D := (dC, dI)) (ci := 12) (v := .int 0) (C := RX12) (T := TX12) (N := 40) hx hb hts in_X12 hown hK hP 0 rfl rfl 13 (by decide) (hts (.fieldLink RX12 180 "TextMenderModel" "rowMany" "I") (List.mem_of_getElem? (i := 2) rfl)) (fun _ h9 => h9) rfl dX12_row_11 ?_
    refine lv_icmp_ge (tgt := 41) hx hb dX12_row_14 (by decide) (fun c_2 => ?_) (fun c_2 => absurd (Int32.not_lt.mp c_1) c_2)
    refine lv_iconst (v := (-1)) hx hb dX12_row_41 (by decide) ?_
    exact W.iret (v := (-1)) hx hb hr (fun t ht hW => ⟨⟨(-1), (), rfl, rfl, trivial⟩, hS.F ht⟩) (hS.2.2) dX12_row_42

set_option maxHeartbeats 4000000 in
set_option maxRecDepth 100000 in
theorem y_cost (l : Launch) (dC : Nat → ClassId) (dI : Nat → Nat → Nat) (cI cS : ClassId) (sz : Nat) (oM : Nat) (mT : Nat) (mS : Nat) (mX : Nat) (mL : Nat) (mB : Nat) (mD : Nat) (m1 : Nat) (m2 : Nat) (mR : Nat) (x1 : Nat) (x2 : Nat) (x3 : Nat) (mH : Nat) (mY : Nat) (mE : Nat) (mW : Nat) (mO : Nat) (y1 : Nat) (y2 : Nat) (y3 : Nat) (y4 : Nat) (mZ : Nat) (x : Int32) (y : Int32) (v : Int32)  : Met l yX12_cost wsX12_cost ({ frames := 1, cells := 0, slots := 0, locals := 20 } : Room) (va_Pc [.ref oM, .int x, .int y, .int v] (fun U => U.heap.size = sz ∧ va_P (dC, dI) vwCl [(oM, .inr (12, [.ref mT, .int 0, .ref mS, .ref mX, .int 0, .int 0, .ref mL, .ref mB, .ref mD, .ref m1, .ref m2, .int 0, .ref mR, .int 0, .ref x1, .ref x2, .ref x3, .int 0, .ref mH, .int 0, .int 0, .int 0, .int 0, .int (-1), .int (-1), .int 0, .ref mY, .int 0, .ref mE, .int 0, .int 0, .ref mW, .int 0, .ref mO, .int 0, .ref y1, .ref y2, .ref y3, .ref y4, .ref mZ])), (x1, .inl (cI, 300, .inl (fun _ => 0))), (x2, .inl (cI, 300, .inl (fun _ => 0))), (x3, .inl (cI, 300, .inl (fun _ => 0)))] U.heap ∧ va_K (dC, dI) vwCl [(cI, .int), (cS, .short)] U ∧ va_D (fun _ => True) [(oM, .inr (12, [.ref mT, .int 0, .ref mS, .ref mX, .int 0, .int 0, .ref mL, .ref mB, .ref mD, .ref m1, .ref m2, .int 0, .ref mR, .int 0, .ref x1, .ref x2, .ref x3, .int 0, .ref mH, .int 0, .int 0, .int 0, .int 0, .int (-1), .int (-1), .int 0, .ref mY, .int 0, .ref mE, .int 0, .int 0, .ref mW, .int 0, .ref mO, .int 0, .ref y1, .ref y2, .ref y3, .ref y4, .ref mZ])), (x1, .inl (cI, 300, .inl (fun _ => 0))), (x2, .inl (cI, 300, .inl (fun _ => 0))), (x3, .inl (cI, 300, .inl (fun _ => 0)))])) (va_Qi (fun (r : Int32) (_ : Unit) => r = g_cost x y v) (fun _ _ => True) (va_A [(oM, .inr (12, [.ref mT, .int 0, .ref mS, .ref mX, .int 0, .int 0, .ref mL, .ref mB, .ref mD, .ref m1, .ref m2, .int 0, .ref mR, .int 0, .ref x1, .ref x2, .ref x3, .int 0, .ref mH, .int 0, .int 0, .int 0, .int 0, .int (-1), .int (-1), .int 0, .ref mY, .int 0, .ref mE, .int 0, .int 0, .ref mW, .int 0, .ref mO, .int 0, .ref y1, .ref y2, .ref y3, .ref y4, .ref mZ])), (x1, .inl (cI, 300, .inl (fun _ => 0))), (x2, .inl (cI, 300, .inl (fun _ => 0))), (x3, .inl (cI, 300, .inl (fun _ => 0)))] sz)) 0 0 (va_A [(oM, .inr (12, [.ref mT, .int 0, .ref mS, .ref mX, .int 0, .int 0, .ref mL, .ref mB, .ref mD, .ref m1, .ref m2, .int 0, .ref mR, .int 0, .ref x1, .ref x2, .ref x3, .int 0, .ref mH, .int 0, .int 0, .int 0, .int 0, .int (-1), .int (-1), .int 0, .ref mY, .int 0, .ref mE, .int 0, .int 0, .ref mW, .int 0, .ref mO, .int 0, .ref y1, .ref y2, .ref y3, .ref y4, .ref mZ])), (x1, .inl (cI, 300, .inl (fun _ => 0))), (x2, .inl (cI, 300, .inl (fun _ => 0))), (x3, .inl (cI, 300, .inl (fun _ => 0)))] sz) := by
  refine Met.ofW (cc := cX12_cost) (maxL := 5) (ret := (some .boolean)) (by decide) rfl ?_
  intro p e s m args below meth c s₁ B hml hv
  obtain ⟨rfl, hsz, hP, hK, hD0⟩ := hv
  have hx := B.exec
  have hb := B.bytes
  have hr := B.returns
  have hts := atoms_spec (ws := wsX12_cost) B.pre
  have hown : s.vm.findClass RX12 = some m.cls := findClass_of_methodNamed B.named
  have hlocks := B.notSynchronized
  have in_X12 : ∀ w ∈ wsX120, w ∈ wsX12_cost := fun _ h => List.mem_cons_of_mem _ (List.mem_append_right _ (h))
  subst hsz
  have hD := hD0.self (sz := s.heap.size)
  generalize hAe : va_A [(oM, .inr (12, [.ref mT, .int 0, .ref mS, .ref mX, .int 0, .int 0, .ref mL, .ref mB, .ref mD, .ref m1, .ref m2, .int 0, .ref mR, .int 0, .ref x1, .ref x2, .ref x3, .int 0, .ref mH, .int 0, .int 0, .int 0, .int 0, .int (-1), .int (-1), .int 0, .ref mY, .int 0, .ref mE, .int 0, .int 0, .ref mW, .int 0, .ref mO, .int 0, .ref y1, .ref y2, .ref y3, .ref y4, .ref mZ])), (x1, .inl (cI, 300, .inl (fun _ => 0))), (x2, .inl (cI, 300, .inl (fun _ => 0))), (x3, .inl (cI, 300, .inl (fun _ => 0)))] s.heap.size = A at hD ⊢
  have hA : ∀ q : Nat, s.heap.size ≤ q → A q := fun q h => by rw [← hAe]; exact Or.inr h
  have hS : va_S A s.heap s.heap [] := va_S.rf
  have hP : va_P (dC, dI) vwCl [(oM, .inr (12, [.ref mT, .int 0, .ref mS, .ref mX, .int 0, .int 0, .ref mL, .ref mB, .ref mD, .ref m1, .ref m2, .int 0, .ref mR, .int 0, .ref x1, .ref x2, .ref x3, .int 0, .ref mH, .int 0, .int 0, .int 0, .int 0, .int (-1), .int (-1), .int 0, .ref mY, .int 0, .ref mE, .int 0, .int 0, .ref mW, .int 0, .ref mO, .int 0, .ref y1, .ref y2, .ref y3, .ref y4, .ref mZ])), (x1, .inl (cI, 300, .inl (fun _ => 0))), (x2, .inl (cI, 300, .inl (fun _ => 0))), (x3, .inl (cI, 300, .inl (fun _ => 0)))] s.heap := hP
  have hl := lv_entry ([.ref oM, .int x, .int y, .int v]) (n := 5) (Nat.le_of_ble_eq_true rfl)
  rw [lg_entry_eq]
  generalize (lg_sl ([.ref oM, .int x, .int y, .int v]) ++ List.replicate (5 - (lg_sl ([.ref oM, .int x, .int y, .int v])).length) Slot.unset).toArray = ls at hl ⊢
  have hl : lv_has ls 5 [(0, .ref oM), (1, .int x), (2, .int y), (3, .int v)] := hl
  refine lv_aload_n hx hb dX12_cost_0 rfl (lv_at hl 0 rfl) ?_
  refine lv_iconst (v := 0) hx hb dX12_cost_1 (by decide) ?_
  refine va_put (D := (dC, dI)) (ci := 12) (v := .int 0) (ty := .int) (C := RX12) (T := TX12) (N := 40) hx hb hts in_X12 tyX12 tyX12_ok nmX12 hown hK hP hD hS 0 rfl rfl 25 (by decide) (hts (.fieldLink RX12 85 "TextMenderModel" "thrown" "I") (List.mem_of_getElem? (i := 1) rfl)) (fun _ h9 => h9) rfl (by decide +kernel) rfl rfl (Nat.le_of_ble_eq_true rfl) dX12_cost_2 (fun H locs hP hD hS => ?_)
  have hP : va_P (dC, dI) vwCl [(oM, .inr (12, [.ref mT, .int 0, .ref mS, .ref mX, .int 0, .int 0, .ref mL, .ref mB, .ref mD, .ref m1, .ref m2, .int 0, .ref mR, .int 0, .ref x1, .ref x2, .ref x3, .int 0, .ref mH, .int 0, .int 0, .int 0, .int 0, .int (-1), .int (-1), .int 0, .ref mY, .int 0, .ref mE, .int 0, .int 0, .ref mW, .int 0, .ref mO, .int 0, .ref y1, .ref y2, .ref y3, .ref y4, .ref mZ])), (x1, .inl (cI, 300, .inl (fun _ => 0))), (x2, .inl (cI, 300, .inl (fun _ => 0))), (x3, .inl (cI, 300, .inl (fun _ => 0)))] H := hP
  have hD : va_D A [(oM, .inr (12, [.ref mT, .int 0, .ref mS, .ref mX, .int 0, .int 0, .ref mL, .ref mB, .ref mD, .ref m1, .ref m2, .int 0, .ref mR, .int 0, .ref x1, .ref x2, .ref x3, .int 0, .ref mH, .int 0, .int 0, .int 0, .int 0, .int (-1), .int (-1), .int 0, .ref mY, .int 0, .ref mE, .int 0, .int 0, .ref mW, .int 0, .ref mO, .int 0, .ref y1, .ref y2, .ref y3, .ref y4, .ref mZ])), (x1, .inl (cI, 300, .inl (fun _ => 0))), (x2, .inl (cI, 300, .inl (fun _ => 0))), (x3, .inl (cI, 300, .inl (fun _ => 0)))] := hD
  refine lv_iload_n hx hb dX12_cost_5 rfl (lv_at hl 1 rfl) ?_
  have hPc := hP.sub (ws' := []) [] rfl
  have hDc := hD.sub (ws' := []) [] (by decide) rfl
  have hFc := va_free (wc := []) hD hS hA [] rfl
  refine va_calli (va_runS (As := [.int x]) (rest := []) ⟨hx, hb, hml, hown, hts⟩ (m_X12_isLetter l dC dI cI cS H.size x ) (va_cwS 1 hts gX12_cost_X12_isLetter rfl rfl rfl (by decide +kernel) ⟨Nat.le_of_ble_eq_true rfl, Nat.le_of_ble_eq_true rfl⟩) ⟨fun a U g mk q => by obtain ⟨q0, q1, qP, qK, qD⟩ := q; exact ⟨q0, q1, qP, va_K.moved (u := U) (U := U.calling g mk a) (Vm.Alike.refl U.vm) qK, qD⟩, fun U hU hW => ⟨rfl, by rw [hU], by rw [hU]; exact hPc, va_K.moved hW.alike hK, hDc.weaken (fun _ _ _ _ => trivial)⟩⟩ rfl rfl hl.1 rfl (lv_room (Nat.le_of_ble_eq_true rfl)) dX12_cost_6 ⟨Nat.le_of_ble_eq_true rfl, Nat.le_of_ble_eq_true rfl⟩) hS (fun q _ h => hFc q h) hFc (fun r_1 u t H1 locs ht hvm hw hB hz1 hk1 hS => ?_)
  obtain ⟨hP1, hD1⟩ := hB
  rw [ht] at hP1
  obtain ⟨hP, hD⟩ := va_join (wr := [(oM, .inr (12, [.ref mT, .int 0, .ref mS, .ref mX, .int 0, .int 0, .ref mL, .ref mB, .ref mD, .ref m1, .ref m2, .int 0, .ref mR, .int 0, .ref x1, .ref x2, .ref x3, .int 0, .ref mH, .int 0, .int 0, .int 0, .int 0, .int (-1), .int (-1), .int 0, .ref mY, .int 0, .ref mE, .int 0, .int 0, .ref mW, .int 0, .ref mO, .int 0, .ref y1, .ref y2, .ref y3, .ref y4, .ref mZ])), (x1, .inl (cI, 300, .inl (fun _ => 0))), (x2, .inl (cI, 300, .inl (fun _ => 0))), (x3, .inl (cI, 300, .inl (fun _ => 0)))]) (w1 := []) hP hD [] [0, 1, 2, 3] rfl rfl (by decide) (by decide) hk1 hFc hP1 hD1
  generalize H1 = H at hP hS ⊢
  have hP : va_P (dC, dI) vwCl [(oM, .inr (12, [.ref mT, .int 0, .ref mS, .ref mX, .int 0, .int 0, .ref mL, .ref mB, .ref mD, .ref m1, .ref m2, .int 0, .ref mR, .int 0, .ref x1, .ref x2, .ref x3, .int 0, .ref mH, .int 0, .int 0, .int 0, .int 0, .int (-1), .int (-1), .int 0, .ref mY, .int 0, .ref mE, .int 0, .int 0, .ref mW, .int 0, .ref mO, .int 0, .ref y1, .ref y2, .ref y3, .ref y4, .ref mZ])), (x1, .inl (cI, 300, .inl (fun _ => 0))), (x2, .inl (cI, 300, .inl (fun _ => 0))), (x3, .inl (cI, 300, .inl (fun _ => 0)))] H := hP
  have hD : va_D A [(oM, .inr (12, [.ref mT, .int 0, .ref mS, .ref mX, .int 0, .int 0, .ref mL, .ref mB, .ref mD, .ref m1, .ref m2, .int 0, .ref mR, .int 0, .ref x1, .ref x2, .ref x3, .int 0, .ref mH, .int 0, .int 0, .int 0, .int 0, .int (-1), .int (-1), .int 0, .ref mY, .int 0, .ref mE, .int 0, .int 0, .ref mW, .int 0, .ref mO, .int 0, .ref y1, .ref y2, .ref y3, .ref y4, .ref mZ])), (x1, .inl (cI, 300, .inl (fun _ => 0))), (x2, .inl (cI, 300, .inl (fun _ => 0))), (x3, .inl (cI, 300, .inl (fun _ => 0)))] := hD
  subst hw
  refine lv_if_eq (tgt := 30) hx hb dX12_cost_9 (by decide) (fun c_2 => ?_) (fun c_2 => ?_)
  · refine lv_iconst (v := 0) hx hb dX12_cost_30 (by decide) ?_
    exact W.zret (v := 0) (ty := .boolean) hx hb hr (rfl) (fun t ht hW => ⟨⟨0, (), rfl, by first | rfl | assumption | simp [g_cost, c_2], trivial⟩, hS.F ht⟩) (hS.2.2) dX12_cost_31
  · refine lv_iload_n hx hb dX12_cost_12 rfl (lv_at hl 2 rfl) ?_
    have hPc := hP.sub (ws' := []) [] rfl
    have hDc := hD.sub (ws' := []) [] (by decide) rfl
    have hFc := va_free (wc := []) hD hS hA [] rfl
    refine va_calli (va_runS (As := [.int y]) (rest := []) ⟨hx, hb, hml, hown, hts⟩ (m_X12_isLetter l dC dI cI cS H.size y ) (va_cwS 1 hts gX12_cost_X12_isLetter rfl rfl rfl (by decide +kernel) ⟨Nat.le_of_ble_eq_true rfl, Nat.le_of_ble_eq_true rfl⟩) ⟨fun a U g mk q => by obtain ⟨q0, q1, qP, qK, qD⟩ := q; exact ⟨q0, q1, qP, va_K.moved (u := U) (U := U.calling g mk a) (Vm.Alike.refl U.vm) qK, qD⟩, fun U hU hW => ⟨rfl, by rw [hU], by rw [hU]; exact hPc, va_K.moved hW.alike hK, hDc.weaken (fun _ _ _ _ => trivial)⟩⟩ rfl rfl hl.1 rfl (lv_room (Nat.le_of_ble_eq_true rfl)) dX12_cost_13 ⟨Nat.le_of_ble_eq_true rfl, Nat.le_of_ble_eq_true rfl⟩) hS (fun q _ h => hFc q h) hFc (fun r_3 u t H1 locs ht hvm hw hB hz1 hk1 hS => ?_)
    obtain ⟨hP1, hD1⟩ := hB
    rw [ht] at hP1
    obtain ⟨hP, hD⟩ := va_join (wr := [(oM, .inr (12, [.ref mT, .int 0, .ref mS, .ref mX, .int 0, .int 0, .ref mL, .ref mB, .ref mD, .ref m1, .ref m2, .int 0, .ref mR, .int 0, .ref x1, .ref x2, .ref x3, .int 0, .ref mH, .int 0, .int 0, .int 0, .int 0, .int (-1), .int (-1), .int 0, .ref mY, .int 0, .ref mE, .int 0, .int 0, .ref mW, .int 0, .ref mO, .int 0, .ref y1, .ref y2, .ref y3, .ref y4, .ref mZ])), (x1, .inl (cI, 300, .inl (fun _ => 0))), (x2, .inl (cI, 300, .inl (fun _ => 0))), (x3, .inl (cI, 300, .inl (fun _ => 0)))]) (w1 := []) hP hD [] [0, 1, 2, 3] rfl rfl (by decide) (by decide) hk1 hFc hP1 hD1
    generalize H1 = H at hP hS ⊢
    have hP : va_P (dC, dI) vwCl [(oM, .inr (12, [.ref mT, .int 0, .ref mS, .ref mX, .int 0, .int 0, .ref mL, .ref mB, .ref mD, .ref m1, .ref m2, .int 0, .ref mR, .int 0, .ref x1, .ref x2, .ref x3, .int 0, .ref mH, .int 0, .int 0, .int 0, .int 0, .int (-1), .int (-1), .int 0, .ref mY, .int 0, .ref mE, .int 0, .int 0, .ref mW, .int 0, .ref mO, .int 0, .ref y1, .ref y2, .ref y3, .ref y4, .ref mZ])), (x1, .inl (cI, 300, .inl (fun _ => 0))), (x2, .inl (cI, 300, .inl (fun _ => 0))), (x3, .inl (cI, 300, .inl (fun _ => 0)))] H := hP
    have hD : va_D A [(oM, .inr (12, [.ref mT, .int 0, .ref mS, .ref mX, .int 0, .int 0, .ref mL, .ref mB, .ref mD, .ref m1, .ref m2, .int 0, .ref mR, .int 0, .ref x1, .ref x2, .ref x3, .int 0, .ref mH, .int 0, .int 0, .int 0, .int 0, .int (-1), .int (-1), .int 0, .ref mY, .int 0, .ref mE, .int 0, .int 0, .ref mW, .int 0, .ref mO, .int 0, .ref y1, .ref y2, .ref y3, .ref y4, .ref mZ])), (x1, .inl (cI, 300, .inl (fun _ => 0))), (x2, .inl (cI, 300, .inl (fun _ => 0))), (x3, .inl (cI, 300, .inl (fun _ => 0)))] := hD
    subst hw
    refine lv_if_eq (tgt := 30) hx hb dX12_cost_16 (by decide) (fun c_4 => ?_) (fun c_4 => ?_)
    · refine lv_iconst (v := 0) hx hb dX12_cost_30 (by decide) ?_
      exact W.zret (v := 0) (ty := .boolean) hx hb hr (rfl) (fun t ht hW => ⟨⟨0, (), rfl, by first | rfl | assumption | simp [g_cost, c_2, c_4], trivial⟩, hS.F ht⟩) (hS.2.2) dX12_cost_31
    · refine lv_iload_n hx hb dX12_cost_19 rfl (lv_at hl 3 rfl) ?_
      refine lv_if_lt (tgt := 30) hx hb dX12_cost_20 (by decide) (fun c_5 => ?_) (fun c_5 => ?_)
      · refine lv_iconst (v := 0) hx hb dX12_cost_30 (by decide) ?_
        exact W.zret (v := 0) (ty := .boolean) hx hb hr (rfl) (fun t ht hW => ⟨⟨0, (), rfl, by first | rfl | assumption | simp [g_cost, c_2, c_4, c_5], trivial⟩, hS.F ht⟩) (hS.2.2) dX12_cost_31
      · refine lv_iload_n hx hb dX12_cost_23 rfl (lv_at hl 3 rfl) ?_
        refine lv_sipush (v := 200) hx hb dX12_cost_24 (by decide) ?_
        refine lv_icmp_le (tgt := 32) hx hb dX12_cost_27 (by decide) (fun c_6 => ?_) (fun c_6 => ?_)
        · refine lv_iconst (v := 0) hx hb dX12_cost_32 (by decide) ?_
          refine lv_istore (lv' := [(4, .int 0), (0, .ref oM), (1, .int x), (2, .int y), (3, .int v)]) hx hb dX12_cost_33 hl (by decide) rfl (fun ls hl => ?_)
          refine lv_iload hx hb dX12_cost_35 (lv_at hl 0 rfl) ?_
          refine lv_aload_n hx hb dX12_cost_37 rfl (lv_at hl 1 rfl) ?_
          refine va_get (D := (dC, dI)) (ci := 12) (v := .int 0) (C := RX12) (T := TX12) (N := 40) hx hb hts in_X12 hown hK hP 0 rfl rfl 17 (by decide) (hts (.fieldLink RX12 168 "TextMenderModel" "costs" "I") (List.mem_of_getElem? (i := 2) rfl)) (fun _ h9 => h9) rfl dX12_cost_38 ?_
          refine lv_icmp_ge (tgt := 72) hx hb dX12_cost_41 (by decide) (fun c_7 => ?_) (fun c_7 => absurd (by decide) c_7)
          refine lv_iload hx hb dX12_cost_72 (lv_at hl 0 rfl) ?_
          refine lv_sipush (v := 300) hx hb dX12_cost_74 (by decide) ?_
          refine lv_icmp_ne (tgt := 82) hx hb dX12_cost_77 (by decide) (fun c_8 => ?_) (fun c_8 => absurd c_8 (by decide))
          refine lv_aload_n hx hb dX12_cost_82 rfl (lv_at hl 1 rfl) ?_
          refine va_get (D := (dC, dI)) (ci := 12) (v := .ref x1) (C := RX12) (T := TX12) (N := 40) hx hb hts in_X12 hown hK hP 0 rfl rfl 14 (by decide) (hts (.fieldLink RX12 39 "TextMenderModel" "costX" "[I") (List.mem_of_getElem? (i := 3) rfl)) (fun _ h9 => h9) rfl dX12_cost_83 ?_
          refine lv_iload hx hb dX12_cost_86 (lv_at hl 0 rfl) ?_
          refine lv_iload_n hx hb dX12_cost_88 rfl (lv_at hl 2 rfl) ?_
          refine va_iast hx hb hK hP hD hS 1 0 rfl rfl (by unfold vp_in; decide) dX12_cost_89 (fun H locs hP hD hS => ?_)
          have hP : va_P (dC, dI) vwCl [(oM, .inr (12, [.ref mT, .int 0, .ref mS, .ref mX, .int 0, .int 0, .ref mL, .ref mB, .ref mD, .ref m1, .ref m2, .int 0, .ref mR, .int 0, .ref x1, .ref x2, .ref x3, .int 0, .ref mH, .int 0, .int 0, .int 0, .int 0, .int (-1), .int (-1), .int 0, .ref mY, .int 0, .ref mE, .int 0, .int 0, .ref mW, .int 0, .ref mO, .int 0, .ref y1, .ref y2, .ref y3, .ref y4, .ref mZ])), (x1, .inl (cI, 300, .inl (upd (fun _ => 0) (0 : Int32).toNatClampNeg x))), (x2, .inl (cI, 300, .inl (fun _ => 0))), (x3, .inl (cI, 300, .inl (fun _ => 0)))] H := hP
          have hD : va_D A [(oM, .inr (12, [.ref mT, .int 0, .ref mS, .ref mX, .int 0, .int 0, .ref mL, .ref mB, .ref mD, .ref m1, .ref m2, .int 0, .ref mR, .int 0, .ref x1, .ref x2, .ref x3, .int 0, .ref mH, .int 0, .int 0, .int 0, .int 0, .int (-1), .int (-1), .int 0, .ref mY, .int 0, .ref mE, .int 0, .int 0, .ref mW, .int 0, .ref mO, .int 0, .ref y1, .ref y2, .ref y3, .ref y4, .ref mZ])), (x1, .inl (cI, 300, .inl (upd (fun _ => 0) (0 : Int32).toNatClampNeg x))), (x2, .inl (cI, 300, .inl (fun _ => 0))), (x3, .inl (cI, 300, .inl (fun _ => 0)))] := hD
          refine lv_aload_n hx hb dX12_cost_90 rfl (lv_at hl 1 rfl) ?_
          refine va_get (D := (dC, dI)) (ci := 12) (v := .ref x2) (C := RX12) (T := TX12) (N := 40) hx hb hts in_X12 hown hK hP 0 rfl rfl 15 (by decide) (hts (.fieldLink RX12 42 "TextMenderModel" "costY" "[I") (List.mem_of_getElem? (i := 4) rfl)) (fun _ h9 => h9) rfl dX12_cost_91 ?_
          refine lv_iload hx hb dX12_cost_94 (lv_at hl 0 rfl) ?_
          refine lv_iload_n hx hb dX12_cost_96 rfl (lv_at hl 3 rfl) ?_
          refine va_iast hx hb hK hP hD hS 2 0 rfl rfl (by unfold vp_in; decide) dX12_cost_97 (fun H locs hP hD hS => ?_)
          have hP : va_P (dC, dI) vwCl [(oM, .inr (12, [.ref mT, .int 0, .ref mS, .ref mX, .int 0, .int 0, .ref mL, .ref mB, .ref mD, .ref m1, .ref m2, .int 0, .ref mR, .int 0, .ref x1, .ref x2, .ref x3, .int 0, .ref mH, .int 0, .int 0, .int 0, .int 0, .int (-1), .int (-1), .int 0, .ref mY, .int 0, .ref mE, .int 0, .int 0, .ref mW, .int 0, .ref mO, .int 0, .ref y1, .ref y2, .ref y3, .ref y4, .ref mZ])), (x1, .inl (cI, 300, .inl (upd (fun _ => 0) (0 : Int32).toNatClampNeg x))), (x2, .inl (cI, 300, .inl (upd (fun _ => 0) (0 : Int32).toNatClampNeg y))), (x3, .inl (cI, 300, .inl (fun _ => 0)))] H := hP
          have hD : va_D A [(oM, .inr (12, [.ref mT, .int 0, .ref mS, .ref mX, .int 0, .int 0, .ref mL, .ref mB, .ref mD, .ref m1, .ref m2, .int 0, .ref mR, .int 0, .ref x1, .ref x2, .ref x3, .int 0, .ref mH, .int 0, .int 0, .int 0, .int 0, .int (-1), .int (-1), .int 0, .ref mY, .int 0, .ref mE, .int 0, .int 0, .ref mW, .int 0, .ref mO, .int 0, .ref y1, .ref y2, .ref y3, .ref y4, .ref mZ])), (x1, .inl (cI, 300, .inl (upd (fun _ => 0) (0 : Int32).toNatClampNeg x))), (x2, .inl (cI, 300, .inl (upd (fun _ => 0) (0 : Int32).toNatClampNeg y))), (x3, .inl (cI, 300, .inl (fun _ => 0)))] := hD
          refine lv_aload_n hx hb dX12_cost_98 rfl (lv_at hl 1 rfl) ?_
          refine va_get (D := (dC, dI)) (ci := 12) (v := .ref x3) (C := RX12) (T := TX12) (N := 40) hx hb hts in_X12 hown hK hP 0 rfl rfl 16 (by decide) (hts (.fieldLink RX12 45 "TextMenderModel" "costV" "[I") (List.mem_of_getElem? (i := 5) rfl)) (fun _ h9 => h9) rfl dX12_cost_99 ?_
          refine lv_iload hx hb dX12_cost_102 (lv_at hl 0 rfl) ?_
          refine lv_iload_n hx hb dX12_cost_104 rfl (lv_at hl 4 rfl) ?_
          refine va_iast hx hb hK hP hD hS 3 0 rfl rfl (by unfold vp_in; decide) dX12_cost_105 (fun H locs hP hD hS => ?_)
          have hP : va_P (dC, dI) vwCl [(oM, .inr (12, [.ref mT, .int 0, .ref mS, .ref mX, .int 0, .int 0, .ref mL, .ref mB, .ref mD, .ref m1, .ref m2, .int 0, .ref mR, .int 0, .ref x1, .ref x2, .ref x3, .int 0, .ref mH, .int 0, .int 0, .int 0, .int 0, .int (-1), .int (-1), .int 0, .ref mY, .int 0, .ref mE, .int 0, .int 0, .ref mW, .int 0, .ref mO, .int 0, .ref y1, .ref y2, .ref y3, .ref y4, .ref mZ])), (x1, .inl (cI, 300, .inl (upd (fun _ => 0) (0 : Int32).toNatClampNeg x))), (x2, .inl (cI, 300, .inl (upd (fun _ => 0) (0 : Int32).toNatClampNeg y))), (x3, .inl (cI, 300, .inl (upd (fun _ => 0) (0 : Int32).toNatClampNeg v)))] H := hP
          have hD : va_D A [(oM, .inr (12, [.ref mT, .int 0, .ref mS, .ref mX, .int 0, .int 0, .ref mL, .ref mB, .ref mD, .ref m1, .ref m2, .int 0, .ref mR, .int 0, .ref x1, .ref x2, .ref x3, .int 0, .ref mH, .int 0, .int 0, .int 0, .int 0, .int (-1), .int (-1), .int 0, .ref mY, .int 0, .ref mE, .int 0, .int 0, .ref mW, .int 0, .ref mO, .int 0, .ref y1, .ref y2, .ref y3, .ref y4, .ref mZ])), (x1, .inl (cI, 300, .inl (upd (fun _ => 0) (0 : Int32).toNatClampNeg x))), (x2, .inl (cI, 300, .inl (upd (fun _ => 0) (0 : Int32).toNatClampNeg y))), (x3, .inl (cI, 300, .inl (upd (fun _ => 0) (0 : Int32).toNatClampNeg v)))] := hD
          refine lv_iload hx hb dX12_cost_106 (lv_at hl 0 rfl) ?_
          refine lv_aload_n hx hb dX12_cost_108 rfl (lv_at hl 1 rfl) ?_
          refine va_get (D := (dC, dI)) (ci := 12) (v := .int 0) (C := RX12) (T := TX12) (N := 40) hx hb hts in_X12 hown hK hP 0 rfl rfl 17 (by decide) (hts (.fieldLink RX12 168 "TextMenderModel" "costs" "I") (List.mem_of_getElem? (i := 2) rfl)) (fun _ h9 => h9) rfl dX12_cost_109 ?_
          refine lv_icmp_ne (tgt := 125) hx hb dX12_cost_112 (by decide) (fun c_9 => absurd (by decide) c_9) (fun c_9 => ?_)
          refine lv_aload_n hx hb dX12_cost_115 rfl (lv_at hl 1 rfl) ?_
          refine lv_dup hx hb dX12_cost_116 rfl ?_
          refine va_get (D := (dC, dI)) (ci := 12) (v := .int 0) (C := RX12) (T := TX12) (N := 40) hx hb hts in_X12 hown hK hP 0 rfl rfl 17 (by decide) (hts (.fieldLink RX12 168 "TextMenderModel" "costs" "I") (List.mem_of_getElem? (i := 2) rfl)) (fun _ h9 => h9) rfl dX12_cost_117 ?_
          refine lv_iconst (v := 1) hx hb dX12_cost_120 (by decide) ?_
          refine lv_iadd hx hb dX12_cost_121 ?_
          refine k_i (y := 1) (by decide) ?_
          refine va_put (D := (dC, dI)) (ci := 12) (v := .int 1) (ty := .int) (C := RX12) (T := TX12) (N := 40) hx hb hts in_X12 tyX12 tyX12_ok nmX12 hown hK hP hD hS 0 rfl rfl 17 (by decide) (hts (.fieldLink RX12 168 "TextMenderModel" "costs" "I") (List.mem_of_getElem? (i := 2) rfl)) (fun _ h9 => h9) rfl (by decide +kernel) rfl rfl (Nat.le_of_ble_eq_true rfl) dX12_cost_122 (fun H locs hP hD hS => ?_)
          have hP : va_P (dC, dI) vwCl [(oM, .inr (12, [.ref mT, .int 0, .ref mS, .ref mX, .int 0, .int 0, .ref mL, .ref mB, .ref mD, .ref m1, .ref m2, .int 0, .ref mR, .int 0, .ref x1, .ref x2, .ref x3, .int 1, .ref mH, .int 0, .int 0, .int 0, .int 0, .int (-1), .int (-1), .int 0, .ref mY, .int 0, .ref mE, .int 0, .int 0, .ref mW, .int 0, .ref mO, .int 0, .ref y1, .ref y2, .ref y3, .ref y4, .ref mZ])), (x1, .inl (cI, 300, .inl (upd (fun _ => 0) (0 : Int32).toNatClampNeg x))), (x2, .inl (cI, 300, .inl (upd (fun _ => 0) (0 : Int32).toNatClampNeg y))), (x3, .inl (cI, 300, .inl (upd (fun _ => 0) (0 : Int32).toNatClampNeg v)))] H := hP
          have hD : va_D A [(oM, .inr (12, [.ref mT, .int 0, .ref mS, .ref mX, .int 0, .int 0, .ref mL, .ref mB, .ref mD, .ref m1, .ref m2, .int 0, .ref mR, .int 0, .ref x1, .ref x2, .ref x3, .int 1, .ref mH, .int 0, .int 0, .int 0, .int 0, .int (-1), .int (-1), .int 0, .ref mY, .int 0, .ref mE, .int 0, .int 0, .ref mW, .int 0, .ref mO, .int 0, .ref y1, .ref y2, .ref y3, .ref y4, .ref mZ])), (x1, .inl (cI, 300, .inl (upd (fun _ => 0) (0 : Int32).toNatClampNeg x))), (x2, .inl (cI, 300, .inl (upd (fun _ => 0) (0 : Int32).toNatClampNeg y))), (x3, .inl (cI, 300, .inl (upd (fun _ => 0) (0 : Int32).toNatClampNeg v)))] := hD
          refine lv_aload_n hx hb dX12_cost_125 rfl (lv_at hl 1 rfl) ?_
          refine lv_dup hx hb dX12_cost_126 rfl ?_
          refine va_get (D := (dC, dI)) (ci := 12) (v := .int 0) (C := RX12) (T := TX12) (N := 40) hx hb hts in_X12 hown hK hP 0 rfl rfl 22 (by decide) (hts (.fieldLink RX12 148 "TextMenderModel" "state" "I") (List.mem_of_getElem? (i := 6) rfl)) (fun _ h9 => h9) rfl dX12_cost_127 ?_
          refine lv_iconst (v := 1) hx hb dX12_cost_130 (by decide) ?_
          refine lv_iadd hx hb dX12_cost_131 ?_
          refine k_i (y := 1) (by decide) ?_
          refine va_put (D := (dC, dI)) (ci := 12) (v := .int 1) (ty := .int) (C := RX12) (T := TX12) (N := 40) hx hb hts in_X12 tyX12 tyX12_ok nmX12 hown hK hP hD hS 0 rfl rfl 22 (by decide) (hts (.fieldLink RX12 148 "TextMenderModel" "state" "I") (List.mem_of_getElem? (i := 6) rfl)) (fun _ h9 => h9) rfl (by decide +kernel) rfl rfl (Nat.le_of_ble_eq_true rfl) dX12_cost_132 (fun H locs hP hD hS => ?_)
          have hP : va_P (dC, dI) vwCl [(oM, .inr (12, [.ref mT, .int 0, .ref mS, .ref mX, .int 0, .int 0, .ref mL, .ref mB, .ref mD, .ref m1, .ref m2, .int 0, .ref mR, .int 0, .ref x1, .ref x2, .ref x3, .int 1, .ref mH, .int 0, .int 0, .int 0, .int 1, .int (-1), .int (-1), .int 0, .ref mY, .int 0, .ref mE, .int 0, .int 0, .ref mW, .int 0, .ref mO, .int 0, .ref y1, .ref y2, .ref y3, .ref y4, .ref mZ])), (x1, .inl (cI, 300, .inl (upd (fun _ => 0) (0 : Int32).toNatClampNeg x))), (x2, .inl (cI, 300, .inl (upd (fun _ => 0) (0 : Int32).toNatClampNeg y))), (x3, .inl (cI, 300, .inl (upd (fun _ => 0) (0 : Int32).toNatClampNeg v)))] H := hP
          have hD : va_D A [(oM, .inr (12, [.ref mT, .int 0, .ref mS, .ref mX, .int 0, .int 0, .ref mL, .ref mB, .ref mD, .ref m1, .ref m2, .int 0, .ref mR, .int 0, .ref x1, .ref x2, .ref x3, .int 1, .ref mH, .int 0, .int 0, .int 0, .int 1, .int (-1), .int (-1), .int 0, .ref mY, .int 0, .ref mE, .int 0, .int 0, .ref mW, .int 0, .ref mO, .int 0, .ref y1, .ref y2, .ref y3, .ref y4, .ref mZ])), (x1, .inl (cI, 300, .inl (upd (fun _ => 0) (0 : Int32).toNatClampNeg x))), (x2, .inl (cI, 300, .inl (upd (fun _ => 0) (0 : Int32).toNatClampNeg y))), (x3, .inl (cI, 300, .inl (upd (fun _ => 0) (0 : Int32).toNatClampNeg v)))] := hD
          refine lv_iconst (v := 1) hx hb dX12_cost_135 (by decide) ?_
          exact W.zret (v := 1) (ty := .boolean) hx hb hr (rfl) (fun t ht hW => ⟨⟨1, (), rfl, by first | rfl | assumption | simp [g_cost, c_2, c_4, c_5, c_6], trivial⟩, hS.F ht⟩) (hS.2.2) dX12_cost_136
        · refine lv_iconst (v := 0) hx hb dX12_cost_30 (by decide) ?_
          exact W.zret (v := 0) (ty := .boolean) hx hb hr (rfl) (fun t ht hW => ⟨⟨0, (), rfl, by first | rfl | assumption | simp [g_cost, c_2, c_4, c_5, c_6], trivial⟩, hS.F ht⟩) (hS.2.2) dX12_cost_31

set_option maxHeartbeats 4000000 in
set_option maxRecDepth 100000 in
theorem y_worth (l : Launch) (dC : Nat → ClassId) (dI : Nat → Nat → Nat) (cI cS : ClassId) (sz : Nat) (oM : Nat) (mT : Nat) (mS : Nat) (mX : Nat) (mL : Nat) (mB : Nat) (mD : Nat) (m1 : Nat) (m2 : Nat) (mR : Nat) (x1 : Nat) (x2 : Nat) (x3 : Nat) (mH : Nat) (mY : Nat) (mE : Nat) (mW : Nat) (mO : Nat) (y1 : Nat) (y2 : Nat) (y3 : Nat) (y4 : Nat) (mZ : Nat)  : Met l yX12_worth wsX12_worth ({ frames := 3, cells := 0, slots := 0, locals := 70 } : Room) (va_Pc [.ref oM] (fun U => U.heap.size = sz ∧ va_P (dC, dI) vwCl [(oM, .inr (12, [.ref mT, .int 0, .ref mS, .ref mX, .int 0, .int 0, .ref mL, .ref mB, .ref mD, .ref m1, .ref m2, .int 0, .ref mR, .int 0, .ref x1, .ref x2, .ref x3, .int 0, .ref mH, .int 0, .int 0, .int 0, .int 0, .int (-1), .int (-1), .int 0, .ref mY, .int 0, .ref mE, .int 0, .int 0, .ref mW, .int 0, .ref mO, .int 0, .ref y1, .ref y2, .ref y3, .ref y4, .ref mZ])), (mS, .inl (cI, 21, .inl (fun _ => 0)))] U.heap ∧ va_K (dC, dI) vwCl [(cI, .int), (cS, .short)] U ∧ va_D (fun _ => True) [(oM, .inr (12, [.ref mT, .int 0, .ref mS, .ref mX, .int 0, .int 0, .ref mL, .ref mB, .ref mD, .ref m1, .ref m2, .int 0, .ref mR, .int 0, .ref x1, .ref x2, .ref x3, .int 0, .ref mH, .int 0, .int 0, .int 0, .int 0, .int (-1), .int (-1), .int 0, .ref mY, .int 0, .ref mE, .int 0, .int 0, .ref mW, .int 0, .ref mO, .int 0, .ref y1, .ref y2, .ref y3, .ref y4, .ref mZ])), (mS, .inl (cI, 21, .inl (fun _ => 0)))])) (va_Qi (fun (r : Int32) (_ : Unit) => r = 4) (fun _ _ => True) (va_A [(oM, .inr (12, [.ref mT, .int 0, .ref mS, .ref mX, .int 0, .int 0, .ref mL, .ref mB, .ref mD, .ref m1, .ref m2, .int 0, .ref mR, .int 0, .ref x1, .ref x2, .ref x3, .int 0, .ref mH, .int 0, .int 0, .int 0, .int 0, .int (-1), .int (-1), .int 0, .ref mY, .int 0, .ref mE, .int 0, .int 0, .ref mW, .int 0, .ref mO, .int 0, .ref y1, .ref y2, .ref y3, .ref y4, .ref mZ])), (mS, .inl (cI, 21, .inl (fun _ => 0)))] sz)) 0 0 (va_A [(oM, .inr (12, [.ref mT, .int 0, .ref mS, .ref mX, .int 0, .int 0, .ref mL, .ref mB, .ref mD, .ref m1, .ref m2, .int 0, .ref mR, .int 0, .ref x1, .ref x2, .ref x3, .int 0, .ref mH, .int 0, .int 0, .int 0, .int 0, .int (-1), .int (-1), .int 0, .ref mY, .int 0, .ref mE, .int 0, .int 0, .ref mW, .int 0, .ref mO, .int 0, .ref y1, .ref y2, .ref y3, .ref y4, .ref mZ])), (mS, .inl (cI, 21, .inl (fun _ => 0)))] sz) := by
  refine Met.ofW (cc := cX12_worth) (maxL := 1) (ret := (some .int)) (by decide) rfl ?_
  intro p e s m args below meth c s₁ B hml hv
  obtain ⟨rfl, hsz, hP, hK, hD0⟩ := hv
  have hx := B.exec
  have hb := B.bytes
  have hr := B.returns
  have hts := atoms_spec (ws := wsX12_worth) B.pre
  have hown : s.vm.findClass RX12 = some m.cls := findClass_of_methodNamed B.named
  have hlocks := B.notSynchronized
  have in_X12 : ∀ w ∈ wsX120, w ∈ wsX12_worth := fun _ h => List.mem_cons_of_mem _ (List.mem_append_right _ (h))
  subst hsz
  have hD := hD0.self (sz := s.heap.size)
  generalize hAe : va_A [(oM, .inr (12, [.ref mT, .int 0, .ref mS, .ref mX, .int 0, .int 0, .ref mL, .ref mB, .ref mD, .ref m1, .ref m2, .int 0, .ref mR, .int 0, .ref x1, .ref x2, .ref x3, .int 0, .ref mH, .int 0, .int 0, .int 0, .int 0, .int (-1), .int (-1), .int 0, .ref mY, .int 0, .ref mE, .int 0, .int 0, .ref mW, .int 0, .ref mO, .int 0, .ref y1, .ref y2, .ref y3, .ref y4, .ref mZ])), (mS, .inl (cI, 21, .inl (fun _ => 0)))] s.heap.size = A at hD ⊢
  have hA : ∀ q : Nat, s.heap.size ≤ q → A q := fun q h => by rw [← hAe]; exact Or.inr h
  have hS : va_S A s.heap s.heap [] := va_S.rf
  have hP : va_P (dC, dI) vwCl [(oM, .inr (12, [.ref mT, .int 0, .ref mS, .ref mX, .int 0, .int 0, .ref mL, .ref mB, .ref mD, .ref m1, .ref m2, .int 0, .ref mR, .int 0, .ref x1, .ref x2, .ref x3, .int 0, .ref mH, .int 0, .int 0, .int 0, .int 0, .int (-1), .int (-1), .int 0, .ref mY, .int 0, .ref mE, .int 0, .int 0, .ref mW, .int 0, .ref mO, .int 0, .ref y1, .ref y2, .ref y3, .ref y4, .ref mZ])), (mS, .inl (cI, 21, .inl (fun _ => 0)))] s.heap := hP
  have hl := lv_entry ([.ref oM]) (n := 1) (Nat.le_of_ble_eq_true rfl)
  rw [lg_entry_eq]
  generalize (lg_sl ([.ref oM]) ++ List.replicate (1 - (lg_sl ([.ref oM])).length) Slot.unset).toArray = ls at hl ⊢
  have hl : lv_has ls 1 [(0, .ref oM)] := hl
  refine lv_aload_n hx hb dX12_worth_0 rfl (lv_at hl 0 rfl) ?_
  refine lv_iconst (v := 0) hx hb dX12_worth_1 (by decide) ?_
  refine va_put (D := (dC, dI)) (ci := 12) (v := .int 0) (ty := .int) (C := RX12) (T := TX12) (N := 40) hx hb hts in_X12 tyX12 tyX12_ok nmX12 hown hK hP hD hS 0 rfl rfl 25 (by decide) (hts (.fieldLink RX12 85 "TextMenderModel" "thrown" "I") (List.mem_of_getElem? (i := 1) rfl)) (fun _ h9 => h9) rfl (by decide +kernel) rfl rfl (Nat.le_of_ble_eq_true rfl) dX12_worth_2 (fun H locs hP hD hS => ?_)
  have hP : va_P (dC, dI) vwCl [(oM, .inr (12, [.ref mT, .int 0, .ref mS, .ref mX, .int 0, .int 0, .ref mL, .ref mB, .ref mD, .ref m1, .ref m2, .int 0, .ref mR, .int 0, .ref x1, .ref x2, .ref x3, .int 0, .ref mH, .int 0, .int 0, .int 0, .int 0, .int (-1), .int (-1), .int 0, .ref mY, .int 0, .ref mE, .int 0, .int 0, .ref mW, .int 0, .ref mO, .int 0, .ref y1, .ref y2, .ref y3, .ref y4, .ref mZ])), (mS, .inl (cI, 21, .inl (fun _ => 0)))] H := hP
  have hD : va_D A [(oM, .inr (12, [.ref mT, .int 0, .ref mS, .ref mX, .int 0, .int 0, .ref mL, .ref mB, .ref mD, .ref m1, .ref m2, .int 0, .ref mR, .int 0, .ref x1, .ref x2, .ref x3, .int 0, .ref mH, .int 0, .int 0, .int 0, .int 0, .int (-1), .int (-1), .int 0, .ref mY, .int 0, .ref mE, .int 0, .int 0, .ref mW, .int 0, .ref mO, .int 0, .ref y1, .ref y2, .ref y3, .ref y4, .ref mZ])), (mS, .inl (cI, 21, .inl (fun _ => 0)))] := hD
  refine lv_aload_n hx hb dX12_worth_5 rfl (lv_at hl 0 rfl) ?_
  refine lv_aload_n hx hb dX12_worth_6 rfl (lv_at hl 0 rfl) ?_
  refine va_get (D := (dC, dI)) (ci := 12) (v := .ref mX) (C := RX12) (T := TX12) (N := 40) hx hb hts in_X12 hown hK hP 0 rfl rfl 3 (by decide) (hts (.fieldLink RX12 16 "TextMenderModel" "texts" "[I") (List.mem_of_getElem? (i := 2) rfl)) (fun _ h9 => h9) rfl dX12_worth_7 ?_
  refine lv_iconst (v := 0) hx hb dX12_worth_10 (by decide) ?_
  refine lv_aload_n hx hb dX12_worth_11 rfl (lv_at hl 0 rfl) ?_
  refine va_get (D := (dC, dI)) (ci := 12) (v := .ref mS) (C := RX12) (T := TX12) (N := 40) hx hb hts in_X12 hown hK hP 0 rfl rfl 2 (by decide) (hts (.fieldLink RX12 13 "TextMenderModel" "sizes" "[I") (List.mem_of_getElem? (i := 3) rfl)) (fun _ h9 => h9) rfl dX12_worth_12 ?_
  refine lv_iconst (v := 0) hx hb dX12_worth_15 (by decide) ?_
  refine va_iald hx hb hK hP 1 0 rfl rfl (by unfold vp_in; decide) dX12_worth_16 ?_
  refine k_i (y := 0) (by first | rfl | decide) ?_
  have hPc := hP.sub (ws' := [(oM, .inr (12, [.ref mT, .int 0, .ref mS, .ref mX, .int 0, .int 0, .ref mL, .ref mB, .ref mD, .ref m1, .ref m2, .int 0, .ref mR, .int 0, .ref x1, .ref x2, .ref x3, .int 0, .ref mH, .int 0, .int 0, .int 0, .int 0, .int (-1), .int (-1), .int 0, .ref mY, .int 0, .ref mE, .int 0, .int 0, .ref mW, .int 0, .ref mO, .int 0, .ref y1, .ref y2, .ref y3, .ref y4, .ref mZ]))]) [0] rfl
  have hDc := hD.sub (ws' := [(oM, .inr (12, [.ref mT, .int 0, .ref mS, .ref mX, .int 0, .int 0, .ref mL, .ref mB, .ref mD, .ref m1, .ref m2, .int 0, .ref mR, .int 0, .ref x1, .ref x2, .ref x3, .int 0, .ref mH, .int 0, .int 0, .int 0, .int 0, .int (-1), .int (-1), .int 0, .ref mY, .int 0, .ref mE, .int 0, .int 0, .ref mW, .int 0, .ref mO, .int 0, .ref y1, .ref y2, .ref y3, .ref y4, .ref mZ]))]) [0] (by decide) rfl
  have hFc := va_free (wc := [(oM, .inr (12, [.ref mT, .int 0, .ref mS, .ref mX, .int 0, .int 0, .ref mL, .ref mB, .ref mD, .ref m1, .ref m2, .int 0, .ref mR, .int 0, .ref x1, .ref x2, .ref x3, .int 0, .ref mH, .int 0, .int 0, .int 0, .int 0, .int (-1), .int (-1), .int 0, .ref mY, .int 0, .ref mE, .int 0, .int 0, .ref mW, .int 0, .ref mO, .int 0, .ref y1, .ref y2, .ref y3, .ref y4, .ref mZ]))]) hD hS hA [0] rfl
  refine va_calli (va_runV (As := [.ref mX, .int 0, .int 0]) (rest := []) ⟨hx, hb, hml, hown, hts⟩ (m_X12_costOf_ l dC dI cI cS H.size oM mT mS mX mL mB mD m1 m2 mR x1 x2 x3 mH mY mE mW mO y1 y2 y3 y4 mZ mX ) (cwV 3 hts gX12_worth_X12_costOf_ rfl rfl rfl (by decide +kernel) ⟨Nat.le_of_ble_eq_true rfl, Nat.le_of_ble_eq_true rfl⟩) ⟨fun a U g mk q => by obtain ⟨q0, q1, qP, qK, qD⟩ := q; exact ⟨q0, q1, qP, va_K.moved (u := U) (U := U.calling g mk a) (Vm.Alike.refl U.vm) qK, qD⟩, va_recv hK hPc (ci := 12) (q0 := 0) rfl rfl, fun U hU hW => ⟨rfl, by rw [hU], by rw [hU]; exact hPc, va_K.moved hW.alike hK, hDc.weaken (fun _ _ _ _ => trivial)⟩⟩ rfl rfl hl.1 rfl (lv_room (Nat.le_of_ble_eq_true rfl)) dX12_worth_17 ⟨Nat.le_of_ble_eq_true rfl, Nat.le_of_ble_eq_true rfl⟩) hS (fun q _ h => hFc q h) hFc (fun r_1 u t H1 locs ht hvm hw hB hz1 hk1 hS => ?_)
  obtain ⟨hP1, hD1⟩ := hB
  rw [ht] at hP1
  obtain ⟨hP, hD⟩ := va_join (wr := [(mS, .inl (cI, 21, .inl (fun _ => 0)))]) (w1 := [(oM, .inr (12, [.ref mT, .int 0, .ref mS, .ref mX, .int 0, .int 0, .ref mL, .ref mB, .ref mD, .ref m1, .ref m2, .int 0, .ref mR, .int 0, .ref x1, .ref x2, .ref x3, .int 0, .ref mH, .int 0, .int 0, .int 0, .int 0, .int (-1), .int (-1), .int 0, .ref mY, .int 0, .ref mE, .int 0, .int 0, .ref mW, .int 0, .ref mO, .int 0, .ref y1, .ref y2, .ref y3, .ref y4, .ref mZ]))]) hP hD [0] [1] rfl rfl (by decide) (by decide) hk1 hFc hP1 hD1
  generalize H1 = H at hP hS ⊢
  have hP : va_P (dC, dI) vwCl [(mS, .inl (cI, 21, .inl (fun _ => 0))), (oM, .inr (12, [.ref mT, .int 0, .ref mS, .ref mX, .int 0, .int 0, .ref mL, .ref mB, .ref mD, .ref m1, .ref m2, .int 0, .ref mR, .int 0, .ref x1, .ref x2, .ref x3, .int 0, .ref mH, .int 0, .int 0, .int 0, .int 0, .int (-1), .int (-1), .int 0, .ref mY, .int 0, .ref mE, .int 0, .int 0, .ref mW, .int 0, .ref mO, .int 0, .ref y1, .ref y2, .ref y3, .ref y4, .ref mZ]))] H := hP
  have hD : va_D A [(mS, .inl (cI, 21, .inl (fun _ => 0))), (oM, .inr (12, [.ref mT, .int 0, .ref mS, .ref mX, .int 0, .int 0, .ref mL, .ref mB, .ref mD, .ref m1, .ref m2, .int 0, .ref mR, .int 0, .ref x1, .ref x2, .ref x3, .int 0, .ref mH, .int 0, .int 0, .int 0, .int 0, .int (-1), .int (-1), .int 0, .ref mY, .int 0, .ref mE, .int 0, .int 0, .ref mW, .int 0, .ref mO, .int 0, .ref y1, .ref y2, .ref y3, .ref y4, .ref mZ]))] := hD
  subst hw
  exact W.iret (v := 4) hx hb hr (fun t ht hW => ⟨⟨4, (), rfl, rfl, trivial⟩, hS.F ht⟩) (hS.2.2) dX12_worth_20

set_option maxHeartbeats 4000000 in
set_option maxRecDepth 100000 in
theorem y_mend (l : Launch) (dC : Nat → ClassId) (dI : Nat → Nat → Nat) (cI cS : ClassId) (sz : Nat) (oM : Nat) (mT : Nat) (mS : Nat) (mX : Nat) (mL : Nat) (mB : Nat) (mD : Nat) (m1 : Nat) (m2 : Nat) (mR : Nat) (x1 : Nat) (x2 : Nat) (x3 : Nat) (mH : Nat) (mY : Nat) (mE : Nat) (mW : Nat) (mO : Nat) (y1 : Nat) (y2 : Nat) (y3 : Nat) (y4 : Nat) (mZ : Nat) (n : Int32) (gn : Int32)  : Met l yX12_mend wsX12_mend ({ frames := 0, cells := 0, slots := 0, locals := 0 } : Room) (va_Pc [.ref oM, .int n, .int gn] (fun U => U.heap.size = sz ∧ va_P (dC, dI) vwCl [(oM, .inr (12, [.ref mT, .int 0, .ref mS, .ref mX, .int 0, .int 0, .ref mL, .ref mB, .ref mD, .ref m1, .ref m2, .int 0, .ref mR, .int 0, .ref x1, .ref x2, .ref x3, .int 0, .ref mH, .int 0, .int 0, .int 0, .int 0, .int (-1), .int (-1), .int 0, .ref mY, .int 0, .ref mE, .int 0, .int 0, .ref mW, .int 0, .ref mO, .int 0, .ref y1, .ref y2, .ref y3, .ref y4, .ref mZ]))] U.heap ∧ va_K (dC, dI) vwCl [(cI, .int), (cS, .short)] U ∧ va_D (fun _ => True) [(oM, .inr (12, [.ref mT, .int 0, .ref mS, .ref mX, .int 0, .int 0, .ref mL, .ref mB, .ref mD, .ref m1, .ref m2, .int 0, .ref mR, .int 0, .ref x1, .ref x2, .ref x3, .int 0, .ref mH, .int 0, .int 0, .int 0, .int 0, .int (-1), .int (-1), .int 0, .ref mY, .int 0, .ref mE, .int 0, .int 0, .ref mW, .int 0, .ref mO, .int 0, .ref y1, .ref y2, .ref y3, .ref y4, .ref mZ]))])) (va_Qi (fun (r : Int32) (_ : Unit) => r = (-1)) (fun _ _ => True) (va_A [(oM, .inr (12, [.ref mT, .int 0, .ref mS, .ref mX, .int 0, .int 0, .ref mL, .ref mB, .ref mD, .ref m1, .ref m2, .int 0, .ref mR, .int 0, .ref x1, .ref x2, .ref x3, .int 0, .ref mH, .int 0, .int 0, .int 0, .int 0, .int (-1), .int (-1), .int 0, .ref mY, .int 0, .ref mE, .int 0, .int 0, .ref mW, .int 0, .ref mO, .int 0, .ref y1, .ref y2, .ref y3, .ref y4, .ref mZ]))] sz)) 0 0 (va_A [(oM, .inr (12, [.ref mT, .int 0, .ref mS, .ref mX, .int 0, .int 0, .ref mL, .ref mB, .ref mD, .ref m1, .ref m2, .int 0, .ref mR, .int 0, .ref x1, .ref x2, .ref x3, .int 0, .ref mH, .int 0, .int 0, .int 0, .int 0, .int (-1), .int (-1), .int 0, .ref mY, .int 0, .ref mE, .int 0, .int 0, .ref mW, .int 0, .ref mO, .int 0, .ref y1, .ref y2, .ref y3, .ref y4, .ref mZ]))] sz) := by
  refine Met.ofW (cc := cX12_mend) (maxL := 12) (ret := (some .int)) (by decide) rfl ?_
  intro p e s m args below meth c s₁ B hml hv
  obtain ⟨rfl, hsz, hP, hK, hD0⟩ := hv
  have hx := B.exec
  have hb := B.bytes
  have hr := B.returns
  have hts := atoms_spec (ws := wsX12_mend) B.pre
  have hown : s.vm.findClass RX12 = some m.cls := findClass_of_methodNamed B.named
  have hlocks := B.notSynchronized
  have in_X12 : ∀ w ∈ wsX120, w ∈ wsX12_mend := fun _ h => List.mem_cons_of_mem _ (List.mem_append_right _ (h))
  subst hsz
  have hD := hD0.self (sz := s.heap.size)
  generalize hAe : va_A [(oM, .inr (12, [.ref mT, .int 0, .ref mS, .ref mX, .int 0, .int 0, .ref mL, .ref mB, .ref mD, .ref m1, .ref m2, .int 0, .ref mR, .int 0, .ref x1, .ref x2, .ref x3, .int 0, .ref mH, .int 0, .int 0, .int 0, .int 0, .int (-1), .int (-1), .int 0, .ref mY, .int 0, .ref mE, .int 0, .int 0, .ref mW, .int 0, .ref mO, .int 0, .ref y1, .ref y2, .ref y3, .ref y4, .ref mZ]))] s.heap.size = A at hD ⊢
  have hA : ∀ q : Nat, s.heap.size ≤ q → A q := fun q h => by rw [← hAe]; exact Or.inr h
  have hS : va_S A s.heap s.heap [] := va_S.rf
  have hP : va_P (dC, dI) vwCl [(oM, .inr (12, [.ref mT, .int 0, .ref mS, .ref mX, .int 0, .int 0, .ref mL, .ref mB, .ref mD, .ref m1, .ref m2, .int 0, .ref mR, .int 0, .ref x1, .ref x2, .ref x3, .int 0, .ref mH, .int 0, .int 0, .int 0, .int 0, .int (-1), .int (-1), .int 0, .ref mY, .int 0, .ref mE, .int 0, .int 0, .ref mW, .int 0, .ref mO, .int 0, .ref y1, .ref y2, .ref y3, .ref y4, .ref mZ]))] s.heap := hP
  have hl := lv_entry ([.ref oM, .int n, .int gn]) (n := 12) (Nat.le_of_ble_eq_true rfl)
  rw [lg_entry_eq]
  generalize (lg_sl ([.ref oM, .int n, .int gn]) ++ List.replicate (12 - (lg_sl ([.ref oM, .int n, .int gn])).length) Slot.unset).toArray = ls at hl ⊢
  have hl : lv_has ls 12 [(0, .ref oM), (1, .int n), (2, .int gn)] := hl
  refine lv_aload_n hx hb dX12_mend_0 rfl (lv_at hl 0 rfl) ?_
  refine lv_iconst (v := 0) hx hb dX12_mend_1 (by decide) ?_
  refine va_put (D := (dC, dI)) (ci := 12) (v := .int 0) (ty := .int) (C := RX12) (T := TX12) (N := 40) hx hb hts in_X12 tyX12 tyX12_ok nmX12 hown hK hP hD hS 0 rfl rfl 25 (by decide) (hts (.fieldLink RX12 85 "TextMenderModel" "thrown" "I") (List.mem_of_getElem? (i := 1) rfl)) (fun _ h9 => h9) rfl (by decide +kernel) rfl rfl (Nat.le_of_ble_eq_true rfl) dX12_mend_2 (fun H locs hP hD hS => ?_)
  have hP : va_P (dC, dI) vwCl [(oM, .inr (12, [.ref mT, .int 0, .ref mS, .ref mX, .int 0, .int 0, .ref mL, .ref mB, .ref mD, .ref m1, .ref m2, .int 0, .ref mR, .int 0, .ref x1, .ref x2, .ref x3, .int 0, .ref mH, .int 0, .int 0, .int 0, .int 0, .int (-1), .int (-1), .int 0, .ref mY, .int 0, .ref mE, .int 0, .int 0, .ref mW, .int 0, .ref mO, .int 0, .ref y1, .ref y2, .ref y3, .ref y4, .ref mZ]))] H := hP
  have hD : va_D A [(oM, .inr (12, [.ref mT, .int 0, .ref mS, .ref mX, .int 0, .int 0, .ref mL, .ref mB, .ref mD, .ref m1, .ref m2, .int 0, .ref mR, .int 0, .ref x1, .ref x2, .ref x3, .int 0, .ref mH, .int 0, .int 0, .int 0, .int 0, .int (-1), .int (-1), .int 0, .ref mY, .int 0, .ref mE, .int 0, .int 0, .ref mW, .int 0, .ref mO, .int 0, .ref y1, .ref y2, .ref y3, .ref y4, .ref mZ]))] := hD
  refine lv_aload_n hx hb dX12_mend_5 rfl (lv_at hl 0 rfl) ?_
  refine lv_iconst (v := (-1)) hx hb dX12_mend_6 (by decide) ?_
  refine va_put (D := (dC, dI)) (ci := 12) (v := .int (-1)) (ty := .int) (C := RX12) (T := TX12) (N := 40) hx hb hts in_X12 tyX12 tyX12_ok nmX12 hown hK hP hD hS 0 rfl rfl 24 (by decide) (hts (.fieldLink RX12 55 "TextMenderModel" "where" "I") (List.mem_of_getElem? (i := 2) rfl)) (fun _ h9 => h9) rfl (by decide +kernel) rfl rfl (Nat.le_of_ble_eq_true rfl) dX12_mend_7 (fun H locs hP hD hS => ?_)
  have hP : va_P (dC, dI) vwCl [(oM, .inr (12, [.ref mT, .int 0, .ref mS, .ref mX, .int 0, .int 0, .ref mL, .ref mB, .ref mD, .ref m1, .ref m2, .int 0, .ref mR, .int 0, .ref x1, .ref x2, .ref x3, .int 0, .ref mH, .int 0, .int 0, .int 0, .int 0, .int (-1), .int (-1), .int 0, .ref mY, .int 0, .ref mE, .int 0, .int 0, .ref mW, .int 0, .ref mO, .int 0, .ref y1, .ref y2, .ref y3, .ref y4, .ref mZ]))] H := hP
  have hD : va_D A [(oM, .inr (12, [.ref mT, .int 0, .ref mS, .ref mX, .int 0, .int 0, .ref mL, .ref mB, .ref mD, .ref m1, .ref m2, .int 0, .ref mR, .int 0, .ref x1, .ref x2, .ref x3, .int 0, .ref mH, .int 0, .int 0, .int 0, .int 0, .int (-1), .int (-1), .int 0, .ref mY, .int 0, .ref mE, .int 0, .int 0, .ref mW, .int 0, .ref mO, .int 0, .ref y1, .ref y2, .ref y3, .ref y4, .ref mZ]))] := hD
  refine lv_iload_n hx hb dX12_mend_10 rfl (lv_at hl 1 rfl) ?_
  refine lv_iconst (v := 1) hx hb dX12_mend_11 (by decide) ?_
  refine lv_icmp_lt (tgt := 31) hx hb dX12_mend_12 (by decide) (fun c_1 => ?_) (fun c_1 => ?_)
  · refine lv_iconst (v := (-1)) hx hb dX12_mend_31 (by decide) ?_
    exact W.iret (v := (-1)) hx hb hr (fun t ht hW => ⟨⟨(-1), (), rfl, rfl, trivial⟩, hS.F ht⟩) (hS.2.2) dX12_mend_32
  · refine lv_iload_n hx hb dX12_mend_15 rfl (lv_at hl 1 rfl) ?_
    refine lv_iconst (v := 3) hx hb dX12_mend_16 (by decide) ?_
    refine lv_icmp_gt (tgt := 31) hx hb dX12_mend_17 (by decide) (fun c_2 => ?_) (fun c_2 => ?_)
    · refine lv_iconst (v := (-1)) hx hb dX12_mend_31 (by decide) ?_
      exact W.iret (v := (-1)) hx hb hr (fun t ht hW => ⟨⟨(-1), (), rfl, rfl, trivial⟩, hS.F ht⟩) (hS.2.2) dX12_mend_32
    · refine lv_iload_n hx hb dX12_mend_20 rfl (lv_at hl 2 rfl) ?_
      refine lv_iconst (v := 1) hx hb dX12_mend_21 (by decide) ?_
      refine lv_icmp_lt (tgt := 31) hx hb dX12_mend_22 (by decide) (fun c_3 => ?_) (fun c_3 => ?_)
      · refine lv_iconst (v := (-1)) hx hb dX12_mend_31 (by decide) ?_
        exact W.iret (v := (-1)) hx hb hr (fun t ht hW => ⟨⟨(-1), (), rfl, rfl, trivial⟩, hS.F ht⟩) (hS.2.2) dX12_mend_32
      · refine lv_iload_n hx hb dX12_mend_25 rfl (lv_at hl 2 rfl) ?_
        refine lv_ldc hx hb hown (hts (.constant RX12 198 (100000)) (List.mem_of_getElem? (i := 3) rfl)) dX12_mend_26 ?_
        refine lv_icmp_le (tgt := 33) hx hb dX12_mend_28 (by decide) (fun c_4 => ?_) (fun c_4 => ?_)
        · refine lv_iconst (v := (-1)) hx hb dX12_mend_33 (by decide) ?_
          refine lv_istore_n (lv' := [(3, .int (-1)), (0, .ref oM), (1, .int n), (2, .int gn)]) hx hb dX12_mend_34 rfl hl (by decide) rfl (fun ls hl => ?_)
          refine lv_iconst (v := 0) hx hb dX12_mend_35 (by decide) ?_
          refine lv_istore (lv' := [(4, .int 0), (3, .int (-1)), (0, .ref oM), (1, .int n), (2, .int gn)]) hx hb dX12_mend_36 hl (by decide) rfl (fun ls hl => ?_)
          refine lv_iconst (v := 0) hx hb dX12_mend_38 (by decide) ?_
          refine lv_istore (lv' := [(5, .int 0), (4, .int 0), (3, .int (-1)), (0, .ref oM), (1, .int n), (2, .int gn)]) hx hb dX12_mend_39 hl (by decide) rfl (fun ls hl => ?_)
          refine lv_iconst (v := 0) hx hb dX12_mend_41 (by decide) ?_
          refine lv_istore (lv' := [(6, .int 0), (5, .int 0), (4, .int 0), (3, .int (-1)), (0, .ref oM), (1, .int n), (2, .int gn)]) hx hb dX12_mend_42 hl (by decide) rfl (fun ls hl => ?_)
          refine lv_iconst (v := 0) hx hb dX12_mend_44 (by decide) ?_
          refine lv_istore (lv' := [(7, .int 0), (6, .int 0), (5, .int 0), (4, .int 0), (3, .int (-1)), (0, .ref oM), (1, .int n), (2, .int gn)]) hx hb dX12_mend_45 hl (by decide) rfl (fun ls hl => ?_)
          refine lv_iconst (v := 1) hx hb dX12_mend_47 (by decide) ?_
          refine lv_istore (lv' := [(8, .int 1), (7, .int 0), (6, .int 0), (5, .int 0), (4, .int 0), (3, .int (-1)), (0, .ref oM), (1, .int n), (2, .int gn)]) hx hb dX12_mend_48 hl (by decide) rfl (fun ls hl => ?_)
          refine lv_iload hx hb dX12_mend_50 (lv_at hl 0 rfl) ?_
          refine lv_iload_n hx hb dX12_mend_52 rfl (lv_at hl 7 rfl) ?_
          refine lv_icmp_gt (tgt := 159) hx hb dX12_mend_53 (by decide) (fun c_5 => absurd c_5 (c_1)) (fun c_5 => ?_)
          refine lv_aload_n hx hb dX12_mend_56 rfl (lv_at hl 6 rfl) ?_
          refine va_get (D := (dC, dI)) (ci := 12) (v := .int 0) (C := RX12) (T := TX12) (N := 40) hx hb hts in_X12 hown hK hP 0 rfl rfl 11 (by decide) (hts (.fieldLink RX12 161 "TextMenderModel" "harms" "I") (List.mem_of_getElem? (i := 4) rfl)) (fun _ h9 => h9) rfl dX12_mend_57 ?_
          refine lv_if_ne (tgt := 67) hx hb dX12_mend_60 (by decide) (fun c_6 => absurd (by decide) c_6) (fun c_6 => ?_)
          refine lv_iconst (v := 0) hx hb dX12_mend_63 (by decide) ?_
          refine lv_goto (tgt := 76) hx hb dX12_mend_64 (by decide) ?_
          refine lv_istore (lv' := [(9, .int 0), (8, .int 1), (7, .int 0), (6, .int 0), (5, .int 0), (4, .int 0), (3, .int (-1)), (0, .ref oM), (1, .int n), (2, .int gn)]) hx hb dX12_mend_76 hl (by decide) rfl (fun ls hl => ?_)
          refine lv_iconst (v := 0) hx hb dX12_mend_78 (by decide) ?_
          refine lv_istore (lv' := [(10, .int 0), (9, .int 0), (8, .int 1), (7, .int 0), (6, .int 0), (5, .int 0), (4, .int 0), (3, .int (-1)), (0, .ref oM), (1, .int n), (2, .int gn)]) hx hb dX12_mend_79 hl (by decide) rfl (fun ls hl => ?_)
          refine lv_iload hx hb dX12_mend_81 (lv_at hl 0 rfl) ?_
          refine lv_iload hx hb dX12_mend_83 (lv_at hl 1 rfl) ?_
          refine lv_icmp_ge (tgt := 153) hx hb dX12_mend_85 (by decide) (fun c_7 => ?_) (fun c_7 => absurd (by decide) c_7)
          refine lv_iinc (v := 2) (lv' := [(8, .int 2), (10, .int 0), (9, .int 0), (7, .int 0), (6, .int 0), (5, .int 0), (4, .int 0), (3, .int (-1)), (0, .ref oM), (1, .int n), (2, .int gn)]) hx hb dX12_mend_153 hl (k := 2) rfl (by decide) (by decide) rfl (fun ls hl => ?_)
          refine lv_goto (tgt := 50) hx hb dX12_mend_156 (by decide) ?_
          refine lv_iload hx hb dX12_mend_50 (lv_at hl 0 rfl) ?_
          refine lv_iload_n hx hb dX12_mend_52 rfl (lv_at hl 9 rfl) ?_
          refine lv_icmp_gt (tgt := 159) hx hb dX12_mend_53 (by decide) (fun c_8 => ?_) (fun c_8 => ?_)
          · refine lv_iload_n hx hb dX12_mend_159 rfl (lv_at hl 7 rfl) ?_
            refine lv_iconst (v := (-1)) hx hb dX12_mend_160 (by decide) ?_
            refine lv_icmp_eq (tgt := 186) hx hb dX12_mend_161 (by decide) (fun c_9 => ?_) (fun c_9 => absurd (by decide) c_9)
            refine lv_iconst (v := (-1)) hx hb dX12_mend_186 (by decide) ?_
            exact W.iret (v := (-1)) hx hb hr (fun t ht hW => ⟨⟨(-1), (), rfl, rfl, trivial⟩, hS.F ht⟩) (hS.2.2) dX12_mend_187
          · refine lv_aload_n hx hb dX12_mend_56 rfl (lv_at hl 8 rfl) ?_
            refine va_get (D := (dC, dI)) (ci := 12) (v := .int 0) (C := RX12) (T := TX12) (N := 40) hx hb hts in_X12 hown hK hP 0 rfl rfl 11 (by decide) (hts (.fieldLink RX12 161 "TextMenderModel" "harms" "I") (List.mem_of_getElem? (i := 4) rfl)) (fun _ h9 => h9) rfl dX12_mend_57 ?_
            refine lv_if_ne (tgt := 67) hx hb dX12_mend_60 (by decide) (fun c_10 => absurd (by decide) c_10) (fun c_10 => ?_)
            refine lv_iconst (v := 0) hx hb dX12_mend_63 (by decide) ?_
            refine lv_goto (tgt := 76) hx hb dX12_mend_64 (by decide) ?_
            refine lv_istore (lv' := [(9, .int 0), (8, .int 2), (10, .int 0), (7, .int 0), (6, .int 0), (5, .int 0), (4, .int 0), (3, .int (-1)), (0, .ref oM), (1, .int n), (2, .int gn)]) hx hb dX12_mend_76 hl (by decide) rfl (fun ls hl => ?_)
            refine lv_iconst (v := 0) hx hb dX12_mend_78 (by decide) ?_
            refine lv_istore (lv' := [(10, .int 0), (9, .int 0), (8, .int 2), (7, .int 0), (6, .int 0), (5, .int 0), (4, .int 0), (3, .int (-1)), (0, .ref oM), (1, .int n), (2, .int gn)]) hx hb dX12_mend_79 hl (by decide) rfl (fun ls hl => ?_)
            refine lv_iload hx hb dX12_mend_81 (lv_at hl 0 rfl) ?_
            refine lv_iload hx hb dX12_mend_83 (lv_at hl 1 rfl) ?_
            refine lv_icmp_ge (tgt := 153) hx hb dX12_mend_85 (by decide) (fun c_11 => ?_) (fun c_11 => absurd (by decide) c_11)
            refine lv_iinc (v := 3) (lv' := [(8, .int 3), (10, .int 0), (9, .int 0), (7, .int 0), (6, .int 0), (5, .int 0), (4, .int 0), (3, .int (-1)), (0, .ref oM), (1, .int n), (2, .int gn)]) hx hb dX12_mend_153 hl (k := 2) rfl (by decide) (by decide) rfl (fun ls hl => ?_)
            refine lv_goto (tgt := 50) hx hb dX12_mend_156 (by decide) ?_
            refine lv_iload hx hb dX12_mend_50 (lv_at hl 0 rfl) ?_
            refine lv_iload_n hx hb dX12_mend_52 rfl (lv_at hl 9 rfl) ?_
            refine lv_icmp_gt (tgt := 159) hx hb dX12_mend_53 (by decide) (fun c_12 => ?_) (fun c_12 => ?_)
            · refine lv_iload_n hx hb dX12_mend_159 rfl (lv_at hl 7 rfl) ?_
              refine lv_iconst (v := (-1)) hx hb dX12_mend_160 (by decide) ?_
              refine lv_icmp_eq (tgt := 186) hx hb dX12_mend_161 (by decide) (fun c_13 => ?_) (fun c_13 => absurd (by decide) c_13)
              refine lv_iconst (v := (-1)) hx hb dX12_mend_186 (by decide) ?_
              exact W.iret (v := (-1)) hx hb hr (fun t ht hW => ⟨⟨(-1), (), rfl, rfl, trivial⟩, hS.F ht⟩) (hS.2.2) dX12_mend_187
            · refine lv_aload_n hx hb dX12_mend_56 rfl (lv_at hl 8 rfl) ?_
              refine va_get (D := (dC, dI)) (ci := 12) (v := .int 0) (C := RX12) (T := TX12) (N := 40) hx hb hts in_X12 hown hK hP 0 rfl rfl 11 (by decide) (hts (.fieldLink RX12 161 "TextMenderModel" "harms" "I") (List.mem_of_getElem? (i := 4) rfl)) (fun _ h9 => h9) rfl dX12_mend_57 ?_
              refine lv_if_ne (tgt := 67) hx hb dX12_mend_60 (by decide) (fun c_14 => absurd (by decide) c_14) (fun c_14 => ?_)
              refine lv_iconst (v := 0) hx hb dX12_mend_63 (by decide) ?_
              refine lv_goto (tgt := 76) hx hb dX12_mend_64 (by decide) ?_
              refine lv_istore (lv' := [(9, .int 0), (8, .int 3), (10, .int 0), (7, .int 0), (6, .int 0), (5, .int 0), (4, .int 0), (3, .int (-1)), (0, .ref oM), (1, .int n), (2, .int gn)]) hx hb dX12_mend_76 hl (by decide) rfl (fun ls hl => ?_)
              refine lv_iconst (v := 0) hx hb dX12_mend_78 (by decide) ?_
              refine lv_istore (lv' := [(10, .int 0), (9, .int 0), (8, .int 3), (7, .int 0), (6, .int 0), (5, .int 0), (4, .int 0), (3, .int (-1)), (0, .ref oM), (1, .int n), (2, .int gn)]) hx hb dX12_mend_79 hl (by decide) rfl (fun ls hl => ?_)
              refine lv_iload hx hb dX12_mend_81 (lv_at hl 0 rfl) ?_
              refine lv_iload hx hb dX12_mend_83 (lv_at hl 1 rfl) ?_
              refine lv_icmp_ge (tgt := 153) hx hb dX12_mend_85 (by decide) (fun c_15 => ?_) (fun c_15 => absurd (by decide) c_15)
              refine lv_iinc (v := 4) (lv' := [(8, .int 4), (10, .int 0), (9, .int 0), (7, .int 0), (6, .int 0), (5, .int 0), (4, .int 0), (3, .int (-1)), (0, .ref oM), (1, .int n), (2, .int gn)]) hx hb dX12_mend_153 hl (k := 2) rfl (by decide) (by decide) rfl (fun ls hl => ?_)
              refine lv_goto (tgt := 50) hx hb dX12_mend_156 (by decide) ?_
              refine lv_iload hx hb dX12_mend_50 (lv_at hl 0 rfl) ?_
              refine lv_iload_n hx hb dX12_mend_52 rfl (lv_at hl 9 rfl) ?_
              refine lv_icmp_gt (tgt := 159) hx hb dX12_mend_53 (by decide) (fun c_16 => ?_) (fun c_16 => absurd (Int32.lt_of_le_of_lt (Int32.not_lt.mp c_2) (by decide)) c_16)
              refine lv_iload_n hx hb dX12_mend_159 rfl (lv_at hl 7 rfl) ?_
              refine lv_iconst (v := (-1)) hx hb dX12_mend_160 (by decide) ?_
              refine lv_icmp_eq (tgt := 186) hx hb dX12_mend_161 (by decide) (fun c_17 => ?_) (fun c_17 => absurd (by decide) c_17)
              refine lv_iconst (v := (-1)) hx hb dX12_mend_186 (by decide) ?_
              exact W.iret (v := (-1)) hx hb hr (fun t ht hW => ⟨⟨(-1), (), rfl, rfl, trivial⟩, hS.F ht⟩) (hS.2.2) dX12_mend_187
        · refine lv_iconst (v := (-1)) hx hb dX12_mend_31 (by decide) ?_
          exact W.iret (v := (-1)) hx hb hr (fun t ht hW => ⟨⟨(-1), (), rfl, rfl, trivial⟩, hS.F ht⟩) (hS.2.2) dX12_mend_32

set_option maxHeartbeats 4000000 in
set_option maxRecDepth 100000 in
theorem y_parts (l : Launch) (dC : Nat → ClassId) (dI : Nat → Nat → Nat) (cI cS : ClassId) (sz : Nat) (oM : Nat) (mT : Nat) (mS : Nat) (mX : Nat) (mL : Nat) (mB : Nat) (mD : Nat) (m1 : Nat) (m2 : Nat) (mR : Nat) (x1 : Nat) (x2 : Nat) (x3 : Nat) (mH : Nat) (mY : Nat) (mE : Nat) (mW : Nat) (mO : Nat) (y1 : Nat) (y2 : Nat) (y3 : Nat) (y4 : Nat) (mZ : Nat) (pr : Int32)  : Met l yX12_parts wsX12_parts ({ frames := 0, cells := 0, slots := 0, locals := 0 } : Room) (va_Pc [.ref oM, .int pr] (fun U => U.heap.size = sz ∧ va_P (dC, dI) vwCl [(oM, .inr (12, [.ref mT, .int 0, .ref mS, .ref mX, .int 0, .int 0, .ref mL, .ref mB, .ref mD, .ref m1, .ref m2, .int 0, .ref mR, .int 0, .ref x1, .ref x2, .ref x3, .int 0, .ref mH, .int 0, .int 0, .int 0, .int 0, .int (-1), .int (-1), .int 0, .ref mY, .int 0, .ref mE, .int 0, .int 0, .ref mW, .int 0, .ref mO, .int 0, .ref y1, .ref y2, .ref y3, .ref y4, .ref mZ])), (mS, .inl (cI, 21, .inl (fun _ => 0)))] U.heap ∧ va_K (dC, dI) vwCl [(cI, .int), (cS, .short)] U ∧ va_D (fun _ => True) [(oM, .inr (12, [.ref mT, .int 0, .ref mS, .ref mX, .int 0, .int 0, .ref mL, .ref mB, .ref mD, .ref m1, .ref m2, .int 0, .ref mR, .int 0, .ref x1, .ref x2, .ref x3, .int 0, .ref mH, .int 0, .int 0, .int 0, .int 0, .int (-1), .int (-1), .int 0, .ref mY, .int 0, .ref mE, .int 0, .int 0, .ref mW, .int 0, .ref mO, .int 0, .ref y1, .ref y2, .ref y3, .ref y4, .ref mZ])), (mS, .inl (cI, 21, .inl (fun _ => 0)))])) (va_Qi (fun (r : Int32) (_ : Unit) => r = (-1)) (fun _ _ => True) (va_A [(oM, .inr (12, [.ref mT, .int 0, .ref mS, .ref mX, .int 0, .int 0, .ref mL, .ref mB, .ref mD, .ref m1, .ref m2, .int 0, .ref mR, .int 0, .ref x1, .ref x2, .ref x3, .int 0, .ref mH, .int 0, .int 0, .int 0, .int 0, .int (-1), .int (-1), .int 0, .ref mY, .int 0, .ref mE, .int 0, .int 0, .ref mW, .int 0, .ref mO, .int 0, .ref y1, .ref y2, .ref y3, .ref y4, .ref mZ])), (mS, .inl (cI, 21, .inl (fun _ => 0)))] sz)) 0 0 (va_A [(oM, .inr (12, [.ref mT, .int 0, .ref mS, .ref mX, .int 0, .int 0, .ref mL, .ref mB, .ref mD, .ref m1, .ref m2, .int 0, .ref mR, .int 0, .ref x1, .ref x2, .ref x3, .int 0, .ref mH, .int 0, .int 0, .int 0, .int 0, .int (-1), .int (-1), .int 0, .ref mY, .int 0, .ref mE, .int 0, .int 0, .ref mW, .int 0, .ref mO, .int 0, .ref y1, .ref y2, .ref y3, .ref y4, .ref mZ])), (mS, .inl (cI, 21, .inl (fun _ => 0)))] sz) := by
  refine Met.ofW (cc := cX12_parts) (maxL := 8) (ret := (some .int)) (by decide) rfl ?_
  intro p e s m args below meth c s₁ B hml hv
  obtain ⟨rfl, hsz, hP, hK, hD0⟩ := hv
  have hx := B.exec
  have hb := B.bytes
  have hr := B.returns
  have hts := atoms_spec (ws := wsX12_parts) B.pre
  have hown : s.vm.findClass RX12 = some m.cls := findClass_of_methodNamed B.named
  have hlocks := B.notSynchronized
  have in_X12 : ∀ w ∈ wsX120, w ∈ wsX12_parts := fun _ h => List.mem_cons_of_mem _ (List.mem_append_right _ (h))
  subst hsz
  have hD := hD0.self (sz := s.heap.size)
  generalize hAe : va_A [(oM, .inr (12, [.ref mT, .int 0, .ref mS, .ref mX, .int 0, .int 0, .ref mL, .ref mB, .ref mD, .ref m1, .ref m2, .int 0, .ref mR, .int 0, .ref x1, .ref x2, .ref x3, .int 0, .ref mH, .int 0, .int 0, .int 0, .int 0, .int (-1), .int (-1), .int 0, .ref mY, .int 0, .ref mE, .int 0, .int 0, .ref mW, .int 0, .ref mO, .int 0, .ref y1, .ref y2, .ref y3, .ref y4, .ref mZ])), (mS, .inl (cI, 21, .inl (fun _ => 0)))] s.heap.size = A at hD ⊢
  have hA : ∀ q : Nat, s.heap.size ≤ q → A q := fun q h => by rw [← hAe]; exact Or.inr h
  have hS : va_S A s.heap s.heap [] := va_S.rf
  have hP : va_P (dC, dI) vwCl [(oM, .inr (12, [.ref mT, .int 0, .ref mS, .ref mX, .int 0, .int 0, .ref mL, .ref mB, .ref mD, .ref m1, .ref m2, .int 0, .ref mR, .int 0, .ref x1, .ref x2, .ref x3, .int 0, .ref mH, .int 0, .int 0, .int 0, .int 0, .int (-1), .int (-1), .int 0, .ref mY, .int 0, .ref mE, .int 0, .int 0, .ref mW, .int 0, .ref mO, .int 0, .ref y1, .ref y2, .ref y3, .ref y4, .ref mZ])), (mS, .inl (cI, 21, .inl (fun _ => 0)))] s.heap := hP
  have hl := lv_entry ([.ref oM, .int pr]) (n := 8) (Nat.le_of_ble_eq_true rfl)
  rw [lg_entry_eq]
  generalize (lg_sl ([.ref oM, .int pr]) ++ List.replicate (8 - (lg_sl ([.ref oM, .int pr])).length) Slot.unset).toArray = ls at hl ⊢
  have hl : lv_has ls 8 [(0, .ref oM), (1, .int pr)] := hl
  refine lv_aload_n hx hb dX12_parts_0 rfl (lv_at hl 0 rfl) ?_
  refine lv_iconst (v := 0) hx hb dX12_parts_1 (by decide) ?_
  refine va_put (D := (dC, dI)) (ci := 12) (v := .int 0) (ty := .int) (C := RX12) (T := TX12) (N := 40) hx hb hts in_X12 tyX12 tyX12_ok nmX12 hown hK hP hD hS 0 rfl rfl 25 (by decide) (hts (.fieldLink RX12 85 "TextMenderModel" "thrown" "I") (List.mem_of_getElem? (i := 1) rfl)) (fun _ h9 => h9) rfl (by decide +kernel) rfl rfl (Nat.le_of_ble_eq_true rfl) dX12_parts_2 (fun H locs hP hD hS => ?_)
  have hP : va_P (dC, dI) vwCl [(oM, .inr (12, [.ref mT, .int 0, .ref mS, .ref mX, .int 0, .int 0, .ref mL, .ref mB, .ref mD, .ref m1, .ref m2, .int 0, .ref mR, .int 0, .ref x1, .ref x2, .ref x3, .int 0, .ref mH, .int 0, .int 0, .int 0, .int 0, .int (-1), .int (-1), .int 0, .ref mY, .int 0, .ref mE, .int 0, .int 0, .ref mW, .int 0, .ref mO, .int 0, .ref y1, .ref y2, .ref y3, .ref y4, .ref mZ])), (mS, .inl (cI, 21, .inl (fun _ => 0)))] H := hP
  have hD : va_D A [(oM, .inr (12, [.ref mT, .int 0, .ref mS, .ref mX, .int 0, .int 0, .ref mL, .ref mB, .ref mD, .ref m1, .ref m2, .int 0, .ref mR, .int 0, .ref x1, .ref x2, .ref x3, .int 0, .ref mH, .int 0, .int 0, .int 0, .int 0, .int (-1), .int (-1), .int 0, .ref mY, .int 0, .ref mE, .int 0, .int 0, .ref mW, .int 0, .ref mO, .int 0, .ref y1, .ref y2, .ref y3, .ref y4, .ref mZ])), (mS, .inl (cI, 21, .inl (fun _ => 0)))] := hD
  refine lv_aload_n hx hb dX12_parts_5 rfl (lv_at hl 0 rfl) ?_
  refine lv_iconst (v := (-1)) hx hb dX12_parts_6 (by decide) ?_
  refine va_put (D := (dC, dI)) (ci := 12) (v := .int (-1)) (ty := .int) (C := RX12) (T := TX12) (N := 40) hx hb hts in_X12 tyX12 tyX12_ok nmX12 hown hK hP hD hS 0 rfl rfl 24 (by decide) (hts (.fieldLink RX12 55 "TextMenderModel" "where" "I") (List.mem_of_getElem? (i := 2) rfl)) (fun _ h9 => h9) rfl (by decide +kernel) rfl rfl (Nat.le_of_ble_eq_true rfl) dX12_parts_7 (fun H locs hP hD hS => ?_)
  have hP : va_P (dC, dI) vwCl [(oM, .inr (12, [.ref mT, .int 0, .ref mS, .ref mX, .int 0, .int 0, .ref mL, .ref mB, .ref mD, .ref m1, .ref m2, .int 0, .ref mR, .int 0, .ref x1, .ref x2, .ref x3, .int 0, .ref mH, .int 0, .int 0, .int 0, .int 0, .int (-1), .int (-1), .int 0, .ref mY, .int 0, .ref mE, .int 0, .int 0, .ref mW, .int 0, .ref mO, .int 0, .ref y1, .ref y2, .ref y3, .ref y4, .ref mZ])), (mS, .inl (cI, 21, .inl (fun _ => 0)))] H := hP
  have hD : va_D A [(oM, .inr (12, [.ref mT, .int 0, .ref mS, .ref mX, .int 0, .int 0, .ref mL, .ref mB, .ref mD, .ref m1, .ref m2, .int 0, .ref mR, .int 0, .ref x1, .ref x2, .ref x3, .int 0, .ref mH, .int 0, .int 0, .int 0, .int 0, .int (-1), .int (-1), .int 0, .ref mY, .int 0, .ref mE, .int 0, .int 0, .ref mW, .int 0, .ref mO, .int 0, .ref y1, .ref y2, .ref y3, .ref y4, .ref mZ])), (mS, .inl (cI, 21, .inl (fun _ => 0)))] := hD
  refine lv_aload_n hx hb dX12_parts_10 rfl (lv_at hl 0 rfl) ?_
  refine va_get (D := (dC, dI)) (ci := 12) (v := .ref mS) (C := RX12) (T := TX12) (N := 40) hx hb hts in_X12 hown hK hP 0 rfl rfl 2 (by decide) (hts (.fieldLink RX12 13 "TextMenderModel" "sizes" "[I") (List.mem_of_getElem? (i := 3) rfl)) (fun _ h9 => h9) rfl dX12_parts_11 ?_
  refine lv_iconst (v := 0) hx hb dX12_parts_14 (by decide) ?_
  refine va_iald hx hb hK hP 1 0 rfl rfl (by unfold vp_in; decide) dX12_parts_15 ?_
  refine k_i (y := 0) (by first | rfl | decide) ?_
  refine lv_istore_n (lv' := [(2, .int 0), (0, .ref oM), (1, .int pr)]) hx hb dX12_parts_16 rfl hl (by decide) rfl (fun ls hl => ?_)
  refine lv_iload_n hx hb dX12_parts_17 rfl (lv_at hl 0 rfl) ?_
  refine lv_iconst (v := 1) hx hb dX12_parts_18 (by decide) ?_
  refine lv_icmp_lt (tgt := 39) hx hb dX12_parts_19 (by decide) (fun c_1 => ?_) (fun c_1 => absurd (by decide) c_1)
  refine lv_iconst (v := (-1)) hx hb dX12_parts_39 (by decide) ?_
  exact W.iret (v := (-1)) hx hb hr (fun t ht hW => ⟨⟨(-1), (), rfl, rfl, trivial⟩, hS.F ht⟩) (hS.2.2) dX12_parts_40

set_option maxHeartbeats 4000000 in
set_option maxRecDepth 100000 in
theorem y_choices (l : Launch) (dC : Nat → ClassId) (dI : Nat → Nat → Nat) (cI cS : ClassId) (sz : Nat) (oM : Nat) (mT : Nat) (mS : Nat) (mX : Nat) (mL : Nat) (mB : Nat) (mD : Nat) (m1 : Nat) (m2 : Nat) (mR : Nat) (x1 : Nat) (x2 : Nat) (x3 : Nat) (mH : Nat) (mY : Nat) (mE : Nat) (mW : Nat) (mO : Nat) (y1 : Nat) (y2 : Nat) (y3 : Nat) (y4 : Nat) (mZ : Nat) (a : Int32) (b : Int32)  : Met l yX12_choices wsX12_choices ({ frames := 1, cells := 0, slots := 0, locals := 22 } : Room) (va_Pc [.ref oM, .int a, .int b] (fun U => U.heap.size = sz ∧ va_P (dC, dI) vwCl [(oM, .inr (12, [.ref mT, .int 0, .ref mS, .ref mX, .int 0, .int 0, .ref mL, .ref mB, .ref mD, .ref m1, .ref m2, .int 0, .ref mR, .int 0, .ref x1, .ref x2, .ref x3, .int 0, .ref mH, .int 0, .int 0, .int 0, .int 0, .int (-1), .int (-1), .int 0, .ref mY, .int 0, .ref mE, .int 0, .int 0, .ref mW, .int 0, .ref mO, .int 0, .ref y1, .ref y2, .ref y3, .ref y4, .ref mZ])), (mS, .inl (cI, 21, .inl (fun _ => 0)))] U.heap ∧ va_K (dC, dI) vwCl [(cI, .int), (cS, .short)] U ∧ va_D (fun _ => True) [(oM, .inr (12, [.ref mT, .int 0, .ref mS, .ref mX, .int 0, .int 0, .ref mL, .ref mB, .ref mD, .ref m1, .ref m2, .int 0, .ref mR, .int 0, .ref x1, .ref x2, .ref x3, .int 0, .ref mH, .int 0, .int 0, .int 0, .int 0, .int (-1), .int (-1), .int 0, .ref mY, .int 0, .ref mE, .int 0, .int 0, .ref mW, .int 0, .ref mO, .int 0, .ref y1, .ref y2, .ref y3, .ref y4, .ref mZ])), (mS, .inl (cI, 21, .inl (fun _ => 0)))])) (va_Qi (fun (r : Int32) (_ : Unit) => r = (-1)) (fun _ _ => True) (va_A [(oM, .inr (12, [.ref mT, .int 0, .ref mS, .ref mX, .int 0, .int 0, .ref mL, .ref mB, .ref mD, .ref m1, .ref m2, .int 0, .ref mR, .int 0, .ref x1, .ref x2, .ref x3, .int 0, .ref mH, .int 0, .int 0, .int 0, .int 0, .int (-1), .int (-1), .int 0, .ref mY, .int 0, .ref mE, .int 0, .int 0, .ref mW, .int 0, .ref mO, .int 0, .ref y1, .ref y2, .ref y3, .ref y4, .ref mZ])), (mS, .inl (cI, 21, .inl (fun _ => 0)))] sz)) 0 0 (va_A [(oM, .inr (12, [.ref mT, .int 0, .ref mS, .ref mX, .int 0, .int 0, .ref mL, .ref mB, .ref mD, .ref m1, .ref m2, .int 0, .ref mR, .int 0, .ref x1, .ref x2, .ref x3, .int 0, .ref mH, .int 0, .int 0, .int 0, .int 0, .int (-1), .int (-1), .int 0, .ref mY, .int 0, .ref mE, .int 0, .int 0, .ref mW, .int 0, .ref mO, .int 0, .ref y1, .ref y2, .ref y3, .ref y4, .ref mZ])), (mS, .inl (cI, 21, .inl (fun _ => 0)))] sz) := by
  refine Met.ofW (cc := cX12_choices) (maxL := 11) (ret := (some .int)) (by decide) rfl ?_
  intro p e s m args below meth c s₁ B hml hv
  obtain ⟨rfl, hsz, hP, hK, hD0⟩ := hv
  have hx := B.exec
  have hb := B.bytes
  have hr := B.returns
  have hts := atoms_spec (ws := wsX12_choices) B.pre
  have hown : s.vm.findClass RX12 = some m.cls := findClass_of_methodNamed B.named
  have hlocks := B.notSynchronized
  have in_X12 : ∀ w ∈ wsX120, w ∈ wsX12_choices := fun _ h => List.mem_cons_of_mem _ (List.mem_append_right _ (h))
  subst hsz
  have hD := hD0.self (sz := s.heap.size)
  generalize hAe : va_A [(oM, .inr (12, [.ref mT, .int 0, .ref mS, .ref mX, .int 0, .int 0, .ref mL, .ref mB, .ref mD, .ref m1, .ref m2, .int 0, .ref mR, .int 0, .ref x1, .ref x2, .ref x3, .int 0, .ref mH, .int 0, .int 0, .int 0, .int 0, .int (-1), .int (-1), .int 0, .ref mY, .int 0, .ref mE, .int 0, .int 0, .ref mW, .int 0, .ref mO, .int 0, .ref y1, .ref y2, .ref y3, .ref y4, .ref mZ])), (mS, .inl (cI, 21, .inl (fun _ => 0)))] s.heap.size = A at hD ⊢
  have hA : ∀ q : Nat, s.heap.size ≤ q → A q := fun q h => by rw [← hAe]; exact Or.inr h
  have hS : va_S A s.heap s.heap [] := va_S.rf
  have hP : va_P (dC, dI) vwCl [(oM, .inr (12, [.ref mT, .int 0, .ref mS, .ref mX, .int 0, .int 0, .ref mL, .ref mB, .ref mD, .ref m1, .ref m2, .int 0, .ref mR, .int 0, .ref x1, .ref x2, .ref x3, .int 0, .ref mH, .int 0, .int 0, .int 0, .int 0, .int (-1), .int (-1), .int 0, .ref mY, .int 0, .ref mE, .int 0, .int 0, .ref mW, .int 0, .ref mO, .int 0, .ref y1, .ref y2, .ref y3, .ref y4, .ref mZ])), (mS, .inl (cI, 21, .inl (fun _ => 0)))] s.heap := hP
  have hl := lv_entry ([.ref oM, .int a, .int b]) (n := 11) (Nat.le_of_ble_eq_true rfl)
  rw [lg_entry_eq]
  generalize (lg_sl ([.ref oM, .int a, .int b]) ++ List.replicate (11 - (lg_sl ([.ref oM, .int a, .int b])).length) Slot.unset).toArray = ls at hl ⊢
  have hl : lv_has ls 11 [(0, .ref oM), (1, .int a), (2, .int b)] := hl
  refine lv_aload_n hx hb dX12_choices_0 rfl (lv_at hl 0 rfl) ?_
  refine lv_iconst (v := 0) hx hb dX12_choices_1 (by decide) ?_
  refine va_put (D := (dC, dI)) (ci := 12) (v := .int 0) (ty := .int) (C := RX12) (T := TX12) (N := 40) hx hb hts in_X12 tyX12 tyX12_ok nmX12 hown hK hP hD hS 0 rfl rfl 25 (by decide) (hts (.fieldLink RX12 85 "TextMenderModel" "thrown" "I") (List.mem_of_getElem? (i := 1) rfl)) (fun _ h9 => h9) rfl (by decide +kernel) rfl rfl (Nat.le_of_ble_eq_true rfl) dX12_choices_2 (fun H locs hP hD hS => ?_)
  have hP : va_P (dC, dI) vwCl [(oM, .inr (12, [.ref mT, .int 0, .ref mS, .ref mX, .int 0, .int 0, .ref mL, .ref mB, .ref mD, .ref m1, .ref m2, .int 0, .ref mR, .int 0, .ref x1, .ref x2, .ref x3, .int 0, .ref mH, .int 0, .int 0, .int 0, .int 0, .int (-1), .int (-1), .int 0, .ref mY, .int 0, .ref mE, .int 0, .int 0, .ref mW, .int 0, .ref mO, .int 0, .ref y1, .ref y2, .ref y3, .ref y4, .ref mZ])), (mS, .inl (cI, 21, .inl (fun _ => 0)))] H := hP
  have hD : va_D A [(oM, .inr (12, [.ref mT, .int 0, .ref mS, .ref mX, .int 0, .int 0, .ref mL, .ref mB, .ref mD, .ref m1, .ref m2, .int 0, .ref mR, .int 0, .ref x1, .ref x2, .ref x3, .int 0, .ref mH, .int 0, .int 0, .int 0, .int 0, .int (-1), .int (-1), .int 0, .ref mY, .int 0, .ref mE, .int 0, .int 0, .ref mW, .int 0, .ref mO, .int 0, .ref y1, .ref y2, .ref y3, .ref y4, .ref mZ])), (mS, .inl (cI, 21, .inl (fun _ => 0)))] := hD
  refine lv_aload_n hx hb dX12_choices_5 rfl (lv_at hl 0 rfl) ?_
  refine lv_iconst (v := (-1)) hx hb dX12_choices_6 (by decide) ?_
  refine va_put (D := (dC, dI)) (ci := 12) (v := .int (-1)) (ty := .int) (C := RX12) (T := TX12) (N := 40) hx hb hts in_X12 tyX12 tyX12_ok nmX12 hown hK hP hD hS 0 rfl rfl 24 (by decide) (hts (.fieldLink RX12 55 "TextMenderModel" "where" "I") (List.mem_of_getElem? (i := 2) rfl)) (fun _ h9 => h9) rfl (by decide +kernel) rfl rfl (Nat.le_of_ble_eq_true rfl) dX12_choices_7 (fun H locs hP hD hS => ?_)
  have hP : va_P (dC, dI) vwCl [(oM, .inr (12, [.ref mT, .int 0, .ref mS, .ref mX, .int 0, .int 0, .ref mL, .ref mB, .ref mD, .ref m1, .ref m2, .int 0, .ref mR, .int 0, .ref x1, .ref x2, .ref x3, .int 0, .ref mH, .int 0, .int 0, .int 0, .int 0, .int (-1), .int (-1), .int 0, .ref mY, .int 0, .ref mE, .int 0, .int 0, .ref mW, .int 0, .ref mO, .int 0, .ref y1, .ref y2, .ref y3, .ref y4, .ref mZ])), (mS, .inl (cI, 21, .inl (fun _ => 0)))] H := hP
  have hD : va_D A [(oM, .inr (12, [.ref mT, .int 0, .ref mS, .ref mX, .int 0, .int 0, .ref mL, .ref mB, .ref mD, .ref m1, .ref m2, .int 0, .ref mR, .int 0, .ref x1, .ref x2, .ref x3, .int 0, .ref mH, .int 0, .int 0, .int 0, .int 0, .int (-1), .int (-1), .int 0, .ref mY, .int 0, .ref mE, .int 0, .int 0, .ref mW, .int 0, .ref mO, .int 0, .ref y1, .ref y2, .ref y3, .ref y4, .ref mZ])), (mS, .inl (cI, 21, .inl (fun _ => 0)))] := hD
  refine lv_aload_n hx hb dX12_choices_10 rfl (lv_at hl 0 rfl) ?_
  have hPc := hP.sub (ws' := [(oM, .inr (12, [.ref mT, .int 0, .ref mS, .ref mX, .int 0, .int 0, .ref mL, .ref mB, .ref mD, .ref m1, .ref m2, .int 0, .ref mR, .int 0, .ref x1, .ref x2, .ref x3, .int 0, .ref mH, .int 0, .int 0, .int 0, .int 0, .int (-1), .int (-1), .int 0, .ref mY, .int 0, .ref mE, .int 0, .int 0, .ref mW, .int 0, .ref mO, .int 0, .ref y1, .ref y2, .ref y3, .ref y4, .ref mZ])), (mS, .inl (cI, 21, .inl (fun _ => 0)))]) [0, 1] rfl
  have hDc := hD.sub (ws' := [(oM, .inr (12, [.ref mT, .int 0, .ref mS, .ref mX, .int 0, .int 0, .ref mL, .ref mB, .ref mD, .ref m1, .ref m2, .int 0, .ref mR, .int 0, .ref x1, .ref x2, .ref x3, .int 0, .ref mH, .int 0, .int 0, .int 0, .int 0, .int (-1), .int (-1), .int 0, .ref mY, .int 0, .ref mE, .int 0, .int 0, .ref mW, .int 0, .ref mO, .int 0, .ref y1, .ref y2, .ref y3, .ref y4, .ref mZ])), (mS, .inl (cI, 21, .inl (fun _ => 0)))]) [0, 1] (by decide) rfl
  have hFc := va_free (wc := [(oM, .inr (12, [.ref mT, .int 0, .ref mS, .ref mX, .int 0, .int 0, .ref mL, .ref mB, .ref mD, .ref m1, .ref m2, .int 0, .ref mR, .int 0, .ref x1, .ref x2, .ref x3, .int 0, .ref mH, .int 0, .int 0, .int 0, .int 0, .int (-1), .int (-1), .int 0, .ref mY, .int 0, .ref mE, .int 0, .int 0, .ref mW, .int 0, .ref mO, .int 0, .ref y1, .ref y2, .ref y3, .ref y4, .ref mZ])), (mS, .inl (cI, 21, .inl (fun _ => 0)))]) hD hS hA [0, 1] rfl
  refine va_calli (va_runV (As := []) (rest := []) ⟨hx, hb, hml, hown, hts⟩ (m_X12_marksOf l dC dI cI cS H.size oM mT mS mX mL mB mD m1 m2 mR x1 x2 x3 mH mY mE mW mO y1 y2 y3 y4 mZ ) (cwV 0 hts gX12_choices_X12_marksOf rfl rfl rfl (by decide +kernel) ⟨Nat.le_of_ble_eq_true rfl, Nat.le_of_ble_eq_true rfl⟩) ⟨fun a U g mk q => by obtain ⟨q0, q1, qP, qK, qD⟩ := q; exact ⟨q0, q1, qP, va_K.moved (u := U) (U := U.calling g mk a) (Vm.Alike.refl U.vm) qK, qD⟩, va_recv hK hPc (ci := 12) (q0 := 0) rfl rfl, fun U hU hW => ⟨rfl, by rw [hU], by rw [hU]; exact hPc, va_K.moved hW.alike hK, hDc.weaken (fun _ _ _ _ => trivial)⟩⟩ rfl rfl hl.1 rfl (lv_room (Nat.le_of_ble_eq_true rfl)) dX12_choices_11 ⟨Nat.le_of_ble_eq_true rfl, Nat.le_of_ble_eq_true rfl⟩) hS (fun q _ h => hFc q h) hFc (fun r_1 u t H1 locs ht hvm hw hB hz1 hk1 hS => ?_)
  obtain ⟨hP1, hD1⟩ := hB
  rw [ht] at hP1
  obtain ⟨hP, hD⟩ := va_join (wr := []) (w1 := [(oM, .inr (12, [.ref mT, .int 0, .ref mS, .ref mX, .int 0, .int 0, .ref mL, .ref mB, .ref mD, .ref m1, .ref m2, .int 0, .ref mR, .int 0, .ref x1, .ref x2, .ref x3, .int 0, .ref mH, .int 0, .int 0, .int 0, .int 0, .int (-1), .int (-1), .int 0, .ref mY, .int 0, .ref mE, .int 0, .int 0, .ref mW, .int 0, .ref mO, .int 0, .ref y1, .ref y2, .ref y3, .ref y4, .ref mZ])), (mS, .inl (cI, 21, .inl (fun _ => 0)))]) hP hD [0, 1] [] rfl rfl (by decide) (by decide) hk1 hFc hP1 hD1
  generalize H1 = H at hP hS ⊢
  have hP : va_P (dC, dI) vwCl [(oM, .inr (12, [.ref mT, .int 0, .ref mS, .ref mX, .int 0, .int 0, .ref mL, .ref mB, .ref mD, .ref m1, .ref m2, .int 0, .ref mR, .int 0, .ref x1, .ref x2, .ref x3, .int 0, .ref mH, .int 0, .int 0, .int 0, .int 0, .int (-1), .int (-1), .int 0, .ref mY, .int 0, .ref mE, .int 0, .int 0, .ref mW, .int 0, .ref mO, .int 0, .ref y1, .ref y2, .ref y3, .ref y4, .ref mZ])), (mS, .inl (cI, 21, .inl (fun _ => 0)))] H := hP
  have hD : va_D A [(oM, .inr (12, [.ref mT, .int 0, .ref mS, .ref mX, .int 0, .int 0, .ref mL, .ref mB, .ref mD, .ref m1, .ref m2, .int 0, .ref mR, .int 0, .ref x1, .ref x2, .ref x3, .int 0, .ref mH, .int 0, .int 0, .int 0, .int 0, .int (-1), .int (-1), .int 0, .ref mY, .int 0, .ref mE, .int 0, .int 0, .ref mW, .int 0, .ref mO, .int 0, .ref y1, .ref y2, .ref y3, .ref y4, .ref mZ])), (mS, .inl (cI, 21, .inl (fun _ => 0)))] := hD
  subst hw
  refine lv_istore_n (lv' := [(3, .int 0), (0, .ref oM), (1, .int a), (2, .int b)]) hx hb dX12_choices_14 rfl hl (by decide) rfl (fun ls hl => ?_)
  refine lv_iload_n hx hb dX12_choices_15 rfl (lv_at hl 0 rfl) ?_
  refine lv_iconst (v := 1) hx hb dX12_choices_16 (by decide) ?_
  refine lv_icmp_lt (tgt := 50) hx hb dX12_choices_17 (by decide) (fun c_2 => ?_) (fun c_2 => absurd (by decide) c_2)
  refine lv_iconst (v := (-1)) hx hb dX12_choices_50 (by decide) ?_
  exact W.iret (v := (-1)) hx hb hr (fun t ht hW => ⟨⟨(-1), (), rfl, rfl, trivial⟩, hS.F ht⟩) (hS.2.2) dX12_choices_51

set_option maxHeartbeats 4000000 in
set_option maxRecDepth 100000 in
theorem y_choice (l : Launch) (dC : Nat → ClassId) (dI : Nat → Nat → Nat) (cI cS : ClassId) (sz : Nat) (oM : Nat) (mT : Nat) (mS : Nat) (mX : Nat) (mL : Nat) (mB : Nat) (mD : Nat) (m1 : Nat) (m2 : Nat) (mR : Nat) (x1 : Nat) (x2 : Nat) (x3 : Nat) (mH : Nat) (mY : Nat) (mE : Nat) (mW : Nat) (mO : Nat) (y1 : Nat) (y2 : Nat) (y3 : Nat) (y4 : Nat) (mZ : Nat) (i : Int32) (wh : Int32)  : Met l yX12_choice wsX12_choice ({ frames := 1, cells := 0, slots := 0, locals := 21 } : Room) (va_Pc [.ref oM, .int i, .int wh] (fun U => U.heap.size = sz ∧ va_P (dC, dI) vwCl [(oM, .inr (12, [.ref mT, .int 0, .ref mS, .ref mX, .int 0, .int 0, .ref mL, .ref mB, .ref mD, .ref m1, .ref m2, .int 0, .ref mR, .int 0, .ref x1, .ref x2, .ref x3, .int 0, .ref mH, .int 0, .int 0, .int 0, .int 0, .int (-1), .int (-1), .int 0, .ref mY, .int 0, .ref mE, .int 0, .int 0, .ref mW, .int 0, .ref mO, .int 0, .ref y1, .ref y2, .ref y3, .ref y4, .ref mZ]))] U.heap ∧ va_K (dC, dI) vwCl [(cI, .int), (cS, .short)] U ∧ va_D (fun _ => True) [(oM, .inr (12, [.ref mT, .int 0, .ref mS, .ref mX, .int 0, .int 0, .ref mL, .ref mB, .ref mD, .ref m1, .ref m2, .int 0, .ref mR, .int 0, .ref x1, .ref x2, .ref x3, .int 0, .ref mH, .int 0, .int 0, .int 0, .int 0, .int (-1), .int (-1), .int 0, .ref mY, .int 0, .ref mE, .int 0, .int 0, .ref mW, .int 0, .ref mO, .int 0, .ref y1, .ref y2, .ref y3, .ref y4, .ref mZ]))])) (va_Qi (fun (r : Int32) (_ : Unit) => r = (-1)) (fun _ _ => True) (va_A [(oM, .inr (12, [.ref mT, .int 0, .ref mS, .ref mX, .int 0, .int 0, .ref mL, .ref mB, .ref mD, .ref m1, .ref m2, .int 0, .ref mR, .int 0, .ref x1, .ref x2, .ref x3, .int 0, .ref mH, .int 0, .int 0, .int 0, .int 0, .int (-1), .int (-1), .int 0, .ref mY, .int 0, .ref mE, .int 0, .int 0, .ref mW, .int 0, .ref mO, .int 0, .ref y1, .ref y2, .ref y3, .ref y4, .ref mZ]))] sz)) 0 0 (va_A [(oM, .inr (12, [.ref mT, .int 0, .ref mS, .ref mX, .int 0, .int 0, .ref mL, .ref mB, .ref mD, .ref m1, .ref m2, .int 0, .ref mR, .int 0, .ref x1, .ref x2, .ref x3, .int 0, .ref mH, .int 0, .int 0, .int 0, .int 0, .int (-1), .int (-1), .int 0, .ref mY, .int 0, .ref mE, .int 0, .int 0, .ref mW, .int 0, .ref mO, .int 0, .ref y1, .ref y2, .ref y3, .ref y4, .ref mZ]))] sz) := by
  refine Met.ofW (cc := cX12_choice) (maxL := 3) (ret := (some .int)) (by decide) rfl ?_
  intro p e s m args below meth c s₁ B hml hv
  obtain ⟨rfl, hsz, hP, hK, hD0⟩ := hv
  have hx := B.exec
  have hb := B.bytes
  have hr := B.returns
  have hts := atoms_spec (ws := wsX12_choice) B.pre
  have hown : s.vm.findClass RX12 = some m.cls := findClass_of_methodNamed B.named
  have hlocks := B.notSynchronized
  have in_X12 : ∀ w ∈ wsX120, w ∈ wsX12_choice := fun _ h => List.mem_cons_of_mem _ (List.mem_append_right _ (h))
  subst hsz
  have hD := hD0.self (sz := s.heap.size)
  generalize hAe : va_A [(oM, .inr (12, [.ref mT, .int 0, .ref mS, .ref mX, .int 0, .int 0, .ref mL, .ref mB, .ref mD, .ref m1, .ref m2, .int 0, .ref mR, .int 0, .ref x1, .ref x2, .ref x3, .int 0, .ref mH, .int 0, .int 0, .int 0, .int 0, .int (-1), .int (-1), .int 0, .ref mY, .int 0, .ref mE, .int 0, .int 0, .ref mW, .int 0, .ref mO, .int 0, .ref y1, .ref y2, .ref y3, .ref y4, .ref mZ]))] s.heap.size = A at hD ⊢
  have hA : ∀ q : Nat, s.heap.size ≤ q → A q := fun q h => by rw [← hAe]; exact Or.inr h
  have hS : va_S A s.heap s.heap [] := va_S.rf
  have hP : va_P (dC, dI) vwCl [(oM, .inr (12, [.ref mT, .int 0, .ref mS, .ref mX, .int 0, .int 0, .ref mL, .ref mB, .ref mD, .ref m1, .ref m2, .int 0, .ref mR, .int 0, .ref x1, .ref x2, .ref x3, .int 0, .ref mH, .int 0, .int 0, .int 0, .int 0, .int (-1), .int (-1), .int 0, .ref mY, .int 0, .ref mE, .int 0, .int 0, .ref mW, .int 0, .ref mO, .int 0, .ref y1, .ref y2, .ref y3, .ref y4, .ref mZ]))] s.heap := hP
  have hl := lv_entry ([.ref oM, .int i, .int wh]) (n := 3) (Nat.le_of_ble_eq_true rfl)
  rw [lg_entry_eq]
  generalize (lg_sl ([.ref oM, .int i, .int wh]) ++ List.replicate (3 - (lg_sl ([.ref oM, .int i, .int wh])).length) Slot.unset).toArray = ls at hl ⊢
  have hl : lv_has ls 3 [(0, .ref oM), (1, .int i), (2, .int wh)] := hl
  refine lv_aload_n hx hb dX12_choice_0 rfl (lv_at hl 0 rfl) ?_
  refine lv_iconst (v := 0) hx hb dX12_choice_1 (by decide) ?_
  refine va_put (D := (dC, dI)) (ci := 12) (v := .int 0) (ty := .int) (C := RX12) (T := TX12) (N := 40) hx hb hts in_X12 tyX12 tyX12_ok nmX12 hown hK hP hD hS 0 rfl rfl 25 (by decide) (hts (.fieldLink RX12 85 "TextMenderModel" "thrown" "I") (List.mem_of_getElem? (i := 1) rfl)) (fun _ h9 => h9) rfl (by decide +kernel) rfl rfl (Nat.le_of_ble_eq_true rfl) dX12_choice_2 (fun H locs hP hD hS => ?_)
  have hP : va_P (dC, dI) vwCl [(oM, .inr (12, [.ref mT, .int 0, .ref mS, .ref mX, .int 0, .int 0, .ref mL, .ref mB, .ref mD, .ref m1, .ref m2, .int 0, .ref mR, .int 0, .ref x1, .ref x2, .ref x3, .int 0, .ref mH, .int 0, .int 0, .int 0, .int 0, .int (-1), .int (-1), .int 0, .ref mY, .int 0, .ref mE, .int 0, .int 0, .ref mW, .int 0, .ref mO, .int 0, .ref y1, .ref y2, .ref y3, .ref y4, .ref mZ]))] H := hP
  have hD : va_D A [(oM, .inr (12, [.ref mT, .int 0, .ref mS, .ref mX, .int 0, .int 0, .ref mL, .ref mB, .ref mD, .ref m1, .ref m2, .int 0, .ref mR, .int 0, .ref x1, .ref x2, .ref x3, .int 0, .ref mH, .int 0, .int 0, .int 0, .int 0, .int (-1), .int (-1), .int 0, .ref mY, .int 0, .ref mE, .int 0, .int 0, .ref mW, .int 0, .ref mO, .int 0, .ref y1, .ref y2, .ref y3, .ref y4, .ref mZ]))] := hD
  refine lv_aload_n hx hb dX12_choice_5 rfl (lv_at hl 0 rfl) ?_
  refine lv_iload_n hx hb dX12_choice_6 rfl (lv_at hl 1 rfl) ?_
  have hPc := hP.sub (ws' := [(oM, .inr (12, [.ref mT, .int 0, .ref mS, .ref mX, .int 0, .int 0, .ref mL, .ref mB, .ref mD, .ref m1, .ref m2, .int 0, .ref mR, .int 0, .ref x1, .ref x2, .ref x3, .int 0, .ref mH, .int 0, .int 0, .int 0, .int 0, .int (-1), .int (-1), .int 0, .ref mY, .int 0, .ref mE, .int 0, .int 0, .ref mW, .int 0, .ref mO, .int 0, .ref y1, .ref y2, .ref y3, .ref y4, .ref mZ]))]) [0] rfl
  have hDc := hD.sub (ws' := [(oM, .inr (12, [.ref mT, .int 0, .ref mS, .ref mX, .int 0, .int 0, .ref mL, .ref mB, .ref mD, .ref m1, .ref m2, .int 0, .ref mR, .int 0, .ref x1, .ref x2, .ref x3, .int 0, .ref mH, .int 0, .int 0, .int 0, .int 0, .int (-1), .int (-1), .int 0, .ref mY, .int 0, .ref mE, .int 0, .int 0, .ref mW, .int 0, .ref mO, .int 0, .ref y1, .ref y2, .ref y3, .ref y4, .ref mZ]))]) [0] (by decide) rfl
  have hFc := va_free (wc := [(oM, .inr (12, [.ref mT, .int 0, .ref mS, .ref mX, .int 0, .int 0, .ref mL, .ref mB, .ref mD, .ref m1, .ref m2, .int 0, .ref mR, .int 0, .ref x1, .ref x2, .ref x3, .int 0, .ref mH, .int 0, .int 0, .int 0, .int 0, .int (-1), .int (-1), .int 0, .ref mY, .int 0, .ref mE, .int 0, .int 0, .ref mW, .int 0, .ref mO, .int 0, .ref y1, .ref y2, .ref y3, .ref y4, .ref mZ]))]) hD hS hA [0] rfl
  refine va_calli (va_runV (As := [.int i]) (rest := []) ⟨hx, hb, hml, hown, hts⟩ (m_X12_isToldChoice l dC dI cI cS H.size oM mT mS mX mL mB mD m1 m2 mR x1 x2 x3 mH mY mE mW mO y1 y2 y3 y4 mZ i ) (cwV 1 hts gX12_choice_X12_isToldChoice rfl rfl rfl (by decide +kernel) ⟨Nat.le_of_ble_eq_true rfl, Nat.le_of_ble_eq_true rfl⟩) ⟨fun a U g mk q => by obtain ⟨q0, q1, qP, qK, qD⟩ := q; exact ⟨q0, q1, qP, va_K.moved (u := U) (U := U.calling g mk a) (Vm.Alike.refl U.vm) qK, qD⟩, va_recv hK hPc (ci := 12) (q0 := 0) rfl rfl, fun U hU hW => ⟨rfl, by rw [hU], by rw [hU]; exact hPc, va_K.moved hW.alike hK, hDc.weaken (fun _ _ _ _ => trivial)⟩⟩ rfl rfl hl.1 rfl (lv_room (Nat.le_of_ble_eq_true rfl)) dX12_choice_7 ⟨Nat.le_of_ble_eq_true rfl, Nat.le_of_ble_eq_true rfl⟩) hS (fun q _ h => hFc q h) hFc (fun r_1 u t H1 locs ht hvm hw hB hz1 hk1 hS => ?_)
  obtain ⟨hP1, hD1⟩ := hB
  rw [ht] at hP1
  obtain ⟨hP, hD⟩ := va_join (wr := []) (w1 := [(oM, .inr (12, [.ref mT, .int 0, .ref mS, .ref mX, .int 0, .int 0, .ref mL, .ref mB, .ref mD, .ref m1, .ref m2, .int 0, .ref mR, .int 0, .ref x1, .ref x2, .ref x3, .int 0, .ref mH, .int 0, .int 0, .int 0, .int 0, .int (-1), .int (-1), .int 0, .ref mY, .int 0, .ref mE, .int 0, .int 0, .ref mW, .int 0, .ref mO, .int 0, .ref y1, .ref y2, .ref y3, .ref y4, .ref mZ]))]) hP hD [0] [] rfl rfl (by decide) (by decide) hk1 hFc hP1 hD1
  generalize H1 = H at hP hS ⊢
  have hP : va_P (dC, dI) vwCl [(oM, .inr (12, [.ref mT, .int 0, .ref mS, .ref mX, .int 0, .int 0, .ref mL, .ref mB, .ref mD, .ref m1, .ref m2, .int 0, .ref mR, .int 0, .ref x1, .ref x2, .ref x3, .int 0, .ref mH, .int 0, .int 0, .int 0, .int 0, .int (-1), .int (-1), .int 0, .ref mY, .int 0, .ref mE, .int 0, .int 0, .ref mW, .int 0, .ref mO, .int 0, .ref y1, .ref y2, .ref y3, .ref y4, .ref mZ]))] H := hP
  have hD : va_D A [(oM, .inr (12, [.ref mT, .int 0, .ref mS, .ref mX, .int 0, .int 0, .ref mL, .ref mB, .ref mD, .ref m1, .ref m2, .int 0, .ref mR, .int 0, .ref x1, .ref x2, .ref x3, .int 0, .ref mH, .int 0, .int 0, .int 0, .int 0, .int (-1), .int (-1), .int 0, .ref mY, .int 0, .ref mE, .int 0, .int 0, .ref mW, .int 0, .ref mO, .int 0, .ref y1, .ref y2, .ref y3, .ref y4, .ref mZ]))] := hD
  subst hw
  refine lv_if_eq (tgt := 35) hx hb dX12_choice_10 (by decide) (fun c_2 => ?_) (fun c_2 => absurd (by decide) c_2)
  refine lv_iconst (v := (-1)) hx hb dX12_choice_35 (by decide) ?_
  exact W.iret (v := (-1)) hx hb hr (fun t ht hW => ⟨⟨(-1), (), rfl, rfl, trivial⟩, hS.F ht⟩) (hS.2.2) dX12_choice_36

set_option maxHeartbeats 4000000 in
set_option maxRecDepth 100000 in
theorem y_chosen (l : Launch) (dC : Nat → ClassId) (dI : Nat → Nat → Nat) (cI cS : ClassId) (sz : Nat) (oM : Nat) (mT : Nat) (mS : Nat) (mX : Nat) (mL : Nat) (mB : Nat) (mD : Nat) (m1 : Nat) (m2 : Nat) (mR : Nat) (x1 : Nat) (x2 : Nat) (x3 : Nat) (mH : Nat) (mY : Nat) (mE : Nat) (mW : Nat) (mO : Nat) (y1 : Nat) (y2 : Nat) (y3 : Nat) (y4 : Nat) (mZ : Nat) (i : Int32)  : Met l yX12_chosen wsX12_chosen ({ frames := 1, cells := 0, slots := 0, locals := 21 } : Room) (va_Pc [.ref oM, .int i] (fun U => U.heap.size = sz ∧ va_P (dC, dI) vwCl [(oM, .inr (12, [.ref mT, .int 0, .ref mS, .ref mX, .int 0, .int 0, .ref mL, .ref mB, .ref mD, .ref m1, .ref m2, .int 0, .ref mR, .int 0, .ref x1, .ref x2, .ref x3, .int 0, .ref mH, .int 0, .int 0, .int 0, .int 0, .int (-1), .int (-1), .int 0, .ref mY, .int 0, .ref mE, .int 0, .int 0, .ref mW, .int 0, .ref mO, .int 0, .ref y1, .ref y2, .ref y3, .ref y4, .ref mZ]))] U.heap ∧ va_K (dC, dI) vwCl [(cI, .int), (cS, .short)] U ∧ va_D (fun _ => True) [(oM, .inr (12, [.ref mT, .int 0, .ref mS, .ref mX, .int 0, .int 0, .ref mL, .ref mB, .ref mD, .ref m1, .ref m2, .int 0, .ref mR, .int 0, .ref x1, .ref x2, .ref x3, .int 0, .ref mH, .int 0, .int 0, .int 0, .int 0, .int (-1), .int (-1), .int 0, .ref mY, .int 0, .ref mE, .int 0, .int 0, .ref mW, .int 0, .ref mO, .int 0, .ref y1, .ref y2, .ref y3, .ref y4, .ref mZ]))])) (va_Qi (fun (r : Int32) (_ : Unit) => r = 0) (fun _ _ => True) (va_A [(oM, .inr (12, [.ref mT, .int 0, .ref mS, .ref mX, .int 0, .int 0, .ref mL, .ref mB, .ref mD, .ref m1, .ref m2, .int 0, .ref mR, .int 0, .ref x1, .ref x2, .ref x3, .int 0, .ref mH, .int 0, .int 0, .int 0, .int 0, .int (-1), .int (-1), .int 0, .ref mY, .int 0, .ref mE, .int 0, .int 0, .ref mW, .int 0, .ref mO, .int 0, .ref y1, .ref y2, .ref y3, .ref y4, .ref mZ]))] sz)) 0 0 (va_A [(oM, .inr (12, [.ref mT, .int 0, .ref mS, .ref mX, .int 0, .int 0, .ref mL, .ref mB, .ref mD, .ref m1, .ref m2, .int 0, .ref mR, .int 0, .ref x1, .ref x2, .ref x3, .int 0, .ref mH, .int 0, .int 0, .int 0, .int 0, .int (-1), .int (-1), .int 0, .ref mY, .int 0, .ref mE, .int 0, .int 0, .ref mW, .int 0, .ref mO, .int 0, .ref y1, .ref y2, .ref y3, .ref y4, .ref mZ]))] sz) := by
  refine Met.ofW (cc := cX12_chosen) (maxL := 2) (ret := (some .boolean)) (by decide) rfl ?_
  intro p e s m args below meth c s₁ B hml hv
  obtain ⟨rfl, hsz, hP, hK, hD0⟩ := hv
  have hx := B.exec
  have hb := B.bytes
  have hr := B.returns
  have hts := atoms_spec (ws := wsX12_chosen) B.pre
  have hown : s.vm.findClass RX12 = some m.cls := findClass_of_methodNamed B.named
  have hlocks := B.notSynchronized
  have in_X12 : ∀ w ∈ wsX120, w ∈ wsX12_chosen := fun _ h => List.mem_cons_of_mem _ (List.mem_append_right _ (h))
  subst hsz
  have hD := hD0.self (sz := s.heap.size)
  generalize hAe : va_A [(oM, .inr (12, [.ref mT, .int 0, .ref mS, .ref mX, .int 0, .int 0, .ref mL, .ref mB, .ref mD, .ref m1, .ref m2, .int 0, .ref mR, .int 0, .ref x1, .ref x2, .ref x3, .int 0, .ref mH, .int 0, .int 0, .int 0, .int 0, .int (-1), .int (-1), .int 0, .ref mY, .int 0, .ref mE, .int 0, .int 0, .ref mW, .int 0, .ref mO, .int 0, .ref y1, .ref y2, .ref y3, .ref y4, .ref mZ]))] s.heap.size = A at hD ⊢
  have hA : ∀ q : Nat, s.heap.size ≤ q → A q := fun q h => by rw [← hAe]; exact Or.inr h
  have hS : va_S A s.heap s.heap [] := va_S.rf
  have hP : va_P (dC, dI) vwCl [(oM, .inr (12, [.ref mT, .int 0, .ref mS, .ref mX, .int 0, .int 0, .ref mL, .ref mB, .ref mD, .ref m1, .ref m2, .int 0, .ref mR, .int 0, .ref x1, .ref x2, .ref x3, .int 0, .ref mH, .int 0, .int 0, .int 0, .int 0, .int (-1), .int (-1), .int 0, .ref mY, .int 0, .ref mE, .int 0, .int 0, .ref mW, .int 0, .ref mO, .int 0, .ref y1, .ref y2, .ref y3, .ref y4, .ref mZ]))] s.heap := hP
  have hl := lv_entry ([.ref oM, .int i]) (n := 2) (Nat.le_of_ble_eq_true rfl)
  rw [lg_entry_eq]
  generalize (lg_sl ([.ref oM, .int i]) ++ List.replicate (2 - (lg_sl ([.ref oM, .int i])).length) Slot.unset).toArray = ls at hl ⊢
  have hl : lv_has ls 2 [(0, .ref oM), (1, .int i)] := hl
  refine lv_aload_n hx hb dX12_chosen_0 rfl (lv_at hl 0 rfl) ?_
  refine lv_iconst (v := 0) hx hb dX12_chosen_1 (by decide) ?_
  refine va_put (D := (dC, dI)) (ci := 12) (v := .int 0) (ty := .int) (C := RX12) (T := TX12) (N := 40) hx hb hts in_X12 tyX12 tyX12_ok nmX12 hown hK hP hD hS 0 rfl rfl 25 (by decide) (hts (.fieldLink RX12 85 "TextMenderModel" "thrown" "I") (List.mem_of_getElem? (i := 1) rfl)) (fun _ h9 => h9) rfl (by decide +kernel) rfl rfl (Nat.le_of_ble_eq_true rfl) dX12_chosen_2 (fun H locs hP hD hS => ?_)
  have hP : va_P (dC, dI) vwCl [(oM, .inr (12, [.ref mT, .int 0, .ref mS, .ref mX, .int 0, .int 0, .ref mL, .ref mB, .ref mD, .ref m1, .ref m2, .int 0, .ref mR, .int 0, .ref x1, .ref x2, .ref x3, .int 0, .ref mH, .int 0, .int 0, .int 0, .int 0, .int (-1), .int (-1), .int 0, .ref mY, .int 0, .ref mE, .int 0, .int 0, .ref mW, .int 0, .ref mO, .int 0, .ref y1, .ref y2, .ref y3, .ref y4, .ref mZ]))] H := hP
  have hD : va_D A [(oM, .inr (12, [.ref mT, .int 0, .ref mS, .ref mX, .int 0, .int 0, .ref mL, .ref mB, .ref mD, .ref m1, .ref m2, .int 0, .ref mR, .int 0, .ref x1, .ref x2, .ref x3, .int 0, .ref mH, .int 0, .int 0, .int 0, .int 0, .int (-1), .int (-1), .int 0, .ref mY, .int 0, .ref mE, .int 0, .int 0, .ref mW, .int 0, .ref mO, .int 0, .ref y1, .ref y2, .ref y3, .ref y4, .ref mZ]))] := hD
  refine lv_aload_n hx hb dX12_chosen_5 rfl (lv_at hl 0 rfl) ?_
  refine lv_iload_n hx hb dX12_chosen_6 rfl (lv_at hl 1 rfl) ?_
  have hPc := hP.sub (ws' := [(oM, .inr (12, [.ref mT, .int 0, .ref mS, .ref mX, .int 0, .int 0, .ref mL, .ref mB, .ref mD, .ref m1, .ref m2, .int 0, .ref mR, .int 0, .ref x1, .ref x2, .ref x3, .int 0, .ref mH, .int 0, .int 0, .int 0, .int 0, .int (-1), .int (-1), .int 0, .ref mY, .int 0, .ref mE, .int 0, .int 0, .ref mW, .int 0, .ref mO, .int 0, .ref y1, .ref y2, .ref y3, .ref y4, .ref mZ]))]) [0] rfl
  have hDc := hD.sub (ws' := [(oM, .inr (12, [.ref mT, .int 0, .ref mS, .ref mX, .int 0, .int 0, .ref mL, .ref mB, .ref mD, .ref m1, .ref m2, .int 0, .ref mR, .int 0, .ref x1, .ref x2, .ref x3, .int 0, .ref mH, .int 0, .int 0, .int 0, .int 0, .int (-1), .int (-1), .int 0, .ref mY, .int 0, .ref mE, .int 0, .int 0, .ref mW, .int 0, .ref mO, .int 0, .ref y1, .ref y2, .ref y3, .ref y4, .ref mZ]))]) [0] (by decide) rfl
  have hFc := va_free (wc := [(oM, .inr (12, [.ref mT, .int 0, .ref mS, .ref mX, .int 0, .int 0, .ref mL, .ref mB, .ref mD, .ref m1, .ref m2, .int 0, .ref mR, .int 0, .ref x1, .ref x2, .ref x3, .int 0, .ref mH, .int 0, .int 0, .int 0, .int 0, .int (-1), .int (-1), .int 0, .ref mY, .int 0, .ref mE, .int 0, .int 0, .ref mW, .int 0, .ref mO, .int 0, .ref y1, .ref y2, .ref y3, .ref y4, .ref mZ]))]) hD hS hA [0] rfl
  refine va_calli (va_runV (As := [.int i]) (rest := []) ⟨hx, hb, hml, hown, hts⟩ (m_X12_isToldChoice l dC dI cI cS H.size oM mT mS mX mL mB mD m1 m2 mR x1 x2 x3 mH mY mE mW mO y1 y2 y3 y4 mZ i ) (cwV 1 hts gX12_chosen_X12_isToldChoice rfl rfl rfl (by decide +kernel) ⟨Nat.le_of_ble_eq_true rfl, Nat.le_of_ble_eq_true rfl⟩) ⟨fun a U g mk q => by obtain ⟨q0, q1, qP, qK, qD⟩ := q; exact ⟨q0, q1, qP, va_K.moved (u := U) (U := U.calling g mk a) (Vm.Alike.refl U.vm) qK, qD⟩, va_recv hK hPc (ci := 12) (q0 := 0) rfl rfl, fun U hU hW => ⟨rfl, by rw [hU], by rw [hU]; exact hPc, va_K.moved hW.alike hK, hDc.weaken (fun _ _ _ _ => trivial)⟩⟩ rfl rfl hl.1 rfl (lv_room (Nat.le_of_ble_eq_true rfl)) dX12_chosen_7 ⟨Nat.le_of_ble_eq_true rfl, Nat.le_of_ble_eq_true rfl⟩) hS (fun q _ h => hFc q h) hFc (fun r_1 u t H1 locs ht hvm hw hB hz1 hk1 hS => ?_)
  obtain ⟨hP1, hD1⟩ := hB
  rw [ht] at hP1
  obtain ⟨hP, hD⟩ := va_join (wr := []) (w1 := [(oM, .inr (12, [.ref mT, .int 0, .ref mS, .ref mX, .int 0, .int 0, .ref mL, .ref mB, .ref mD, .ref m1, .ref m2, .int 0, .ref mR, .int 0, .ref x1, .ref x2, .ref x3, .int 0, .ref mH, .int 0, .int 0, .int 0, .int 0, .int (-1), .int (-1), .int 0, .ref mY, .int 0, .ref mE, .int 0, .int 0, .ref mW, .int 0, .ref mO, .int 0, .ref y1, .ref y2, .ref y3, .ref y4, .ref mZ]))]) hP hD [0] [] rfl rfl (by decide) (by decide) hk1 hFc hP1 hD1
  generalize H1 = H at hP hS ⊢
  have hP : va_P (dC, dI) vwCl [(oM, .inr (12, [.ref mT, .int 0, .ref mS, .ref mX, .int 0, .int 0, .ref mL, .ref mB, .ref mD, .ref m1, .ref m2, .int 0, .ref mR, .int 0, .ref x1, .ref x2, .ref x3, .int 0, .ref mH, .int 0, .int 0, .int 0, .int 0, .int (-1), .int (-1), .int 0, .ref mY, .int 0, .ref mE, .int 0, .int 0, .ref mW, .int 0, .ref mO, .int 0, .ref y1, .ref y2, .ref y3, .ref y4, .ref mZ]))] H := hP
  have hD : va_D A [(oM, .inr (12, [.ref mT, .int 0, .ref mS, .ref mX, .int 0, .int 0, .ref mL, .ref mB, .ref mD, .ref m1, .ref m2, .int 0, .ref mR, .int 0, .ref x1, .ref x2, .ref x3, .int 0, .ref mH, .int 0, .int 0, .int 0, .int 0, .int (-1), .int (-1), .int 0, .ref mY, .int 0, .ref mE, .int 0, .int 0, .ref mW, .int 0, .ref mO, .int 0, .ref y1, .ref y2, .ref y3, .ref y4, .ref mZ]))] := hD
  subst hw
  refine lv_if_eq (tgt := 24) hx hb dX12_chosen_10 (by decide) (fun c_2 => ?_) (fun c_2 => absurd (by decide) c_2)
  refine lv_iconst (v := 0) hx hb dX12_chosen_24 (by decide) ?_
  exact W.zret (v := 0) (ty := .boolean) hx hb hr (rfl) (fun t ht hW => ⟨⟨0, (), rfl, rfl, trivial⟩, hS.F ht⟩) (hS.2.2) dX12_chosen_25

set_option maxHeartbeats 4000000 in
set_option maxRecDepth 100000 in
theorem y_blank_4 (l : Launch) (dC : Nat → ClassId) (dI : Nat → Nat → Nat) (cI cS : ClassId) (sz : Nat) (oM : Nat) (mT : Nat) (mS : Nat) (mX : Nat) (mL : Nat) (mB : Nat) (mD : Nat) (m1 : Nat) (m2 : Nat) (mR : Nat) (x1 : Nat) (x2 : Nat) (x3 : Nat) (mH : Nat) (mY : Nat) (mE : Nat) (mW : Nat) (mO : Nat) (y1 : Nat) (y2 : Nat) (y3 : Nat) (y4 : Nat) (mZ : Nat)  : Met l yX12_blank wsX12_blank ({ frames := 0, cells := 0, slots := 0, locals := 0 } : Room) (va_Pc [.ref oM, .int 4] (fun U => U.heap.size = sz ∧ va_P (dC, dI) vwCl [(oM, .inr (12, [.ref mT, .int 0, .ref mS, .ref mX, .int 0, .int 0, .ref mL, .ref mB, .ref mD, .ref m1, .ref m2, .int 0, .ref mR, .int 0, .ref x1, .ref x2, .ref x3, .int 0, .ref mH, .int 0, .int 0, .int 0, .int 0, .int (-1), .int (-1), .int 0, .ref mY, .int 0, .ref mE, .int 0, .int 0, .ref mW, .int 0, .ref mO, .int 0, .ref y1, .ref y2, .ref y3, .ref y4, .ref mZ])), (mL, .inl (cI, 512, .inl (fun _ => (-1)))), (mB, .inl (cS, 131072, .inl (fun _ => (-1)))), (mD, .inl (cI, 2, .inl (fun _ => 0)))] U.heap ∧ va_K (dC, dI) vwCl [(cI, .int), (cS, .short)] U ∧ va_D (fun _ => True) [(oM, .inr (12, [.ref mT, .int 0, .ref mS, .ref mX, .int 0, .int 0, .ref mL, .ref mB, .ref mD, .ref m1, .ref m2, .int 0, .ref mR, .int 0, .ref x1, .ref x2, .ref x3, .int 0, .ref mH, .int 0, .int 0, .int 0, .int 0, .int (-1), .int (-1), .int 0, .ref mY, .int 0, .ref mE, .int 0, .int 0, .ref mW, .int 0, .ref mO, .int 0, .ref y1, .ref y2, .ref y3, .ref y4, .ref mZ])), (mL, .inl (cI, 512, .inl (fun _ => (-1)))), (mB, .inl (cS, 131072, .inl (fun _ => (-1)))), (mD, .inl (cI, 2, .inl (fun _ => 0)))])) (va_Qi (fun (r : Int32) (_ : Unit) => r = f_blank 4) (fun _ _ => True) (va_A [(oM, .inr (12, [.ref mT, .int 0, .ref mS, .ref mX, .int 0, .int 0, .ref mL, .ref mB, .ref mD, .ref m1, .ref m2, .int 0, .ref mR, .int 0, .ref x1, .ref x2, .ref x3, .int 0, .ref mH, .int 0, .int 0, .int 0, .int 0, .int (-1), .int (-1), .int 0, .ref mY, .int 0, .ref mE, .int 0, .int 0, .ref mW, .int 0, .ref mO, .int 0, .ref y1, .ref y2, .ref y3, .ref y4, .ref mZ])), (mL, .inl (cI, 512, .inl (fun _ => (-1)))), (mB, .inl (cS, 131072, .inl (fun _ => (-1)))), (mD, .inl (cI, 2, .inl (fun _ => 0)))] sz)) 0 0 (va_A [(oM, .inr (12, [.ref mT, .int 0, .ref mS, .ref mX, .int 0, .int 0, .ref mL, .ref mB, .ref mD, .ref m1, .ref m2, .int 0, .ref mR, .int 0, .ref x1, .ref x2, .ref x3, .int 0, .ref mH, .int 0, .int 0, .int 0, .int 0, .int (-1), .int (-1), .int 0, .ref mY, .int 0, .ref mE, .int 0, .int 0, .ref mW, .int 0, .ref mO, .int 0, .ref y1, .ref y2, .ref y3, .ref y4, .ref mZ])), (mL, .inl (cI, 512, .inl (fun _ => (-1)))), (mB, .inl (cS, 131072, .inl (fun _ => (-1)))), (mD, .inl (cI, 2, .inl (fun _ => 0)))] sz) := by
  refine Met.ofW (cc := cX12_blank) (maxL := 4) (ret := (some .boolean)) (by decide) rfl ?_
  intro p e s m args below meth c s₁ B hml hv
  obtain ⟨rfl, hsz, hP, hK, hD0⟩ := hv
  have hx := B.exec
  have hb := B.bytes
  have hr := B.returns
  have hts := atoms_spec (ws := wsX12_blank) B.pre
  have hown : s.vm.findClass RX12 = some m.cls := findClass_of_methodNamed B.named
  have hlocks := B.notSynchronized
  have in_X12 : ∀ w ∈ wsX120, w ∈ wsX12_blank := fun _ h => List.mem_cons_of_mem _ (List.mem_append_right _ (h))
  subst hsz
  have hD := hD0.self (sz := s.heap.size)
  generalize hAe : va_A [(oM, .inr (12, [.ref mT, .int 0, .ref mS, .ref mX, .int 0, .int 0, .ref mL, .ref mB, .ref mD, .ref m1, .ref m2, .int 0, .ref mR, .int 0, .ref x1, .ref x2, .ref x3, .int 0, .ref mH, .int 0, .int 0, .int 0, .int 0, .int (-1), .int (-1), .int 0, .ref mY, .int 0, .ref mE, .int 0, .int 0, .ref mW, .int 0, .ref mO, .int 0, .ref y1, .ref y2, .ref y3, .ref y4, .ref mZ])), (mL, .inl (cI, 512, .inl (fun _ => (-1)))), (mB, .inl (cS, 131072, .inl (fun _ => (-1)))), (mD, .inl (cI, 2, .inl (fun _ => 0)))] s.heap.size = A at hD ⊢
  have hA : ∀ q : Nat, s.heap.size ≤ q → A q := fun q h => by rw [← hAe]; exact Or.inr h
  have hS : va_S A s.heap s.heap [] := va_S.rf
  have hP : va_P (dC, dI) vwCl [(oM, .inr (12, [.ref mT, .int 0, .ref mS, .ref mX, .int 0, .int 0, .ref mL, .ref mB, .ref mD, .ref m1, .ref m2, .int 0, .ref mR, .int 0, .ref x1, .ref x2, .ref x3, .int 0, .ref mH, .int 0, .int 0, .int 0, .int 0, .int (-1), .int (-1), .int 0, .ref mY, .int 0, .ref mE, .int 0, .int 0, .ref mW, .int 0, .ref mO, .int 0, .ref y1, .ref y2, .ref y3, .ref y4, .ref mZ])), (mL, .inl (cI, 512, .inl (fun _ => (-1)))), (mB, .inl (cS, 131072, .inl (fun _ => (-1)))), (mD, .inl (cI, 2, .inl (fun _ => 0)))] s.heap := hP
  have hl := lv_entry ([.ref oM, .int 4]) (n := 4) (Nat.le_of_ble_eq_true rfl)
  rw [lg_entry_eq]
  generalize (lg_sl ([.ref oM, .int 4]) ++ List.replicate (4 - (lg_sl ([.ref oM, .int 4])).length) Slot.unset).toArray = ls at hl ⊢
  have hl : lv_has ls 4 [(0, .ref oM), (1, .int 4)] := hl
  refine lv_aload_n hx hb dX12_blank_0 rfl (lv_at hl 0 rfl) ?_
  refine lv_iconst (v := 0) hx hb dX12_blank_1 (by decide) ?_
  refine va_put (D := (dC, dI)) (ci := 12) (v := .int 0) (ty := .int) (C := RX12) (T := TX12) (N := 40) hx hb hts in_X12 tyX12 tyX12_ok nmX12 hown hK hP hD hS 0 rfl rfl 25 (by decide) (hts (.fieldLink RX12 85 "TextMenderModel" "thrown" "I") (List.mem_of_getElem? (i := 1) rfl)) (fun _ h9 => h9) rfl (by decide +kernel) rfl rfl (Nat.le_of_ble_eq_true rfl) dX12_blank_2 (fun H locs hP hD hS => ?_)
  have hP : va_P (dC, dI) vwCl [(oM, .inr (12, [.ref mT, .int 0, .ref mS, .ref mX, .int 0, .int 0, .ref mL, .ref mB, .ref mD, .ref m1, .ref m2, .int 0, .ref mR, .int 0, .ref x1, .ref x2, .ref x3, .int 0, .ref mH, .int 0, .int 0, .int 0, .int 0, .int (-1), .int (-1), .int 0, .ref mY, .int 0, .ref mE, .int 0, .int 0, .ref mW, .int 0, .ref mO, .int 0, .ref y1, .ref y2, .ref y3, .ref y4, .ref mZ])), (mL, .inl (cI, 512, .inl (fun _ => (-1)))), (mB, .inl (cS, 131072, .inl (fun _ => (-1)))), (mD, .inl (cI, 2, .inl (fun _ => 0)))] H := hP
  have hD : va_D A [(oM, .inr (12, [.ref mT, .int 0, .ref mS, .ref mX, .int 0, .int 0, .ref mL, .ref mB, .ref mD, .ref m1, .ref m2, .int 0, .ref mR, .int 0, .ref x1, .ref x2, .ref x3, .int 0, .ref mH, .int 0, .int 0, .int 0, .int 0, .int (-1), .int (-1), .int 0, .ref mY, .int 0, .ref mE, .int 0, .int 0, .ref mW, .int 0, .ref mO, .int 0, .ref y1, .ref y2, .ref y3, .ref y4, .ref mZ])), (mL, .inl (cI, 512, .inl (fun _ => (-1)))), (mB, .inl (cS, 131072, .inl (fun _ => (-1)))), (mD, .inl (cI, 2, .inl (fun _ => 0)))] := hD
  refine lv_iload_n hx hb dX12_blank_5 rfl (lv_at hl 1 rfl) ?_
  refine lv_iconst (v := 4) hx hb dX12_blank_6 (by decide) ?_
  refine lv_icmp_lt (tgt := 15) hx hb dX12_blank_7 (by decide) (fun c_1 => absurd c_1 (by decide)) (fun c_1 => ?_)
  refine lv_iload_n hx hb dX12_blank_10 rfl (lv_at hl 1 rfl) ?_
  refine lv_iconst (v := 5) hx hb dX12_blank_11 (by decide) ?_
  refine lv_icmp_le (tgt := 17) hx hb dX12_blank_12 (by decide) (fun c_2 => ?_) (fun c_2 => absurd (by decide) c_2)
  refine lv_iload_n hx hb dX12_blank_17 rfl (lv_at hl 1 rfl) ?_
  refine lv_iconst (v := 4) hx hb dX12_blank_18 (by decide) ?_
  refine lv_isub hx hb dX12_blank_19 ?_
  refine k_i (y := 0) (by decide) ?_
  refine lv_istore_n (lv' := [(2, .int 0), (0, .ref oM), (1, .int 4)]) hx hb dX12_blank_20 rfl hl (by decide) rfl (fun ls hl => ?_)
  refine lv_iconst (v := 0) hx hb dX12_blank_21 (by decide) ?_
  refine lv_istore_n (lv' := [(3, .int 0), (2, .int 0), (0, .ref oM), (1, .int 4)]) hx hb dX12_blank_22 rfl hl (by decide) rfl (fun ls hl => ?_)
  have LOOP_23 : ∀ (k_23 i_23 : Nat) (xc_23 : Int32) (fL : Nat → Int32) (H : Heap) (locs : List Loc) (ls : Array Slot), i_23 + k_23 = 256 → xc_23 = nI i_23 →  va_P (dC, dI) vwCl [(oM, .inr (12, [.ref mT, .int 0, .ref mS, .ref mX, .int 0, .int 0, .ref mL, .ref mB, .ref mD, .ref m1, .ref m2, .int 0, .ref mR, .int 0, .ref x1, .ref x2, .ref x3, .int 0, .ref mH, .int 0, .int 0, .int 0, .int 0, .int (-1), .int (-1), .int 0, .ref mY, .int 0, .ref mE, .int 0, .int 0, .ref mW, .int 0, .ref mO, .int 0, .ref y1, .ref y2, .ref y3, .ref y4, .ref mZ])), (mL, .inl (cI, 512, .inl fL)), (mB, .inl (cS, 131072, .inl (fun _ => (-1)))), (mD, .inl (cI, 2, .inl (fun _ => 0)))] H → va_D A [(oM, .inr (12, [.ref mT, .int 0, .ref mS, .ref mX, .int 0, .int 0, .ref mL, .ref mB, .ref mD, .ref m1, .ref m2, .int 0, .ref mR, .int 0, .ref x1, .ref x2, .ref x3, .int 0, .ref mH, .int 0, .int 0, .int 0, .int 0, .int (-1), .int (-1), .int 0, .ref mY, .int 0, .ref mE, .int 0, .int 0, .ref mW, .int 0, .ref mO, .int 0, .ref y1, .ref y2, .ref y3, .ref y4, .ref mZ])), (mL, .inl (cI, 512, .inl fL)), (mB, .inl (cS, 131072, .inl (fun _ => (-1)))), (mD, .inl (cI, 2, .inl (fun _ => 0)))] → va_S A s.heap H locs → lv_has ls 4 [(3, .int xc_23), (2, .int 0), (0, .ref oM), (1, .int 4)] → W p l e (headSpec wsX12_blank ({ frames := 0, cells := 0, slots := 0, locals := 0 } : Room)).room s m ([.ref oM, .int 4] : List Value).toArray below meth c H locs 0 0 (MQ below (va_Qi (fun (r : Int32) (_ : Unit) => r = f_blank 4) (fun _ _ => True) A) ([.ref oM, .int 4] : List Value).toArray s 0 0 A) (F0 m 23 ls []) := by
    intro k_23
    induction k_23 with
    | zero =>
      intro i_23 xc_23 fL H locs ls hi_23 hxc_23  hP hD hS hl
      have hi2_23 : i_23 = 256 := by omega
      refine lv_iload_n hx hb dX12_blank_23 rfl (lv_at hl 0 rfl) ?_
      refine lv_sipush (v := 256) hx hb dX12_blank_24 (by decide) ?_
      refine lv_icmp_ge (tgt := 49) hx hb dX12_blank_27 (by decide) (fun c_3 => ?_) (fun c_3 => absurd (by rw [hxc_23]; exact nI_le (a := 256) (b := i_23) (by omega) (by rw [hi2_23]; exact (by decide))) c_3)
      refine lv_iconst (v := 0) hx hb dX12_blank_49 (by decide) ?_
      refine lv_istore_n (lv' := [(3, .int 0), (2, .int 0), (0, .ref oM), (1, .int 4)]) hx hb dX12_blank_50 rfl hl (by decide) rfl (fun ls hl => ?_)
      have LOOP_51 : ∀ (k_51 i_51 : Nat) (xc_51 : Int32) (fB : Nat → Int32) (H : Heap) (locs : List Loc) (ls : Array Slot), i_51 + k_51 = 65536 → xc_51 = nI i_51 →  va_P (dC, dI) vwCl [(oM, .inr (12, [.ref mT, .int 0, .ref mS, .ref mX, .int 0, .int 0, .ref mL, .ref mB, .ref mD, .ref m1, .ref m2, .int 0, .ref mR, .int 0, .ref x1, .ref x2, .ref x3, .int 0, .ref mH, .int 0, .int 0, .int 0, .int 0, .int (-1), .int (-1), .int 0, .ref mY, .int 0, .ref mE, .int 0, .int 0, .ref mW, .int 0, .ref mO, .int 0, .ref y1, .ref y2, .ref y3, .ref y4, .ref mZ])), (mL, .inl (cI, 512, .inl fL)), (mB, .inl (cS, 131072, .inl fB)), (mD, .inl (cI, 2, .inl (fun _ => 0)))] H → va_D A [(oM, .inr (12, [.ref mT, .int 0, .ref mS, .ref mX, .int 0, .int 0, .ref mL, .ref mB, .ref mD, .ref m1, .ref m2, .int 0, .ref mR, .int 0, .ref x1, .ref x2, .ref x3, .int 0, .ref mH, .int 0, .int 0, .int 0, .int 0, .int (-1), .int (-1), .int 0, .ref mY, .int 0, .ref mE, .int 0, .int 0, .ref mW, .int 0, .ref mO, .int 0, .ref y1, .ref y2, .ref y3, .ref y4, .ref mZ])), (mL, .inl (cI, 512, .inl fL)), (mB, .inl (cS, 131072, .inl fB)), (mD, .inl (cI, 2, .inl (fun _ => 0)))] → va_S A s.heap H locs → lv_has ls 4 [(3, .int xc_51), (2, .int 0), (0, .ref oM), (1, .int 4)] → W p l e (headSpec wsX12_blank ({ frames := 0, cells := 0, slots := 0, locals := 0 } : Room)).room s m ([.ref oM, .int 4] : List Value).toArray below meth c H locs 0 0 (MQ below (va_Qi (fun (r : Int32) (_ : Unit) => r = f_blank 4) (fun _ _ => True) A) ([.ref oM, .int 4] : List Value).toArray s 0 0 A) (F0 m 51 ls []) := by
        intro k_51
        induction k_51 with
        | zero =>
          intro i_51 xc_51 fB H locs ls hi_51 hxc_51  hP hD hS hl
          have hi2_51 : i_51 = 65536 := by omega
          refine lv_iload_n hx hb dX12_blank_51 rfl (lv_at hl 0 rfl) ?_
          refine lv_ldc hx hb hown (hts (.constant RX12 88 (65536)) (List.mem_of_getElem? (i := 3) rfl)) dX12_blank_52 ?_
          refine lv_icmp_ge (tgt := 75) hx hb dX12_blank_54 (by decide) (fun c_4 => ?_) (fun c_4 => absurd (by rw [hxc_51]; exact nI_le (a := 65536) (b := i_51) (by omega) (by rw [hi2_51]; exact (by decide))) c_4)
          refine lv_aload_n hx hb dX12_blank_75 rfl (lv_at hl 2 rfl) ?_
          refine va_get (D := (dC, dI)) (ci := 12) (v := .ref mD) (C := RX12) (T := TX12) (N := 40) hx hb hts in_X12 hown hK hP 0 rfl rfl 8 (by decide) (hts (.fieldLink RX12 27 "TextMenderModel" "told" "[I") (List.mem_of_getElem? (i := 5) rfl)) (fun _ h9 => h9) rfl dX12_blank_76 ?_
          refine lv_iload_n hx hb dX12_blank_79 rfl (lv_at hl 1 rfl) ?_
          refine lv_iconst (v := 0) hx hb dX12_blank_80 (by decide) ?_
          refine va_iast hx hb hK hP hD hS 3 0 rfl rfl (by unfold vp_in; decide) dX12_blank_81 (fun H locs hP hD hS => ?_)
          have hP : va_P (dC, dI) vwCl [(oM, .inr (12, [.ref mT, .int 0, .ref mS, .ref mX, .int 0, .int 0, .ref mL, .ref mB, .ref mD, .ref m1, .ref m2, .int 0, .ref mR, .int 0, .ref x1, .ref x2, .ref x3, .int 0, .ref mH, .int 0, .int 0, .int 0, .int 0, .int (-1), .int (-1), .int 0, .ref mY, .int 0, .ref mE, .int 0, .int 0, .ref mW, .int 0, .ref mO, .int 0, .ref y1, .ref y2, .ref y3, .ref y4, .ref mZ])), (mL, .inl (cI, 512, .inl fL)), (mB, .inl (cS, 131072, .inl fB)), (mD, .inl (cI, 2, .inl (upd (fun _ => 0) (0 : Int32).toNatClampNeg 0)))] H := hP
          have hD : va_D A [(oM, .inr (12, [.ref mT, .int 0, .ref mS, .ref mX, .int 0, .int 0, .ref mL, .ref mB, .ref mD, .ref m1, .ref m2, .int 0, .ref mR, .int 0, .ref x1, .ref x2, .ref x3, .int 0, .ref mH, .int 0, .int 0, .int 0, .int 0, .int (-1), .int (-1), .int 0, .ref mY, .int 0, .ref mE, .int 0, .int 0, .ref mW, .int 0, .ref mO, .int 0, .ref y1, .ref y2, .ref y3, .ref y4, .ref mZ])), (mL, .inl (cI, 512, .inl fL)), (mB, .inl (cS, 131072, .inl fB)), (mD, .inl (cI, 2, .inl (upd (fun _ => 0) (0 : Int32).toNatClampNeg 0)))] := hD
          refine lv_aload_n hx hb dX12_blank_82 rfl (lv_at hl 2 rfl) ?_
          refine lv_dup hx hb dX12_blank_83 rfl ?_
          refine va_get (D := (dC, dI)) (ci := 12) (v := .int 0) (C := RX12) (T := TX12) (N := 40) hx hb hts in_X12 hown hK hP 0 rfl rfl 22 (by decide) (hts (.fieldLink RX12 148 "TextMenderModel" "state" "I") (List.mem_of_getElem? (i := 6) rfl)) (fun _ h9 => h9) rfl dX12_blank_84 ?_
          refine lv_iconst (v := 1) hx hb dX12_blank_87 (by decide) ?_
          refine lv_iadd hx hb dX12_blank_88 ?_
          refine k_i (y := 1) (by decide) ?_
          refine va_put (D := (dC, dI)) (ci := 12) (v := .int 1) (ty := .int) (C := RX12) (T := TX12) (N := 40) hx hb hts in_X12 tyX12 tyX12_ok nmX12 hown hK hP hD hS 0 rfl rfl 22 (by decide) (hts (.fieldLink RX12 148 "TextMenderModel" "state" "I") (List.mem_of_getElem? (i := 6) rfl)) (fun _ h9 => h9) rfl (by decide +kernel) rfl rfl (Nat.le_of_ble_eq_true rfl) dX12_blank_89 (fun H locs hP hD hS => ?_)
          have hP : va_P (dC, dI) vwCl [(oM, .inr (12, [.ref mT, .int 0, .ref mS, .ref mX, .int 0, .int 0, .ref mL, .ref mB, .ref mD, .ref m1, .ref m2, .int 0, .ref mR, .int 0, .ref x1, .ref x2, .ref x3, .int 0, .ref mH, .int 0, .int 0, .int 0, .int 1, .int (-1), .int (-1), .int 0, .ref mY, .int 0, .ref mE, .int 0, .int 0, .ref mW, .int 0, .ref mO, .int 0, .ref y1, .ref y2, .ref y3, .ref y4, .ref mZ])), (mL, .inl (cI, 512, .inl fL)), (mB, .inl (cS, 131072, .inl fB)), (mD, .inl (cI, 2, .inl (upd (fun _ => 0) (0 : Int32).toNatClampNeg 0)))] H := hP
          have hD : va_D A [(oM, .inr (12, [.ref mT, .int 0, .ref mS, .ref mX, .int 0, .int 0, .ref mL, .ref mB, .ref mD, .ref m1, .ref m2, .int 0, .ref mR, .int 0, .ref x1, .ref x2, .ref x3, .int 0, .ref mH, .int 0, .int 0, .int 0, .int 1, .int (-1), .int (-1), .int 0, .ref mY, .int 0, .ref mE, .int 0, .int 0, .ref mW, .int 0, .ref mO, .int 0, .ref y1, .ref y2, .ref y3, .ref y4, .ref mZ])), (mL, .inl (cI, 512, .inl fL)), (mB, .inl (cS, 131072, .inl fB)), (mD, .inl (cI, 2, .inl (upd (fun _ => 0) (0 : Int32).toNatClampNeg 0)))] := hD
          refine lv_iconst (v := 1) hx hb dX12_blank_92 (by decide) ?_
          exact W.zret (v := 1) (ty := .boolean) hx hb hr (rfl) (fun t ht hW => ⟨⟨1, (), rfl, by decide, trivial⟩, hS.F ht⟩) (hS.2.2) dX12_blank_93
        | succ k_51 ih_51 =>
          intro i_51 xc_51 fB H locs ls hi_51 hxc_51  hP hD hS hl
          refine lv_iload_n hx hb dX12_blank_51 rfl (lv_at hl 0 rfl) ?_
          refine lv_ldc hx hb hown (hts (.constant RX12 88 (65536)) (List.mem_of_getElem? (i := 3) rfl)) dX12_blank_52 ?_
          refine lv_icmp_ge (tgt := 75) hx hb dX12_blank_54 (by decide) (fun c_5 => absurd c_5 (by rw [hxc_51]; exact nI_ge (a := i_51) (b := 65536) (by omega) (by decide))) (fun c_5 => ?_)
          refine lv_aload_n hx hb dX12_blank_57 rfl (lv_at hl 2 rfl) ?_
          refine va_get (D := (dC, dI)) (ci := 12) (v := .ref mB) (C := RX12) (T := TX12) (N := 40) hx hb hts in_X12 hown hK hP 0 rfl rfl 7 (by decide) (hts (.fieldLink RX12 23 "TextMenderModel" "byteOfLetter" "[S") (List.mem_of_getElem? (i := 4) rfl)) (fun _ h9 => h9) rfl dX12_blank_58 ?_
          refine lv_ldc hx hb hown (hts (.constant RX12 88 (65536)) (List.mem_of_getElem? (i := 3) rfl)) dX12_blank_61 ?_
          refine lv_iload_n hx hb dX12_blank_63 rfl (lv_at hl 1 rfl) ?_
          refine lv_imul hx hb dX12_blank_64 ?_
          refine k_i (y := 0) (by decide) ?_
          refine lv_iload_n hx hb dX12_blank_65 rfl (lv_at hl 0 rfl) ?_
          refine lv_iadd hx hb dX12_blank_66 ?_
          refine lv_topi (fun x_6 ex_6 => ?_)
          refine lv_iconst (v := (-1)) hx hb dX12_blank_67 (by decide) ?_
          refine va_sast hx hb hK hP hD hS 2 1 rfl rfl (p_inadd 0 i_51 131072 ex_6 rfl hxc_51 (by omega) (by decide)) dX12_blank_68 (fun H locs hP hD hS => ?_)
          have hP : va_P (dC, dI) vwCl [(oM, .inr (12, [.ref mT, .int 0, .ref mS, .ref mX, .int 0, .int 0, .ref mL, .ref mB, .ref mD, .ref m1, .ref m2, .int 0, .ref mR, .int 0, .ref x1, .ref x2, .ref x3, .int 0, .ref mH, .int 0, .int 0, .int 0, .int 0, .int (-1), .int (-1), .int 0, .ref mY, .int 0, .ref mE, .int 0, .int 0, .ref mW, .int 0, .ref mO, .int 0, .ref y1, .ref y2, .ref y3, .ref y4, .ref mZ])), (mL, .inl (cI, 512, .inl fL)), (mB, .inl (cS, 131072, .inl (upd fB (x_6 : Int32).toNatClampNeg (vp_nar .short (-1))))), (mD, .inl (cI, 2, .inl (fun _ => 0)))] H := hP
          have hD : va_D A [(oM, .inr (12, [.ref mT, .int 0, .ref mS, .ref mX, .int 0, .int 0, .ref mL, .ref mB, .ref mD, .ref m1, .ref m2, .int 0, .ref mR, .int 0, .ref x1, .ref x2, .ref x3, .int 0, .ref mH, .int 0, .int 0, .int 0, .int 0, .int (-1), .int (-1), .int 0, .ref mY, .int 0, .ref mE, .int 0, .int 0, .ref mW, .int 0, .ref mO, .int 0, .ref y1, .ref y2, .ref y3, .ref y4, .ref mZ])), (mL, .inl (cI, 512, .inl fL)), (mB, .inl (cS, 131072, .inl (upd fB (x_6 : Int32).toNatClampNeg (vp_nar .short (-1))))), (mD, .inl (cI, 2, .inl (fun _ => 0)))] := hD
          obtain ⟨x_7, ex_7⟩ : ∃ y : Int32, y = xc_51 + 1 := ⟨_, rfl⟩
          refine lv_iinc (v := x_7) (lv' := [(3, .int x_7), (2, .int 0), (0, .ref oM), (1, .int 4)]) hx hb dX12_blank_69 hl (k := 0) rfl (by rw [ex_7]; rfl) (by decide) rfl (fun ls hl => ?_)
          refine lv_goto (tgt := 51) hx hb dX12_blank_72 (by decide) ?_
          exact ih_51 (i_51 + 1) x_7 (upd fB (x_6 : Int32).toNatClampNeg (vp_nar .short (-1))) _ _ _ (by omega) (by rw [ex_7, hxc_51]; exact nI_1 i_51)  hP hD hS (lv_sub hl [0, 1, 2, 3] rfl)
      exact LOOP_51 65536 0 0 (fun _ => (-1)) _ _ _ (by omega) nI_0.symm  hP hD hS (lv_sub hl [0, 1, 2, 3] rfl)
    | succ k_23 ih_23 =>
      intro i_23 xc_23 fL H locs ls hi_23 hxc_23  hP hD hS hl
      refine lv_iload_n hx hb dX12_blank_23 rfl (lv_at hl 0 rfl) ?_
      refine lv_sipush (v := 256) hx hb dX12_blank_24 (by decide) ?_
      refine lv_icmp_ge (tgt := 49) hx hb dX12_blank_27 (by decide) (fun c_8 => absurd c_8 (by rw [hxc_23]; exact nI_ge (a := i_23) (b := 256) (by omega) (by decide))) (fun c_8 => ?_)
      refine lv_aload_n hx hb dX12_blank_30 rfl (lv_at hl 2 rfl) ?_
      refine va_get (D := (dC, dI)) (ci := 12) (v := .ref mL) (C := RX12) (T := TX12) (N := 40) hx hb hts in_X12 hown hK hP 0 rfl rfl 6 (by decide) (hts (.fieldLink RX12 19 "TextMenderModel" "letterOf" "[I") (List.mem_of_getElem? (i := 2) rfl)) (fun _ h9 => h9) rfl dX12_blank_31 ?_
      refine lv_sipush (v := 256) hx hb dX12_blank_34 (by decide) ?_
      refine lv_iload_n hx hb dX12_blank_37 rfl (lv_at hl 1 rfl) ?_
      refine lv_imul hx hb dX12_blank_38 ?_
      refine k_i (y := 0) (by decide) ?_
      refine lv_iload_n hx hb dX12_blank_39 rfl (lv_at hl 0 rfl) ?_
      refine lv_iadd hx hb dX12_blank_40 ?_
      refine lv_topi (fun x_9 ex_9 => ?_)
      refine lv_iconst (v := (-1)) hx hb dX12_blank_41 (by decide) ?_
      refine va_iast hx hb hK hP hD hS 1 0 rfl rfl (p_inadd 0 i_23 512 ex_9 rfl hxc_23 (by omega) (by decide)) dX12_blank_42 (fun H locs hP hD hS => ?_)
      have hP : va_P (dC, dI) vwCl [(oM, .inr (12, [.ref mT, .int 0, .ref mS, .ref mX, .int 0, .int 0, .ref mL, .ref mB, .ref mD, .ref m1, .ref m2, .int 0, .ref mR, .int 0, .ref x1, .ref x2, .ref x3, .int 0, .ref mH, .int 0, .int 0, .int 0, .int 0, .int (-1), .int (-1), .int 0, .ref mY, .int 0, .ref mE, .int 0, .int 0, .ref mW, .int 0, .ref mO, .int 0, .ref y1, .ref y2, .ref y3, .ref y4, .ref mZ])), (mL, .inl (cI, 512, .inl (upd fL (x_9 : Int32).toNatClampNeg (-1)))), (mB, .inl (cS, 131072, .inl (fun _ => (-1)))), (mD, .inl (cI, 2, .inl (fun _ => 0)))] H := hP
      have hD : va_D A [(oM, .inr (12, [.ref mT, .int 0, .ref mS, .ref mX, .int 0, .int 0, .ref mL, .ref mB, .ref mD, .ref m1, .ref m2, .int 0, .ref mR, .int 0, .ref x1, .ref x2, .ref x3, .int 0, .ref mH, .int 0, .int 0, .int 0, .int 0, .int (-1), .int (-1), .int 0, .ref mY, .int 0, .ref mE, .int 0, .int 0, .ref mW, .int 0, .ref mO, .int 0, .ref y1, .ref y2, .ref y3, .ref y4, .ref mZ])), (mL, .inl (cI, 512, .inl (upd fL (x_9 : Int32).toNatClampNeg (-1)))), (mB, .inl (cS, 131072, .inl (fun _ => (-1)))), (mD, .inl (cI, 2, .inl (fun _ => 0)))] := hD
      obtain ⟨x_10, ex_10⟩ : ∃ y : Int32, y = xc_23 + 1 := ⟨_, rfl⟩
      refine lv_iinc (v := x_10) (lv' := [(3, .int x_10), (2, .int 0), (0, .ref oM), (1, .int 4)]) hx hb dX12_blank_43 hl (k := 0) rfl (by rw [ex_10]; rfl) (by decide) rfl (fun ls hl => ?_)
      refine lv_goto (tgt := 23) hx hb dX12_blank_46 (by decide) ?_
      exact ih_23 (i_23 + 1) x_10 (upd fL (x_9 : Int32).toNatClampNeg (-1)) _ _ _ (by omega) (by rw [ex_10, hxc_23]; exact nI_1 i_23)  hP hD hS (lv_sub hl [0, 1, 2, 3] rfl)
  exact LOOP_23 256 0 0 (fun _ => (-1)) _ _ _ (by omega) nI_0.symm  hP hD hS (lv_sub hl [0, 1, 2, 3] rfl)

set_option maxHeartbeats 4000000 in
set_option maxRecDepth 100000 in
theorem y_blank_5 (l : Launch) (dC : Nat → ClassId) (dI : Nat → Nat → Nat) (cI cS : ClassId) (sz : Nat) (oM : Nat) (mT : Nat) (mS : Nat) (mX : Nat) (mL : Nat) (mB : Nat) (mD : Nat) (m1 : Nat) (m2 : Nat) (mR : Nat) (x1 : Nat) (x2 : Nat) (x3 : Nat) (mH : Nat) (mY : Nat) (mE : Nat) (mW : Nat) (mO : Nat) (y1 : Nat) (y2 : Nat) (y3 : Nat) (y4 : Nat) (mZ : Nat)  : Met l yX12_blank wsX12_blank ({ frames := 0, cells := 0, slots := 0, locals := 0 } : Room) (va_Pc [.ref oM, .int 5] (fun U => U.heap.size = sz ∧ va_P (dC, dI) vwCl [(oM, .inr (12, [.ref mT, .int 0, .ref mS, .ref mX, .int 0, .int 0, .ref mL, .ref mB, .ref mD, .ref m1, .ref m2, .int 0, .ref mR, .int 0, .ref x1, .ref x2, .ref x3, .int 0, .ref mH, .int 0, .int 0, .int 0, .int 0, .int (-1), .int (-1), .int 0, .ref mY, .int 0, .ref mE, .int 0, .int 0, .ref mW, .int 0, .ref mO, .int 0, .ref y1, .ref y2, .ref y3, .ref y4, .ref mZ])), (mL, .inl (cI, 512, .inl (fun _ => (-1)))), (mB, .inl (cS, 131072, .inl (fun _ => (-1)))), (mD, .inl (cI, 2, .inl (fun _ => 0)))] U.heap ∧ va_K (dC, dI) vwCl [(cI, .int), (cS, .short)] U ∧ va_D (fun _ => True) [(oM, .inr (12, [.ref mT, .int 0, .ref mS, .ref mX, .int 0, .int 0, .ref mL, .ref mB, .ref mD, .ref m1, .ref m2, .int 0, .ref mR, .int 0, .ref x1, .ref x2, .ref x3, .int 0, .ref mH, .int 0, .int 0, .int 0, .int 0, .int (-1), .int (-1), .int 0, .ref mY, .int 0, .ref mE, .int 0, .int 0, .ref mW, .int 0, .ref mO, .int 0, .ref y1, .ref y2, .ref y3, .ref y4, .ref mZ])), (mL, .inl (cI, 512, .inl (fun _ => (-1)))), (mB, .inl (cS, 131072, .inl (fun _ => (-1)))), (mD, .inl (cI, 2, .inl (fun _ => 0)))])) (va_Qi (fun (r : Int32) (_ : Unit) => r = f_blank 5) (fun _ _ => True) (va_A [(oM, .inr (12, [.ref mT, .int 0, .ref mS, .ref mX, .int 0, .int 0, .ref mL, .ref mB, .ref mD, .ref m1, .ref m2, .int 0, .ref mR, .int 0, .ref x1, .ref x2, .ref x3, .int 0, .ref mH, .int 0, .int 0, .int 0, .int 0, .int (-1), .int (-1), .int 0, .ref mY, .int 0, .ref mE, .int 0, .int 0, .ref mW, .int 0, .ref mO, .int 0, .ref y1, .ref y2, .ref y3, .ref y4, .ref mZ])), (mL, .inl (cI, 512, .inl (fun _ => (-1)))), (mB, .inl (cS, 131072, .inl (fun _ => (-1)))), (mD, .inl (cI, 2, .inl (fun _ => 0)))] sz)) 0 0 (va_A [(oM, .inr (12, [.ref mT, .int 0, .ref mS, .ref mX, .int 0, .int 0, .ref mL, .ref mB, .ref mD, .ref m1, .ref m2, .int 0, .ref mR, .int 0, .ref x1, .ref x2, .ref x3, .int 0, .ref mH, .int 0, .int 0, .int 0, .int 0, .int (-1), .int (-1), .int 0, .ref mY, .int 0, .ref mE, .int 0, .int 0, .ref mW, .int 0, .ref mO, .int 0, .ref y1, .ref y2, .ref y3, .ref y4, .ref mZ])), (mL, .inl (cI, 512, .inl (fun _ => (-1)))), (mB, .inl (cS, 131072, .inl (fun _ => (-1)))), (mD, .inl (cI, 2, .inl (fun _ => 0)))] sz) := by
  refine Met.ofW (cc := cX12_blank) (maxL := 4) (ret := (some .boolean)) (by decide) rfl ?_
  intro p e s m args below meth c s₁ B hml hv
  obtain ⟨rfl, hsz, hP, hK, hD0⟩ := hv
  have hx := B.exec
  have hb := B.bytes
  have hr := B.returns
  have hts := atoms_spec (ws := wsX12_blank) B.pre
  have hown : s.vm.findClass RX12 = some m.cls := findClass_of_methodNamed B.named
  have hlocks := B.notSynchronized
  have in_X12 : ∀ w ∈ wsX120, w ∈ wsX12_blank := fun _ h => List.mem_cons_of_mem _ (List.mem_append_right _ (h))
  subst hsz
  have hD := hD0.self (sz := s.heap.size)
  generalize hAe : va_A [(oM, .inr (12, [.ref mT, .int 0, .ref mS, .ref mX, .int 0, .int 0, .ref mL, .ref mB, .ref mD, .ref m1, .ref m2, .int 0, .ref mR, .int 0, .ref x1, .ref x2, .ref x3, .int 0, .ref mH, .int 0, .int 0, .int 0, .int 0, .int (-1), .int (-1), .int 0, .ref mY, .int 0, .ref mE, .int 0, .int 0, .ref mW, .int 0, .ref mO, .int 0, .ref y1, .ref y2, .ref y3, .ref y4, .ref mZ])), (mL, .inl (cI, 512, .inl (fun _ => (-1)))), (mB, .inl (cS, 131072, .inl (fun _ => (-1)))), (mD, .inl (cI, 2, .inl (fun _ => 0)))] s.heap.size = A at hD ⊢
  have hA : ∀ q : Nat, s.heap.size ≤ q → A q := fun q h => by rw [← hAe]; exact Or.inr h
  have hS : va_S A s.heap s.heap [] := va_S.rf
  have hP : va_P (dC, dI) vwCl [(oM, .inr (12, [.ref mT, .int 0, .ref mS, .ref mX, .int 0, .int 0, .ref mL, .ref mB, .ref mD, .ref m1, .ref m2, .int 0, .ref mR, .int 0, .ref x1, .ref x2, .ref x3, .int 0, .ref mH, .int 0, .int 0, .int 0, .int 0, .int (-1), .int (-1), .int 0, .ref mY, .int 0, .ref mE, .int 0, .int 0, .ref mW, .int 0, .ref mO, .int 0, .ref y1, .ref y2, .ref y3, .ref y4, .ref mZ])), (mL, .inl (cI, 512, .inl (fun _ => (-1)))), (mB, .inl (cS, 131072, .inl (fun _ => (-1)))), (mD, .inl (cI, 2, .inl (fun _ => 0)))] s.heap := hP
  have hl := lv_entry ([.ref oM, .int 5]) (n := 4) (Nat.le_of_ble_eq_true rfl)
  rw [lg_entry_eq]
  generalize (lg_sl ([.ref oM, .int 5]) ++ List.replicate (4 - (lg_sl ([.ref oM, .int 5])).length) Slot.unset).toArray = ls at hl ⊢
  have hl : lv_has ls 4 [(0, .ref oM), (1, .int 5)] := hl
  refine lv_aload_n hx hb dX12_blank_0 rfl (lv_at hl 0 rfl) ?_
  refine lv_iconst (v := 0) hx hb dX12_blank_1 (by decide) ?_
  refine va_put (D := (dC, dI)) (ci := 12) (v := .int 0) (ty := .int) (C := RX12) (T := TX12) (N := 40) hx hb hts in_X12 tyX12 tyX12_ok nmX12 hown hK hP hD hS 0 rfl rfl 25 (by decide) (hts (.fieldLink RX12 85 "TextMenderModel" "thrown" "I") (List.mem_of_getElem? (i := 1) rfl)) (fun _ h9 => h9) rfl (by decide +kernel) rfl rfl (Nat.le_of_ble_eq_true rfl) dX12_blank_2 (fun H locs hP hD hS => ?_)
  have hP : va_P (dC, dI) vwCl [(oM, .inr (12, [.ref mT, .int 0, .ref mS, .ref mX, .int 0, .int 0, .ref mL, .ref mB, .ref mD, .ref m1, .ref m2, .int 0, .ref mR, .int 0, .ref x1, .ref x2, .ref x3, .int 0, .ref mH, .int 0, .int 0, .int 0, .int 0, .int (-1), .int (-1), .int 0, .ref mY, .int 0, .ref mE, .int 0, .int 0, .ref mW, .int 0, .ref mO, .int 0, .ref y1, .ref y2, .ref y3, .ref y4, .ref mZ])), (mL, .inl (cI, 512, .inl (fun _ => (-1)))), (mB, .inl (cS, 131072, .inl (fun _ => (-1)))), (mD, .inl (cI, 2, .inl (fun _ => 0)))] H := hP
  have hD : va_D A [(oM, .inr (12, [.ref mT, .int 0, .ref mS, .ref mX, .int 0, .int 0, .ref mL, .ref mB, .ref mD, .ref m1, .ref m2, .int 0, .ref mR, .int 0, .ref x1, .ref x2, .ref x3, .int 0, .ref mH, .int 0, .int 0, .int 0, .int 0, .int (-1), .int (-1), .int 0, .ref mY, .int 0, .ref mE, .int 0, .int 0, .ref mW, .int 0, .ref mO, .int 0, .ref y1, .ref y2, .ref y3, .ref y4, .ref mZ])), (mL, .inl (cI, 512, .inl (fun _ => (-1)))), (mB, .inl (cS, 131072, .inl (fun _ => (-1)))), (mD, .inl (cI, 2, .inl (fun _ => 0)))] := hD
  refine lv_iload_n hx hb dX12_blank_5 rfl (lv_at hl 1 rfl) ?_
  refine lv_iconst (v := 4) hx hb dX12_blank_6 (by decide) ?_
  refine lv_icmp_lt (tgt := 15) hx hb dX12_blank_7 (by decide) (fun c_1 => absurd c_1 (by decide)) (fun c_1 => ?_)
  refine lv_iload_n hx hb dX12_blank_10 rfl (lv_at hl 1 rfl) ?_
  refine lv_iconst (v := 5) hx hb dX12_blank_11 (by decide) ?_
  refine lv_icmp_le (tgt := 17) hx hb dX12_blank_12 (by decide) (fun c_2 => ?_) (fun c_2 => absurd (by decide) c_2)
  refine lv_iload_n hx hb dX12_blank_17 rfl (lv_at hl 1 rfl) ?_
  refine lv_iconst (v := 4) hx hb dX12_blank_18 (by decide) ?_
  refine lv_isub hx hb dX12_blank_19 ?_
  refine k_i (y := 1) (by decide) ?_
  refine lv_istore_n (lv' := [(2, .int 1), (0, .ref oM), (1, .int 5)]) hx hb dX12_blank_20 rfl hl (by decide) rfl (fun ls hl => ?_)
  refine lv_iconst (v := 0) hx hb dX12_blank_21 (by decide) ?_
  refine lv_istore_n (lv' := [(3, .int 0), (2, .int 1), (0, .ref oM), (1, .int 5)]) hx hb dX12_blank_22 rfl hl (by decide) rfl (fun ls hl => ?_)
  have LOOP_23 : ∀ (k_23 i_23 : Nat) (xc_23 : Int32) (fL : Nat → Int32) (H : Heap) (locs : List Loc) (ls : Array Slot), i_23 + k_23 = 256 → xc_23 = nI i_23 →  va_P (dC, dI) vwCl [(oM, .inr (12, [.ref mT, .int 0, .ref mS, .ref mX, .int 0, .int 0, .ref mL, .ref mB, .ref mD, .ref m1, .ref m2, .int 0, .ref mR, .int 0, .ref x1, .ref x2, .ref x3, .int 0, .ref mH, .int 0, .int 0, .int 0, .int 0, .int (-1), .int (-1), .int 0, .ref mY, .int 0, .ref mE, .int 0, .int 0, .ref mW, .int 0, .ref mO, .int 0, .ref y1, .ref y2, .ref y3, .ref y4, .ref mZ])), (mL, .inl (cI, 512, .inl fL)), (mB, .inl (cS, 131072, .inl (fun _ => (-1)))), (mD, .inl (cI, 2, .inl (fun _ => 0)))] H → va_D A [(oM, .inr (12, [.ref mT, .int 0, .ref mS, .ref mX, .int 0, .int 0, .ref mL, .ref mB, .ref mD, .ref m1, .ref m2, .int 0, .ref mR, .int 0, .ref x1, .ref x2, .ref x3, .int 0, .ref mH, .int 0, .int 0, .int 0, .int 0, .int (-1), .int (-1), .int 0, .ref mY, .int 0, .ref mE, .int 0, .int 0, .ref mW, .int 0, .ref mO, .int 0, .ref y1, .ref y2, .ref y3, .ref y4, .ref mZ])), (mL, .inl (cI, 512, .inl fL)), (mB, .inl (cS, 131072, .inl (fun _ => (-1)))), (mD, .inl (cI, 2, .inl (fun _ => 0)))] → va_S A s.heap H locs → lv_has ls 4 [(3, .int xc_23), (2, .int 1), (0, .ref oM), (1, .int 5)] → W p l e (headSpec wsX12_blank ({ frames := 0, cells := 0, slots := 0, locals := 0 } : Room)).room s m ([.ref oM, .int 5] : List Value).toArray below meth c H locs 0 0 (MQ below (va_Qi (fun (r : Int32) (_ : Unit) => r = f_blank 5) (fun _ _ => True) A) ([.ref oM, .int 5] : List Value).toArray s 0 0 A) (F0 m 23 ls []) := by
    intro k_23
    induction k_23 with
    | zero =>
      intro i_23 xc_23 fL H locs ls hi_23 hxc_23  hP hD hS hl
      have hi2_23 : i_23 = 256 := by omega
      refine lv_iload_n hx hb dX12_blank_23 rfl (lv_at hl 0 rfl) ?_
      refine lv_sipush (v := 256) hx hb dX12_blank_24 (by decide) ?_
      refine lv_icmp_ge (tgt := 49) hx hb dX12_blank_27 (by decide) (fun c_3 => ?_) (fun c_3 => absurd (by rw [hxc_23]; exact nI_le (a := 256) (b := i_23) (by omega) (by rw [hi2_23]; exact (by decide))) c_3)
      refine lv_iconst (v := 0) hx hb dX12_blank_49 (by decide) ?_
      refine lv_istore_n (lv' := [(3, .int 0), (2, .int 1), (0, .ref oM), (1, .int 5)]) hx hb dX12_blank_50 rfl hl (by decide) rfl (fun ls hl => ?_)
      have LOOP_51 : ∀ (k_51 i_51 : Nat) (xc_51 : Int32) (fB : Nat → Int32) (H : Heap) (locs : List Loc) (ls : Array Slot), i_51 + k_51 = 65536 → xc_51 = nI i_51 →  va_P (dC, dI) vwCl [(oM, .inr (12, [.ref mT, .int 0, .ref mS, .ref mX, .int 0, .int 0, .ref mL, .ref mB, .ref mD, .ref m1, .ref m2, .int 0, .ref mR, .int 0, .ref x1, .ref x2, .ref x3, .int 0, .ref mH, .int 0, .int 0, .int 0, .int 0, .int (-1), .int (-1), .int 0, .ref mY, .int 0, .ref mE, .int 0, .int 0, .ref mW, .int 0, .ref mO, .int 0, .ref y1, .ref y2, .ref y3, .ref y4, .ref mZ])), (mL, .inl (cI, 512, .inl fL)), (mB, .inl (cS, 131072, .inl fB)), (mD, .inl (cI, 2, .inl (fun _ => 0)))] H → va_D A [(oM, .inr (12, [.ref mT, .int 0, .ref mS, .ref mX, .int 0, .int 0, .ref mL, .ref mB, .ref mD, .ref m1, .ref m2, .int 0, .ref mR, .int 0, .ref x1, .ref x2, .ref x3, .int 0, .ref mH, .int 0, .int 0, .int 0, .int 0, .int (-1), .int (-1), .int 0, .ref mY, .int 0, .ref mE, .int 0, .int 0, .ref mW, .int 0, .ref mO, .int 0, .ref y1, .ref y2, .ref y3, .ref y4, .ref mZ])), (mL, .inl (cI, 512, .inl fL)), (mB, .inl (cS, 131072, .inl fB)), (mD, .inl (cI, 2, .inl (fun _ => 0)))] → va_S A s.heap H locs → lv_has ls 4 [(3, .int xc_51), (2, .int 1), (0, .ref oM), (1, .int 5)] → W p l e (headSpec wsX12_blank ({ frames := 0, cells := 0, slots := 0, locals := 0 } : Room)).room s m ([.ref oM, .int 5] : List Value).toArray below meth c H locs 0 0 (MQ below (va_Qi (fun (r : Int32) (_ : Unit) => r = f_blank 5) (fun _ _ => True) A) ([.ref oM, .int 5] : List Value).toArray s 0 0 A) (F0 m 51 ls []) := by
        intro k_51
        induction k_51 with
        | zero =>
          intro i_51 xc_51 fB H locs ls hi_51 hxc_51  hP hD hS hl
          have hi2_51 : i_51 = 65536 := by omega
          refine lv_iload_n hx hb dX12_blank_51 rfl (lv_at hl 0 rfl) ?_
          refine lv_ldc hx hb hown (hts (.constant RX12 88 (65536)) (List.mem_of_getElem? (i := 3) rfl)) dX12_blank_52 ?_
          refine lv_icmp_ge (tgt := 75) hx hb dX12_blank_54 (by decide) (fun c_4 => ?_) (fun c_4 => absurd (by rw [hxc_51]; exact nI_le (a := 65536) (b := i_51) (by omega) (by rw [hi2_51]; exact (by decide))) c_4)
          refine lv_aload_n hx hb dX12_blank_75 rfl (lv_at hl 2 rfl) ?_
          refine va_get (D := (dC, dI)) (ci := 12) (v := .ref mD) (C := RX12) (T := TX12) (N := 40) hx hb hts in_X12 hown hK hP 0 rfl rfl 8 (by decide) (hts (.fieldLink RX12 27 "TextMenderModel" "told" "[I") (List.mem_of_getElem? (i := 5) rfl)) (fun _ h9 => h9) rfl dX12_blank_76 ?_
          refine lv_iload_n hx hb dX12_blank_79 rfl (lv_at hl 1 rfl) ?_
          refine lv_iconst (v := 0) hx hb dX12_blank_80 (by decide) ?_
          refine va_iast hx hb hK hP hD hS 3 0 rfl rfl (by unfold vp_in; decide) dX12_blank_81 (fun H locs hP hD hS => ?_)
          have hP : va_P (dC, dI) vwCl [(oM, .inr (12, [.ref mT, .int 0, .ref mS, .ref mX, .int 0, .int 0, .ref mL, .ref mB, .ref mD, .ref m1, .ref m2, .int 0, .ref mR, .int 0, .ref x1, .ref x2, .ref x3, .int 0, .ref mH, .int 0, .int 0, .int 0, .int 0, .int (-1), .int (-1), .int 0, .ref mY, .int 0, .ref mE, .int 0, .int 0, .ref mW, .int 0, .ref mO, .int 0, .ref y1, .ref y2, .ref y3, .ref y4, .ref mZ])), (mL, .inl (cI, 512, .inl fL)), (mB, .inl (cS, 131072, .inl fB)), (mD, .inl (cI, 2, .inl (upd (fun _ => 0) (1 : Int32).toNatClampNeg 0)))] H := hP
          have hD : va_D A [(oM, .inr (12, [.ref mT, .int 0, .ref mS, .ref mX, .int 0, .int 0, .ref mL, .ref mB, .ref mD, .ref m1, .ref m2, .int 0, .ref mR, .int 0, .ref x1, .ref x2, .ref x3, .int 0, .ref mH, .int 0, .int 0, .int 0, .int 0, .int (-1), .int (-1), .int 0, .ref mY, .int 0, .ref mE, .int 0, .int 0, .ref mW, .int 0, .ref mO, .int 0, .ref y1, .ref y2, .ref y3, .ref y4, .ref mZ])), (mL, .inl (cI, 512, .inl fL)), (mB, .inl (cS, 131072, .inl fB)), (mD, .inl (cI, 2, .inl (upd (fun _ => 0) (1 : Int32).toNatClampNeg 0)))] := hD
          refine lv_aload_n hx hb dX12_blank_82 rfl (lv_at hl 2 rfl) ?_
          refine lv_dup hx hb dX12_blank_83 rfl ?_
          refine va_get (D := (dC, dI)) (ci := 12) (v := .int 0) (C := RX12) (T := TX12) (N := 40) hx hb hts in_X12 hown hK hP 0 rfl rfl 22 (by decide) (hts (.fieldLink RX12 148 "TextMenderModel" "state" "I") (List.mem_of_getElem? (i := 6) rfl)) (fun _ h9 => h9) rfl dX12_blank_84 ?_
          refine lv_iconst (v := 1) hx hb dX12_blank_87 (by decide) ?_
          refine lv_iadd hx hb dX12_blank_88 ?_
          refine k_i (y := 1) (by decide) ?_
          refine va_put (D := (dC, dI)) (ci := 12) (v := .int 1) (ty := .int) (C := RX12) (T := TX12) (N := 40) hx hb hts in_X12 tyX12 tyX12_ok nmX12 hown hK hP hD hS 0 rfl rfl 22 (by decide) (hts (.fieldLink RX12 148 "TextMenderModel" "state" "I") (List.mem_of_getElem? (i := 6) rfl)) (fun _ h9 => h9) rfl (by decide +kernel) rfl rfl (Nat.le_of_ble_eq_true rfl) dX12_blank_89 (fun H locs hP hD hS => ?_)
          have hP : va_P (dC, dI) vwCl [(oM, .inr (12, [.ref mT, .int 0, .ref mS, .ref mX, .int 0, .int 0, .ref mL, .ref mB, .ref mD, .ref m1, .ref m2, .int 0, .ref mR, .int 0, .ref x1, .ref x2, .ref x3, .int 0, .ref mH, .int 0, .int 0, .int 0, .int 1, .int (-1), .int (-1), .int 0, .ref mY, .int 0, .ref mE, .int 0, .int 0, .ref mW, .int 0, .ref mO, .int 0, .ref y1, .ref y2, .ref y3, .ref y4, .ref mZ])), (mL, .inl (cI, 512, .inl fL)), (mB, .inl (cS, 131072, .inl fB)), (mD, .inl (cI, 2, .inl (upd (fun _ => 0) (1 : Int32).toNatClampNeg 0)))] H := hP
          have hD : va_D A [(oM, .inr (12, [.ref mT, .int 0, .ref mS, .ref mX, .int 0, .int 0, .ref mL, .ref mB, .ref mD, .ref m1, .ref m2, .int 0, .ref mR, .int 0, .ref x1, .ref x2, .ref x3, .int 0, .ref mH, .int 0, .int 0, .int 0, .int 1, .int (-1), .int (-1), .int 0, .ref mY, .int 0, .ref mE, .int 0, .int 0, .ref mW, .int 0, .ref mO, .int 0, .ref y1, .ref y2, .ref y3, .ref y4, .ref mZ])), (mL, .inl (cI, 512, .inl fL)), (mB, .inl (cS, 131072, .inl fB)), (mD, .inl (cI, 2, .inl (upd (fun _ => 0) (1 : Int32).toNatClampNeg 0)))] := hD
          refine lv_iconst (v := 1) hx hb dX12_blank_92 (by decide) ?_
          exact W.zret (v := 1) (ty := .boolean) hx hb hr (rfl) (fun t ht hW => ⟨⟨1, (), rfl, by decide, trivial⟩, hS.F ht⟩) (hS.2.2) dX12_blank_93
        | succ k_51 ih_51 =>
          intro i_51 xc_51 fB H locs ls hi_51 hxc_51  hP hD hS hl
          refine lv_iload_n hx hb dX12_blank_51 rfl (lv_at hl 0 rfl) ?_
          refine lv_ldc hx hb hown (hts (.constant RX12 88 (65536)) (List.mem_of_getElem? (i := 3) rfl)) dX12_blank_52 ?_
          refine lv_icmp_ge (tgt := 75) hx hb dX12_blank_54 (by decide) (fun c_5 => absurd c_5 (by rw [hxc_51]; exact nI_ge (a := i_51) (b := 65536) (by omega) (by decide))) (fun c_5 => ?_)
          refine lv_aload_n hx hb dX12_blank_57 rfl (lv_at hl 2 rfl) ?_
          refine va_get (D := (dC, dI)) (ci := 12) (v := .ref mB) (C := RX12) (T := TX12) (N := 40) hx hb hts in_X12 hown hK hP 0 rfl rfl 7 (by decide) (hts (.fieldLink RX12 23 "TextMenderModel" "byteOfLetter" "[S") (List.mem_of_getElem? (i := 4) rfl)) (fun _ h9 => h9) rfl dX12_blank_58 ?_
          refine lv_ldc hx hb hown (hts (.constant RX12 88 (65536)) (List.mem_of_getElem? (i := 3) rfl)) dX12_blank_61 ?_
          refine lv_iload_n hx hb dX12_blank_63 rfl (lv_at hl 1 rfl) ?_
          refine lv_imul hx hb dX12_blank_64 ?_
          refine k_i (y := 65536) (by decide) ?_
          refine lv_iload_n hx hb dX12_blank_65 rfl (lv_at hl 0 rfl) ?_
          refine lv_iadd hx hb dX12_blank_66 ?_
          refine lv_topi (fun x_6 ex_6 => ?_)
          refine lv_iconst (v := (-1)) hx hb dX12_blank_67 (by decide) ?_
          refine va_sast hx hb hK hP hD hS 2 1 rfl rfl (p_inadd 65536 i_51 131072 ex_6 rfl hxc_51 (by omega) (by decide)) dX12_blank_68 (fun H locs hP hD hS => ?_)
          have hP : va_P (dC, dI) vwCl [(oM, .inr (12, [.ref mT, .int 0, .ref mS, .ref mX, .int 0, .int 0, .ref mL, .ref mB, .ref mD, .ref m1, .ref m2, .int 0, .ref mR, .int 0, .ref x1, .ref x2, .ref x3, .int 0, .ref mH, .int 0, .int 0, .int 0, .int 0, .int (-1), .int (-1), .int 0, .ref mY, .int 0, .ref mE, .int 0, .int 0, .ref mW, .int 0, .ref mO, .int 0, .ref y1, .ref y2, .ref y3, .ref y4, .ref mZ])), (mL, .inl (cI, 512, .inl fL)), (mB, .inl (cS, 131072, .inl (upd fB (x_6 : Int32).toNatClampNeg (vp_nar .short (-1))))), (mD, .inl (cI, 2, .inl (fun _ => 0)))] H := hP
          have hD : va_D A [(oM, .inr (12, [.ref mT, .int 0, .ref mS, .ref mX, .int 0, .int 0, .ref mL, .ref mB, .ref mD, .ref m1, .ref m2, .int 0, .ref mR, .int 0, .ref x1, .ref x2, .ref x3, .int 0, .ref mH, .int 0, .int 0, .int 0, .int 0, .int (-1), .int (-1), .int 0, .ref mY, .int 0, .ref mE, .int 0, .int 0, .ref mW, .int 0, .ref mO, .int 0, .ref y1, .ref y2, .ref y3, .ref y4, .ref mZ])), (mL, .inl (cI, 512, .inl fL)), (mB, .inl (cS, 131072, .inl (upd fB (x_6 : Int32).toNatClampNeg (vp_nar .short (-1))))), (mD, .inl (cI, 2, .inl (fun _ => 0)))] := hD
          obtain ⟨x_7, ex_7⟩ : ∃ y : Int32, y = xc_51 + 1 := ⟨_, rfl⟩
          refine lv_iinc (v := x_7) (lv' := [(3, .int x_7), (2, .int 1), (0, .ref oM), (1, .int 5)]) hx hb dX12_blank_69 hl (k := 0) rfl (by rw [ex_7]; rfl) (by decide) rfl (fun ls hl => ?_)
          refine lv_goto (tgt := 51) hx hb dX12_blank_72 (by decide) ?_
          exact ih_51 (i_51 + 1) x_7 (upd fB (x_6 : Int32).toNatClampNeg (vp_nar .short (-1))) _ _ _ (by omega) (by rw [ex_7, hxc_51]; exact nI_1 i_51)  hP hD hS (lv_sub hl [0, 1, 2, 3] rfl)
      exact LOOP_51 65536 0 0 (fun _ => (-1)) _ _ _ (by omega) nI_0.symm  hP hD hS (lv_sub hl [0, 1, 2, 3] rfl)
    | succ k_23 ih_23 =>
      intro i_23 xc_23 fL H locs ls hi_23 hxc_23  hP hD hS hl
      refine lv_iload_n hx hb dX12_blank_23 rfl (lv_at hl 0 rfl) ?_
      refine lv_sipush (v := 256) hx hb dX12_blank_24 (by decide) ?_
      refine lv_icmp_ge (tgt := 49) hx hb dX12_blank_27 (by decide) (fun c_8 => absurd c_8 (by rw [hxc_23]; exact nI_ge (a := i_23) (b := 256) (by omega) (by decide))) (fun c_8 => ?_)
      refine lv_aload_n hx hb dX12_blank_30 rfl (lv_at hl 2 rfl) ?_
      refine va_get (D := (dC, dI)) (ci := 12) (v := .ref mL) (C := RX12) (T := TX12) (N := 40) hx hb hts in_X12 hown hK hP 0 rfl rfl 6 (by decide) (hts (.fieldLink RX12 19 "TextMenderModel" "letterOf" "[I") (List.mem_of_getElem? (i := 2) rfl)) (fun _ h9 => h9) rfl dX12_blank_31 ?_
      refine lv_sipush (v := 256) hx hb dX12_blank_34 (by decide) ?_
      refine lv_iload_n hx hb dX12_blank_37 rfl (lv_at hl 1 rfl) ?_
      refine lv_imul hx hb dX12_blank_38 ?_
      refine k_i (y := 256) (by decide) ?_
      refine lv_iload_n hx hb dX12_blank_39 rfl (lv_at hl 0 rfl) ?_
      refine lv_iadd hx hb dX12_blank_40 ?_
      refine lv_topi (fun x_9 ex_9 => ?_)
      refine lv_iconst (v := (-1)) hx hb dX12_blank_41 (by decide) ?_
      refine va_iast hx hb hK hP hD hS 1 0 rfl rfl (p_inadd 256 i_23 512 ex_9 rfl hxc_23 (by omega) (by decide)) dX12_blank_42 (fun H locs hP hD hS => ?_)
      have hP : va_P (dC, dI) vwCl [(oM, .inr (12, [.ref mT, .int 0, .ref mS, .ref mX, .int 0, .int 0, .ref mL, .ref mB, .ref mD, .ref m1, .ref m2, .int 0, .ref mR, .int 0, .ref x1, .ref x2, .ref x3, .int 0, .ref mH, .int 0, .int 0, .int 0, .int 0, .int (-1), .int (-1), .int 0, .ref mY, .int 0, .ref mE, .int 0, .int 0, .ref mW, .int 0, .ref mO, .int 0, .ref y1, .ref y2, .ref y3, .ref y4, .ref mZ])), (mL, .inl (cI, 512, .inl (upd fL (x_9 : Int32).toNatClampNeg (-1)))), (mB, .inl (cS, 131072, .inl (fun _ => (-1)))), (mD, .inl (cI, 2, .inl (fun _ => 0)))] H := hP
      have hD : va_D A [(oM, .inr (12, [.ref mT, .int 0, .ref mS, .ref mX, .int 0, .int 0, .ref mL, .ref mB, .ref mD, .ref m1, .ref m2, .int 0, .ref mR, .int 0, .ref x1, .ref x2, .ref x3, .int 0, .ref mH, .int 0, .int 0, .int 0, .int 0, .int (-1), .int (-1), .int 0, .ref mY, .int 0, .ref mE, .int 0, .int 0, .ref mW, .int 0, .ref mO, .int 0, .ref y1, .ref y2, .ref y3, .ref y4, .ref mZ])), (mL, .inl (cI, 512, .inl (upd fL (x_9 : Int32).toNatClampNeg (-1)))), (mB, .inl (cS, 131072, .inl (fun _ => (-1)))), (mD, .inl (cI, 2, .inl (fun _ => 0)))] := hD
      obtain ⟨x_10, ex_10⟩ : ∃ y : Int32, y = xc_23 + 1 := ⟨_, rfl⟩
      refine lv_iinc (v := x_10) (lv' := [(3, .int x_10), (2, .int 1), (0, .ref oM), (1, .int 5)]) hx hb dX12_blank_43 hl (k := 0) rfl (by rw [ex_10]; rfl) (by decide) rfl (fun ls hl => ?_)
      refine lv_goto (tgt := 23) hx hb dX12_blank_46 (by decide) ?_
      exact ih_23 (i_23 + 1) x_10 (upd fL (x_9 : Int32).toNatClampNeg (-1)) _ _ _ (by omega) (by rw [ex_10, hxc_23]; exact nI_1 i_23)  hP hD hS (lv_sub hl [0, 1, 2, 3] rfl)
  exact LOOP_23 256 0 0 (fun _ => (-1)) _ _ _ (by omega) nI_0.symm  hP hD hS (lv_sub hl [0, 1, 2, 3] rfl)

set_option maxHeartbeats 4000000 in
set_option maxRecDepth 100000 in
theorem y_blank_n (l : Launch) (dC : Nat → ClassId) (dI : Nat → Nat → Nat) (cI cS : ClassId) (sz : Nat) (oM : Nat) (mT : Nat) (mS : Nat) (mX : Nat) (mL : Nat) (mB : Nat) (mD : Nat) (m1 : Nat) (m2 : Nat) (mR : Nat) (x1 : Nat) (x2 : Nat) (x3 : Nat) (mH : Nat) (mY : Nat) (mE : Nat) (mW : Nat) (mO : Nat) (y1 : Nat) (y2 : Nat) (y3 : Nat) (y4 : Nat) (mZ : Nat) (cd : Int32) (h4 : ¬ cd = 4) (h5 : ¬ cd = 5) : Met l yX12_blank wsX12_blank ({ frames := 0, cells := 0, slots := 0, locals := 0 } : Room) (va_Pc [.ref oM, .int cd] (fun U => U.heap.size = sz ∧ va_P (dC, dI) vwCl [(oM, .inr (12, [.ref mT, .int 0, .ref mS, .ref mX, .int 0, .int 0, .ref mL, .ref mB, .ref mD, .ref m1, .ref m2, .int 0, .ref mR, .int 0, .ref x1, .ref x2, .ref x3, .int 0, .ref mH, .int 0, .int 0, .int 0, .int 0, .int (-1), .int (-1), .int 0, .ref mY, .int 0, .ref mE, .int 0, .int 0, .ref mW, .int 0, .ref mO, .int 0, .ref y1, .ref y2, .ref y3, .ref y4, .ref mZ])), (mL, .inl (cI, 512, .inl (fun _ => (-1)))), (mB, .inl (cS, 131072, .inl (fun _ => (-1)))), (mD, .inl (cI, 2, .inl (fun _ => 0)))] U.heap ∧ va_K (dC, dI) vwCl [(cI, .int), (cS, .short)] U ∧ va_D (fun _ => True) [(oM, .inr (12, [.ref mT, .int 0, .ref mS, .ref mX, .int 0, .int 0, .ref mL, .ref mB, .ref mD, .ref m1, .ref m2, .int 0, .ref mR, .int 0, .ref x1, .ref x2, .ref x3, .int 0, .ref mH, .int 0, .int 0, .int 0, .int 0, .int (-1), .int (-1), .int 0, .ref mY, .int 0, .ref mE, .int 0, .int 0, .ref mW, .int 0, .ref mO, .int 0, .ref y1, .ref y2, .ref y3, .ref y4, .ref mZ])), (mL, .inl (cI, 512, .inl (fun _ => (-1)))), (mB, .inl (cS, 131072, .inl (fun _ => (-1)))), (mD, .inl (cI, 2, .inl (fun _ => 0)))])) (va_Qi (fun (r : Int32) (_ : Unit) => r = f_blank cd) (fun _ _ => True) (va_A [(oM, .inr (12, [.ref mT, .int 0, .ref mS, .ref mX, .int 0, .int 0, .ref mL, .ref mB, .ref mD, .ref m1, .ref m2, .int 0, .ref mR, .int 0, .ref x1, .ref x2, .ref x3, .int 0, .ref mH, .int 0, .int 0, .int 0, .int 0, .int (-1), .int (-1), .int 0, .ref mY, .int 0, .ref mE, .int 0, .int 0, .ref mW, .int 0, .ref mO, .int 0, .ref y1, .ref y2, .ref y3, .ref y4, .ref mZ])), (mL, .inl (cI, 512, .inl (fun _ => (-1)))), (mB, .inl (cS, 131072, .inl (fun _ => (-1)))), (mD, .inl (cI, 2, .inl (fun _ => 0)))] sz)) 0 0 (va_A [(oM, .inr (12, [.ref mT, .int 0, .ref mS, .ref mX, .int 0, .int 0, .ref mL, .ref mB, .ref mD, .ref m1, .ref m2, .int 0, .ref mR, .int 0, .ref x1, .ref x2, .ref x3, .int 0, .ref mH, .int 0, .int 0, .int 0, .int 0, .int (-1), .int (-1), .int 0, .ref mY, .int 0, .ref mE, .int 0, .int 0, .ref mW, .int 0, .ref mO, .int 0, .ref y1, .ref y2, .ref y3, .ref y4, .ref mZ])), (mL, .inl (cI, 512, .inl (fun _ => (-1)))), (mB, .inl (cS, 131072, .inl (fun _ => (-1)))), (mD, .inl (cI, 2, .inl (fun _ => 0)))] sz) := by
  refine Met.ofW (cc := cX12_blank) (maxL := 4) (ret := (some .boolean)) (by decide) rfl ?_
  intro p e s m args below meth c s₁ B hml hv
  obtain ⟨rfl, hsz, hP, hK, hD0⟩ := hv
  have hx := B.exec
  have hb := B.bytes
  have hr := B.returns
  have hts := atoms_spec (ws := wsX12_blank) B.pre
  have hown : s.vm.findClass RX12 = some m.cls := findClass_of_methodNamed B.named
  have hlocks := B.notSynchronized
  have in_X12 : ∀ w ∈ wsX120, w ∈ wsX12_blank := fun _ h => List.mem_cons_of_mem _ (List.mem_append_right _ (h))
  subst hsz
  have hD := hD0.self (sz := s.heap.size)
  generalize hAe : va_A [(oM, .inr (12, [.ref mT, .int 0, .ref mS, .ref mX, .int 0, .int 0, .ref mL, .ref mB, .ref mD, .ref m1, .ref m2, .int 0, .ref mR, .int 0, .ref x1, .ref x2, .ref x3, .int 0, .ref mH, .int 0, .int 0, .int 0, .int 0, .int (-1), .int (-1), .int 0, .ref mY, .int 0, .ref mE, .int 0, .int 0, .ref mW, .int 0, .ref mO, .int 0, .ref y1, .ref y2, .ref y3, .ref y4, .ref mZ])), (mL, .inl (cI, 512, .inl (fun _ => (-1)))), (mB, .inl (cS, 131072, .inl (fun _ => (-1)))), (mD, .inl (cI, 2, .inl (fun _ => 0)))] s.heap.size = A at hD ⊢
  have hA : ∀ q : Nat, s.heap.size ≤ q → A q := fun q h => by rw [← hAe]; exact Or.inr h
  have hS : va_S A s.heap s.heap [] := va_S.rf
  have hP : va_P (dC, dI) vwCl [(oM, .inr (12, [.ref mT, .int 0, .ref mS, .ref mX, .int 0, .int 0, .ref mL, .ref mB, .ref mD, .ref m1, .ref m2, .int 0, .ref mR, .int 0, .ref x1, .ref x2, .ref x3, .int 0, .ref mH, .int 0, .int 0, .int 0, .int 0, .int (-1), .int (-1), .int 0, .ref mY, .int 0, .ref mE, .int 0, .int 0, .ref mW, .int 0, .ref mO, .int 0, .ref y1, .ref y2, .ref y3, .ref y4, .ref mZ])), (mL, .inl (cI, 512, .inl (fun _ => (-1)))), (mB, .inl (cS, 131072, .inl (fun _ => (-1)))), (mD, .inl (cI, 2, .inl (fun _ => 0)))] s.heap := hP
  have hl := lv_entry ([.ref oM, .int cd]) (n := 4) (Nat.le_of_ble_eq_true rfl)
  rw [lg_entry_eq]
  generalize (lg_sl ([.ref oM, .int cd]) ++ List.replicate (4 - (lg_sl ([.ref oM, .int cd])).length) Slot.unset).toArray = ls at hl ⊢
  have hl : lv_has ls 4 [(0, .ref oM), (1, .int cd)] := hl
  refine lv_aload_n hx hb dX12_blank_0 rfl (lv_at hl 0 rfl) ?_
  refine lv_iconst (v := 0) hx hb dX12_blank_1 (by decide) ?_
  refine va_put (D := (dC, dI)) (ci := 12) (v := .int 0) (ty := .int) (C := RX12) (T := TX12) (N := 40) hx hb hts in_X12 tyX12 tyX12_ok nmX12 hown hK hP hD hS 0 rfl rfl 25 (by decide) (hts (.fieldLink RX12 85 "TextMenderModel" "thrown" "I") (List.mem_of_getElem? (i := 1) rfl)) (fun _ h9 => h9) rfl (by decide +kernel) rfl rfl (Nat.le_of_ble_eq_true rfl) dX12_blank_2 (fun H locs hP hD hS => ?_)
  have hP : va_P (dC, dI) vwCl [(oM, .inr (12, [.ref mT, .int 0, .ref mS, .ref mX, .int 0, .int 0, .ref mL, .ref mB, .ref mD, .ref m1, .ref m2, .int 0, .ref mR, .int 0, .ref x1, .ref x2, .ref x3, .int 0, .ref mH, .int 0, .int 0, .int 0, .int 0, .int (-1), .int (-1), .int 0, .ref mY, .int 0, .ref mE, .int 0, .int 0, .ref mW, .int 0, .ref mO, .int 0, .ref y1, .ref y2, .ref y3, .ref y4, .ref mZ])), (mL, .inl (cI, 512, .inl (fun _ => (-1)))), (mB, .inl (cS, 131072, .inl (fun _ => (-1)))), (mD, .inl (cI, 2, .inl (fun _ => 0)))] H := hP
  have hD : va_D A [(oM, .inr (12, [.ref mT, .int 0, .ref mS, .ref mX, .int 0, .int 0, .ref mL, .ref mB, .ref mD, .ref m1, .ref m2, .int 0, .ref mR, .int 0, .ref x1, .ref x2, .ref x3, .int 0, .ref mH, .int 0, .int 0, .int 0, .int 0, .int (-1), .int (-1), .int 0, .ref mY, .int 0, .ref mE, .int 0, .int 0, .ref mW, .int 0, .ref mO, .int 0, .ref y1, .ref y2, .ref y3, .ref y4, .ref mZ])), (mL, .inl (cI, 512, .inl (fun _ => (-1)))), (mB, .inl (cS, 131072, .inl (fun _ => (-1)))), (mD, .inl (cI, 2, .inl (fun _ => 0)))] := hD
  refine lv_iload_n hx hb dX12_blank_5 rfl (lv_at hl 1 rfl) ?_
  refine lv_iconst (v := 4) hx hb dX12_blank_6 (by decide) ?_
  refine lv_icmp_lt (tgt := 15) hx hb dX12_blank_7 (by decide) (fun c_1 => ?_) (fun c_1 => ?_)
  · refine lv_iconst (v := 0) hx hb dX12_blank_15 (by decide) ?_
    exact W.zret (v := 0) (ty := .boolean) hx hb hr (rfl) (fun t ht hW => ⟨⟨0, (), rfl, by rw [f_blank, if_neg h4, if_neg h5], trivial⟩, hS.F ht⟩) (hS.2.2) dX12_blank_16
  · refine lv_iload_n hx hb dX12_blank_10 rfl (lv_at hl 1 rfl) ?_
    refine lv_iconst (v := 5) hx hb dX12_blank_11 (by decide) ?_
    refine lv_icmp_le (tgt := 17) hx hb dX12_blank_12 (by decide) (fun c_2 => absurd c_2 (p_45 c_1 h4 h5)) (fun c_2 => ?_)
    refine lv_iconst (v := 0) hx hb dX12_blank_15 (by decide) ?_
    exact W.zret (v := 0) (ty := .boolean) hx hb hr (rfl) (fun t ht hW => ⟨⟨0, (), rfl, by rw [f_blank, if_neg h4, if_neg h5], trivial⟩, hS.F ht⟩) (hS.2.2) dX12_blank_16

theorem y_blank (l : Launch) (dC : Nat → ClassId) (dI : Nat → Nat → Nat) (cI cS : ClassId) (sz : Nat) (oM : Nat) (mT : Nat) (mS : Nat) (mX : Nat) (mL : Nat) (mB : Nat) (mD : Nat) (m1 : Nat) (m2 : Nat) (mR : Nat) (x1 : Nat) (x2 : Nat) (x3 : Nat) (mH : Nat) (mY : Nat) (mE : Nat) (mW : Nat) (mO : Nat) (y1 : Nat) (y2 : Nat) (y3 : Nat) (y4 : Nat) (mZ : Nat) (cd : Int32)  : Met l yX12_blank wsX12_blank ({ frames := 0, cells := 0, slots := 0, locals := 0 } : Room) (va_Pc [.ref oM, .int cd] (fun U => U.heap.size = sz ∧ va_P (dC, dI) vwCl [(oM, .inr (12, [.ref mT, .int 0, .ref mS, .ref mX, .int 0, .int 0, .ref mL, .ref mB, .ref mD, .ref m1, .ref m2, .int 0, .ref mR, .int 0, .ref x1, .ref x2, .ref x3, .int 0, .ref mH, .int 0, .int 0, .int 0, .int 0, .int (-1), .int (-1), .int 0, .ref mY, .int 0, .ref mE, .int 0, .int 0, .ref mW, .int 0, .ref mO, .int 0, .ref y1, .ref y2, .ref y3, .ref y4, .ref mZ])), (mL, .inl (cI, 512, .inl (fun _ => (-1)))), (mB, .inl (cS, 131072, .inl (fun _ => (-1)))), (mD, .inl (cI, 2, .inl (fun _ => 0)))] U.heap ∧ va_K (dC, dI) vwCl [(cI, .int), (cS, .short)] U ∧ va_D (fun _ => True) [(oM, .inr (12, [.ref mT, .int 0, .ref mS, .ref mX, .int 0, .int 0, .ref mL, .ref mB, .ref mD, .ref m1, .ref m2, .int 0, .ref mR, .int 0, .ref x1, .ref x2, .ref x3, .int 0, .ref mH, .int 0, .int 0, .int 0, .int 0, .int (-1), .int (-1), .int 0, .ref mY, .int 0, .ref mE, .int 0, .int 0, .ref mW, .int 0, .ref mO, .int 0, .ref y1, .ref y2, .ref y3, .ref y4, .ref mZ])), (mL, .inl (cI, 512, .inl (fun _ => (-1)))), (mB, .inl (cS, 131072, .inl (fun _ => (-1)))), (mD, .inl (cI, 2, .inl (fun _ => 0)))])) (va_Qi (fun (r : Int32) (_ : Unit) => r = f_blank cd) (fun _ _ => True) (va_A [(oM, .inr (12, [.ref mT, .int 0, .ref mS, .ref mX, .int 0, .int 0, .ref mL, .ref mB, .ref mD, .ref m1, .ref m2, .int 0, .ref mR, .int 0, .ref x1, .ref x2, .ref x3, .int 0, .ref mH, .int 0, .int 0, .int 0, .int 0, .int (-1), .int (-1), .int 0, .ref mY, .int 0, .ref mE, .int 0, .int 0, .ref mW, .int 0, .ref mO, .int 0, .ref y1, .ref y2, .ref y3, .ref y4, .ref mZ])), (mL, .inl (cI, 512, .inl (fun _ => (-1)))), (mB, .inl (cS, 131072, .inl (fun _ => (-1)))), (mD, .inl (cI, 2, .inl (fun _ => 0)))] sz)) 0 0 (va_A [(oM, .inr (12, [.ref mT, .int 0, .ref mS, .ref mX, .int 0, .int 0, .ref mL, .ref mB, .ref mD, .ref m1, .ref m2, .int 0, .ref mR, .int 0, .ref x1, .ref x2, .ref x3, .int 0, .ref mH, .int 0, .int 0, .int 0, .int 0, .int (-1), .int (-1), .int 0, .ref mY, .int 0, .ref mE, .int 0, .int 0, .ref mW, .int 0, .ref mO, .int 0, .ref y1, .ref y2, .ref y3, .ref y4, .ref mZ])), (mL, .inl (cI, 512, .inl (fun _ => (-1)))), (mB, .inl (cS, 131072, .inl (fun _ => (-1)))), (mD, .inl (cI, 2, .inl (fun _ => 0)))] sz) := by
  by_cases h4 : cd = 4
  · subst h4; exact y_blank_4 l dC dI cI cS sz oM mT mS mX mL mB mD m1 m2 mR x1 x2 x3 mH mY mE mW mO y1 y2 y3 y4 mZ
  · by_cases h5 : cd = 5
    · subst h5; exact y_blank_5 l dC dI cI cS sz oM mT mS mX mL mB mD m1 m2 mR x1 x2 x3 mH mY mE mW mO y1 y2 y3 y4 mZ
    · exact y_blank_n l dC dI cI cS sz oM mT mS mX mL mB mD m1 m2 mR x1 x2 x3 mH mY mE mW mO y1 y2 y3 y4 mZ cd h4 h5
