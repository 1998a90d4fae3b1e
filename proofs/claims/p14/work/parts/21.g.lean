/-! 24.codes -/
section
set_option maxHeartbeats 40000000 in
set_option maxRecDepth 100000 in
theorem m_X2_known (l : Launch) (dC : Nat → ClassId) (dI : Nat → Nat → Nat) (cI cS : ClassId) (sz : Nat) (cd : Int32)  : Met l yX2_known wsX2_known ({ frames := 0, cells := 0, slots := 0, locals := 0 } : Room) (va_Pc [.int cd] (fun U => U.heap.size = sz ∧ va_P (dC, dI) vwCl [] U.heap ∧ va_K (dC, dI) vwCl [(cI, .int), (cS, .short)] U ∧ va_D (fun _ => True) [])) (va_Qi (fun (r : Int32) (u : Int32) => r = u) (fun (r : Int32) t => va_P (dC, dI) vwCl [] t.heap ∧ va_D (va_A [] sz) [] ∧ (0 ≤ r.toInt ∧ r.toInt ≤ 1) ∧ ((r.toInt = 1 ∧ 0 ≤ cd.toInt ∧ cd.toInt ≤ 5) ∨ (r.toInt = 0 ∧ (cd.toInt < 0 ∨ 5 < cd.toInt)))) (va_A [] sz)) 0 0 (va_A [] sz) := by
  refine Met.ofW (cc := cX2_known) (maxL := 1) (ret := (some .boolean)) (by decide) rfl ?_
  intro p e s m args below meth c s₁ B hml hv
  obtain ⟨rfl, hsz, hP, hK, hD0⟩ := hv
  have hx := B.exec
  have hb := B.bytes
  have hr := B.returns
  have hts := atoms_spec (ws := wsX2_known) B.pre
  have hown : s.vm.findClass RX2 = some m.cls := findClass_of_methodNamed B.named
  have hlocks := B.notSynchronized
  subst hsz
  have hD := hD0.self (sz := s.heap.size)
  generalize hAe : va_A [] s.heap.size = A at hD ⊢
  have hA : ∀ q : Nat, s.heap.size ≤ q → A q := fun q h => by rw [← hAe]; exact Or.inr h
  have hS : va_S A s.heap s.heap [] := va_S.rf
  have hP : va_P (dC, dI) vwCl [] s.heap := hP
  have hl := lv_entry ([.int cd]) (n := 1) (Nat.le_of_ble_eq_true rfl)
  rw [lg_entry_eq]
  generalize (lg_sl ([.int cd]) ++ List.replicate (1 - (lg_sl ([.int cd])).length) Slot.unset).toArray = ls at hl ⊢
  have hl : lv_has ls 1 [(0, .int cd)] := hl
  obtain ⟨QQ, hQQ⟩ : ∃ QQ : Array Value → State → Outcome → State → Prop, QQ = va_Qi (fun (r : Int32) (u : Int32) => r = u) (fun (r : Int32) t => va_P (dC, dI) vwCl [] t.heap ∧ va_D A [] ∧ (0 ≤ r.toInt ∧ r.toInt ≤ 1) ∧ ((r.toInt = 1 ∧ 0 ≤ cd.toInt ∧ cd.toInt ≤ 5) ∨ (r.toInt = 0 ∧ (cd.toInt < 0 ∨ 5 < cd.toInt)))) A := ⟨_, rfl⟩
  rw [← hQQ]
  refine lv_iload_n hx hb dX2_known_0 rfl (lv_at hl 0 rfl) ?_
  refine lv_if_lt (tgt := 13) hx hb dX2_known_1 (by decide) (fun c_1 => ?_) (fun c_1 => ?_)
  · have tc_1 : cd.toInt < 0 := v_lt c_1
    refine lv_iconst (v := 0) hx hb dX2_known_13 (by decide) ?_
    have hP9 := hP.sub (ws' := []) [] rfl
    have hD9 := hD.sub (ws' := []) [] (by decide +kernel) rfl
    rw [hQQ]
    exact W.zret (v := 0) (ty := .boolean) hx hb hr (rfl) (fun t ht hW => ⟨⟨0, 0, rfl, rfl, ⟨by rw [ht]; exact hP9, hD9, by decide, by show (0 = 1 ∧ 0 ≤ cd.toInt ∧ cd.toInt ≤ 5) ∨ (0 = 0 ∧ (cd.toInt < 0 ∨ 5 < cd.toInt)); omega⟩⟩, hS.F ht⟩) hS.2.2 dX2_known_14
  · have tc_1 : 0 ≤ cd.toInt := v_nlt c_1
    refine lv_iload_n hx hb dX2_known_4 rfl (lv_at hl 0 rfl) ?_
    refine lv_iconst (v := 5) hx hb dX2_known_5 (by decide) ?_
    refine lv_icmp_gt (tgt := 13) hx hb dX2_known_6 (by decide) (fun c_2 => ?_) (fun c_2 => ?_)
    · have tc_2 : 5 < cd.toInt := v_lt c_2
      refine lv_iconst (v := 0) hx hb dX2_known_13 (by decide) ?_
      have hP9 := hP.sub (ws' := []) [] rfl
      have hD9 := hD.sub (ws' := []) [] (by decide +kernel) rfl
      rw [hQQ]
      exact W.zret (v := 0) (ty := .boolean) hx hb hr (rfl) (fun t ht hW => ⟨⟨0, 0, rfl, rfl, ⟨by rw [ht]; exact hP9, hD9, by decide, by show (0 = 1 ∧ 0 ≤ cd.toInt ∧ cd.toInt ≤ 5) ∨ (0 = 0 ∧ (cd.toInt < 0 ∨ 5 < cd.toInt)); omega⟩⟩, hS.F ht⟩) hS.2.2 dX2_known_14
    · have tc_2 : cd.toInt ≤ 5 := v_nlt c_2
      refine lv_iconst (v := 1) hx hb dX2_known_9 (by decide) ?_
      refine lv_goto (tgt := 14) hx hb dX2_known_10 (by decide) ?_
      have hP9 := hP.sub (ws' := []) [] rfl
      have hD9 := hD.sub (ws' := []) [] (by decide +kernel) rfl
      rw [hQQ]
      exact W.zret (v := 1) (ty := .boolean) hx hb hr (rfl) (fun t ht hW => ⟨⟨1, 1, rfl, rfl, ⟨by rw [ht]; exact hP9, hD9, by decide, by show (1 = 1 ∧ 0 ≤ cd.toInt ∧ cd.toInt ≤ 5) ∨ (1 = 0 ∧ (cd.toInt < 0 ∨ 5 < cd.toInt)); omega⟩⟩, hS.F ht⟩) hS.2.2 dX2_known_14

set_option maxHeartbeats 40000000 in
set_option maxRecDepth 100000 in
theorem m_X2_toldCode_4 (l : Launch) (dC : Nat → ClassId) (dI : Nat → Nat → Nat) (cI cS : ClassId) (sz : Nat) (oC : Nat) (o4 : Nat) (o5 : Nat) (cd : Int32) (h4 : cd.toInt = 4) : Met l yX2_toldCode wsX2_toldCode ({ frames := 0, cells := 0, slots := 0, locals := 0 } : Room) (va_Pc [.ref oC, .int cd] (fun U => U.heap.size = sz ∧ va_P (dC, dI) vwCl [(oC, .inr (2, [.ref o4, .ref o5]))] U.heap ∧ va_K (dC, dI) vwCl [(cI, .int), (cS, .short)] U ∧ va_D (fun _ => True) [(oC, .inr (2, [.ref o4, .ref o5]))])) (va_Qr (fun (_ : Unit) => True) (fun _ ra t => ra = o4 ∧ va_P (dC, dI) vwCl [(oC, .inr (2, [.ref o4, .ref o5]))] t.heap ∧ va_D (va_A [(oC, .inr (2, [.ref o4, .ref o5]))] sz) [(oC, .inr (2, [.ref o4, .ref o5]))]) (va_A [(oC, .inr (2, [.ref o4, .ref o5]))] sz)) 0 0 (va_A [(oC, .inr (2, [.ref o4, .ref o5]))] sz) := by
  refine Met.ofW (cc := cX2_toldCode) (maxL := 2) (ret := (some (.object "TextMender$ToldCode"))) (by decide) rfl ?_
  intro p e s m args below meth c s₁ B hml hv
  obtain ⟨rfl, hsz, hP, hK, hD0⟩ := hv
  have hx := B.exec
  have hb := B.bytes
  have hr := B.returns
  have hts := atoms_spec (ws := wsX2_toldCode) B.pre
  have hown : s.vm.findClass RX2 = some m.cls := findClass_of_methodNamed B.named
  have hlocks := B.notSynchronized
  have in_X2 : ∀ w ∈ wsX20, w ∈ wsX2_toldCode := fun _ h => List.mem_cons_of_mem _ (List.mem_append_right _ (h))
  subst hsz
  have hD := hD0.self (sz := s.heap.size)
  generalize hAe : va_A [(oC, .inr (2, [.ref o4, .ref o5]))] s.heap.size = A at hD ⊢
  have hA : ∀ q : Nat, s.heap.size ≤ q → A q := fun q h => by rw [← hAe]; exact Or.inr h
  have hS : va_S A s.heap s.heap [] := va_S.rf
  have hP : va_P (dC, dI) vwCl [(oC, .inr (2, [.ref o4, .ref o5]))] s.heap := hP
  have hl := lv_entry ([.ref oC, .int cd]) (n := 2) (Nat.le_of_ble_eq_true rfl)
  rw [lg_entry_eq]
  generalize (lg_sl ([.ref oC, .int cd]) ++ List.replicate (2 - (lg_sl ([.ref oC, .int cd])).length) Slot.unset).toArray = ls at hl ⊢
  have hl : lv_has ls 2 [(0, .ref oC), (1, .int cd)] := hl
  obtain ⟨QQ, hQQ⟩ : ∃ QQ : Array Value → State → Outcome → State → Prop, QQ = va_Qr (fun (_ : Unit) => True) (fun _ ra t => ra = o4 ∧ va_P (dC, dI) vwCl [(oC, .inr (2, [.ref o4, .ref o5]))] t.heap ∧ va_D A [(oC, .inr (2, [.ref o4, .ref o5]))]) A := ⟨_, rfl⟩
  rw [← hQQ]
  refine lv_iload_n hx hb dX2_toldCode_0 rfl (lv_at hl 1 rfl) ?_
  refine lv_iconst (v := 4) hx hb dX2_toldCode_1 (by decide) ?_
  refine lv_icmp_ne (tgt := 12) hx hb dX2_toldCode_2 (by decide) (fun c_1 => by exfalso; have tc_1 : ¬ cd.toInt = 4 := v_ne c_1; omega) (fun c_1 => ?_)
  have tc_1 : cd.toInt = 4 := v_eq c_1
  refine lv_aload_n hx hb dX2_toldCode_5 rfl (lv_at hl 0 rfl) ?_
  refine va_get (D := (dC, dI)) (ci := 2) (v := .ref o4) (C := RX2) (T := TX2) (N := 2) hx hb hts in_X2 hown hK hP 0 rfl rfl 0 (by decide) (hts (.fieldLink RX2 12 "TextMender$Codes" "four" "LTextMender$ToldCode;") (List.mem_of_getElem? (i := 1) rfl)) (fun _ h9 => h9) rfl dX2_toldCode_6 ?_
  refine lv_goto (tgt := 25) hx hb dX2_toldCode_9 (by decide) ?_
  have hP9 := hP.sub (ws' := [(oC, .inr (2, [.ref o4, .ref o5]))]) [0] rfl
  have hD9 := hD.sub (ws' := [(oC, .inr (2, [.ref o4, .ref o5]))]) [0] (by decide +kernel) rfl
  rw [hQQ]
  exact W.aret (v := .ref o4) hx hb hr (Or.inl ⟨_, rfl⟩) (Or.inr ⟨_, rfl⟩) (fun t ht hW => ⟨⟨(), o4, rfl, trivial, rfl, ⟨by rw [ht]; exact hP9, hD9⟩⟩, hS.F ht⟩) hS.2.2 dX2_toldCode_25

set_option maxHeartbeats 40000000 in
set_option maxRecDepth 100000 in
theorem m_X2_toldCode_5 (l : Launch) (dC : Nat → ClassId) (dI : Nat → Nat → Nat) (cI cS : ClassId) (sz : Nat) (oC : Nat) (o4 : Nat) (o5 : Nat) (cd : Int32) (h5 : cd.toInt = 5) : Met l yX2_toldCode wsX2_toldCode ({ frames := 0, cells := 0, slots := 0, locals := 0 } : Room) (va_Pc [.ref oC, .int cd] (fun U => U.heap.size = sz ∧ va_P (dC, dI) vwCl [(oC, .inr (2, [.ref o4, .ref o5]))] U.heap ∧ va_K (dC, dI) vwCl [(cI, .int), (cS, .short)] U ∧ va_D (fun _ => True) [(oC, .inr (2, [.ref o4, .ref o5]))])) (va_Qr (fun (_ : Unit) => True) (fun _ ra t => ra = o5 ∧ va_P (dC, dI) vwCl [(oC, .inr (2, [.ref o4, .ref o5]))] t.heap ∧ va_D (va_A [(oC, .inr (2, [.ref o4, .ref o5]))] sz) [(oC, .inr (2, [.ref o4, .ref o5]))]) (va_A [(oC, .inr (2, [.ref o4, .ref o5]))] sz)) 0 0 (va_A [(oC, .inr (2, [.ref o4, .ref o5]))] sz) := by
  refine Met.ofW (cc := cX2_toldCode) (maxL := 2) (ret := (some (.object "TextMender$ToldCode"))) (by decide) rfl ?_
  intro p e s m args below meth c s₁ B hml hv
  obtain ⟨rfl, hsz, hP, hK, hD0⟩ := hv
  have hx := B.exec
  have hb := B.bytes
  have hr := B.returns
  have hts := atoms_spec (ws := wsX2_toldCode) B.pre
  have hown : s.vm.findClass RX2 = some m.cls := findClass_of_methodNamed B.named
  have hlocks := B.notSynchronized
  have in_X2 : ∀ w ∈ wsX20, w ∈ wsX2_toldCode := fun _ h => List.mem_cons_of_mem _ (List.mem_append_right _ (h))
  subst hsz
  have hD := hD0.self (sz := s.heap.size)
  generalize hAe : va_A [(oC, .inr (2, [.ref o4, .ref o5]))] s.heap.size = A at hD ⊢
  have hA : ∀ q : Nat, s.heap.size ≤ q → A q := fun q h => by rw [← hAe]; exact Or.inr h
  have hS : va_S A s.heap s.heap [] := va_S.rf
  have hP : va_P (dC, dI) vwCl [(oC, .inr (2, [.ref o4, .ref o5]))] s.heap := hP
  have hl := lv_entry ([.ref oC, .int cd]) (n := 2) (Nat.le_of_ble_eq_true rfl)
  rw [lg_entry_eq]
  generalize (lg_sl ([.ref oC, .int cd]) ++ List.replicate (2 - (lg_sl ([.ref oC, .int cd])).length) Slot.unset).toArray = ls at hl ⊢
  have hl : lv_has ls 2 [(0, .ref oC), (1, .int cd)] := hl
  obtain ⟨QQ, hQQ⟩ : ∃ QQ : Array Value → State → Outcome → State → Prop, QQ = va_Qr (fun (_ : Unit) => True) (fun _ ra t => ra = o5 ∧ va_P (dC, dI) vwCl [(oC, .inr (2, [.ref o4, .ref o5]))] t.heap ∧ va_D A [(oC, .inr (2, [.ref o4, .ref o5]))]) A := ⟨_, rfl⟩
  rw [← hQQ]
  refine lv_iload_n hx hb dX2_toldCode_0 rfl (lv_at hl 1 rfl) ?_
  refine lv_iconst (v := 4) hx hb dX2_toldCode_1 (by decide) ?_
  refine lv_icmp_ne (tgt := 12) hx hb dX2_toldCode_2 (by decide) (fun c_1 => ?_) (fun c_1 => by exfalso; have tc_1 : cd.toInt = 4 := v_eq c_1; omega)
  have tc_1 : ¬ cd.toInt = 4 := v_ne c_1
  refine lv_iload_n hx hb dX2_toldCode_12 rfl (lv_at hl 1 rfl) ?_
  refine lv_iconst (v := 5) hx hb dX2_toldCode_13 (by decide) ?_
  refine lv_icmp_ne (tgt := 24) hx hb dX2_toldCode_14 (by decide) (fun c_2 => by exfalso; have tc_2 : ¬ cd.toInt = 5 := v_ne c_2; omega) (fun c_2 => ?_)
  have tc_2 : cd.toInt = 5 := v_eq c_2
  refine lv_aload_n hx hb dX2_toldCode_17 rfl (lv_at hl 0 rfl) ?_
  refine va_get (D := (dC, dI)) (ci := 2) (v := .ref o5) (C := RX2) (T := TX2) (N := 2) hx hb hts in_X2 hown hK hP 0 rfl rfl 1 (by decide) (hts (.fieldLink RX2 18 "TextMender$Codes" "five" "LTextMender$ToldCode;") (List.mem_of_getElem? (i := 2) rfl)) (fun _ h9 => h9) rfl dX2_toldCode_18 ?_
  refine lv_goto (tgt := 25) hx hb dX2_toldCode_21 (by decide) ?_
  have hP9 := hP.sub (ws' := [(oC, .inr (2, [.ref o4, .ref o5]))]) [0] rfl
  have hD9 := hD.sub (ws' := [(oC, .inr (2, [.ref o4, .ref o5]))]) [0] (by decide +kernel) rfl
  rw [hQQ]
  exact W.aret (v := .ref o5) hx hb hr (Or.inl ⟨_, rfl⟩) (Or.inr ⟨_, rfl⟩) (fun t ht hW => ⟨⟨(), o5, rfl, trivial, rfl, ⟨by rw [ht]; exact hP9, hD9⟩⟩, hS.F ht⟩) hS.2.2 dX2_toldCode_25

set_option maxHeartbeats 40000000 in
set_option maxRecDepth 100000 in
theorem m_X2_toldCode_n (l : Launch) (dC : Nat → ClassId) (dI : Nat → Nat → Nat) (cI cS : ClassId) (sz : Nat) (oC : Nat) (o4 : Nat) (o5 : Nat) (cd : Int32) (h4 : ¬ cd.toInt = 4) (h5 : ¬ cd.toInt = 5) : Met l yX2_toldCode wsX2_toldCode ({ frames := 0, cells := 0, slots := 0, locals := 0 } : Room) (va_Pc [.ref oC, .int cd] (fun U => U.heap.size = sz ∧ va_P (dC, dI) vwCl [(oC, .inr (2, [.ref o4, .ref o5]))] U.heap ∧ va_K (dC, dI) vwCl [(cI, .int), (cS, .short)] U ∧ va_D (fun _ => True) [(oC, .inr (2, [.ref o4, .ref o5]))])) (va_Qq (fun (r : Option Nat) (_ : Unit) => r = none) (fun _ t => va_P (dC, dI) vwCl [(oC, .inr (2, [.ref o4, .ref o5]))] t.heap ∧ va_D (va_A [(oC, .inr (2, [.ref o4, .ref o5]))] sz) [(oC, .inr (2, [.ref o4, .ref o5]))]) (va_A [(oC, .inr (2, [.ref o4, .ref o5]))] sz)) 0 0 (va_A [(oC, .inr (2, [.ref o4, .ref o5]))] sz) := by
  refine Met.ofW (cc := cX2_toldCode) (maxL := 2) (ret := (some (.object "TextMender$ToldCode"))) (by decide) rfl ?_
  intro p e s m args below meth c s₁ B hml hv
  obtain ⟨rfl, hsz, hP, hK, hD0⟩ := hv
  have hx := B.exec
  have hb := B.bytes
  have hr := B.returns
  have hts := atoms_spec (ws := wsX2_toldCode) B.pre
  have hown : s.vm.findClass RX2 = some m.cls := findClass_of_methodNamed B.named
  have hlocks := B.notSynchronized
  subst hsz
  have hD := hD0.self (sz := s.heap.size)
  generalize hAe : va_A [(oC, .inr (2, [.ref o4, .ref o5]))] s.heap.size = A at hD ⊢
  have hA : ∀ q : Nat, s.heap.size ≤ q → A q := fun q h => by rw [← hAe]; exact Or.inr h
  have hS : va_S A s.heap s.heap [] := va_S.rf
  have hP : va_P (dC, dI) vwCl [(oC, .inr (2, [.ref o4, .ref o5]))] s.heap := hP
  have hl := lv_entry ([.ref oC, .int cd]) (n := 2) (Nat.le_of_ble_eq_true rfl)
  rw [lg_entry_eq]
  generalize (lg_sl ([.ref oC, .int cd]) ++ List.replicate (2 - (lg_sl ([.ref oC, .int cd])).length) Slot.unset).toArray = ls at hl ⊢
  have hl : lv_has ls 2 [(0, .ref oC), (1, .int cd)] := hl
  obtain ⟨QQ, hQQ⟩ : ∃ QQ : Array Value → State → Outcome → State → Prop, QQ = va_Qq (fun (r : Option Nat) (_ : Unit) => r = none) (fun _ t => va_P (dC, dI) vwCl [(oC, .inr (2, [.ref o4, .ref o5]))] t.heap ∧ va_D A [(oC, .inr (2, [.ref o4, .ref o5]))]) A := ⟨_, rfl⟩
  rw [← hQQ]
  refine lv_iload_n hx hb dX2_toldCode_0 rfl (lv_at hl 1 rfl) ?_
  refine lv_iconst (v := 4) hx hb dX2_toldCode_1 (by decide) ?_
  refine lv_icmp_ne (tgt := 12) hx hb dX2_toldCode_2 (by decide) (fun c_1 => ?_) (fun c_1 => by exfalso; have tc_1 : cd.toInt = 4 := v_eq c_1; omega)
  have tc_1 : ¬ cd.toInt = 4 := v_ne c_1
  refine lv_iload_n hx hb dX2_toldCode_12 rfl (lv_at hl 1 rfl) ?_
  refine lv_iconst (v := 5) hx hb dX2_toldCode_13 (by decide) ?_
  refine lv_icmp_ne (tgt := 24) hx hb dX2_toldCode_14 (by decide) (fun c_2 => ?_) (fun c_2 => by exfalso; have tc_2 : cd.toInt = 5 := v_eq c_2; omega)
  have tc_2 : ¬ cd.toInt = 5 := v_ne c_2
  refine lv_null hx hb dX2_toldCode_24 ?_
  have hP9 := hP.sub (ws' := [(oC, .inr (2, [.ref o4, .ref o5]))]) [0] rfl
  have hD9 := hD.sub (ws' := [(oC, .inr (2, [.ref o4, .ref o5]))]) [0] (by decide +kernel) rfl
  rw [hQQ]
  exact W.aret (v := .null) hx hb hr (Or.inl ⟨_, rfl⟩) (Or.inl rfl) (fun t ht hW => ⟨⟨none, (), rfl, rfl, ⟨by rw [ht]; exact hP9, hD9⟩⟩, hS.F ht⟩) hS.2.2 dX2_toldCode_25

set_option maxHeartbeats 40000000 in
set_option maxRecDepth 100000 in
theorem m_X2_lengthOf (l : Launch) (dC : Nat → ClassId) (dI : Nat → Nat → Nat) (cI cS : ClassId) (sz : Nat) (oC : Nat) (o4 : Nat) (o5 : Nat) (a41 : Nat) (a42 : Nat) (a43 : Nat) (a51 : Nat) (a52 : Nat) (a53 : Nat) (l4 : Int32) (l5 : Int32) (cd : Int32)  : Met l yX2_lengthOf wsX2_lengthOf ({ frames := 1, cells := 0, slots := 0, locals := 21 } : Room) (va_Pc [.ref oC, .int cd] (fun U => U.heap.size = sz ∧ va_P (dC, dI) vwCl [(oC, .inr (2, [.ref o4, .ref o5])), (o4, .inr (10, [.ref a41, .ref a42, .ref a43, .int l4])), (o5, .inr (10, [.ref a51, .ref a52, .ref a53, .int l5]))] U.heap ∧ va_K (dC, dI) vwCl [(cI, .int), (cS, .short)] U ∧ va_D (fun _ => True) [(oC, .inr (2, [.ref o4, .ref o5])), (o4, .inr (10, [.ref a41, .ref a42, .ref a43, .int l4])), (o5, .inr (10, [.ref a51, .ref a52, .ref a53, .int l5]))])) (va_Qi (fun (r : Int32) (u : Int32) => r = u) (fun (r : Int32) t => va_P (dC, dI) vwCl [(oC, .inr (2, [.ref o4, .ref o5])), (o4, .inr (10, [.ref a41, .ref a42, .ref a43, .int l4])), (o5, .inr (10, [.ref a51, .ref a52, .ref a53, .int l5]))] t.heap ∧ va_D (va_A [(oC, .inr (2, [.ref o4, .ref o5])), (o4, .inr (10, [.ref a41, .ref a42, .ref a43, .int l4])), (o5, .inr (10, [.ref a51, .ref a52, .ref a53, .int l5]))] sz) [(oC, .inr (2, [.ref o4, .ref o5])), (o4, .inr (10, [.ref a41, .ref a42, .ref a43, .int l4])), (o5, .inr (10, [.ref a51, .ref a52, .ref a53, .int l5]))]) (va_A [(oC, .inr (2, [.ref o4, .ref o5])), (o4, .inr (10, [.ref a41, .ref a42, .ref a43, .int l4])), (o5, .inr (10, [.ref a51, .ref a52, .ref a53, .int l5]))] sz)) 0 0 (va_A [(oC, .inr (2, [.ref o4, .ref o5])), (o4, .inr (10, [.ref a41, .ref a42, .ref a43, .int l4])), (o5, .inr (10, [.ref a51, .ref a52, .ref a53, .int l5]))] sz) := by
  refine Met.ofW (cc := cX2_lengthOf) (maxL := 3) (ret := (some .int)) (by decide) rfl ?_
  intro p e s m args below meth c s₁ B hml hv
  obtain ⟨rfl, hsz, hP, hK, hD0⟩ := hv
  have hx := B.exec
  have hb := B.bytes
  have hr := B.returns
  have hts := atoms_spec (ws := wsX2_lengthOf) B.pre
  have hown : s.vm.findClass RX2 = some m.cls := findClass_of_methodNamed B.named
  have hlocks := B.notSynchronized
  subst hsz
  have hD := hD0.self (sz := s.heap.size)
  generalize hAe : va_A [(oC, .inr (2, [.ref o4, .ref o5])), (o4, .inr (10, [.ref a41, .ref a42, .ref a43, .int l4])), (o5, .inr (10, [.ref a51, .ref a52, .ref a53, .int l5]))] s.heap.size = A at hD ⊢
  have hA : ∀ q : Nat, s.heap.size ≤ q → A q := fun q h => by rw [← hAe]; exact Or.inr h
  have hS : va_S A s.heap s.heap [] := va_S.rf
  have hP : va_P (dC, dI) vwCl [(oC, .inr (2, [.ref o4, .ref o5])), (o4, .inr (10, [.ref a41, .ref a42, .ref a43, .int l4])), (o5, .inr (10, [.ref a51, .ref a52, .ref a53, .int l5]))] s.heap := hP
  have hl := lv_entry ([.ref oC, .int cd]) (n := 3) (Nat.le_of_ble_eq_true rfl)
  rw [lg_entry_eq]
  generalize (lg_sl ([.ref oC, .int cd]) ++ List.replicate (3 - (lg_sl ([.ref oC, .int cd])).length) Slot.unset).toArray = ls at hl ⊢
  have hl : lv_has ls 3 [(0, .ref oC), (1, .int cd)] := hl
  obtain ⟨QQ, hQQ⟩ : ∃ QQ : Array Value → State → Outcome → State → Prop, QQ = va_Qi (fun (r : Int32) (u : Int32) => r = u) (fun (r : Int32) t => va_P (dC, dI) vwCl [(oC, .inr (2, [.ref o4, .ref o5])), (o4, .inr (10, [.ref a41, .ref a42, .ref a43, .int l4])), (o5, .inr (10, [.ref a51, .ref a52, .ref a53, .int l5]))] t.heap ∧ va_D A [(oC, .inr (2, [.ref o4, .ref o5])), (o4, .inr (10, [.ref a41, .ref a42, .ref a43, .int l4])), (o5, .inr (10, [.ref a51, .ref a52, .ref a53, .int l5]))]) A := ⟨_, rfl⟩
  rw [← hQQ]
  refine lv_aload_n hx hb dX2_lengthOf_0 rfl (lv_at hl 0 rfl) ?_
  refine lv_iload_n hx hb dX2_lengthOf_1 rfl (lv_at hl 1 rfl) ?_
  by_cases cs_1 : cd.toInt = 4
  · have hPc := hP.sub (ws' := [(oC, .inr (2, [.ref o4, .ref o5]))]) [0] rfl
    have hDc := hD.sub (ws' := [(oC, .inr (2, [.ref o4, .ref o5]))]) [0] (by decide +kernel) rfl
    have hFc := va_free (wc := [(oC, .inr (2, [.ref o4, .ref o5]))]) hD hS hA [0] rfl
    refine va_callr (va_runV (As := [.int cd]) (rest := []) ⟨hx, hb, hml, hown, hts⟩ (m_X2_toldCode_4 l dC dI cI cS s.heap.size oC o4 o5 cd (by omega)) (cwV 1 hts gX2_lengthOf_X2_toldCode rfl rfl rfl (by decide +kernel) ⟨Nat.le_of_ble_eq_true rfl, Nat.le_of_ble_eq_true rfl⟩) ⟨fun a U g mk q => by obtain ⟨q0, q1, qP, qK, qD⟩ := q; exact ⟨q0, q1, qP, va_K.moved (u := U) (U := U.calling g mk a) (Vm.Alike.refl U.vm) qK, qD⟩, va_recv hK hPc (ci := 2) (q0 := 0) rfl rfl, fun U hU hW => ⟨rfl, by rw [hU], by rw [hU]; exact hPc, va_K.moved hW.alike hK, hDc.weaken (fun _ _ _ _ => trivial)⟩⟩ rfl rfl hl.1 rfl (lv_room (Nat.le_of_ble_eq_true rfl)) dX2_lengthOf_2 ⟨Nat.le_of_ble_eq_true rfl, Nat.le_of_ble_eq_true rfl⟩) hS (fun q _ h => hFc q h) hFc (fun u r_2 t H1 locs ht hvm hw hB hz1 hk1 hSn => ?_)
    obtain ⟨hra, hP1, hD1⟩ := hB
    rw [hra]
    rw [ht] at hP1
    obtain ⟨hPn, hDn⟩ := va_join (wr := [(o4, .inr (10, [.ref a41, .ref a42, .ref a43, .int l4])), (o5, .inr (10, [.ref a51, .ref a52, .ref a53, .int l5]))]) (w1 := [(oC, .inr (2, [.ref o4, .ref o5]))]) hP hD [0] [1, 2] rfl rfl (by decide +kernel) (by decide +kernel) hk1 hFc hP1 hD1
    clear hP hD hS hPc hDc hFc hk1 hz1 hvm ht hP1 hD1
    generalize H1 = H at hPn hSn ⊢
    have hP : va_P (dC, dI) vwCl [(o4, .inr (10, [.ref a41, .ref a42, .ref a43, .int l4])), (o5, .inr (10, [.ref a51, .ref a52, .ref a53, .int l5])), (oC, .inr (2, [.ref o4, .ref o5]))] H := hPn
    have hD : va_D A [(o4, .inr (10, [.ref a41, .ref a42, .ref a43, .int l4])), (o5, .inr (10, [.ref a51, .ref a52, .ref a53, .int l5])), (oC, .inr (2, [.ref o4, .ref o5]))] := hDn
    have hS := hSn
    clear hPn hDn hSn
    refine lv_astore_n (lv' := [(2, .ref o4), (0, .ref oC), (1, .int cd)]) hx hb dX2_lengthOf_5 rfl hl (by decide) rfl (fun ls hl => ?_)
    refine lv_aload_n hx hb dX2_lengthOf_6 rfl (lv_at hl 0 rfl) ?_
    refine lv_ifnonnull (tgt := 14) hx hb dX2_lengthOf_7 (by decide) ?_
    refine lv_aload_n hx hb dX2_lengthOf_14 rfl (lv_at hl 0 rfl) ?_
    have hPc := hP.sub (ws' := [(o4, .inr (10, [.ref a41, .ref a42, .ref a43, .int l4]))]) [0] rfl
    have hDc := hD.sub (ws' := [(o4, .inr (10, [.ref a41, .ref a42, .ref a43, .int l4]))]) [0] (by decide +kernel) rfl
    have hFc := va_free (wc := [(o4, .inr (10, [.ref a41, .ref a42, .ref a43, .int l4]))]) hD hS hA [0] rfl
    refine va_calli (va_runV (As := []) (rest := []) ⟨hx, hb, hml, hown, hts⟩ (m_X10_length l dC dI cI cS H.size o4 a41 a42 a43 l4 ) (cwV 0 hts gX2_lengthOf_X10_length rfl rfl rfl (by decide +kernel) ⟨Nat.le_of_ble_eq_true rfl, Nat.le_of_ble_eq_true rfl⟩) ⟨fun a U g mk q => by obtain ⟨q0, q1, qP, qK, qD⟩ := q; exact ⟨q0, q1, qP, va_K.moved (u := U) (U := U.calling g mk a) (Vm.Alike.refl U.vm) qK, qD⟩, va_recv hK hPc (ci := 10) (q0 := 0) rfl rfl, fun U hU hW => ⟨rfl, by rw [hU], by rw [hU]; exact hPc, va_K.moved hW.alike hK, hDc.weaken (fun _ _ _ _ => trivial)⟩⟩ rfl rfl hl.1 rfl (lv_room (Nat.le_of_ble_eq_true rfl)) dX2_lengthOf_15 ⟨Nat.le_of_ble_eq_true rfl, Nat.le_of_ble_eq_true rfl⟩) hS (fun q _ h => hFc q h) hFc (fun r_3 u t H1 locs ht hvm hw hB hz1 hk1 hSn => ?_)
    subst hw
    obtain ⟨hP1, hD1, hf3_0⟩ := hB
    rw [ht] at hP1
    obtain ⟨hPn, hDn⟩ := va_join (wr := [(o5, .inr (10, [.ref a51, .ref a52, .ref a53, .int l5])), (oC, .inr (2, [.ref o4, .ref o5]))]) (w1 := [(o4, .inr (10, [.ref a41, .ref a42, .ref a43, .int l4]))]) hP hD [0] [1, 2] rfl rfl (by decide +kernel) (by decide +kernel) hk1 hFc hP1 hD1
    clear hP hD hS hPc hDc hFc hk1 hz1 hvm ht hP1 hD1
    generalize H1 = H at hPn hSn ⊢
    have hP : va_P (dC, dI) vwCl [(o5, .inr (10, [.ref a51, .ref a52, .ref a53, .int l5])), (oC, .inr (2, [.ref o4, .ref o5])), (o4, .inr (10, [.ref a41, .ref a42, .ref a43, .int l4]))] H := hPn
    have hD : va_D A [(o5, .inr (10, [.ref a51, .ref a52, .ref a53, .int l5])), (oC, .inr (2, [.ref o4, .ref o5])), (o4, .inr (10, [.ref a41, .ref a42, .ref a43, .int l4]))] := hDn
    have hS := hSn
    clear hPn hDn hSn
    rw [hf3_0]
    have hP9 := hP.sub (ws' := [(oC, .inr (2, [.ref o4, .ref o5])), (o4, .inr (10, [.ref a41, .ref a42, .ref a43, .int l4])), (o5, .inr (10, [.ref a51, .ref a52, .ref a53, .int l5]))]) [1, 2, 0] rfl
    have hD9 := hD.sub (ws' := [(oC, .inr (2, [.ref o4, .ref o5])), (o4, .inr (10, [.ref a41, .ref a42, .ref a43, .int l4])), (o5, .inr (10, [.ref a51, .ref a52, .ref a53, .int l5]))]) [1, 2, 0] (by decide +kernel) rfl
    rw [hQQ]
    exact W.iret (v := l4) hx hb hr (fun t ht hW => ⟨⟨l4, l4, rfl, rfl, ⟨by rw [ht]; exact hP9, hD9⟩⟩, hS.F ht⟩) hS.2.2 dX2_lengthOf_18
  · skip
    by_cases cs_4 : cd.toInt = 5
    · have hPc := hP.sub (ws' := [(oC, .inr (2, [.ref o4, .ref o5]))]) [0] rfl
      have hDc := hD.sub (ws' := [(oC, .inr (2, [.ref o4, .ref o5]))]) [0] (by decide +kernel) rfl
      have hFc := va_free (wc := [(oC, .inr (2, [.ref o4, .ref o5]))]) hD hS hA [0] rfl
      refine va_callr (va_runV (As := [.int cd]) (rest := []) ⟨hx, hb, hml, hown, hts⟩ (m_X2_toldCode_5 l dC dI cI cS s.heap.size oC o4 o5 cd (by omega)) (cwV 1 hts gX2_lengthOf_X2_toldCode rfl rfl rfl (by decide +kernel) ⟨Nat.le_of_ble_eq_true rfl, Nat.le_of_ble_eq_true rfl⟩) ⟨fun a U g mk q => by obtain ⟨q0, q1, qP, qK, qD⟩ := q; exact ⟨q0, q1, qP, va_K.moved (u := U) (U := U.calling g mk a) (Vm.Alike.refl U.vm) qK, qD⟩, va_recv hK hPc (ci := 2) (q0 := 0) rfl rfl, fun U hU hW => ⟨rfl, by rw [hU], by rw [hU]; exact hPc, va_K.moved hW.alike hK, hDc.weaken (fun _ _ _ _ => trivial)⟩⟩ rfl rfl hl.1 rfl (lv_room (Nat.le_of_ble_eq_true rfl)) dX2_lengthOf_2 ⟨Nat.le_of_ble_eq_true rfl, Nat.le_of_ble_eq_true rfl⟩) hS (fun q _ h => hFc q h) hFc (fun u r_5 t H1 locs ht hvm hw hB hz1 hk1 hSn => ?_)
      obtain ⟨hra, hP1, hD1⟩ := hB
      rw [hra]
      rw [ht] at hP1
      obtain ⟨hPn, hDn⟩ := va_join (wr := [(o4, .inr (10, [.ref a41, .ref a42, .ref a43, .int l4])), (o5, .inr (10, [.ref a51, .ref a52, .ref a53, .int l5]))]) (w1 := [(oC, .inr (2, [.ref o4, .ref o5]))]) hP hD [0] [1, 2] rfl rfl (by decide +kernel) (by decide +kernel) hk1 hFc hP1 hD1
      clear hP hD hS hPc hDc hFc hk1 hz1 hvm ht hP1 hD1
      generalize H1 = H at hPn hSn ⊢
      have hP : va_P (dC, dI) vwCl [(o4, .inr (10, [.ref a41, .ref a42, .ref a43, .int l4])), (o5, .inr (10, [.ref a51, .ref a52, .ref a53, .int l5])), (oC, .inr (2, [.ref o4, .ref o5]))] H := hPn
      have hD : va_D A [(o4, .inr (10, [.ref a41, .ref a42, .ref a43, .int l4])), (o5, .inr (10, [.ref a51, .ref a52, .ref a53, .int l5])), (oC, .inr (2, [.ref o4, .ref o5]))] := hDn
      have hS := hSn
      clear hPn hDn hSn
      refine lv_astore_n (lv' := [(2, .ref o5), (0, .ref oC), (1, .int cd)]) hx hb dX2_lengthOf_5 rfl hl (by decide) rfl (fun ls hl => ?_)
      refine lv_aload_n hx hb dX2_lengthOf_6 rfl (lv_at hl 0 rfl) ?_
      refine lv_ifnonnull (tgt := 14) hx hb dX2_lengthOf_7 (by decide) ?_
      refine lv_aload_n hx hb dX2_lengthOf_14 rfl (lv_at hl 0 rfl) ?_
      have hPc := hP.sub (ws' := [(o5, .inr (10, [.ref a51, .ref a52, .ref a53, .int l5]))]) [1] rfl
      have hDc := hD.sub (ws' := [(o5, .inr (10, [.ref a51, .ref a52, .ref a53, .int l5]))]) [1] (by decide +kernel) rfl
      have hFc := va_free (wc := [(o5, .inr (10, [.ref a51, .ref a52, .ref a53, .int l5]))]) hD hS hA [1] rfl
      refine va_calli (va_runV (As := []) (rest := []) ⟨hx, hb, hml, hown, hts⟩ (m_X10_length l dC dI cI cS H.size o5 a51 a52 a53 l5 ) (cwV 0 hts gX2_lengthOf_X10_length rfl rfl rfl (by decide +kernel) ⟨Nat.le_of_ble_eq_true rfl, Nat.le_of_ble_eq_true rfl⟩) ⟨fun a U g mk q => by obtain ⟨q0, q1, qP, qK, qD⟩ := q; exact ⟨q0, q1, qP, va_K.moved (u := U) (U := U.calling g mk a) (Vm.Alike.refl U.vm) qK, qD⟩, va_recv hK hPc (ci := 10) (q0 := 0) rfl rfl, fun U hU hW => ⟨rfl, by rw [hU], by rw [hU]; exact hPc, va_K.moved hW.alike hK, hDc.weaken (fun _ _ _ _ => trivial)⟩⟩ rfl rfl hl.1 rfl (lv_room (Nat.le_of_ble_eq_true rfl)) dX2_lengthOf_15 ⟨Nat.le_of_ble_eq_true rfl, Nat.le_of_ble_eq_true rfl⟩) hS (fun q _ h => hFc q h) hFc (fun r_6 u t H1 locs ht hvm hw hB hz1 hk1 hSn => ?_)
      subst hw
      obtain ⟨hP1, hD1, hf6_0⟩ := hB
      rw [ht] at hP1
      obtain ⟨hPn, hDn⟩ := va_join (wr := [(o4, .inr (10, [.ref a41, .ref a42, .ref a43, .int l4])), (oC, .inr (2, [.ref o4, .ref o5]))]) (w1 := [(o5, .inr (10, [.ref a51, .ref a52, .ref a53, .int l5]))]) hP hD [1] [0, 2] rfl rfl (by decide +kernel) (by decide +kernel) hk1 hFc hP1 hD1
      clear hP hD hS hPc hDc hFc hk1 hz1 hvm ht hP1 hD1
      generalize H1 = H at hPn hSn ⊢
      have hP : va_P (dC, dI) vwCl [(o4, .inr (10, [.ref a41, .ref a42, .ref a43, .int l4])), (oC, .inr (2, [.ref o4, .ref o5])), (o5, .inr (10, [.ref a51, .ref a52, .ref a53, .int l5]))] H := hPn
      have hD : va_D A [(o4, .inr (10, [.ref a41, .ref a42, .ref a43, .int l4])), (oC, .inr (2, [.ref o4, .ref o5])), (o5, .inr (10, [.ref a51, .ref a52, .ref a53, .int l5]))] := hDn
      have hS := hSn
      clear hPn hDn hSn
      rw [hf6_0]
      have hP9 := hP.sub (ws' := [(oC, .inr (2, [.ref o4, .ref o5])), (o4, .inr (10, [.ref a41, .ref a42, .ref a43, .int l4])), (o5, .inr (10, [.ref a51, .ref a52, .ref a53, .int l5]))]) [1, 0, 2] rfl
      have hD9 := hD.sub (ws' := [(oC, .inr (2, [.ref o4, .ref o5])), (o4, .inr (10, [.ref a41, .ref a42, .ref a43, .int l4])), (o5, .inr (10, [.ref a51, .ref a52, .ref a53, .int l5]))]) [1, 0, 2] (by decide +kernel) rfl
      rw [hQQ]
      exact W.iret (v := l5) hx hb hr (fun t ht hW => ⟨⟨l5, l5, rfl, rfl, ⟨by rw [ht]; exact hP9, hD9⟩⟩, hS.F ht⟩) hS.2.2 dX2_lengthOf_18
    · skip
      have hPc := hP.sub (ws' := [(oC, .inr (2, [.ref o4, .ref o5]))]) [0] rfl
      have hDc := hD.sub (ws' := [(oC, .inr (2, [.ref o4, .ref o5]))]) [0] (by decide +kernel) rfl
      have hFc := va_free (wc := [(oC, .inr (2, [.ref o4, .ref o5]))]) hD hS hA [0] rfl
      refine va_callq (va_runV (As := [.int cd]) (rest := []) ⟨hx, hb, hml, hown, hts⟩ (m_X2_toldCode_n l dC dI cI cS s.heap.size oC o4 o5 cd (by omega) (by omega)) (cwV 1 hts gX2_lengthOf_X2_toldCode rfl rfl rfl (by decide +kernel) ⟨Nat.le_of_ble_eq_true rfl, Nat.le_of_ble_eq_true rfl⟩) ⟨fun a U g mk q => by obtain ⟨q0, q1, qP, qK, qD⟩ := q; exact ⟨q0, q1, qP, va_K.moved (u := U) (U := U.calling g mk a) (Vm.Alike.refl U.vm) qK, qD⟩, va_recv hK hPc (ci := 2) (q0 := 0) rfl rfl, fun U hU hW => ⟨rfl, by rw [hU], by rw [hU]; exact hPc, va_K.moved hW.alike hK, hDc.weaken (fun _ _ _ _ => trivial)⟩⟩ rfl rfl hl.1 rfl (lv_room (Nat.le_of_ble_eq_true rfl)) dX2_lengthOf_2 ⟨Nat.le_of_ble_eq_true rfl, Nat.le_of_ble_eq_true rfl⟩) hS (fun q _ h => hFc q h) hFc (fun r_7 u t H1 locs ht hvm hw hB hz1 hk1 hSn => ?_)
      obtain ⟨hP1, hD1⟩ := hB
      rw [ht] at hP1
      obtain ⟨hPn, hDn⟩ := va_join (wr := [(o4, .inr (10, [.ref a41, .ref a42, .ref a43, .int l4])), (o5, .inr (10, [.ref a51, .ref a52, .ref a53, .int l5]))]) (w1 := [(oC, .inr (2, [.ref o4, .ref o5]))]) hP hD [0] [1, 2] rfl rfl (by decide +kernel) (by decide +kernel) hk1 hFc hP1 hD1
      clear hP hD hS hPc hDc hFc hk1 hz1 hvm ht hP1 hD1
      generalize H1 = H at hPn hSn ⊢
      have hP : va_P (dC, dI) vwCl [(o4, .inr (10, [.ref a41, .ref a42, .ref a43, .int l4])), (o5, .inr (10, [.ref a51, .ref a52, .ref a53, .int l5])), (oC, .inr (2, [.ref o4, .ref o5]))] H := hPn
      have hD : va_D A [(o4, .inr (10, [.ref a41, .ref a42, .ref a43, .int l4])), (o5, .inr (10, [.ref a51, .ref a52, .ref a53, .int l5])), (oC, .inr (2, [.ref o4, .ref o5]))] := hDn
      have hS := hSn
      clear hPn hDn hSn
      obtain rfl := hw
      refine W.eq (g2 := F0 m 5 ls [.null]) rfl ?_
      refine lv_astore_nN (lv' := [(2, .null), (0, .ref oC), (1, .int cd)]) hx hb dX2_lengthOf_5 rfl hl (by decide) rfl (fun ls hl => ?_)
      refine lv_aload_nN hx hb dX2_lengthOf_6 rfl (lv_at hl 0 rfl) ?_
      refine lv_ifnonnullN hx hb dX2_lengthOf_7 ?_
      refine lv_iconst (v := (-1)) hx hb dX2_lengthOf_10 (by decide) ?_
      refine lv_goto (tgt := 18) hx hb dX2_lengthOf_11 (by decide) ?_
      have hP9 := hP.sub (ws' := [(oC, .inr (2, [.ref o4, .ref o5])), (o4, .inr (10, [.ref a41, .ref a42, .ref a43, .int l4])), (o5, .inr (10, [.ref a51, .ref a52, .ref a53, .int l5]))]) [2, 0, 1] rfl
      have hD9 := hD.sub (ws' := [(oC, .inr (2, [.ref o4, .ref o5])), (o4, .inr (10, [.ref a41, .ref a42, .ref a43, .int l4])), (o5, .inr (10, [.ref a51, .ref a52, .ref a53, .int l5]))]) [2, 0, 1] (by decide +kernel) rfl
      rw [hQQ]
      exact W.iret (v := (-1)) hx hb hr (fun t ht hW => ⟨⟨(-1), (-1), rfl, rfl, ⟨by rw [ht]; exact hP9, hD9⟩⟩, hS.F ht⟩) hS.2.2 dX2_lengthOf_18

set_option maxHeartbeats 40000000 in
set_option maxRecDepth 100000 in
theorem m_X2_letterIn (l : Launch) (dC : Nat → ClassId) (dI : Nat → Nat → Nat) (cI cS : ClassId) (sz : Nat) (fd : Int32)  : Met l yX2_letterIn wsX2_letterIn ({ frames := 0, cells := 0, slots := 0, locals := 0 } : Room) (va_Pc [.int fd] (fun U => U.heap.size = sz ∧ va_P (dC, dI) vwCl [] U.heap ∧ va_K (dC, dI) vwCl [(cI, .int), (cS, .short)] U ∧ va_D (fun _ => True) [])) (va_Qi (fun (r : Int32) (u : Int32) => r = u) (fun (r : Int32) t => va_P (dC, dI) vwCl [] t.heap ∧ va_D (va_A [] sz) []) (va_A [] sz)) 0 0 (va_A [] sz) := by
  refine Met.ofW (cc := cX2_letterIn) (maxL := 1) (ret := (some .int)) (by decide) rfl ?_
  intro p e s m args below meth c s₁ B hml hv
  obtain ⟨rfl, hsz, hP, hK, hD0⟩ := hv
  have hx := B.exec
  have hb := B.bytes
  have hr := B.returns
  have hts := atoms_spec (ws := wsX2_letterIn) B.pre
  have hown : s.vm.findClass RX2 = some m.cls := findClass_of_methodNamed B.named
  have hlocks := B.notSynchronized
  subst hsz
  have hD := hD0.self (sz := s.heap.size)
  generalize hAe : va_A [] s.heap.size = A at hD ⊢
  have hA : ∀ q : Nat, s.heap.size ≤ q → A q := fun q h => by rw [← hAe]; exact Or.inr h
  have hS : va_S A s.heap s.heap [] := va_S.rf
  have hP : va_P (dC, dI) vwCl [] s.heap := hP
  have hl := lv_entry ([.int fd]) (n := 1) (Nat.le_of_ble_eq_true rfl)
  rw [lg_entry_eq]
  generalize (lg_sl ([.int fd]) ++ List.replicate (1 - (lg_sl ([.int fd])).length) Slot.unset).toArray = ls at hl ⊢
  have hl : lv_has ls 1 [(0, .int fd)] := hl
  obtain ⟨QQ, hQQ⟩ : ∃ QQ : Array Value → State → Outcome → State → Prop, QQ = va_Qi (fun (r : Int32) (u : Int32) => r = u) (fun (r : Int32) t => va_P (dC, dI) vwCl [] t.heap ∧ va_D A []) A := ⟨_, rfl⟩
  rw [← hQQ]
  refine lv_iload_n hx hb dX2_letterIn_0 rfl (lv_at hl 0 rfl) ?_
  refine lv_iconst (v := 4) hx hb dX2_letterIn_1 (by decide) ?_
  refine lv_ishr hx hb dX2_letterIn_2 ?_
  refine lv_topi (fun x_1 ex_1 => ?_)
  have rv1_0 := v_rng fd
  have tx_1 : x_1.toInt = fd.toInt / 16 := v_shr 4 ex_1 (by decide)
  have hP9 := hP.sub (ws' := []) [] rfl
  have hD9 := hD.sub (ws' := []) [] (by decide +kernel) rfl
  rw [hQQ]
  exact W.iret (v := x_1) hx hb hr (fun t ht hW => ⟨⟨x_1, x_1, rfl, rfl, ⟨by rw [ht]; exact hP9, hD9⟩⟩, hS.F ht⟩) hS.2.2 dX2_letterIn_3

set_option maxHeartbeats 40000000 in
set_option maxRecDepth 100000 in
theorem m_X2_bytesIn (l : Launch) (dC : Nat → ClassId) (dI : Nat → Nat → Nat) (cI cS : ClassId) (sz : Nat) (fd : Int32)  : Met l yX2_bytesIn wsX2_bytesIn ({ frames := 0, cells := 0, slots := 0, locals := 0 } : Room) (va_Pc [.int fd] (fun U => U.heap.size = sz ∧ va_P (dC, dI) vwCl [] U.heap ∧ va_K (dC, dI) vwCl [(cI, .int), (cS, .short)] U ∧ va_D (fun _ => True) [])) (va_Qi (fun (r : Int32) (u : Int32) => r = u) (fun (r : Int32) t => va_P (dC, dI) vwCl [] t.heap ∧ va_D (va_A [] sz) [] ∧ (0 ≤ r.toInt ∧ r.toInt ≤ 15)) (va_A [] sz)) 0 0 (va_A [] sz) := by
  refine Met.ofW (cc := cX2_bytesIn) (maxL := 1) (ret := (some .int)) (by decide) rfl ?_
  intro p e s m args below meth c s₁ B hml hv
  obtain ⟨rfl, hsz, hP, hK, hD0⟩ := hv
  have hx := B.exec
  have hb := B.bytes
  have hr := B.returns
  have hts := atoms_spec (ws := wsX2_bytesIn) B.pre
  have hown : s.vm.findClass RX2 = some m.cls := findClass_of_methodNamed B.named
  have hlocks := B.notSynchronized
  subst hsz
  have hD := hD0.self (sz := s.heap.size)
  generalize hAe : va_A [] s.heap.size = A at hD ⊢
  have hA : ∀ q : Nat, s.heap.size ≤ q → A q := fun q h => by rw [← hAe]; exact Or.inr h
  have hS : va_S A s.heap s.heap [] := va_S.rf
  have hP : va_P (dC, dI) vwCl [] s.heap := hP
  have hl := lv_entry ([.int fd]) (n := 1) (Nat.le_of_ble_eq_true rfl)
  rw [lg_entry_eq]
  generalize (lg_sl ([.int fd]) ++ List.replicate (1 - (lg_sl ([.int fd])).length) Slot.unset).toArray = ls at hl ⊢
  have hl : lv_has ls 1 [(0, .int fd)] := hl
  obtain ⟨QQ, hQQ⟩ : ∃ QQ : Array Value → State → Outcome → State → Prop, QQ = va_Qi (fun (r : Int32) (u : Int32) => r = u) (fun (r : Int32) t => va_P (dC, dI) vwCl [] t.heap ∧ va_D A [] ∧ (0 ≤ r.toInt ∧ r.toInt ≤ 15)) A := ⟨_, rfl⟩
  rw [← hQQ]
  refine lv_iload_n hx hb dX2_bytesIn_0 rfl (lv_at hl 0 rfl) ?_
  refine lv_bipush (v := 15) hx hb dX2_bytesIn_1 (by decide) ?_
  refine lv_iand hx hb dX2_bytesIn_3 ?_
  refine lv_topi (fun x_1 ex_1 => ?_)
  have tx_1 : 0 ≤ x_1.toInt ∧ x_1.toInt < 16 := v_and 4 ex_1 (by decide) (by decide)
  have hP9 := hP.sub (ws' := []) [] rfl
  have hD9 := hD.sub (ws' := []) [] (by decide +kernel) rfl
  rw [hQQ]
  exact W.iret (v := x_1) hx hb hr (fun t ht hW => ⟨⟨x_1, x_1, rfl, rfl, ⟨by rw [ht]; exact hP9, hD9, by omega⟩⟩, hS.F ht⟩) hS.2.2 dX2_bytesIn_4

set_option maxHeartbeats 40000000 in
set_option maxRecDepth 100000 in
theorem m_X2_found (l : Launch) (dC : Nat → ClassId) (dI : Nat → Nat → Nat) (cI cS : ClassId) (sz : Nat) (le : Int32) (by_ : Int32)  : Met l yX2_found wsX2_found ({ frames := 0, cells := 0, slots := 0, locals := 0 } : Room) (va_Pc [.int le, .int by_] (fun U => U.heap.size = sz ∧ va_P (dC, dI) vwCl [] U.heap ∧ va_K (dC, dI) vwCl [(cI, .int), (cS, .short)] U ∧ va_D (fun _ => True) [])) (va_Qi (fun (r : Int32) (u : Int32) => r = u) (fun (r : Int32) t => va_P (dC, dI) vwCl [] t.heap ∧ va_D (va_A [] sz) []) (va_A [] sz)) 0 0 (va_A [] sz) := by
  refine Met.ofW (cc := cX2_found) (maxL := 2) (ret := (some .int)) (by decide) rfl ?_
  intro p e s m args below meth c s₁ B hml hv
  obtain ⟨rfl, hsz, hP, hK, hD0⟩ := hv
  have hx := B.exec
  have hb := B.bytes
  have hr := B.returns
  have hts := atoms_spec (ws := wsX2_found) B.pre
  have hown : s.vm.findClass RX2 = some m.cls := findClass_of_methodNamed B.named
  have hlocks := B.notSynchronized
  subst hsz
  have hD := hD0.self (sz := s.heap.size)
  generalize hAe : va_A [] s.heap.size = A at hD ⊢
  have hA : ∀ q : Nat, s.heap.size ≤ q → A q := fun q h => by rw [← hAe]; exact Or.inr h
  have hS : va_S A s.heap s.heap [] := va_S.rf
  have hP : va_P (dC, dI) vwCl [] s.heap := hP
  have hl := lv_entry ([.int le, .int by_]) (n := 2) (Nat.le_of_ble_eq_true rfl)
  rw [lg_entry_eq]
  generalize (lg_sl ([.int le, .int by_]) ++ List.replicate (2 - (lg_sl ([.int le, .int by_])).length) Slot.unset).toArray = ls at hl ⊢
  have hl : lv_has ls 2 [(0, .int le), (1, .int by_)] := hl
  obtain ⟨QQ, hQQ⟩ : ∃ QQ : Array Value → State → Outcome → State → Prop, QQ = va_Qi (fun (r : Int32) (u : Int32) => r = u) (fun (r : Int32) t => va_P (dC, dI) vwCl [] t.heap ∧ va_D A []) A := ⟨_, rfl⟩
  rw [← hQQ]
  refine lv_iload_n hx hb dX2_found_0 rfl (lv_at hl 0 rfl) ?_
  refine lv_iconst (v := (-1)) hx hb dX2_found_1 (by decide) ?_
  refine lv_icmp_ne (tgt := 9) hx hb dX2_found_2 (by decide) (fun c_1 => ?_) (fun c_1 => ?_)
  · have tc_1 : ¬ le.toInt = (-1) := v_ne c_1
    refine lv_iload_n hx hb dX2_found_9 rfl (lv_at hl 0 rfl) ?_
    refine lv_iconst (v := 4) hx hb dX2_found_10 (by decide) ?_
    refine lv_ishl hx hb dX2_found_11 ?_
    refine lv_topi (fun x_2 ex_2 => ?_)
    refine lv_iload_n hx hb dX2_found_12 rfl (lv_at hl 1 rfl) ?_
    refine lv_iadd hx hb dX2_found_13 ?_
    refine lv_topi (fun x_3 ex_3 => ?_)
    have rv3_0 := v_rng x_2
    have rv3_1 := v_rng by_
    have hP9 := hP.sub (ws' := []) [] rfl
    have hD9 := hD.sub (ws' := []) [] (by decide +kernel) rfl
    rw [hQQ]
    exact W.iret (v := x_3) hx hb hr (fun t ht hW => ⟨⟨x_3, x_3, rfl, rfl, ⟨by rw [ht]; exact hP9, hD9⟩⟩, hS.F ht⟩) hS.2.2 dX2_found_14
  · have tc_1 : le.toInt = (-1) := v_eq c_1
    refine lv_iconst (v := (-1)) hx hb dX2_found_5 (by decide) ?_
    refine lv_goto (tgt := 14) hx hb dX2_found_6 (by decide) ?_
    have hP9 := hP.sub (ws' := []) [] rfl
    have hD9 := hD.sub (ws' := []) [] (by decide +kernel) rfl
    rw [hQQ]
    exact W.iret (v := (-1)) hx hb hr (fun t ht hW => ⟨⟨(-1), (-1), rfl, rfl, ⟨by rw [ht]; exact hP9, hD9⟩⟩, hS.F ht⟩) hS.2.2 dX2_found_14

set_option maxHeartbeats 40000000 in
set_option maxRecDepth 100000 in
theorem m_X2_letterAlone (l : Launch) (dC : Nat → ClassId) (dI : Nat → Nat → Nat) (cI cS : ClassId) (sz : Nat) (oC : Nat) (o4 : Nat) (o5 : Nat) (a41 : Nat) (a42 : Nat) (a43 : Nat) (a51 : Nat) (a52 : Nat) (a53 : Nat) (l4 : Int32) (f41 : Nat → Int32) (l5 : Int32) (f51 : Nat → Int32) (cd : Int32) (v : Int32)  : Met l yX2_letterAlone wsX2_letterAlone ({ frames := 1, cells := 0, slots := 0, locals := 21 } : Room) (va_Pc [.ref oC, .int cd, .int v] (fun U => U.heap.size = sz ∧ va_P (dC, dI) vwCl [(oC, .inr (2, [.ref o4, .ref o5])), (o4, .inr (10, [.ref a41, .ref a42, .ref a43, .int l4])), (a41, .inl (cI, 256, .inl f41)), (o5, .inr (10, [.ref a51, .ref a52, .ref a53, .int l5])), (a51, .inl (cI, 256, .inl f51))] U.heap ∧ va_K (dC, dI) vwCl [(cI, .int), (cS, .short)] U ∧ va_D (fun _ => True) [(oC, .inr (2, [.ref o4, .ref o5])), (o4, .inr (10, [.ref a41, .ref a42, .ref a43, .int l4])), (a41, .inl (cI, 256, .inl f41)), (o5, .inr (10, [.ref a51, .ref a52, .ref a53, .int l5])), (a51, .inl (cI, 256, .inl f51))])) (va_Qi (fun (r : Int32) (u : Int32) => r = u) (fun (r : Int32) t => va_P (dC, dI) vwCl [(oC, .inr (2, [.ref o4, .ref o5])), (o4, .inr (10, [.ref a41, .ref a42, .ref a43, .int l4])), (a41, .inl (cI, 256, .inl f41)), (o5, .inr (10, [.ref a51, .ref a52, .ref a53, .int l5])), (a51, .inl (cI, 256, .inl f51))] t.heap ∧ va_D (va_A [(oC, .inr (2, [.ref o4, .ref o5])), (o4, .inr (10, [.ref a41, .ref a42, .ref a43, .int l4])), (a41, .inl (cI, 256, .inl f41)), (o5, .inr (10, [.ref a51, .ref a52, .ref a53, .int l5])), (a51, .inl (cI, 256, .inl f51))] sz) [(oC, .inr (2, [.ref o4, .ref o5])), (o4, .inr (10, [.ref a41, .ref a42, .ref a43, .int l4])), (a41, .inl (cI, 256, .inl f41)), (o5, .inr (10, [.ref a51, .ref a52, .ref a53, .int l5])), (a51, .inl (cI, 256, .inl f51))]) (va_A [(oC, .inr (2, [.ref o4, .ref o5])), (o4, .inr (10, [.ref a41, .ref a42, .ref a43, .int l4])), (a41, .inl (cI, 256, .inl f41)), (o5, .inr (10, [.ref a51, .ref a52, .ref a53, .int l5])), (a51, .inl (cI, 256, .inl f51))] sz)) 0 0 (va_A [(oC, .inr (2, [.ref o4, .ref o5])), (o4, .inr (10, [.ref a41, .ref a42, .ref a43, .int l4])), (a41, .inl (cI, 256, .inl f41)), (o5, .inr (10, [.ref a51, .ref a52, .ref a53, .int l5])), (a51, .inl (cI, 256, .inl f51))] sz) := by
  refine Met.ofW (cc := cX2_letterAlone) (maxL := 4) (ret := (some .int)) (by decide) rfl ?_
  intro p e s m args below meth c s₁ B hml hv
  obtain ⟨rfl, hsz, hP, hK, hD0⟩ := hv
  have hx := B.exec
  have hb := B.bytes
  have hr := B.returns
  have hts := atoms_spec (ws := wsX2_letterAlone) B.pre
  have hown : s.vm.findClass RX2 = some m.cls := findClass_of_methodNamed B.named
  have hlocks := B.notSynchronized
  subst hsz
  have hD := hD0.self (sz := s.heap.size)
  generalize hAe : va_A [(oC, .inr (2, [.ref o4, .ref o5])), (o4, .inr (10, [.ref a41, .ref a42, .ref a43, .int l4])), (a41, .inl (cI, 256, .inl f41)), (o5, .inr (10, [.ref a51, .ref a52, .ref a53, .int l5])), (a51, .inl (cI, 256, .inl f51))] s.heap.size = A at hD ⊢
  have hA : ∀ q : Nat, s.heap.size ≤ q → A q := fun q h => by rw [← hAe]; exact Or.inr h
  have hS : va_S A s.heap s.heap [] := va_S.rf
  have hP : va_P (dC, dI) vwCl [(oC, .inr (2, [.ref o4, .ref o5])), (o4, .inr (10, [.ref a41, .ref a42, .ref a43, .int l4])), (a41, .inl (cI, 256, .inl f41)), (o5, .inr (10, [.ref a51, .ref a52, .ref a53, .int l5])), (a51, .inl (cI, 256, .inl f51))] s.heap := hP
  have hl := lv_entry ([.ref oC, .int cd, .int v]) (n := 4) (Nat.le_of_ble_eq_true rfl)
  rw [lg_entry_eq]
  generalize (lg_sl ([.ref oC, .int cd, .int v]) ++ List.replicate (4 - (lg_sl ([.ref oC, .int cd, .int v])).length) Slot.unset).toArray = ls at hl ⊢
  have hl : lv_has ls 4 [(0, .ref oC), (1, .int cd), (2, .int v)] := hl
  obtain ⟨QQ, hQQ⟩ : ∃ QQ : Array Value → State → Outcome → State → Prop, QQ = va_Qi (fun (r : Int32) (u : Int32) => r = u) (fun (r : Int32) t => va_P (dC, dI) vwCl [(oC, .inr (2, [.ref o4, .ref o5])), (o4, .inr (10, [.ref a41, .ref a42, .ref a43, .int l4])), (a41, .inl (cI, 256, .inl f41)), (o5, .inr (10, [.ref a51, .ref a52, .ref a53, .int l5])), (a51, .inl (cI, 256, .inl f51))] t.heap ∧ va_D A [(oC, .inr (2, [.ref o4, .ref o5])), (o4, .inr (10, [.ref a41, .ref a42, .ref a43, .int l4])), (a41, .inl (cI, 256, .inl f41)), (o5, .inr (10, [.ref a51, .ref a52, .ref a53, .int l5])), (a51, .inl (cI, 256, .inl f51))]) A := ⟨_, rfl⟩
  rw [← hQQ]
  refine lv_iload_n hx hb dX2_letterAlone_0 rfl (lv_at hl 1 rfl) ?_
  by_cases c_1 : cd = 0
  · refine lv_tableIn (tgt := 32) hx hb dX2_letterAlone_1 (by rw [c_1]; decide) (by rw [c_1]; decide) (by rw [c_1]; rfl) (by decide) ?_
    have tc_1 : cd.toInt = 0 := v_eq c_1
    refine lv_iload_n hx hb dX2_letterAlone_32 rfl (lv_at hl 2 rfl) ?_
    refine lv_sipush (v := 128) hx hb dX2_letterAlone_33 (by decide) ?_
    refine lv_icmp_ge (tgt := 43) hx hb dX2_letterAlone_36 (by decide) (fun c_2 => ?_) (fun c_2 => ?_)
    · have tc_2 : 128 ≤ v.toInt := v_le c_2
      refine lv_iconst (v := (-1)) hx hb dX2_letterAlone_43 (by decide) ?_
      have hP9 := hP.sub (ws' := [(oC, .inr (2, [.ref o4, .ref o5])), (o4, .inr (10, [.ref a41, .ref a42, .ref a43, .int l4])), (a41, .inl (cI, 256, .inl f41)), (o5, .inr (10, [.ref a51, .ref a52, .ref a53, .int l5])), (a51, .inl (cI, 256, .inl f51))]) [0, 1, 2, 3, 4] rfl
      have hD9 := hD.sub (ws' := [(oC, .inr (2, [.ref o4, .ref o5])), (o4, .inr (10, [.ref a41, .ref a42, .ref a43, .int l4])), (a41, .inl (cI, 256, .inl f41)), (o5, .inr (10, [.ref a51, .ref a52, .ref a53, .int l5])), (a51, .inl (cI, 256, .inl f51))]) [0, 1, 2, 3, 4] (by decide +kernel) rfl
      rw [hQQ]
      exact W.iret (v := (-1)) hx hb hr (fun t ht hW => ⟨⟨(-1), (-1), rfl, rfl, ⟨by rw [ht]; exact hP9, hD9⟩⟩, hS.F ht⟩) hS.2.2 dX2_letterAlone_44
    · have tc_2 : v.toInt < 128 := v_nle c_2
      refine lv_iload_n hx hb dX2_letterAlone_39 rfl (lv_at hl 2 rfl) ?_
      refine lv_goto (tgt := 44) hx hb dX2_letterAlone_40 (by decide) ?_
      have hP9 := hP.sub (ws' := [(oC, .inr (2, [.ref o4, .ref o5])), (o4, .inr (10, [.ref a41, .ref a42, .ref a43, .int l4])), (a41, .inl (cI, 256, .inl f41)), (o5, .inr (10, [.ref a51, .ref a52, .ref a53, .int l5])), (a51, .inl (cI, 256, .inl f51))]) [0, 1, 2, 3, 4] rfl
      have hD9 := hD.sub (ws' := [(oC, .inr (2, [.ref o4, .ref o5])), (o4, .inr (10, [.ref a41, .ref a42, .ref a43, .int l4])), (a41, .inl (cI, 256, .inl f41)), (o5, .inr (10, [.ref a51, .ref a52, .ref a53, .int l5])), (a51, .inl (cI, 256, .inl f51))]) [0, 1, 2, 3, 4] (by decide +kernel) rfl
      rw [hQQ]
      exact W.iret (v := v) hx hb hr (fun t ht hW => ⟨⟨v, v, rfl, rfl, ⟨by rw [ht]; exact hP9, hD9⟩⟩, hS.F ht⟩) hS.2.2 dX2_letterAlone_44
  · skip
    have tc_1 : ¬ cd.toInt = 0 := v_ne c_1
    by_cases c_3 : cd = 1
    · refine lv_tableIn (tgt := 45) hx hb dX2_letterAlone_1 (by rw [c_3]; decide) (by rw [c_3]; decide) (by rw [c_3]; rfl) (by decide) ?_
      have tc_3 : cd.toInt = 1 := v_eq c_3
      refine lv_iload_n hx hb dX2_letterAlone_45 rfl (lv_at hl 2 rfl) ?_
      have hP9 := hP.sub (ws' := [(oC, .inr (2, [.ref o4, .ref o5])), (o4, .inr (10, [.ref a41, .ref a42, .ref a43, .int l4])), (a41, .inl (cI, 256, .inl f41)), (o5, .inr (10, [.ref a51, .ref a52, .ref a53, .int l5])), (a51, .inl (cI, 256, .inl f51))]) [0, 1, 2, 3, 4] rfl
      have hD9 := hD.sub (ws' := [(oC, .inr (2, [.ref o4, .ref o5])), (o4, .inr (10, [.ref a41, .ref a42, .ref a43, .int l4])), (a41, .inl (cI, 256, .inl f41)), (o5, .inr (10, [.ref a51, .ref a52, .ref a53, .int l5])), (a51, .inl (cI, 256, .inl f51))]) [0, 1, 2, 3, 4] (by decide +kernel) rfl
      rw [hQQ]
      exact W.iret (v := v) hx hb hr (fun t ht hW => ⟨⟨v, v, rfl, rfl, ⟨by rw [ht]; exact hP9, hD9⟩⟩, hS.F ht⟩) hS.2.2 dX2_letterAlone_46
    · skip
      have tc_3 : ¬ cd.toInt = 1 := v_ne c_3
      by_cases c_4 : cd = 2
      · refine lv_tableIn (tgt := 32) hx hb dX2_letterAlone_1 (by rw [c_4]; decide) (by rw [c_4]; decide) (by rw [c_4]; rfl) (by decide) ?_
        have tc_4 : cd.toInt = 2 := v_eq c_4
        refine lv_iload_n hx hb dX2_letterAlone_32 rfl (lv_at hl 2 rfl) ?_
        refine lv_sipush (v := 128) hx hb dX2_letterAlone_33 (by decide) ?_
        refine lv_icmp_ge (tgt := 43) hx hb dX2_letterAlone_36 (by decide) (fun c_5 => ?_) (fun c_5 => ?_)
        · have tc_5 : 128 ≤ v.toInt := v_le c_5
          refine lv_iconst (v := (-1)) hx hb dX2_letterAlone_43 (by decide) ?_
          have hP9 := hP.sub (ws' := [(oC, .inr (2, [.ref o4, .ref o5])), (o4, .inr (10, [.ref a41, .ref a42, .ref a43, .int l4])), (a41, .inl (cI, 256, .inl f41)), (o5, .inr (10, [.ref a51, .ref a52, .ref a53, .int l5])), (a51, .inl (cI, 256, .inl f51))]) [0, 1, 2, 3, 4] rfl
          have hD9 := hD.sub (ws' := [(oC, .inr (2, [.ref o4, .ref o5])), (o4, .inr (10, [.ref a41, .ref a42, .ref a43, .int l4])), (a41, .inl (cI, 256, .inl f41)), (o5, .inr (10, [.ref a51, .ref a52, .ref a53, .int l5])), (a51, .inl (cI, 256, .inl f51))]) [0, 1, 2, 3, 4] (by decide +kernel) rfl
          rw [hQQ]
          exact W.iret (v := (-1)) hx hb hr (fun t ht hW => ⟨⟨(-1), (-1), rfl, rfl, ⟨by rw [ht]; exact hP9, hD9⟩⟩, hS.F ht⟩) hS.2.2 dX2_letterAlone_44
        · have tc_5 : v.toInt < 128 := v_nle c_5
          refine lv_iload_n hx hb dX2_letterAlone_39 rfl (lv_at hl 2 rfl) ?_
          refine lv_goto (tgt := 44) hx hb dX2_letterAlone_40 (by decide) ?_
          have hP9 := hP.sub (ws' := [(oC, .inr (2, [.ref o4, .ref o5])), (o4, .inr (10, [.ref a41, .ref a42, .ref a43, .int l4])), (a41, .inl (cI, 256, .inl f41)), (o5, .inr (10, [.ref a51, .ref a52, .ref a53, .int l5])), (a51, .inl (cI, 256, .inl f51))]) [0, 1, 2, 3, 4] rfl
          have hD9 := hD.sub (ws' := [(oC, .inr (2, [.ref o4, .ref o5])), (o4, .inr (10, [.ref a41, .ref a42, .ref a43, .int l4])), (a41, .inl (cI, 256, .inl f41)), (o5, .inr (10, [.ref a51, .ref a52, .ref a53, .int l5])), (a51, .inl (cI, 256, .inl f51))]) [0, 1, 2, 3, 4] (by decide +kernel) rfl
          rw [hQQ]
          exact W.iret (v := v) hx hb hr (fun t ht hW => ⟨⟨v, v, rfl, rfl, ⟨by rw [ht]; exact hP9, hD9⟩⟩, hS.F ht⟩) hS.2.2 dX2_letterAlone_44
      · skip
        have tc_4 : ¬ cd.toInt = 2 := v_ne c_4
        by_cases c_6 : cd = 3
        · refine lv_tableIn (tgt := 47) hx hb dX2_letterAlone_1 (by rw [c_6]; decide) (by rw [c_6]; decide) (by rw [c_6]; rfl) (by decide) ?_
          have tc_6 : cd.toInt = 3 := v_eq c_6
          refine lv_iload_n hx hb dX2_letterAlone_47 rfl (lv_at hl 2 rfl) ?_
          refine lv_sipush (v := 128) hx hb dX2_letterAlone_48 (by decide) ?_
          refine lv_icmp_ge (tgt := 64) hx hb dX2_letterAlone_51 (by decide) (fun c_7 => ?_) (fun c_7 => ?_)
          · have tc_7 : 128 ≤ v.toInt := v_le c_7
            refine lv_iconst (v := (-1)) hx hb dX2_letterAlone_64 (by decide) ?_
            have hP9 := hP.sub (ws' := [(oC, .inr (2, [.ref o4, .ref o5])), (o4, .inr (10, [.ref a41, .ref a42, .ref a43, .int l4])), (a41, .inl (cI, 256, .inl f41)), (o5, .inr (10, [.ref a51, .ref a52, .ref a53, .int l5])), (a51, .inl (cI, 256, .inl f51))]) [0, 1, 2, 3, 4] rfl
            have hD9 := hD.sub (ws' := [(oC, .inr (2, [.ref o4, .ref o5])), (o4, .inr (10, [.ref a41, .ref a42, .ref a43, .int l4])), (a41, .inl (cI, 256, .inl f41)), (o5, .inr (10, [.ref a51, .ref a52, .ref a53, .int l5])), (a51, .inl (cI, 256, .inl f51))]) [0, 1, 2, 3, 4] (by decide +kernel) rfl
            rw [hQQ]
            exact W.iret (v := (-1)) hx hb hr (fun t ht hW => ⟨⟨(-1), (-1), rfl, rfl, ⟨by rw [ht]; exact hP9, hD9⟩⟩, hS.F ht⟩) hS.2.2 dX2_letterAlone_65
          · have tc_7 : v.toInt < 128 := v_nle c_7
            refine lv_iload_n hx hb dX2_letterAlone_54 rfl (lv_at hl 2 rfl) ?_
            refine lv_bipush (v := 38) hx hb dX2_letterAlone_55 (by decide) ?_
            refine lv_icmp_eq (tgt := 64) hx hb dX2_letterAlone_57 (by decide) (fun c_8 => ?_) (fun c_8 => ?_)
            · have tc_8 : v.toInt = 38 := v_eq c_8
              refine lv_iconst (v := (-1)) hx hb dX2_letterAlone_64 (by decide) ?_
              have hP9 := hP.sub (ws' := [(oC, .inr (2, [.ref o4, .ref o5])), (o4, .inr (10, [.ref a41, .ref a42, .ref a43, .int l4])), (a41, .inl (cI, 256, .inl f41)), (o5, .inr (10, [.ref a51, .ref a52, .ref a53, .int l5])), (a51, .inl (cI, 256, .inl f51))]) [0, 1, 2, 3, 4] rfl
              have hD9 := hD.sub (ws' := [(oC, .inr (2, [.ref o4, .ref o5])), (o4, .inr (10, [.ref a41, .ref a42, .ref a43, .int l4])), (a41, .inl (cI, 256, .inl f41)), (o5, .inr (10, [.ref a51, .ref a52, .ref a53, .int l5])), (a51, .inl (cI, 256, .inl f51))]) [0, 1, 2, 3, 4] (by decide +kernel) rfl
              rw [hQQ]
              exact W.iret (v := (-1)) hx hb hr (fun t ht hW => ⟨⟨(-1), (-1), rfl, rfl, ⟨by rw [ht]; exact hP9, hD9⟩⟩, hS.F ht⟩) hS.2.2 dX2_letterAlone_65
            · have tc_8 : ¬ v.toInt = 38 := v_ne c_8
              refine lv_iload_n hx hb dX2_letterAlone_60 rfl (lv_at hl 2 rfl) ?_
              refine lv_goto (tgt := 65) hx hb dX2_letterAlone_61 (by decide) ?_
              have hP9 := hP.sub (ws' := [(oC, .inr (2, [.ref o4, .ref o5])), (o4, .inr (10, [.ref a41, .ref a42, .ref a43, .int l4])), (a41, .inl (cI, 256, .inl f41)), (o5, .inr (10, [.ref a51, .ref a52, .ref a53, .int l5])), (a51, .inl (cI, 256, .inl f51))]) [0, 1, 2, 3, 4] rfl
              have hD9 := hD.sub (ws' := [(oC, .inr (2, [.ref o4, .ref o5])), (o4, .inr (10, [.ref a41, .ref a42, .ref a43, .int l4])), (a41, .inl (cI, 256, .inl f41)), (o5, .inr (10, [.ref a51, .ref a52, .ref a53, .int l5])), (a51, .inl (cI, 256, .inl f51))]) [0, 1, 2, 3, 4] (by decide +kernel) rfl
              rw [hQQ]
              exact W.iret (v := v) hx hb hr (fun t ht hW => ⟨⟨v, v, rfl, rfl, ⟨by rw [ht]; exact hP9, hD9⟩⟩, hS.F ht⟩) hS.2.2 dX2_letterAlone_65
        · skip
          have tc_6 : ¬ cd.toInt = 3 := v_ne c_6
          refine lv_tableOut (tgt := 66) hx hb dX2_letterAlone_1 (by omega) (by decide) ?_
          refine lv_aload_n hx hb dX2_letterAlone_66 rfl (lv_at hl 0 rfl) ?_
          refine lv_iload_n hx hb dX2_letterAlone_67 rfl (lv_at hl 1 rfl) ?_
          by_cases cs_9 : cd.toInt = 4
          · have hPc := hP.sub (ws' := [(oC, .inr (2, [.ref o4, .ref o5]))]) [0] rfl
            have hDc := hD.sub (ws' := [(oC, .inr (2, [.ref o4, .ref o5]))]) [0] (by decide +kernel) rfl
            have hFc := va_free (wc := [(oC, .inr (2, [.ref o4, .ref o5]))]) hD hS hA [0] rfl
            refine va_callr (va_runV (As := [.int cd]) (rest := []) ⟨hx, hb, hml, hown, hts⟩ (m_X2_toldCode_4 l dC dI cI cS s.heap.size oC o4 o5 cd (by omega)) (cwV 1 hts gX2_letterAlone_X2_toldCode rfl rfl rfl (by decide +kernel) ⟨Nat.le_of_ble_eq_true rfl, Nat.le_of_ble_eq_true rfl⟩) ⟨fun a U g mk q => by obtain ⟨q0, q1, qP, qK, qD⟩ := q; exact ⟨q0, q1, qP, va_K.moved (u := U) (U := U.calling g mk a) (Vm.Alike.refl U.vm) qK, qD⟩, va_recv hK hPc (ci := 2) (q0 := 0) rfl rfl, fun U hU hW => ⟨rfl, by rw [hU], by rw [hU]; exact hPc, va_K.moved hW.alike hK, hDc.weaken (fun _ _ _ _ => trivial)⟩⟩ rfl rfl hl.1 rfl (lv_room (Nat.le_of_ble_eq_true rfl)) dX2_letterAlone_68 ⟨Nat.le_of_ble_eq_true rfl, Nat.le_of_ble_eq_true rfl⟩) hS (fun q _ h => hFc q h) hFc (fun u r_10 t H1 locs ht hvm hw hB hz1 hk1 hSn => ?_)
            obtain ⟨hra, hP1, hD1⟩ := hB
            rw [hra]
            rw [ht] at hP1
            obtain ⟨hPn, hDn⟩ := va_join (wr := [(o4, .inr (10, [.ref a41, .ref a42, .ref a43, .int l4])), (a41, .inl (cI, 256, .inl f41)), (o5, .inr (10, [.ref a51, .ref a52, .ref a53, .int l5])), (a51, .inl (cI, 256, .inl f51))]) (w1 := [(oC, .inr (2, [.ref o4, .ref o5]))]) hP hD [0] [1, 2, 3, 4] rfl rfl (by decide +kernel) (by decide +kernel) hk1 hFc hP1 hD1
            clear hP hD hS hPc hDc hFc hk1 hz1 hvm ht hP1 hD1
            generalize H1 = H at hPn hSn ⊢
            have hP : va_P (dC, dI) vwCl [(o4, .inr (10, [.ref a41, .ref a42, .ref a43, .int l4])), (a41, .inl (cI, 256, .inl f41)), (o5, .inr (10, [.ref a51, .ref a52, .ref a53, .int l5])), (a51, .inl (cI, 256, .inl f51)), (oC, .inr (2, [.ref o4, .ref o5]))] H := hPn
            have hD : va_D A [(o4, .inr (10, [.ref a41, .ref a42, .ref a43, .int l4])), (a41, .inl (cI, 256, .inl f41)), (o5, .inr (10, [.ref a51, .ref a52, .ref a53, .int l5])), (a51, .inl (cI, 256, .inl f51)), (oC, .inr (2, [.ref o4, .ref o5]))] := hDn
            have hS := hSn
            clear hPn hDn hSn
            refine lv_astore_n (lv' := [(3, .ref o4), (0, .ref oC), (1, .int cd), (2, .int v)]) hx hb dX2_letterAlone_71 rfl hl (by decide) rfl (fun ls hl => ?_)
            refine lv_aload_n hx hb dX2_letterAlone_72 rfl (lv_at hl 0 rfl) ?_
            refine lv_ifnonnull (tgt := 80) hx hb dX2_letterAlone_73 (by decide) ?_
            refine lv_aload_n hx hb dX2_letterAlone_80 rfl (lv_at hl 0 rfl) ?_
            refine lv_iload_n hx hb dX2_letterAlone_81 rfl (lv_at hl 3 rfl) ?_
            have hPc := hP.sub (ws' := [(o4, .inr (10, [.ref a41, .ref a42, .ref a43, .int l4])), (a41, .inl (cI, 256, .inl f41))]) [0, 1] rfl
            have hDc := hD.sub (ws' := [(o4, .inr (10, [.ref a41, .ref a42, .ref a43, .int l4])), (a41, .inl (cI, 256, .inl f41))]) [0, 1] (by decide +kernel) rfl
            have hFc := va_free (wc := [(o4, .inr (10, [.ref a41, .ref a42, .ref a43, .int l4])), (a41, .inl (cI, 256, .inl f41))]) hD hS hA [0, 1] rfl
            refine va_calli (va_runV (As := [.int v]) (rest := []) ⟨hx, hb, hml, hown, hts⟩ (m_X10_letterFor l dC dI cI cS H.size o4 a41 a42 a43 l4 f41 v ) (cwV 1 hts gX2_letterAlone_X10_letterFor rfl rfl rfl (by decide +kernel) ⟨Nat.le_of_ble_eq_true rfl, Nat.le_of_ble_eq_true rfl⟩) ⟨fun a U g mk q => by obtain ⟨q0, q1, qP, qK, qD⟩ := q; exact ⟨q0, q1, qP, va_K.moved (u := U) (U := U.calling g mk a) (Vm.Alike.refl U.vm) qK, qD⟩, va_recv hK hPc (ci := 10) (q0 := 0) rfl rfl, fun U hU hW => ⟨rfl, by rw [hU], by rw [hU]; exact hPc, va_K.moved hW.alike hK, hDc.weaken (fun _ _ _ _ => trivial)⟩⟩ rfl rfl hl.1 rfl (lv_room (Nat.le_of_ble_eq_true rfl)) dX2_letterAlone_82 ⟨Nat.le_of_ble_eq_true rfl, Nat.le_of_ble_eq_true rfl⟩) hS (fun q _ h => hFc q h) hFc (fun r_11 u t H1 locs ht hvm hw hB hz1 hk1 hSn => ?_)
            subst hw
            obtain ⟨hP1, hD1, hf11_0⟩ := hB
            rw [ht] at hP1
            obtain ⟨hPn, hDn⟩ := va_join (wr := [(o5, .inr (10, [.ref a51, .ref a52, .ref a53, .int l5])), (a51, .inl (cI, 256, .inl f51)), (oC, .inr (2, [.ref o4, .ref o5]))]) (w1 := [(o4, .inr (10, [.ref a41, .ref a42, .ref a43, .int l4])), (a41, .inl (cI, 256, .inl f41))]) hP hD [0, 1] [2, 3, 4] rfl rfl (by decide +kernel) (by decide +kernel) hk1 hFc hP1 hD1
            clear hP hD hS hPc hDc hFc hk1 hz1 hvm ht hP1 hD1
            generalize H1 = H at hPn hSn ⊢
            have hP : va_P (dC, dI) vwCl [(o5, .inr (10, [.ref a51, .ref a52, .ref a53, .int l5])), (a51, .inl (cI, 256, .inl f51)), (oC, .inr (2, [.ref o4, .ref o5])), (o4, .inr (10, [.ref a41, .ref a42, .ref a43, .int l4])), (a41, .inl (cI, 256, .inl f41))] H := hPn
            have hD : va_D A [(o5, .inr (10, [.ref a51, .ref a52, .ref a53, .int l5])), (a51, .inl (cI, 256, .inl f51)), (oC, .inr (2, [.ref o4, .ref o5])), (o4, .inr (10, [.ref a41, .ref a42, .ref a43, .int l4])), (a41, .inl (cI, 256, .inl f41))] := hDn
            have hS := hSn
            clear hPn hDn hSn
            have hP9 := hP.sub (ws' := [(oC, .inr (2, [.ref o4, .ref o5])), (o4, .inr (10, [.ref a41, .ref a42, .ref a43, .int l4])), (a41, .inl (cI, 256, .inl f41)), (o5, .inr (10, [.ref a51, .ref a52, .ref a53, .int l5])), (a51, .inl (cI, 256, .inl f51))]) [2, 3, 4, 0, 1] rfl
            have hD9 := hD.sub (ws' := [(oC, .inr (2, [.ref o4, .ref o5])), (o4, .inr (10, [.ref a41, .ref a42, .ref a43, .int l4])), (a41, .inl (cI, 256, .inl f41)), (o5, .inr (10, [.ref a51, .ref a52, .ref a53, .int l5])), (a51, .inl (cI, 256, .inl f51))]) [2, 3, 4, 0, 1] (by decide +kernel) rfl
            rw [hQQ]
            exact W.iret (v := r_11) hx hb hr (fun t ht hW => ⟨⟨r_11, r_11, rfl, rfl, ⟨by rw [ht]; exact hP9, hD9⟩⟩, hS.F ht⟩) hS.2.2 dX2_letterAlone_85
          · skip
            by_cases cs_12 : cd.toInt = 5
            · have hPc := hP.sub (ws' := [(oC, .inr (2, [.ref o4, .ref o5]))]) [0] rfl
              have hDc := hD.sub (ws' := [(oC, .inr (2, [.ref o4, .ref o5]))]) [0] (by decide +kernel) rfl
              have hFc := va_free (wc := [(oC, .inr (2, [.ref o4, .ref o5]))]) hD hS hA [0] rfl
              refine va_callr (va_runV (As := [.int cd]) (rest := []) ⟨hx, hb, hml, hown, hts⟩ (m_X2_toldCode_5 l dC dI cI cS s.heap.size oC o4 o5 cd (by omega)) (cwV 1 hts gX2_letterAlone_X2_toldCode rfl rfl rfl (by decide +kernel) ⟨Nat.le_of_ble_eq_true rfl, Nat.le_of_ble_eq_true rfl⟩) ⟨fun a U g mk q => by obtain ⟨q0, q1, qP, qK, qD⟩ := q; exact ⟨q0, q1, qP, va_K.moved (u := U) (U := U.calling g mk a) (Vm.Alike.refl U.vm) qK, qD⟩, va_recv hK hPc (ci := 2) (q0 := 0) rfl rfl, fun U hU hW => ⟨rfl, by rw [hU], by rw [hU]; exact hPc, va_K.moved hW.alike hK, hDc.weaken (fun _ _ _ _ => trivial)⟩⟩ rfl rfl hl.1 rfl (lv_room (Nat.le_of_ble_eq_true rfl)) dX2_letterAlone_68 ⟨Nat.le_of_ble_eq_true rfl, Nat.le_of_ble_eq_true rfl⟩) hS (fun q _ h => hFc q h) hFc (fun u r_13 t H1 locs ht hvm hw hB hz1 hk1 hSn => ?_)
              obtain ⟨hra, hP1, hD1⟩ := hB
              rw [hra]
              rw [ht] at hP1
              obtain ⟨hPn, hDn⟩ := va_join (wr := [(o4, .inr (10, [.ref a41, .ref a42, .ref a43, .int l4])), (a41, .inl (cI, 256, .inl f41)), (o5, .inr (10, [.ref a51, .ref a52, .ref a53, .int l5])), (a51, .inl (cI, 256, .inl f51))]) (w1 := [(oC, .inr (2, [.ref o4, .ref o5]))]) hP hD [0] [1, 2, 3, 4] rfl rfl (by decide +kernel) (by decide +kernel) hk1 hFc hP1 hD1
              clear hP hD hS hPc hDc hFc hk1 hz1 hvm ht hP1 hD1
              generalize H1 = H at hPn hSn ⊢
              have hP : va_P (dC, dI) vwCl [(o4, .inr (10, [.ref a41, .ref a42, .ref a43, .int l4])), (a41, .inl (cI, 256, .inl f41)), (o5, .inr (10, [.ref a51, .ref a52, .ref a53, .int l5])), (a51, .inl (cI, 256, .inl f51)), (oC, .inr (2, [.ref o4, .ref o5]))] H := hPn
              have hD : va_D A [(o4, .inr (10, [.ref a41, .ref a42, .ref a43, .int l4])), (a41, .inl (cI, 256, .inl f41)), (o5, .inr (10, [.ref a51, .ref a52, .ref a53, .int l5])), (a51, .inl (cI, 256, .inl f51)), (oC, .inr (2, [.ref o4, .ref o5]))] := hDn
              have hS := hSn
              clear hPn hDn hSn
              refine lv_astore_n (lv' := [(3, .ref o5), (0, .ref oC), (1, .int cd), (2, .int v)]) hx hb dX2_letterAlone_71 rfl hl (by decide) rfl (fun ls hl => ?_)
              refine lv_aload_n hx hb dX2_letterAlone_72 rfl (lv_at hl 0 rfl) ?_
              refine lv_ifnonnull (tgt := 80) hx hb dX2_letterAlone_73 (by decide) ?_
              refine lv_aload_n hx hb dX2_letterAlone_80 rfl (lv_at hl 0 rfl) ?_
              refine lv_iload_n hx hb dX2_letterAlone_81 rfl (lv_at hl 3 rfl) ?_
              have hPc := hP.sub (ws' := [(o5, .inr (10, [.ref a51, .ref a52, .ref a53, .int l5])), (a51, .inl (cI, 256, .inl f51))]) [2, 3] rfl
              have hDc := hD.sub (ws' := [(o5, .inr (10, [.ref a51, .ref a52, .ref a53, .int l5])), (a51, .inl (cI, 256, .inl f51))]) [2, 3] (by decide +kernel) rfl
              have hFc := va_free (wc := [(o5, .inr (10, [.ref a51, .ref a52, .ref a53, .int l5])), (a51, .inl (cI, 256, .inl f51))]) hD hS hA [2, 3] rfl
              refine va_calli (va_runV (As := [.int v]) (rest := []) ⟨hx, hb, hml, hown, hts⟩ (m_X10_letterFor l dC dI cI cS H.size o5 a51 a52 a53 l5 f51 v ) (cwV 1 hts gX2_letterAlone_X10_letterFor rfl rfl rfl (by decide +kernel) ⟨Nat.le_of_ble_eq_true rfl, Nat.le_of_ble_eq_true rfl⟩) ⟨fun a U g mk q => by obtain ⟨q0, q1, qP, qK, qD⟩ := q; exact ⟨q0, q1, qP, va_K.moved (u := U) (U := U.calling g mk a) (Vm.Alike.refl U.vm) qK, qD⟩, va_recv hK hPc (ci := 10) (q0 := 0) rfl rfl, fun U hU hW => ⟨rfl, by rw [hU], by rw [hU]; exact hPc, va_K.moved hW.alike hK, hDc.weaken (fun _ _ _ _ => trivial)⟩⟩ rfl rfl hl.1 rfl (lv_room (Nat.le_of_ble_eq_true rfl)) dX2_letterAlone_82 ⟨Nat.le_of_ble_eq_true rfl, Nat.le_of_ble_eq_true rfl⟩) hS (fun q _ h => hFc q h) hFc (fun r_14 u t H1 locs ht hvm hw hB hz1 hk1 hSn => ?_)
              subst hw
              obtain ⟨hP1, hD1, hf14_0⟩ := hB
              rw [ht] at hP1
              obtain ⟨hPn, hDn⟩ := va_join (wr := [(o4, .inr (10, [.ref a41, .ref a42, .ref a43, .int l4])), (a41, .inl (cI, 256, .inl f41)), (oC, .inr (2, [.ref o4, .ref o5]))]) (w1 := [(o5, .inr (10, [.ref a51, .ref a52, .ref a53, .int l5])), (a51, .inl (cI, 256, .inl f51))]) hP hD [2, 3] [0, 1, 4] rfl rfl (by decide +kernel) (by decide +kernel) hk1 hFc hP1 hD1
              clear hP hD hS hPc hDc hFc hk1 hz1 hvm ht hP1 hD1
              generalize H1 = H at hPn hSn ⊢
              have hP : va_P (dC, dI) vwCl [(o4, .inr (10, [.ref a41, .ref a42, .ref a43, .int l4])), (a41, .inl (cI, 256, .inl f41)), (oC, .inr (2, [.ref o4, .ref o5])), (o5, .inr (10, [.ref a51, .ref a52, .ref a53, .int l5])), (a51, .inl (cI, 256, .inl f51))] H := hPn
              have hD : va_D A [(o4, .inr (10, [.ref a41, .ref a42, .ref a43, .int l4])), (a41, .inl (cI, 256, .inl f41)), (oC, .inr (2, [.ref o4, .ref o5])), (o5, .inr (10, [.ref a51, .ref a52, .ref a53, .int l5])), (a51, .inl (cI, 256, .inl f51))] := hDn
              have hS := hSn
              clear hPn hDn hSn
              have hP9 := hP.sub (ws' := [(oC, .inr (2, [.ref o4, .ref o5])), (o4, .inr (10, [.ref a41, .ref a42, .ref a43, .int l4])), (a41, .inl (cI, 256, .inl f41)), (o5, .inr (10, [.ref a51, .ref a52, .ref a53, .int l5])), (a51, .inl (cI, 256, .inl f51))]) [2, 0, 1, 3, 4] rfl
              have hD9 := hD.sub (ws' := [(oC, .inr (2, [.ref o4, .ref o5])), (o4, .inr (10, [.ref a41, .ref a42, .ref a43, .int l4])), (a41, .inl (cI, 256, .inl f41)), (o5, .inr (10, [.ref a51, .ref a52, .ref a53, .int l5])), (a51, .inl (cI, 256, .inl f51))]) [2, 0, 1, 3, 4] (by decide +kernel) rfl
              rw [hQQ]
              exact W.iret (v := r_14) hx hb hr (fun t ht hW => ⟨⟨r_14, r_14, rfl, rfl, ⟨by rw [ht]; exact hP9, hD9⟩⟩, hS.F ht⟩) hS.2.2 dX2_letterAlone_85
            · skip
              have hPc := hP.sub (ws' := [(oC, .inr (2, [.ref o4, .ref o5]))]) [0] rfl
              have hDc := hD.sub (ws' := [(oC, .inr (2, [.ref o4, .ref o5]))]) [0] (by decide +kernel) rfl
              have hFc := va_free (wc := [(oC, .inr (2, [.ref o4, .ref o5]))]) hD hS hA [0] rfl
              refine va_callq (va_runV (As := [.int cd]) (rest := []) ⟨hx, hb, hml, hown, hts⟩ (m_X2_toldCode_n l dC dI cI cS s.heap.size oC o4 o5 cd (by omega) (by omega)) (cwV 1 hts gX2_letterAlone_X2_toldCode rfl rfl rfl (by decide +kernel) ⟨Nat.le_of_ble_eq_true rfl, Nat.le_of_ble_eq_true rfl⟩) ⟨fun a U g mk q => by obtain ⟨q0, q1, qP, qK, qD⟩ := q; exact ⟨q0, q1, qP, va_K.moved (u := U) (U := U.calling g mk a) (Vm.Alike.refl U.vm) qK, qD⟩, va_recv hK hPc (ci := 2) (q0 := 0) rfl rfl, fun U hU hW => ⟨rfl, by rw [hU], by rw [hU]; exact hPc, va_K.moved hW.alike hK, hDc.weaken (fun _ _ _ _ => trivial)⟩⟩ rfl rfl hl.1 rfl (lv_room (Nat.le_of_ble_eq_true rfl)) dX2_letterAlone_68 ⟨Nat.le_of_ble_eq_true rfl, Nat.le_of_ble_eq_true rfl⟩) hS (fun q _ h => hFc q h) hFc (fun r_15 u t H1 locs ht hvm hw hB hz1 hk1 hSn => ?_)
              obtain ⟨hP1, hD1⟩ := hB
              rw [ht] at hP1
              obtain ⟨hPn, hDn⟩ := va_join (wr := [(o4, .inr (10, [.ref a41, .ref a42, .ref a43, .int l4])), (a41, .inl (cI, 256, .inl f41)), (o5, .inr (10, [.ref a51, .ref a52, .ref a53, .int l5])), (a51, .inl (cI, 256, .inl f51))]) (w1 := [(oC, .inr (2, [.ref o4, .ref o5]))]) hP hD [0] [1, 2, 3, 4] rfl rfl (by decide +kernel) (by decide +kernel) hk1 hFc hP1 hD1
              clear hP hD hS hPc hDc hFc hk1 hz1 hvm ht hP1 hD1
              generalize H1 = H at hPn hSn ⊢
              have hP : va_P (dC, dI) vwCl [(o4, .inr (10, [.ref a41, .ref a42, .ref a43, .int l4])), (a41, .inl (cI, 256, .inl f41)), (o5, .inr (10, [.ref a51, .ref a52, .ref a53, .int l5])), (a51, .inl (cI, 256, .inl f51)), (oC, .inr (2, [.ref o4, .ref o5]))] H := hPn
              have hD : va_D A [(o4, .inr (10, [.ref a41, .ref a42, .ref a43, .int l4])), (a41, .inl (cI, 256, .inl f41)), (o5, .inr (10, [.ref a51, .ref a52, .ref a53, .int l5])), (a51, .inl (cI, 256, .inl f51)), (oC, .inr (2, [.ref o4, .ref o5]))] := hDn
              have hS := hSn
              clear hPn hDn hSn
              obtain rfl := hw
              refine W.eq (g2 := F0 m 71 ls [.null]) rfl ?_
              refine lv_astore_nN (lv' := [(3, .null), (0, .ref oC), (1, .int cd), (2, .int v)]) hx hb dX2_letterAlone_71 rfl hl (by decide) rfl (fun ls hl => ?_)
              refine lv_aload_nN hx hb dX2_letterAlone_72 rfl (lv_at hl 0 rfl) ?_
              refine lv_ifnonnullN hx hb dX2_letterAlone_73 ?_
              refine lv_iconst (v := (-1)) hx hb dX2_letterAlone_76 (by decide) ?_
              refine lv_goto (tgt := 85) hx hb dX2_letterAlone_77 (by decide) ?_
              have hP9 := hP.sub (ws' := [(oC, .inr (2, [.ref o4, .ref o5])), (o4, .inr (10, [.ref a41, .ref a42, .ref a43, .int l4])), (a41, .inl (cI, 256, .inl f41)), (o5, .inr (10, [.ref a51, .ref a52, .ref a53, .int l5])), (a51, .inl (cI, 256, .inl f51))]) [4, 0, 1, 2, 3] rfl
              have hD9 := hD.sub (ws' := [(oC, .inr (2, [.ref o4, .ref o5])), (o4, .inr (10, [.ref a41, .ref a42, .ref a43, .int l4])), (a41, .inl (cI, 256, .inl f41)), (o5, .inr (10, [.ref a51, .ref a52, .ref a53, .int l5])), (a51, .inl (cI, 256, .inl f51))]) [4, 0, 1, 2, 3] (by decide +kernel) rfl
              rw [hQQ]
              exact W.iret (v := (-1)) hx hb hr (fun t ht hW => ⟨⟨(-1), (-1), rfl, rfl, ⟨by rw [ht]; exact hP9, hD9⟩⟩, hS.F ht⟩) hS.2.2 dX2_letterAlone_85

set_option maxHeartbeats 40000000 in
set_option maxRecDepth 100000 in
theorem m_X2_isNumbered (l : Launch) (dC : Nat → ClassId) (dI : Nat → Nat → Nat) (cI cS : ClassId) (sz : Nat) (le : Int32)  : Met l yX2_isNumbered wsX2_isNumbered ({ frames := 0, cells := 0, slots := 0, locals := 0 } : Room) (va_Pc [.int le] (fun U => U.heap.size = sz ∧ va_P (dC, dI) vwCl [] U.heap ∧ va_K (dC, dI) vwCl [(cI, .int), (cS, .short)] U ∧ va_D (fun _ => True) [])) (va_Qi (fun (r : Int32) (u : Int32) => r = u) (fun (r : Int32) t => va_P (dC, dI) vwCl [] t.heap ∧ va_D (va_A [] sz) [] ∧ (0 ≤ r.toInt ∧ r.toInt ≤ 1)) (va_A [] sz)) 0 0 (va_A [] sz) := by
  refine Met.ofW (cc := cX2_isNumbered) (maxL := 1) (ret := (some .boolean)) (by decide) rfl ?_
  intro p e s m args below meth c s₁ B hml hv
  obtain ⟨rfl, hsz, hP, hK, hD0⟩ := hv
  have hx := B.exec
  have hb := B.bytes
  have hr := B.returns
  have hts := atoms_spec (ws := wsX2_isNumbered) B.pre
  have hown : s.vm.findClass RX2 = some m.cls := findClass_of_methodNamed B.named
  have hlocks := B.notSynchronized
  subst hsz
  have hD := hD0.self (sz := s.heap.size)
  generalize hAe : va_A [] s.heap.size = A at hD ⊢
  have hA : ∀ q : Nat, s.heap.size ≤ q → A q := fun q h => by rw [← hAe]; exact Or.inr h
  have hS : va_S A s.heap s.heap [] := va_S.rf
  have hP : va_P (dC, dI) vwCl [] s.heap := hP
  have hl := lv_entry ([.int le]) (n := 1) (Nat.le_of_ble_eq_true rfl)
  rw [lg_entry_eq]
  generalize (lg_sl ([.int le]) ++ List.replicate (1 - (lg_sl ([.int le])).length) Slot.unset).toArray = ls at hl ⊢
  have hl : lv_has ls 1 [(0, .int le)] := hl
  obtain ⟨QQ, hQQ⟩ : ∃ QQ : Array Value → State → Outcome → State → Prop, QQ = va_Qi (fun (r : Int32) (u : Int32) => r = u) (fun (r : Int32) t => va_P (dC, dI) vwCl [] t.heap ∧ va_D A [] ∧ (0 ≤ r.toInt ∧ r.toInt ≤ 1)) A := ⟨_, rfl⟩
  rw [← hQQ]
  refine lv_iload_n hx hb dX2_isNumbered_0 rfl (lv_at hl 0 rfl) ?_
  refine lv_sipush (v := 128) hx hb dX2_isNumbered_1 (by decide) ?_
  refine lv_icmp_ge (tgt := 13) hx hb dX2_isNumbered_4 (by decide) (fun c_1 => ?_) (fun c_1 => ?_)
  · have tc_1 : 128 ≤ le.toInt := v_le c_1
    refine lv_iconst (v := 1) hx hb dX2_isNumbered_13 (by decide) ?_
    refine lv_goto (tgt := 18) hx hb dX2_isNumbered_14 (by decide) ?_
    have hP9 := hP.sub (ws' := []) [] rfl
    have hD9 := hD.sub (ws' := []) [] (by decide +kernel) rfl
    rw [hQQ]
    exact W.zret (v := 1) (ty := .boolean) hx hb hr (rfl) (fun t ht hW => ⟨⟨1, 1, rfl, rfl, ⟨by rw [ht]; exact hP9, hD9, by decide⟩⟩, hS.F ht⟩) hS.2.2 dX2_isNumbered_18
  · have tc_1 : le.toInt < 128 := v_nle c_1
    refine lv_iload_n hx hb dX2_isNumbered_7 rfl (lv_at hl 0 rfl) ?_
    refine lv_bipush (v := 38) hx hb dX2_isNumbered_8 (by decide) ?_
    refine lv_icmp_ne (tgt := 17) hx hb dX2_isNumbered_10 (by decide) (fun c_2 => ?_) (fun c_2 => ?_)
    · have tc_2 : ¬ le.toInt = 38 := v_ne c_2
      refine lv_iconst (v := 0) hx hb dX2_isNumbered_17 (by decide) ?_
      have hP9 := hP.sub (ws' := []) [] rfl
      have hD9 := hD.sub (ws' := []) [] (by decide +kernel) rfl
      rw [hQQ]
      exact W.zret (v := 0) (ty := .boolean) hx hb hr (rfl) (fun t ht hW => ⟨⟨0, 0, rfl, rfl, ⟨by rw [ht]; exact hP9, hD9, by decide⟩⟩, hS.F ht⟩) hS.2.2 dX2_isNumbered_18
    · have tc_2 : le.toInt = 38 := v_eq c_2
      refine lv_iconst (v := 1) hx hb dX2_isNumbered_13 (by decide) ?_
      refine lv_goto (tgt := 18) hx hb dX2_isNumbered_14 (by decide) ?_
      have hP9 := hP.sub (ws' := []) [] rfl
      have hD9 := hD.sub (ws' := []) [] (by decide +kernel) rfl
      rw [hQQ]
      exact W.zret (v := 1) (ty := .boolean) hx hb hr (rfl) (fun t ht hW => ⟨⟨1, 1, rfl, rfl, ⟨by rw [ht]; exact hP9, hD9, by decide⟩⟩, hS.F ht⟩) hS.2.2 dX2_isNumbered_18

set_option maxHeartbeats 40000000 in
set_option maxRecDepth 100000 in
theorem m_X2_decodeMany (l : Launch) (dC : Nat → ClassId) (dI : Nat → Nat → Nat) (cI cS : ClassId) (sz : Nat) (nu : Nat) (au : Nat) (cap : Nat) (lu : Int32) (fu : Nat → Int32) (fr : Int32) (en : Int32) (g_lu : 0 ≤ lu.toInt ∧ lu.toInt ≤ (cap : Int)) (hcap : cap ≤ 2400) : Met l yX2_decodeMany wsX2_decodeMany ({ frames := 1, cells := 0, slots := 0, locals := 21 } : Room) (va_Pc [.ref nu, .int fr, .int en] (fun U => U.heap.size = sz ∧ va_P (dC, dI) vwCl [(nu, .inr (5, [.ref au, .int lu])), (au, .inl (cI, cap, .inl fu))] U.heap ∧ va_K (dC, dI) vwCl [(cI, .int), (cS, .short)] U ∧ va_D (fun _ => True) [(nu, .inr (5, [.ref au, .int lu])), (au, .inl (cI, cap, .inl fu))] ∧ va_Nw (.methodLinkNest RX2 52 yX11_isLetter "TextMender") U)) (va_Qi (fun (r : Int32) (u : Int32) => r = u) (fun (r : Int32) t => va_P (dC, dI) vwCl [(nu, .inr (5, [.ref au, .int lu])), (au, .inl (cI, cap, .inl fu))] t.heap ∧ va_D (va_A [(nu, .inr (5, [.ref au, .int lu])), (au, .inl (cI, cap, .inl fu))] sz) [(nu, .inr (5, [.ref au, .int lu])), (au, .inl (cI, cap, .inl fu))]) (va_A [(nu, .inr (5, [.ref au, .int lu])), (au, .inl (cI, cap, .inl fu))] sz)) 0 0 (va_A [(nu, .inr (5, [.ref au, .int lu])), (au, .inl (cI, cap, .inl fu))] sz) := by
  refine Met.ofW (cc := cX2_decodeMany) (maxL := 8) (ret := (some .int)) (by decide) rfl ?_
  intro p e s m args below meth c s₁ B hml hv
  obtain ⟨rfl, hsz, hP, hK, hD0, hN52⟩ := hv
  have hx := B.exec
  have hb := B.bytes
  have hr := B.returns
  have hts := atoms_spec (ws := wsX2_decodeMany) B.pre
  have hown : s.vm.findClass RX2 = some m.cls := findClass_of_methodNamed B.named
  have hlocks := B.notSynchronized
  subst hsz
  have hD := hD0.self (sz := s.heap.size)
  generalize hAe : va_A [(nu, .inr (5, [.ref au, .int lu])), (au, .inl (cI, cap, .inl fu))] s.heap.size = A at hD ⊢
  have hA : ∀ q : Nat, s.heap.size ≤ q → A q := fun q h => by rw [← hAe]; exact Or.inr h
  have hS : va_S A s.heap s.heap [] := va_S.rf
  have hP : va_P (dC, dI) vwCl [(nu, .inr (5, [.ref au, .int lu])), (au, .inl (cI, cap, .inl fu))] s.heap := hP
  have hl := lv_entry ([.ref nu, .int fr, .int en]) (n := 8) (Nat.le_of_ble_eq_true rfl)
  rw [lg_entry_eq]
  generalize (lg_sl ([.ref nu, .int fr, .int en]) ++ List.replicate (8 - (lg_sl ([.ref nu, .int fr, .int en])).length) Slot.unset).toArray = ls at hl ⊢
  have hl : lv_has ls 8 [(0, .ref nu), (1, .int fr), (2, .int en)] := hl
  obtain ⟨QQ, hQQ⟩ : ∃ QQ : Array Value → State → Outcome → State → Prop, QQ = va_Qi (fun (r : Int32) (u : Int32) => r = u) (fun (r : Int32) t => va_P (dC, dI) vwCl [(nu, .inr (5, [.ref au, .int lu])), (au, .inl (cI, cap, .inl fu))] t.heap ∧ va_D A [(nu, .inr (5, [.ref au, .int lu])), (au, .inl (cI, cap, .inl fu))]) A := ⟨_, rfl⟩
  rw [← hQQ]
  refine lv_aload_n hx hb dX2_decodeMany_0 rfl (lv_at hl 0 rfl) ?_
  refine lv_iload_n hx hb dX2_decodeMany_1 rfl (lv_at hl 1 rfl) ?_
  have hPc := hP.sub (ws' := [(nu, .inr (5, [.ref au, .int lu])), (au, .inl (cI, cap, .inl fu))]) [0, 1] rfl
  have hDc := hD.sub (ws' := [(nu, .inr (5, [.ref au, .int lu])), (au, .inl (cI, cap, .inl fu))]) [0, 1] (by decide +kernel) rfl
  have hFc := va_free (wc := [(nu, .inr (5, [.ref au, .int lu])), (au, .inl (cI, cap, .inl fu))]) hD hS hA [0, 1] rfl
  refine va_calli (va_runV (As := [.int fr]) (rest := []) ⟨hx, hb, hml, hown, hts⟩ (m_X5_get l dC dI cI cS s.heap.size nu au cap lu fu fr (g_lu) (by omega)) (cwV 1 hts gX2_decodeMany_X5_get rfl rfl rfl (by decide +kernel) ⟨Nat.le_of_ble_eq_true rfl, Nat.le_of_ble_eq_true rfl⟩) ⟨fun a U g mk q => by obtain ⟨q0, q1, qP, qK, qD⟩ := q; exact ⟨q0, q1, qP, va_K.moved (u := U) (U := U.calling g mk a) (Vm.Alike.refl U.vm) qK, qD⟩, va_recv hK hPc (ci := 5) (q0 := 0) rfl rfl, fun U hU hW => ⟨rfl, by rw [hU], by rw [hU]; exact hPc, va_K.moved hW.alike hK, hDc.weaken (fun _ _ _ _ => trivial)⟩⟩ rfl rfl hl.1 rfl (lv_room (Nat.le_of_ble_eq_true rfl)) dX2_decodeMany_2 ⟨Nat.le_of_ble_eq_true rfl, Nat.le_of_ble_eq_true rfl⟩) hS (fun q _ h => hFc q h) hFc (fun r_1 u t H1 locs ht hvm hw hB hz1 hk1 hSn => ?_)
  subst hw
  obtain ⟨hP1, hD1, hf1_0⟩ := hB
  rw [ht] at hP1
  obtain ⟨hPn, hDn⟩ := va_join (wr := []) (w1 := [(nu, .inr (5, [.ref au, .int lu])), (au, .inl (cI, cap, .inl fu))]) hP hD [0, 1] [] rfl rfl (by decide +kernel) (by decide +kernel) hk1 hFc hP1 hD1
  clear hP hD hS hPc hDc hFc hk1 hz1 hvm ht hP1 hD1
  generalize H1 = H at hPn hSn ⊢
  have hP : va_P (dC, dI) vwCl [(nu, .inr (5, [.ref au, .int lu])), (au, .inl (cI, cap, .inl fu))] H := hPn
  have hD : va_D A [(nu, .inr (5, [.ref au, .int lu])), (au, .inl (cI, cap, .inl fu))] := hDn
  have hS := hSn
  clear hPn hDn hSn
  refine lv_istore_n (lv' := [(3, .int r_1), (0, .ref nu), (1, .int fr), (2, .int en)]) hx hb dX2_decodeMany_5 rfl hl (by decide) rfl (fun ls hl => ?_)
  refine lv_iload_n hx hb dX2_decodeMany_6 rfl (lv_at hl 0 rfl) ?_
  refine lv_sipush (v := 224) hx hb dX2_decodeMany_7 (by decide) ?_
  refine lv_icmp_lt (tgt := 17) hx hb dX2_decodeMany_10 (by decide) (fun c_2 => ?_) (fun c_2 => ?_)
  · have tc_2 : r_1.toInt < 224 := v_lt c_2
    refine lv_iconst (v := 2) hx hb dX2_decodeMany_17 (by decide) ?_
    refine lv_istore (lv' := [(4, .int 2), (3, .int r_1), (0, .ref nu), (1, .int fr), (2, .int en)]) hx hb dX2_decodeMany_18 hl (by decide) rfl (fun ls hl => ?_)
    refine lv_iload_n hx hb dX2_decodeMany_20 rfl (lv_at hl 1 rfl) ?_
    refine lv_sipush (v := 192) hx hb dX2_decodeMany_21 (by decide) ?_
    refine lv_icmp_lt (tgt := 42) hx hb dX2_decodeMany_24 (by decide) (fun c_3 => ?_) (fun c_3 => ?_)
    · have tc_3 : r_1.toInt < 192 := v_lt c_3
      refine lv_iconst (v := (-1)) hx hb dX2_decodeMany_42 (by decide) ?_
      have hP9 := hP.sub (ws' := [(nu, .inr (5, [.ref au, .int lu])), (au, .inl (cI, cap, .inl fu))]) [0, 1] rfl
      have hD9 := hD.sub (ws' := [(nu, .inr (5, [.ref au, .int lu])), (au, .inl (cI, cap, .inl fu))]) [0, 1] (by decide +kernel) rfl
      rw [hQQ]
      exact W.iret (v := (-1)) hx hb hr (fun t ht hW => ⟨⟨(-1), (-1), rfl, rfl, ⟨by rw [ht]; exact hP9, hD9⟩⟩, hS.F ht⟩) hS.2.2 dX2_decodeMany_43
    · have tc_3 : 192 ≤ r_1.toInt := v_nlt c_3
      refine lv_iload_n hx hb dX2_decodeMany_27 rfl (lv_at hl 1 rfl) ?_
      refine lv_sipush (v := 239) hx hb dX2_decodeMany_28 (by decide) ?_
      refine lv_icmp_gt (tgt := 42) hx hb dX2_decodeMany_31 (by decide) (fun c_4 => by exfalso; have tc_4 : 239 < r_1.toInt := v_lt c_4; omega) (fun c_4 => ?_)
      have tc_4 : r_1.toInt ≤ 239 := v_nlt c_4
      refine lv_iload hx hb dX2_decodeMany_34 (lv_at hl 0 rfl) ?_
      refine lv_iload_n hx hb dX2_decodeMany_36 rfl (lv_at hl 4 rfl) ?_
      refine lv_iload_n hx hb dX2_decodeMany_37 rfl (lv_at hl 3 rfl) ?_
      refine lv_isub hx hb dX2_decodeMany_38 ?_
      refine lv_topi (fun x_5 ex_5 => ?_)
      have rv5_0 := v_rng en
      have rv5_1 := v_rng fr
      refine lv_icmp_le (tgt := 44) hx hb dX2_decodeMany_39 (by decide) (fun c_6 => ?_) (fun c_6 => ?_)
      · have tc_6 : 2 ≤ x_5.toInt := v_le c_6
        refine lv_iload hx hb dX2_decodeMany_44 (lv_at hl 0 rfl) ?_
        refine lv_iconst (v := 3) hx hb dX2_decodeMany_46 (by decide) ?_
        refine lv_icmp_ne (tgt := 58) hx hb dX2_decodeMany_47 (by decide) (fun c_7 => ?_) (fun c_7 => absurd c_7 (by decide))
        refine lv_iload_n hx hb dX2_decodeMany_58 rfl (lv_at hl 1 rfl) ?_
        refine lv_sipush (v := 192) hx hb dX2_decodeMany_59 (by decide) ?_
        refine lv_isub hx hb dX2_decodeMany_62 ?_
        refine lv_topi (fun x_8 ex_8 => ?_)
        have tx_8 : x_8.toInt = r_1.toInt - 192 := v_sub ex_8 (by show -2147483648 ≤ r_1.toInt - 192; omega) (by show r_1.toInt - 192 < 2147483648; omega)
        refine lv_istore (lv' := [(5, .int x_8), (4, .int 2), (3, .int r_1), (0, .ref nu), (1, .int fr), (2, .int en)]) hx hb dX2_decodeMany_63 hl (by decide) rfl (fun ls hl => ?_)
        refine lv_iconst (v := 1) hx hb dX2_decodeMany_65 (by decide) ?_
        refine lv_istore (lv' := [(6, .int 1), (5, .int x_8), (4, .int 2), (3, .int r_1), (0, .ref nu), (1, .int fr), (2, .int en)]) hx hb dX2_decodeMany_66 hl (by decide) rfl (fun ls hl => ?_)
        have LOOP_68 : ∀ (k_68 : Nat) (le : Int32) (i : Int32) (H : Heap) (locs : List Loc) (ls : Array Slot), MSd (4 - i.toInt : Int) k_68 → (1 ≤ i.toInt ∧ i.toInt ≤ 3) → va_P (dC, dI) vwCl [(nu, .inr (5, [.ref au, .int lu])), (au, .inl (cI, cap, .inl fu))] H → va_D A [(nu, .inr (5, [.ref au, .int lu])), (au, .inl (cI, cap, .inl fu))] → va_S A s.heap H locs → lv_has ls 8 [(6, .int i), (5, .int le), (4, .int 2), (0, .ref nu), (1, .int fr), (2, .int en)] → W p l e (headSpec wsX2_decodeMany ({ frames := 1, cells := 0, slots := 0, locals := 21 } : Room)).room s m ([.ref nu, .int fr, .int en] : List Value).toArray below meth c H locs 0 0 (MQ below QQ ([.ref nu, .int fr, .int en] : List Value).toArray s 0 0 A) (F0 m 68 ls []) := by
          clear hP hD hS hl
          intro k_68
          induction k_68 with
          | zero =>
            intro le i H locs ls hm_68 g_i hP hD hS hl
            exact ms_0 hm_68
          | succ k_68 ih_68 =>
            intro le i H locs ls hm_68 g_i hP hD hS hl
            refine lv_iload hx hb dX2_decodeMany_68 (lv_at hl 0 rfl) ?_
            refine lv_iload hx hb dX2_decodeMany_70 (lv_at hl 2 rfl) ?_
            refine lv_icmp_ge (tgt := 123) hx hb dX2_decodeMany_72 (by decide) (fun c_9 => ?_) (fun c_9 => ?_)
            · have tc_9 : 2 ≤ i.toInt := v_le c_9
              refine lv_iload hx hb dX2_decodeMany_123 (lv_at hl 1 rfl) ?_
              refine lv_iload hx hb dX2_decodeMany_125 (lv_at hl 2 rfl) ?_
              refine lv_iconst (v := 3) hx hb dX2_decodeMany_127 (by decide) ?_
              refine lv_icmp_ne (tgt := 137) hx hb dX2_decodeMany_128 (by decide) (fun c_10 => ?_) (fun c_10 => absurd c_10 (by decide))
              refine lv_sipush (v := 128) hx hb dX2_decodeMany_137 (by decide) ?_
              refine lv_icmp_lt (tgt := 147) hx hb dX2_decodeMany_140 (by decide) (fun c_11 => ?_) (fun c_11 => ?_)
              · have tc_11 : le.toInt < 128 := v_lt c_11
                refine lv_iconst (v := 0) hx hb dX2_decodeMany_147 (by decide) ?_
                refine lv_istore (lv' := [(6, .int 0), (5, .int le), (4, .int 2), (0, .ref nu), (1, .int fr), (2, .int en)]) hx hb dX2_decodeMany_148 hl (by decide) rfl (fun ls hl => ?_)
                refine lv_iload hx hb dX2_decodeMany_150 (lv_at hl 0 rfl) ?_
                refine lv_if_eq (tgt := 173) hx hb dX2_decodeMany_152 (by decide) (fun c_12 => ?_) (fun c_12 => absurd c_12 (by decide))
                refine lv_iconst (v := (-1)) hx hb dX2_decodeMany_173 (by decide) ?_
                have hP9 := hP.sub (ws' := [(nu, .inr (5, [.ref au, .int lu])), (au, .inl (cI, cap, .inl fu))]) [0, 1] rfl
                have hD9 := hD.sub (ws' := [(nu, .inr (5, [.ref au, .int lu])), (au, .inl (cI, cap, .inl fu))]) [0, 1] (by decide +kernel) rfl
                rw [hQQ]
                exact W.iret (v := (-1)) hx hb hr (fun t ht hW => ⟨⟨(-1), (-1), rfl, rfl, ⟨by rw [ht]; exact hP9, hD9⟩⟩, hS.F ht⟩) hS.2.2 dX2_decodeMany_174
              · have tc_11 : 128 ≤ le.toInt := v_nlt c_11
                refine lv_iconst (v := 1) hx hb dX2_decodeMany_143 (by decide) ?_
                refine lv_goto (tgt := 148) hx hb dX2_decodeMany_144 (by decide) ?_
                refine lv_istore (lv' := [(6, .int 1), (5, .int le), (4, .int 2), (0, .ref nu), (1, .int fr), (2, .int en)]) hx hb dX2_decodeMany_148 hl (by decide) rfl (fun ls hl => ?_)
                refine lv_iload hx hb dX2_decodeMany_150 (lv_at hl 0 rfl) ?_
                refine lv_if_eq (tgt := 173) hx hb dX2_decodeMany_152 (by decide) (fun c_13 => absurd c_13 (by decide)) (fun c_13 => ?_)
                refine lv_iload hx hb dX2_decodeMany_155 (lv_at hl 1 rfl) ?_
                have hPc := hP.sub (ws' := []) [] rfl
                have hDc := hD.sub (ws' := []) [] (by decide +kernel) rfl
                have hFc := va_free (wc := []) hD hS hA [] rfl
                refine va_calli (va_runSN (As := [.int le]) (rest := []) ⟨hx, hb, hml, hown, hts⟩ (m_X11_isLetter l dC dI cI cS H.size le ) ⟨va_cnB 1 hts gX2_decodeMany_X11_isLetter_n52 rfl rfl rfl hN52 (hts (.initialized RX11) (List.mem_of_getElem? (i := 9) rfl)) (by decide +kernel) ⟨Nat.le_of_ble_eq_true rfl, Nat.le_of_ble_eq_true rfl⟩, (hts (.static yX11_isLetter) (List.mem_of_getElem? (i := 8) rfl)), trivial⟩ ⟨fun a U g mk q => by obtain ⟨q0, q1, qP, qK, qD⟩ := q; exact ⟨q0, q1, qP, va_K.moved (u := U) (U := U.calling g mk a) (Vm.Alike.refl U.vm) qK, qD⟩, fun U hU hW => ⟨rfl, by rw [hU], by rw [hU]; exact hPc, va_K.moved hW.alike hK, hDc.weaken (fun _ _ _ _ => trivial)⟩⟩ rfl rfl hl.1 rfl (lv_room (Nat.le_of_ble_eq_true rfl)) dX2_decodeMany_157 ⟨Nat.le_of_ble_eq_true rfl, Nat.le_of_ble_eq_true rfl⟩) hS (fun q _ h => hFc q h) hFc (fun r_14 u t H1 locs ht hvm hw hB hz1 hk1 hSn => ?_)
                subst hw
                obtain ⟨hP1, hD1, hf14_0, hf14_1⟩ := hB
                rw [ht] at hP1
                obtain ⟨hPn, hDn⟩ := va_join (wr := [(nu, .inr (5, [.ref au, .int lu])), (au, .inl (cI, cap, .inl fu))]) (w1 := []) hP hD [] [0, 1] rfl rfl (by decide +kernel) (by decide +kernel) hk1 hFc hP1 hD1
                clear hP hD hS hPc hDc hFc hk1 hz1 hvm ht hP1 hD1
                generalize H1 = H at hPn hSn ⊢
                have hP : va_P (dC, dI) vwCl [(nu, .inr (5, [.ref au, .int lu])), (au, .inl (cI, cap, .inl fu))] H := hPn
                have hD : va_D A [(nu, .inr (5, [.ref au, .int lu])), (au, .inl (cI, cap, .inl fu))] := hDn
                have hS := hSn
                clear hPn hDn hSn
                refine lv_if_eq (tgt := 173) hx hb dX2_decodeMany_160 (by decide) (fun c_15 => ?_) (fun c_15 => ?_)
                · have tc_15 : r_14.toInt = 0 := v_eq c_15
                  refine lv_iconst (v := (-1)) hx hb dX2_decodeMany_173 (by decide) ?_
                  have hP9 := hP.sub (ws' := [(nu, .inr (5, [.ref au, .int lu])), (au, .inl (cI, cap, .inl fu))]) [0, 1] rfl
                  have hD9 := hD.sub (ws' := [(nu, .inr (5, [.ref au, .int lu])), (au, .inl (cI, cap, .inl fu))]) [0, 1] (by decide +kernel) rfl
                  rw [hQQ]
                  exact W.iret (v := (-1)) hx hb hr (fun t ht hW => ⟨⟨(-1), (-1), rfl, rfl, ⟨by rw [ht]; exact hP9, hD9⟩⟩, hS.F ht⟩) hS.2.2 dX2_decodeMany_174
                · have tc_15 : ¬ r_14.toInt = 0 := v_ne c_15
                  refine lv_iload hx hb dX2_decodeMany_163 (lv_at hl 1 rfl) ?_
                  refine lv_iload hx hb dX2_decodeMany_165 (lv_at hl 2 rfl) ?_
                  have hPc := hP.sub (ws' := []) [] rfl
                  have hDc := hD.sub (ws' := []) [] (by decide +kernel) rfl
                  have hFc := va_free (wc := []) hD hS hA [] rfl
                  refine va_calli (va_runS (As := [.int le, .int 2]) (rest := []) ⟨hx, hb, hml, hown, hts⟩ (m_X2_found l dC dI cI cS H.size le 2 ) (va_cwS 2 hts gX2_decodeMany_X2_found rfl rfl rfl (by decide +kernel) ⟨Nat.le_of_ble_eq_true rfl, Nat.le_of_ble_eq_true rfl⟩) ⟨fun a U g mk q => by obtain ⟨q0, q1, qP, qK, qD⟩ := q; exact ⟨q0, q1, qP, va_K.moved (u := U) (U := U.calling g mk a) (Vm.Alike.refl U.vm) qK, qD⟩, fun U hU hW => ⟨rfl, by rw [hU], by rw [hU]; exact hPc, va_K.moved hW.alike hK, hDc.weaken (fun _ _ _ _ => trivial)⟩⟩ rfl rfl hl.1 rfl (lv_room (Nat.le_of_ble_eq_true rfl)) dX2_decodeMany_167 ⟨Nat.le_of_ble_eq_true rfl, Nat.le_of_ble_eq_true rfl⟩) hS (fun q _ h => hFc q h) hFc (fun r_16 u t H1 locs ht hvm hw hB hz1 hk1 hSn => ?_)
                  subst hw
                  obtain ⟨hP1, hD1⟩ := hB
                  rw [ht] at hP1
                  obtain ⟨hPn, hDn⟩ := va_join (wr := [(nu, .inr (5, [.ref au, .int lu])), (au, .inl (cI, cap, .inl fu))]) (w1 := []) hP hD [] [0, 1] rfl rfl (by decide +kernel) (by decide +kernel) hk1 hFc hP1 hD1
                  clear hP hD hS hPc hDc hFc hk1 hz1 hvm ht hP1 hD1
                  generalize H1 = H at hPn hSn ⊢
                  have hP : va_P (dC, dI) vwCl [(nu, .inr (5, [.ref au, .int lu])), (au, .inl (cI, cap, .inl fu))] H := hPn
                  have hD : va_D A [(nu, .inr (5, [.ref au, .int lu])), (au, .inl (cI, cap, .inl fu))] := hDn
                  have hS := hSn
                  clear hPn hDn hSn
                  refine lv_goto (tgt := 174) hx hb dX2_decodeMany_170 (by decide) ?_
                  have hP9 := hP.sub (ws' := [(nu, .inr (5, [.ref au, .int lu])), (au, .inl (cI, cap, .inl fu))]) [0, 1] rfl
                  have hD9 := hD.sub (ws' := [(nu, .inr (5, [.ref au, .int lu])), (au, .inl (cI, cap, .inl fu))]) [0, 1] (by decide +kernel) rfl
                  rw [hQQ]
                  exact W.iret (v := r_16) hx hb hr (fun t ht hW => ⟨⟨r_16, r_16, rfl, rfl, ⟨by rw [ht]; exact hP9, hD9⟩⟩, hS.F ht⟩) hS.2.2 dX2_decodeMany_174
            · have tc_9 : i.toInt < 2 := v_nle c_9
              refine lv_aload_n hx hb dX2_decodeMany_75 rfl (lv_at hl 3 rfl) ?_
              refine lv_iload_n hx hb dX2_decodeMany_76 rfl (lv_at hl 4 rfl) ?_
              refine lv_iload hx hb dX2_decodeMany_77 (lv_at hl 0 rfl) ?_
              refine lv_iadd hx hb dX2_decodeMany_79 ?_
              refine lv_topi (fun x_17 ex_17 => ?_)
              have hPc := hP.sub (ws' := [(nu, .inr (5, [.ref au, .int lu])), (au, .inl (cI, cap, .inl fu))]) [0, 1] rfl
              have hDc := hD.sub (ws' := [(nu, .inr (5, [.ref au, .int lu])), (au, .inl (cI, cap, .inl fu))]) [0, 1] (by decide +kernel) rfl
              have hFc := va_free (wc := [(nu, .inr (5, [.ref au, .int lu])), (au, .inl (cI, cap, .inl fu))]) hD hS hA [0, 1] rfl
              refine va_calli (va_runV (As := [.int x_17]) (rest := []) ⟨hx, hb, hml, hown, hts⟩ (m_X5_get l dC dI cI cS H.size nu au cap lu fu x_17 (g_lu) (by omega)) (cwV 1 hts gX2_decodeMany_X5_get rfl rfl rfl (by decide +kernel) ⟨Nat.le_of_ble_eq_true rfl, Nat.le_of_ble_eq_true rfl⟩) ⟨fun a U g mk q => by obtain ⟨q0, q1, qP, qK, qD⟩ := q; exact ⟨q0, q1, qP, va_K.moved (u := U) (U := U.calling g mk a) (Vm.Alike.refl U.vm) qK, qD⟩, va_recv hK hPc (ci := 5) (q0 := 0) rfl rfl, fun U hU hW => ⟨rfl, by rw [hU], by rw [hU]; exact hPc, va_K.moved hW.alike hK, hDc.weaken (fun _ _ _ _ => trivial)⟩⟩ rfl rfl hl.1 rfl (lv_room (Nat.le_of_ble_eq_true rfl)) dX2_decodeMany_80 ⟨Nat.le_of_ble_eq_true rfl, Nat.le_of_ble_eq_true rfl⟩) hS (fun q _ h => hFc q h) hFc (fun r_18 u t H1 locs ht hvm hw hB hz1 hk1 hSn => ?_)
              subst hw
              obtain ⟨hP1, hD1, hf18_0⟩ := hB
              rw [ht] at hP1
              obtain ⟨hPn, hDn⟩ := va_join (wr := []) (w1 := [(nu, .inr (5, [.ref au, .int lu])), (au, .inl (cI, cap, .inl fu))]) hP hD [0, 1] [] rfl rfl (by decide +kernel) (by decide +kernel) hk1 hFc hP1 hD1
              clear hP hD hS hPc hDc hFc hk1 hz1 hvm ht hP1 hD1
              generalize H1 = H at hPn hSn ⊢
              have hP : va_P (dC, dI) vwCl [(nu, .inr (5, [.ref au, .int lu])), (au, .inl (cI, cap, .inl fu))] H := hPn
              have hD : va_D A [(nu, .inr (5, [.ref au, .int lu])), (au, .inl (cI, cap, .inl fu))] := hDn
              have hS := hSn
              clear hPn hDn hSn
              refine lv_istore (lv' := [(7, .int r_18), (6, .int i), (5, .int le), (4, .int 2), (0, .ref nu), (1, .int fr), (2, .int en)]) hx hb dX2_decodeMany_83 hl (by decide) rfl (fun ls hl => ?_)
              refine lv_iload hx hb dX2_decodeMany_85 (lv_at hl 0 rfl) ?_
              refine lv_sipush (v := 128) hx hb dX2_decodeMany_87 (by decide) ?_
              refine lv_icmp_lt (tgt := 101) hx hb dX2_decodeMany_90 (by decide) (fun c_19 => ?_) (fun c_19 => ?_)
              · have tc_19 : r_18.toInt < 128 := v_lt c_19
                refine lv_iconst (v := (-1)) hx hb dX2_decodeMany_101 (by decide) ?_
                have hP9 := hP.sub (ws' := [(nu, .inr (5, [.ref au, .int lu])), (au, .inl (cI, cap, .inl fu))]) [0, 1] rfl
                have hD9 := hD.sub (ws' := [(nu, .inr (5, [.ref au, .int lu])), (au, .inl (cI, cap, .inl fu))]) [0, 1] (by decide +kernel) rfl
                rw [hQQ]
                exact W.iret (v := (-1)) hx hb hr (fun t ht hW => ⟨⟨(-1), (-1), rfl, rfl, ⟨by rw [ht]; exact hP9, hD9⟩⟩, hS.F ht⟩) hS.2.2 dX2_decodeMany_102
              · have tc_19 : 128 ≤ r_18.toInt := v_nlt c_19
                refine lv_iload hx hb dX2_decodeMany_93 (lv_at hl 0 rfl) ?_
                refine lv_sipush (v := 191) hx hb dX2_decodeMany_95 (by decide) ?_
                refine lv_icmp_le (tgt := 103) hx hb dX2_decodeMany_98 (by decide) (fun c_20 => ?_) (fun c_20 => ?_)
                · have tc_20 : r_18.toInt ≤ 191 := v_le c_20
                  refine lv_iload hx hb dX2_decodeMany_103 (lv_at hl 2 rfl) ?_
                  refine lv_bipush (v := 64) hx hb dX2_decodeMany_105 (by decide) ?_
                  refine lv_imul hx hb dX2_decodeMany_107 ?_
                  refine lv_topi (fun x_21 ex_21 => ?_)
                  have rv21_0 := v_rng le
                  refine lv_iload hx hb dX2_decodeMany_108 (lv_at hl 0 rfl) ?_
                  refine lv_iadd hx hb dX2_decodeMany_110 ?_
                  refine lv_topi (fun x_22 ex_22 => ?_)
                  have rv22_0 := v_rng x_21
                  refine lv_sipush (v := 128) hx hb dX2_decodeMany_111 (by decide) ?_
                  refine lv_isub hx hb dX2_decodeMany_114 ?_
                  refine lv_topi (fun x_23 ex_23 => ?_)
                  have rv23_0 := v_rng x_22
                  refine lv_istore (lv' := [(5, .int x_23), (7, .int r_18), (6, .int i), (4, .int 2), (0, .ref nu), (1, .int fr), (2, .int en)]) hx hb dX2_decodeMany_115 hl (by decide) rfl (fun ls hl => ?_)
                  obtain ⟨x_24, ex_24⟩ : ∃ y : Int32, y = i + 1 := ⟨_, rfl⟩
                  have tx_24 : x_24.toInt = i.toInt + 1 := v_add ex_24 (by show -2147483648 ≤ i.toInt + 1; omega) (by show i.toInt + 1 < 2147483648; omega)
                  refine lv_iinc (v := x_24) (lv' := [(6, .int x_24), (5, .int x_23), (7, .int r_18), (4, .int 2), (0, .ref nu), (1, .int fr), (2, .int en)]) hx hb dX2_decodeMany_117 hl (k := 2) rfl (by rw [ex_24]; rfl) (by decide) rfl (fun ls hl => ?_)
                  refine lv_goto (tgt := 68) hx hb dX2_decodeMany_120 (by decide) ?_
                  exact ih_68 x_23 x_24 _ _ _ (ms_lt hm_68 (by show ((4 - x_24.toInt : Int)) < 4 - i.toInt; omega) (by show (0 : Int) < 4 - i.toInt; omega)) (by show 1 ≤ x_24.toInt ∧ x_24.toInt ≤ 3; omega) hP hD hS (lv_sub hl [0, 1, 3, 4, 5, 6] rfl)
                · have tc_20 : 191 < r_18.toInt := v_nle c_20
                  refine lv_iconst (v := (-1)) hx hb dX2_decodeMany_101 (by decide) ?_
                  have hP9 := hP.sub (ws' := [(nu, .inr (5, [.ref au, .int lu])), (au, .inl (cI, cap, .inl fu))]) [0, 1] rfl
                  have hD9 := hD.sub (ws' := [(nu, .inr (5, [.ref au, .int lu])), (au, .inl (cI, cap, .inl fu))]) [0, 1] (by decide +kernel) rfl
                  rw [hQQ]
                  exact W.iret (v := (-1)) hx hb hr (fun t ht hW => ⟨⟨(-1), (-1), rfl, rfl, ⟨by rw [ht]; exact hP9, hD9⟩⟩, hS.F ht⟩) hS.2.2 dX2_decodeMany_102
        exact LOOP_68 _ x_8 1 _ _ _ (ms_s _) (by decide) hP hD hS (lv_sub hl [0, 1, 2, 4, 5, 6] rfl)
      · have tc_6 : x_5.toInt < 2 := v_nle c_6
        refine lv_iconst (v := (-1)) hx hb dX2_decodeMany_42 (by decide) ?_
        have hP9 := hP.sub (ws' := [(nu, .inr (5, [.ref au, .int lu])), (au, .inl (cI, cap, .inl fu))]) [0, 1] rfl
        have hD9 := hD.sub (ws' := [(nu, .inr (5, [.ref au, .int lu])), (au, .inl (cI, cap, .inl fu))]) [0, 1] (by decide +kernel) rfl
        rw [hQQ]
        exact W.iret (v := (-1)) hx hb hr (fun t ht hW => ⟨⟨(-1), (-1), rfl, rfl, ⟨by rw [ht]; exact hP9, hD9⟩⟩, hS.F ht⟩) hS.2.2 dX2_decodeMany_43
  · have tc_2 : 224 ≤ r_1.toInt := v_nlt c_2
    refine lv_iconst (v := 3) hx hb dX2_decodeMany_13 (by decide) ?_
    refine lv_goto (tgt := 18) hx hb dX2_decodeMany_14 (by decide) ?_
    refine lv_istore (lv' := [(4, .int 3), (3, .int r_1), (0, .ref nu), (1, .int fr), (2, .int en)]) hx hb dX2_decodeMany_18 hl (by decide) rfl (fun ls hl => ?_)
    refine lv_iload_n hx hb dX2_decodeMany_20 rfl (lv_at hl 1 rfl) ?_
    refine lv_sipush (v := 192) hx hb dX2_decodeMany_21 (by decide) ?_
    refine lv_icmp_lt (tgt := 42) hx hb dX2_decodeMany_24 (by decide) (fun c_25 => by exfalso; have tc_25 : r_1.toInt < 192 := v_lt c_25; omega) (fun c_25 => ?_)
    have tc_25 : 192 ≤ r_1.toInt := v_nlt c_25
    refine lv_iload_n hx hb dX2_decodeMany_27 rfl (lv_at hl 1 rfl) ?_
    refine lv_sipush (v := 239) hx hb dX2_decodeMany_28 (by decide) ?_
    refine lv_icmp_gt (tgt := 42) hx hb dX2_decodeMany_31 (by decide) (fun c_26 => ?_) (fun c_26 => ?_)
    · have tc_26 : 239 < r_1.toInt := v_lt c_26
      refine lv_iconst (v := (-1)) hx hb dX2_decodeMany_42 (by decide) ?_
      have hP9 := hP.sub (ws' := [(nu, .inr (5, [.ref au, .int lu])), (au, .inl (cI, cap, .inl fu))]) [0, 1] rfl
      have hD9 := hD.sub (ws' := [(nu, .inr (5, [.ref au, .int lu])), (au, .inl (cI, cap, .inl fu))]) [0, 1] (by decide +kernel) rfl
      rw [hQQ]
      exact W.iret (v := (-1)) hx hb hr (fun t ht hW => ⟨⟨(-1), (-1), rfl, rfl, ⟨by rw [ht]; exact hP9, hD9⟩⟩, hS.F ht⟩) hS.2.2 dX2_decodeMany_43
    · have tc_26 : r_1.toInt ≤ 239 := v_nlt c_26
      refine lv_iload hx hb dX2_decodeMany_34 (lv_at hl 0 rfl) ?_
      refine lv_iload_n hx hb dX2_decodeMany_36 rfl (lv_at hl 4 rfl) ?_
      refine lv_iload_n hx hb dX2_decodeMany_37 rfl (lv_at hl 3 rfl) ?_
      refine lv_isub hx hb dX2_decodeMany_38 ?_
      refine lv_topi (fun x_27 ex_27 => ?_)
      have rv27_0 := v_rng en
      have rv27_1 := v_rng fr
      refine lv_icmp_le (tgt := 44) hx hb dX2_decodeMany_39 (by decide) (fun c_28 => ?_) (fun c_28 => ?_)
      · have tc_28 : 3 ≤ x_27.toInt := v_le c_28
        refine lv_iload hx hb dX2_decodeMany_44 (lv_at hl 0 rfl) ?_
        refine lv_iconst (v := 3) hx hb dX2_decodeMany_46 (by decide) ?_
        refine lv_icmp_ne (tgt := 58) hx hb dX2_decodeMany_47 (by decide) (fun c_29 => absurd c_29 (by decide)) (fun c_29 => ?_)
        refine lv_iload_n hx hb dX2_decodeMany_50 rfl (lv_at hl 1 rfl) ?_
        refine lv_sipush (v := 224) hx hb dX2_decodeMany_51 (by decide) ?_
        refine lv_isub hx hb dX2_decodeMany_54 ?_
        refine lv_topi (fun x_30 ex_30 => ?_)
        have tx_30 : x_30.toInt = r_1.toInt - 224 := v_sub ex_30 (by show -2147483648 ≤ r_1.toInt - 224; omega) (by show r_1.toInt - 224 < 2147483648; omega)
        refine lv_goto (tgt := 63) hx hb dX2_decodeMany_55 (by decide) ?_
        refine lv_istore (lv' := [(5, .int x_30), (4, .int 3), (3, .int r_1), (0, .ref nu), (1, .int fr), (2, .int en)]) hx hb dX2_decodeMany_63 hl (by decide) rfl (fun ls hl => ?_)
        refine lv_iconst (v := 1) hx hb dX2_decodeMany_65 (by decide) ?_
        refine lv_istore (lv' := [(6, .int 1), (5, .int x_30), (4, .int 3), (3, .int r_1), (0, .ref nu), (1, .int fr), (2, .int en)]) hx hb dX2_decodeMany_66 hl (by decide) rfl (fun ls hl => ?_)
        have LOOP_68 : ∀ (k_68 : Nat) (le : Int32) (i : Int32) (H : Heap) (locs : List Loc) (ls : Array Slot), MSd (4 - i.toInt : Int) k_68 → (1 ≤ i.toInt ∧ i.toInt ≤ 3) → va_P (dC, dI) vwCl [(nu, .inr (5, [.ref au, .int lu])), (au, .inl (cI, cap, .inl fu))] H → va_D A [(nu, .inr (5, [.ref au, .int lu])), (au, .inl (cI, cap, .inl fu))] → va_S A s.heap H locs → lv_has ls 8 [(6, .int i), (5, .int le), (4, .int 3), (0, .ref nu), (1, .int fr), (2, .int en)] → W p l e (headSpec wsX2_decodeMany ({ frames := 1, cells := 0, slots := 0, locals := 21 } : Room)).room s m ([.ref nu, .int fr, .int en] : List Value).toArray below meth c H locs 0 0 (MQ below QQ ([.ref nu, .int fr, .int en] : List Value).toArray s 0 0 A) (F0 m 68 ls []) := by
          clear hP hD hS hl
          intro k_68
          induction k_68 with
          | zero =>
            intro le i H locs ls hm_68 g_i hP hD hS hl
            exact ms_0 hm_68
          | succ k_68 ih_68 =>
            intro le i H locs ls hm_68 g_i hP hD hS hl
            refine lv_iload hx hb dX2_decodeMany_68 (lv_at hl 0 rfl) ?_
            refine lv_iload hx hb dX2_decodeMany_70 (lv_at hl 2 rfl) ?_
            refine lv_icmp_ge (tgt := 123) hx hb dX2_decodeMany_72 (by decide) (fun c_31 => ?_) (fun c_31 => ?_)
            · have tc_31 : 3 ≤ i.toInt := v_le c_31
              refine lv_iload hx hb dX2_decodeMany_123 (lv_at hl 1 rfl) ?_
              refine lv_iload hx hb dX2_decodeMany_125 (lv_at hl 2 rfl) ?_
              refine lv_iconst (v := 3) hx hb dX2_decodeMany_127 (by decide) ?_
              refine lv_icmp_ne (tgt := 137) hx hb dX2_decodeMany_128 (by decide) (fun c_32 => absurd c_32 (by decide)) (fun c_32 => ?_)
              refine lv_sipush (v := 2048) hx hb dX2_decodeMany_131 (by decide) ?_
              refine lv_goto (tgt := 140) hx hb dX2_decodeMany_134 (by decide) ?_
              refine lv_icmp_lt (tgt := 147) hx hb dX2_decodeMany_140 (by decide) (fun c_33 => ?_) (fun c_33 => ?_)
              · have tc_33 : le.toInt < 2048 := v_lt c_33
                refine lv_iconst (v := 0) hx hb dX2_decodeMany_147 (by decide) ?_
                refine lv_istore (lv' := [(6, .int 0), (5, .int le), (4, .int 3), (0, .ref nu), (1, .int fr), (2, .int en)]) hx hb dX2_decodeMany_148 hl (by decide) rfl (fun ls hl => ?_)
                refine lv_iload hx hb dX2_decodeMany_150 (lv_at hl 0 rfl) ?_
                refine lv_if_eq (tgt := 173) hx hb dX2_decodeMany_152 (by decide) (fun c_34 => ?_) (fun c_34 => absurd c_34 (by decide))
                refine lv_iconst (v := (-1)) hx hb dX2_decodeMany_173 (by decide) ?_
                have hP9 := hP.sub (ws' := [(nu, .inr (5, [.ref au, .int lu])), (au, .inl (cI, cap, .inl fu))]) [0, 1] rfl
                have hD9 := hD.sub (ws' := [(nu, .inr (5, [.ref au, .int lu])), (au, .inl (cI, cap, .inl fu))]) [0, 1] (by decide +kernel) rfl
                rw [hQQ]
                exact W.iret (v := (-1)) hx hb hr (fun t ht hW => ⟨⟨(-1), (-1), rfl, rfl, ⟨by rw [ht]; exact hP9, hD9⟩⟩, hS.F ht⟩) hS.2.2 dX2_decodeMany_174
              · have tc_33 : 2048 ≤ le.toInt := v_nlt c_33
                refine lv_iconst (v := 1) hx hb dX2_decodeMany_143 (by decide) ?_
                refine lv_goto (tgt := 148) hx hb dX2_decodeMany_144 (by decide) ?_
                refine lv_istore (lv' := [(6, .int 1), (5, .int le), (4, .int 3), (0, .ref nu), (1, .int fr), (2, .int en)]) hx hb dX2_decodeMany_148 hl (by decide) rfl (fun ls hl => ?_)
                refine lv_iload hx hb dX2_decodeMany_150 (lv_at hl 0 rfl) ?_
                refine lv_if_eq (tgt := 173) hx hb dX2_decodeMany_152 (by decide) (fun c_35 => absurd c_35 (by decide)) (fun c_35 => ?_)
                refine lv_iload hx hb dX2_decodeMany_155 (lv_at hl 1 rfl) ?_
                have hPc := hP.sub (ws' := []) [] rfl
                have hDc := hD.sub (ws' := []) [] (by decide +kernel) rfl
                have hFc := va_free (wc := []) hD hS hA [] rfl
                refine va_calli (va_runSN (As := [.int le]) (rest := []) ⟨hx, hb, hml, hown, hts⟩ (m_X11_isLetter l dC dI cI cS H.size le ) ⟨va_cnB 1 hts gX2_decodeMany_X11_isLetter_n52 rfl rfl rfl hN52 (hts (.initialized RX11) (List.mem_of_getElem? (i := 9) rfl)) (by decide +kernel) ⟨Nat.le_of_ble_eq_true rfl, Nat.le_of_ble_eq_true rfl⟩, (hts (.static yX11_isLetter) (List.mem_of_getElem? (i := 8) rfl)), trivial⟩ ⟨fun a U g mk q => by obtain ⟨q0, q1, qP, qK, qD⟩ := q; exact ⟨q0, q1, qP, va_K.moved (u := U) (U := U.calling g mk a) (Vm.Alike.refl U.vm) qK, qD⟩, fun U hU hW => ⟨rfl, by rw [hU], by rw [hU]; exact hPc, va_K.moved hW.alike hK, hDc.weaken (fun _ _ _ _ => trivial)⟩⟩ rfl rfl hl.1 rfl (lv_room (Nat.le_of_ble_eq_true rfl)) dX2_decodeMany_157 ⟨Nat.le_of_ble_eq_true rfl, Nat.le_of_ble_eq_true rfl⟩) hS (fun q _ h => hFc q h) hFc (fun r_36 u t H1 locs ht hvm hw hB hz1 hk1 hSn => ?_)
                subst hw
                obtain ⟨hP1, hD1, hf36_0, hf36_1⟩ := hB
                rw [ht] at hP1
                obtain ⟨hPn, hDn⟩ := va_join (wr := [(nu, .inr (5, [.ref au, .int lu])), (au, .inl (cI, cap, .inl fu))]) (w1 := []) hP hD [] [0, 1] rfl rfl (by decide +kernel) (by decide +kernel) hk1 hFc hP1 hD1
                clear hP hD hS hPc hDc hFc hk1 hz1 hvm ht hP1 hD1
                generalize H1 = H at hPn hSn ⊢
                have hP : va_P (dC, dI) vwCl [(nu, .inr (5, [.ref au, .int lu])), (au, .inl (cI, cap, .inl fu))] H := hPn
                have hD : va_D A [(nu, .inr (5, [.ref au, .int lu])), (au, .inl (cI, cap, .inl fu))] := hDn
                have hS := hSn
                clear hPn hDn hSn
                refine lv_if_eq (tgt := 173) hx hb dX2_decodeMany_160 (by decide) (fun c_37 => ?_) (fun c_37 => ?_)
                · have tc_37 : r_36.toInt = 0 := v_eq c_37
                  refine lv_iconst (v := (-1)) hx hb dX2_decodeMany_173 (by decide) ?_
                  have hP9 := hP.sub (ws' := [(nu, .inr (5, [.ref au, .int lu])), (au, .inl (cI, cap, .inl fu))]) [0, 1] rfl
                  have hD9 := hD.sub (ws' := [(nu, .inr (5, [.ref au, .int lu])), (au, .inl (cI, cap, .inl fu))]) [0, 1] (by decide +kernel) rfl
                  rw [hQQ]
                  exact W.iret (v := (-1)) hx hb hr (fun t ht hW => ⟨⟨(-1), (-1), rfl, rfl, ⟨by rw [ht]; exact hP9, hD9⟩⟩, hS.F ht⟩) hS.2.2 dX2_decodeMany_174
                · have tc_37 : ¬ r_36.toInt = 0 := v_ne c_37
                  refine lv_iload hx hb dX2_decodeMany_163 (lv_at hl 1 rfl) ?_
                  refine lv_iload hx hb dX2_decodeMany_165 (lv_at hl 2 rfl) ?_
                  have hPc := hP.sub (ws' := []) [] rfl
                  have hDc := hD.sub (ws' := []) [] (by decide +kernel) rfl
                  have hFc := va_free (wc := []) hD hS hA [] rfl
                  refine va_calli (va_runS (As := [.int le, .int 3]) (rest := []) ⟨hx, hb, hml, hown, hts⟩ (m_X2_found l dC dI cI cS H.size le 3 ) (va_cwS 2 hts gX2_decodeMany_X2_found rfl rfl rfl (by decide +kernel) ⟨Nat.le_of_ble_eq_true rfl, Nat.le_of_ble_eq_true rfl⟩) ⟨fun a U g mk q => by obtain ⟨q0, q1, qP, qK, qD⟩ := q; exact ⟨q0, q1, qP, va_K.moved (u := U) (U := U.calling g mk a) (Vm.Alike.refl U.vm) qK, qD⟩, fun U hU hW => ⟨rfl, by rw [hU], by rw [hU]; exact hPc, va_K.moved hW.alike hK, hDc.weaken (fun _ _ _ _ => trivial)⟩⟩ rfl rfl hl.1 rfl (lv_room (Nat.le_of_ble_eq_true rfl)) dX2_decodeMany_167 ⟨Nat.le_of_ble_eq_true rfl, Nat.le_of_ble_eq_true rfl⟩) hS (fun q _ h => hFc q h) hFc (fun r_38 u t H1 locs ht hvm hw hB hz1 hk1 hSn => ?_)
                  subst hw
                  obtain ⟨hP1, hD1⟩ := hB
                  rw [ht] at hP1
                  obtain ⟨hPn, hDn⟩ := va_join (wr := [(nu, .inr (5, [.ref au, .int lu])), (au, .inl (cI, cap, .inl fu))]) (w1 := []) hP hD [] [0, 1] rfl rfl (by decide +kernel) (by decide +kernel) hk1 hFc hP1 hD1
                  clear hP hD hS hPc hDc hFc hk1 hz1 hvm ht hP1 hD1
                  generalize H1 = H at hPn hSn ⊢
                  have hP : va_P (dC, dI) vwCl [(nu, .inr (5, [.ref au, .int lu])), (au, .inl (cI, cap, .inl fu))] H := hPn
                  have hD : va_D A [(nu, .inr (5, [.ref au, .int lu])), (au, .inl (cI, cap, .inl fu))] := hDn
                  have hS := hSn
                  clear hPn hDn hSn
                  refine lv_goto (tgt := 174) hx hb dX2_decodeMany_170 (by decide) ?_
                  have hP9 := hP.sub (ws' := [(nu, .inr (5, [.ref au, .int lu])), (au, .inl (cI, cap, .inl fu))]) [0, 1] rfl
                  have hD9 := hD.sub (ws' := [(nu, .inr (5, [.ref au, .int lu])), (au, .inl (cI, cap, .inl fu))]) [0, 1] (by decide +kernel) rfl
                  rw [hQQ]
                  exact W.iret (v := r_38) hx hb hr (fun t ht hW => ⟨⟨r_38, r_38, rfl, rfl, ⟨by rw [ht]; exact hP9, hD9⟩⟩, hS.F ht⟩) hS.2.2 dX2_decodeMany_174
            · have tc_31 : i.toInt < 3 := v_nle c_31
              refine lv_aload_n hx hb dX2_decodeMany_75 rfl (lv_at hl 3 rfl) ?_
              refine lv_iload_n hx hb dX2_decodeMany_76 rfl (lv_at hl 4 rfl) ?_
              refine lv_iload hx hb dX2_decodeMany_77 (lv_at hl 0 rfl) ?_
              refine lv_iadd hx hb dX2_decodeMany_79 ?_
              refine lv_topi (fun x_39 ex_39 => ?_)
              have hPc := hP.sub (ws' := [(nu, .inr (5, [.ref au, .int lu])), (au, .inl (cI, cap, .inl fu))]) [0, 1] rfl
              have hDc := hD.sub (ws' := [(nu, .inr (5, [.ref au, .int lu])), (au, .inl (cI, cap, .inl fu))]) [0, 1] (by decide +kernel) rfl
              have hFc := va_free (wc := [(nu, .inr (5, [.ref au, .int lu])), (au, .inl (cI, cap, .inl fu))]) hD hS hA [0, 1] rfl
              refine va_calli (va_runV (As := [.int x_39]) (rest := []) ⟨hx, hb, hml, hown, hts⟩ (m_X5_get l dC dI cI cS H.size nu au cap lu fu x_39 (g_lu) (by omega)) (cwV 1 hts gX2_decodeMany_X5_get rfl rfl rfl (by decide +kernel) ⟨Nat.le_of_ble_eq_true rfl, Nat.le_of_ble_eq_true rfl⟩) ⟨fun a U g mk q => by obtain ⟨q0, q1, qP, qK, qD⟩ := q; exact ⟨q0, q1, qP, va_K.moved (u := U) (U := U.calling g mk a) (Vm.Alike.refl U.vm) qK, qD⟩, va_recv hK hPc (ci := 5) (q0 := 0) rfl rfl, fun U hU hW => ⟨rfl, by rw [hU], by rw [hU]; exact hPc, va_K.moved hW.alike hK, hDc.weaken (fun _ _ _ _ => trivial)⟩⟩ rfl rfl hl.1 rfl (lv_room (Nat.le_of_ble_eq_true rfl)) dX2_decodeMany_80 ⟨Nat.le_of_ble_eq_true rfl, Nat.le_of_ble_eq_true rfl⟩) hS (fun q _ h => hFc q h) hFc (fun r_40 u t H1 locs ht hvm hw hB hz1 hk1 hSn => ?_)
              subst hw
              obtain ⟨hP1, hD1, hf40_0⟩ := hB
              rw [ht] at hP1
              obtain ⟨hPn, hDn⟩ := va_join (wr := []) (w1 := [(nu, .inr (5, [.ref au, .int lu])), (au, .inl (cI, cap, .inl fu))]) hP hD [0, 1] [] rfl rfl (by decide +kernel) (by decide +kernel) hk1 hFc hP1 hD1
              clear hP hD hS hPc hDc hFc hk1 hz1 hvm ht hP1 hD1
              generalize H1 = H at hPn hSn ⊢
              have hP : va_P (dC, dI) vwCl [(nu, .inr (5, [.ref au, .int lu])), (au, .inl (cI, cap, .inl fu))] H := hPn
              have hD : va_D A [(nu, .inr (5, [.ref au, .int lu])), (au, .inl (cI, cap, .inl fu))] := hDn
              have hS := hSn
              clear hPn hDn hSn
              refine lv_istore (lv' := [(7, .int r_40), (6, .int i), (5, .int le), (4, .int 3), (0, .ref nu), (1, .int fr), (2, .int en)]) hx hb dX2_decodeMany_83 hl (by decide) rfl (fun ls hl => ?_)
              refine lv_iload hx hb dX2_decodeMany_85 (lv_at hl 0 rfl) ?_
              refine lv_sipush (v := 128) hx hb dX2_decodeMany_87 (by decide) ?_
              refine lv_icmp_lt (tgt := 101) hx hb dX2_decodeMany_90 (by decide) (fun c_41 => ?_) (fun c_41 => ?_)
              · have tc_41 : r_40.toInt < 128 := v_lt c_41
                refine lv_iconst (v := (-1)) hx hb dX2_decodeMany_101 (by decide) ?_
                have hP9 := hP.sub (ws' := [(nu, .inr (5, [.ref au, .int lu])), (au, .inl (cI, cap, .inl fu))]) [0, 1] rfl
                have hD9 := hD.sub (ws' := [(nu, .inr (5, [.ref au, .int lu])), (au, .inl (cI, cap, .inl fu))]) [0, 1] (by decide +kernel) rfl
                rw [hQQ]
                exact W.iret (v := (-1)) hx hb hr (fun t ht hW => ⟨⟨(-1), (-1), rfl, rfl, ⟨by rw [ht]; exact hP9, hD9⟩⟩, hS.F ht⟩) hS.2.2 dX2_decodeMany_102
              · have tc_41 : 128 ≤ r_40.toInt := v_nlt c_41
                refine lv_iload hx hb dX2_decodeMany_93 (lv_at hl 0 rfl) ?_
                refine lv_sipush (v := 191) hx hb dX2_decodeMany_95 (by decide) ?_
                refine lv_icmp_le (tgt := 103) hx hb dX2_decodeMany_98 (by decide) (fun c_42 => ?_) (fun c_42 => ?_)
                · have tc_42 : r_40.toInt ≤ 191 := v_le c_42
                  refine lv_iload hx hb dX2_decodeMany_103 (lv_at hl 2 rfl) ?_
                  refine lv_bipush (v := 64) hx hb dX2_decodeMany_105 (by decide) ?_
                  refine lv_imul hx hb dX2_decodeMany_107 ?_
                  refine lv_topi (fun x_43 ex_43 => ?_)
                  have rv43_0 := v_rng le
                  refine lv_iload hx hb dX2_decodeMany_108 (lv_at hl 0 rfl) ?_
                  refine lv_iadd hx hb dX2_decodeMany_110 ?_
                  refine lv_topi (fun x_44 ex_44 => ?_)
                  have rv44_0 := v_rng x_43
                  refine lv_sipush (v := 128) hx hb dX2_decodeMany_111 (by decide) ?_
                  refine lv_isub hx hb dX2_decodeMany_114 ?_
                  refine lv_topi (fun x_45 ex_45 => ?_)
                  have rv45_0 := v_rng x_44
                  refine lv_istore (lv' := [(5, .int x_45), (7, .int r_40), (6, .int i), (4, .int 3), (0, .ref nu), (1, .int fr), (2, .int en)]) hx hb dX2_decodeMany_115 hl (by decide) rfl (fun ls hl => ?_)
                  obtain ⟨x_46, ex_46⟩ : ∃ y : Int32, y = i + 1 := ⟨_, rfl⟩
                  have tx_46 : x_46.toInt = i.toInt + 1 := v_add ex_46 (by show -2147483648 ≤ i.toInt + 1; omega) (by show i.toInt + 1 < 2147483648; omega)
                  refine lv_iinc (v := x_46) (lv' := [(6, .int x_46), (5, .int x_45), (7, .int r_40), (4, .int 3), (0, .ref nu), (1, .int fr), (2, .int en)]) hx hb dX2_decodeMany_117 hl (k := 2) rfl (by rw [ex_46]; rfl) (by decide) rfl (fun ls hl => ?_)
                  refine lv_goto (tgt := 68) hx hb dX2_decodeMany_120 (by decide) ?_
                  exact ih_68 x_45 x_46 _ _ _ (ms_lt hm_68 (by show ((4 - x_46.toInt : Int)) < 4 - i.toInt; omega) (by show (0 : Int) < 4 - i.toInt; omega)) (by show 1 ≤ x_46.toInt ∧ x_46.toInt ≤ 3; omega) hP hD hS (lv_sub hl [0, 1, 3, 4, 5, 6] rfl)
                · have tc_42 : 191 < r_40.toInt := v_nle c_42
                  refine lv_iconst (v := (-1)) hx hb dX2_decodeMany_101 (by decide) ?_
                  have hP9 := hP.sub (ws' := [(nu, .inr (5, [.ref au, .int lu])), (au, .inl (cI, cap, .inl fu))]) [0, 1] rfl
                  have hD9 := hD.sub (ws' := [(nu, .inr (5, [.ref au, .int lu])), (au, .inl (cI, cap, .inl fu))]) [0, 1] (by decide +kernel) rfl
                  rw [hQQ]
                  exact W.iret (v := (-1)) hx hb hr (fun t ht hW => ⟨⟨(-1), (-1), rfl, rfl, ⟨by rw [ht]; exact hP9, hD9⟩⟩, hS.F ht⟩) hS.2.2 dX2_decodeMany_102
        exact LOOP_68 _ x_30 1 _ _ _ (ms_s _) (by decide) hP hD hS (lv_sub hl [0, 1, 2, 4, 5, 6] rfl)
      · have tc_28 : x_27.toInt < 3 := v_nle c_28
        refine lv_iconst (v := (-1)) hx hb dX2_decodeMany_42 (by decide) ?_
        have hP9 := hP.sub (ws' := [(nu, .inr (5, [.ref au, .int lu])), (au, .inl (cI, cap, .inl fu))]) [0, 1] rfl
        have hD9 := hD.sub (ws' := [(nu, .inr (5, [.ref au, .int lu])), (au, .inl (cI, cap, .inl fu))]) [0, 1] (by decide +kernel) rfl
        rw [hQQ]
        exact W.iret (v := (-1)) hx hb hr (fun t ht hW => ⟨⟨(-1), (-1), rfl, rfl, ⟨by rw [ht]; exact hP9, hD9⟩⟩, hS.F ht⟩) hS.2.2 dX2_decodeMany_43

set_option maxHeartbeats 40000000 in
set_option maxRecDepth 100000 in
theorem m_X2_decodeNumber (l : Launch) (dC : Nat → ClassId) (dI : Nat → Nat → Nat) (cI cS : ClassId) (sz : Nat) (nu : Nat) (au : Nat) (cap : Nat) (lu : Int32) (fu : Nat → Int32) (fr : Int32) (en : Int32) (g_lu : 0 ≤ lu.toInt ∧ lu.toInt ≤ (cap : Int)) (hcap : cap ≤ 2400) : Met l yX2_decodeNumber wsX2_decodeNumber ({ frames := 1, cells := 0, slots := 0, locals := 21 } : Room) (va_Pc [.ref nu, .int fr, .int en] (fun U => U.heap.size = sz ∧ va_P (dC, dI) vwCl [(nu, .inr (5, [.ref au, .int lu])), (au, .inl (cI, cap, .inl fu))] U.heap ∧ va_K (dC, dI) vwCl [(cI, .int), (cS, .short)] U ∧ va_D (fun _ => True) [(nu, .inr (5, [.ref au, .int lu])), (au, .inl (cI, cap, .inl fu))] ∧ va_Nw (.methodLinkNest RX2 52 yX11_isLetter "TextMender") U)) (va_Qi (fun (r : Int32) (u : Int32) => r = u) (fun (r : Int32) t => va_P (dC, dI) vwCl [(nu, .inr (5, [.ref au, .int lu])), (au, .inl (cI, cap, .inl fu))] t.heap ∧ va_D (va_A [(nu, .inr (5, [.ref au, .int lu])), (au, .inl (cI, cap, .inl fu))] sz) [(nu, .inr (5, [.ref au, .int lu])), (au, .inl (cI, cap, .inl fu))]) (va_A [(nu, .inr (5, [.ref au, .int lu])), (au, .inl (cI, cap, .inl fu))] sz)) 0 0 (va_A [(nu, .inr (5, [.ref au, .int lu])), (au, .inl (cI, cap, .inl fu))] sz) := by
  refine Met.ofW (cc := cX2_decodeNumber) (maxL := 7) (ret := (some .int)) (by decide) rfl ?_
  intro p e s m args below meth c s₁ B hml hv
  obtain ⟨rfl, hsz, hP, hK, hD0, hN52⟩ := hv
  have hx := B.exec
  have hb := B.bytes
  have hr := B.returns
  have hts := atoms_spec (ws := wsX2_decodeNumber) B.pre
  have hown : s.vm.findClass RX2 = some m.cls := findClass_of_methodNamed B.named
  have hlocks := B.notSynchronized
  subst hsz
  have hD := hD0.self (sz := s.heap.size)
  generalize hAe : va_A [(nu, .inr (5, [.ref au, .int lu])), (au, .inl (cI, cap, .inl fu))] s.heap.size = A at hD ⊢
  have hA : ∀ q : Nat, s.heap.size ≤ q → A q := fun q h => by rw [← hAe]; exact Or.inr h
  have hS : va_S A s.heap s.heap [] := va_S.rf
  have hP : va_P (dC, dI) vwCl [(nu, .inr (5, [.ref au, .int lu])), (au, .inl (cI, cap, .inl fu))] s.heap := hP
  have hl := lv_entry ([.ref nu, .int fr, .int en]) (n := 7) (Nat.le_of_ble_eq_true rfl)
  rw [lg_entry_eq]
  generalize (lg_sl ([.ref nu, .int fr, .int en]) ++ List.replicate (7 - (lg_sl ([.ref nu, .int fr, .int en])).length) Slot.unset).toArray = ls at hl ⊢
  have hl : lv_has ls 7 [(0, .ref nu), (1, .int fr), (2, .int en)] := hl
  obtain ⟨QQ, hQQ⟩ : ∃ QQ : Array Value → State → Outcome → State → Prop, QQ = va_Qi (fun (r : Int32) (u : Int32) => r = u) (fun (r : Int32) t => va_P (dC, dI) vwCl [(nu, .inr (5, [.ref au, .int lu])), (au, .inl (cI, cap, .inl fu))] t.heap ∧ va_D A [(nu, .inr (5, [.ref au, .int lu])), (au, .inl (cI, cap, .inl fu))]) A := ⟨_, rfl⟩
  rw [← hQQ]
  have re_ := v_rng en
  refine lv_aload_n hx hb dX2_decodeNumber_0 rfl (lv_at hl 0 rfl) ?_
  refine lv_iload_n hx hb dX2_decodeNumber_1 rfl (lv_at hl 1 rfl) ?_
  have hPc := hP.sub (ws' := [(nu, .inr (5, [.ref au, .int lu])), (au, .inl (cI, cap, .inl fu))]) [0, 1] rfl
  have hDc := hD.sub (ws' := [(nu, .inr (5, [.ref au, .int lu])), (au, .inl (cI, cap, .inl fu))]) [0, 1] (by decide +kernel) rfl
  have hFc := va_free (wc := [(nu, .inr (5, [.ref au, .int lu])), (au, .inl (cI, cap, .inl fu))]) hD hS hA [0, 1] rfl
  refine va_calli (va_runV (As := [.int fr]) (rest := []) ⟨hx, hb, hml, hown, hts⟩ (m_X5_get l dC dI cI cS s.heap.size nu au cap lu fu fr (g_lu) (by omega)) (cwV 1 hts gX2_decodeNumber_X5_get rfl rfl rfl (by decide +kernel) ⟨Nat.le_of_ble_eq_true rfl, Nat.le_of_ble_eq_true rfl⟩) ⟨fun a U g mk q => by obtain ⟨q0, q1, qP, qK, qD⟩ := q; exact ⟨q0, q1, qP, va_K.moved (u := U) (U := U.calling g mk a) (Vm.Alike.refl U.vm) qK, qD⟩, va_recv hK hPc (ci := 5) (q0 := 0) rfl rfl, fun U hU hW => ⟨rfl, by rw [hU], by rw [hU]; exact hPc, va_K.moved hW.alike hK, hDc.weaken (fun _ _ _ _ => trivial)⟩⟩ rfl rfl hl.1 rfl (lv_room (Nat.le_of_ble_eq_true rfl)) dX2_decodeNumber_2 ⟨Nat.le_of_ble_eq_true rfl, Nat.le_of_ble_eq_true rfl⟩) hS (fun q _ h => hFc q h) hFc (fun r_1 u t H1 locs ht hvm hw hB hz1 hk1 hSn => ?_)
  subst hw
  obtain ⟨hP1, hD1, hf1_0⟩ := hB
  rw [ht] at hP1
  obtain ⟨hPn, hDn⟩ := va_join (wr := []) (w1 := [(nu, .inr (5, [.ref au, .int lu])), (au, .inl (cI, cap, .inl fu))]) hP hD [0, 1] [] rfl rfl (by decide +kernel) (by decide +kernel) hk1 hFc hP1 hD1
  clear hP hD hS hPc hDc hFc hk1 hz1 hvm ht hP1 hD1
  generalize H1 = H at hPn hSn ⊢
  have hP : va_P (dC, dI) vwCl [(nu, .inr (5, [.ref au, .int lu])), (au, .inl (cI, cap, .inl fu))] H := hPn
  have hD : va_D A [(nu, .inr (5, [.ref au, .int lu])), (au, .inl (cI, cap, .inl fu))] := hDn
  have hS := hSn
  clear hPn hDn hSn
  refine lv_bipush (v := 38) hx hb dX2_decodeNumber_5 (by decide) ?_
  refine lv_icmp_ne (tgt := 29) hx hb dX2_decodeNumber_7 (by decide) (fun c_2 => ?_) (fun c_2 => ?_)
  · have tc_2 : ¬ r_1.toInt = 38 := v_ne c_2
    refine lv_iconst (v := (-1)) hx hb dX2_decodeNumber_29 (by decide) ?_
    have hP9 := hP.sub (ws' := [(nu, .inr (5, [.ref au, .int lu])), (au, .inl (cI, cap, .inl fu))]) [0, 1] rfl
    have hD9 := hD.sub (ws' := [(nu, .inr (5, [.ref au, .int lu])), (au, .inl (cI, cap, .inl fu))]) [0, 1] (by decide +kernel) rfl
    rw [hQQ]
    exact W.iret (v := (-1)) hx hb hr (fun t ht hW => ⟨⟨(-1), (-1), rfl, rfl, ⟨by rw [ht]; exact hP9, hD9⟩⟩, hS.F ht⟩) hS.2.2 dX2_decodeNumber_30
  · have tc_2 : r_1.toInt = 38 := v_eq c_2
    refine lv_iload_n hx hb dX2_decodeNumber_10 rfl (lv_at hl 1 rfl) ?_
    refine lv_iconst (v := 1) hx hb dX2_decodeNumber_11 (by decide) ?_
    refine lv_iadd hx hb dX2_decodeNumber_12 ?_
    refine lv_topi (fun x_3 ex_3 => ?_)
    have rv3_0 := v_rng fr
    refine lv_iload_n hx hb dX2_decodeNumber_13 rfl (lv_at hl 2 rfl) ?_
    refine lv_icmp_ge (tgt := 29) hx hb dX2_decodeNumber_14 (by decide) (fun c_4 => ?_) (fun c_4 => ?_)
    · have tc_4 : en.toInt ≤ x_3.toInt := v_le c_4
      have rw4_0 := v_rng x_3
      have rw4_1 := v_rng en
      refine lv_iconst (v := (-1)) hx hb dX2_decodeNumber_29 (by decide) ?_
      have hP9 := hP.sub (ws' := [(nu, .inr (5, [.ref au, .int lu])), (au, .inl (cI, cap, .inl fu))]) [0, 1] rfl
      have hD9 := hD.sub (ws' := [(nu, .inr (5, [.ref au, .int lu])), (au, .inl (cI, cap, .inl fu))]) [0, 1] (by decide +kernel) rfl
      rw [hQQ]
      exact W.iret (v := (-1)) hx hb hr (fun t ht hW => ⟨⟨(-1), (-1), rfl, rfl, ⟨by rw [ht]; exact hP9, hD9⟩⟩, hS.F ht⟩) hS.2.2 dX2_decodeNumber_30
    · have tc_4 : x_3.toInt < en.toInt := v_nle c_4
      have rw4_0 := v_rng x_3
      have rw4_1 := v_rng en
      refine lv_aload_n hx hb dX2_decodeNumber_17 rfl (lv_at hl 0 rfl) ?_
      refine lv_iload_n hx hb dX2_decodeNumber_18 rfl (lv_at hl 1 rfl) ?_
      refine lv_iconst (v := 1) hx hb dX2_decodeNumber_19 (by decide) ?_
      refine lv_iadd hx hb dX2_decodeNumber_20 ?_
      refine lv_topi (fun x_5 ex_5 => ?_)
      have hPc := hP.sub (ws' := [(nu, .inr (5, [.ref au, .int lu])), (au, .inl (cI, cap, .inl fu))]) [0, 1] rfl
      have hDc := hD.sub (ws' := [(nu, .inr (5, [.ref au, .int lu])), (au, .inl (cI, cap, .inl fu))]) [0, 1] (by decide +kernel) rfl
      have hFc := va_free (wc := [(nu, .inr (5, [.ref au, .int lu])), (au, .inl (cI, cap, .inl fu))]) hD hS hA [0, 1] rfl
      refine va_calli (va_runV (As := [.int x_5]) (rest := []) ⟨hx, hb, hml, hown, hts⟩ (m_X5_get l dC dI cI cS H.size nu au cap lu fu x_5 (g_lu) (by omega)) (cwV 1 hts gX2_decodeNumber_X5_get rfl rfl rfl (by decide +kernel) ⟨Nat.le_of_ble_eq_true rfl, Nat.le_of_ble_eq_true rfl⟩) ⟨fun a U g mk q => by obtain ⟨q0, q1, qP, qK, qD⟩ := q; exact ⟨q0, q1, qP, va_K.moved (u := U) (U := U.calling g mk a) (Vm.Alike.refl U.vm) qK, qD⟩, va_recv hK hPc (ci := 5) (q0 := 0) rfl rfl, fun U hU hW => ⟨rfl, by rw [hU], by rw [hU]; exact hPc, va_K.moved hW.alike hK, hDc.weaken (fun _ _ _ _ => trivial)⟩⟩ rfl rfl hl.1 rfl (lv_room (Nat.le_of_ble_eq_true rfl)) dX2_decodeNumber_21 ⟨Nat.le_of_ble_eq_true rfl, Nat.le_of_ble_eq_true rfl⟩) hS (fun q _ h => hFc q h) hFc (fun r_6 u t H1 locs ht hvm hw hB hz1 hk1 hSn => ?_)
      subst hw
      obtain ⟨hP1, hD1, hf6_0⟩ := hB
      rw [ht] at hP1
      obtain ⟨hPn, hDn⟩ := va_join (wr := []) (w1 := [(nu, .inr (5, [.ref au, .int lu])), (au, .inl (cI, cap, .inl fu))]) hP hD [0, 1] [] rfl rfl (by decide +kernel) (by decide +kernel) hk1 hFc hP1 hD1
      clear hP hD hS hPc hDc hFc hk1 hz1 hvm ht hP1 hD1
      generalize H1 = H at hPn hSn ⊢
      have hP : va_P (dC, dI) vwCl [(nu, .inr (5, [.ref au, .int lu])), (au, .inl (cI, cap, .inl fu))] H := hPn
      have hD : va_D A [(nu, .inr (5, [.ref au, .int lu])), (au, .inl (cI, cap, .inl fu))] := hDn
      have hS := hSn
      clear hPn hDn hSn
      refine lv_bipush (v := 35) hx hb dX2_decodeNumber_24 (by decide) ?_
      refine lv_icmp_eq (tgt := 31) hx hb dX2_decodeNumber_26 (by decide) (fun c_7 => ?_) (fun c_7 => ?_)
      · have tc_7 : r_6.toInt = 35 := v_eq c_7
        refine lv_iconst (v := 0) hx hb dX2_decodeNumber_31 (by decide) ?_
        refine lv_istore_n (lv' := [(3, .int 0), (0, .ref nu), (1, .int fr), (2, .int en)]) hx hb dX2_decodeNumber_32 rfl hl (by decide) rfl (fun ls hl => ?_)
        refine lv_iload_n hx hb dX2_decodeNumber_33 rfl (lv_at hl 2 rfl) ?_
        refine lv_iconst (v := 2) hx hb dX2_decodeNumber_34 (by decide) ?_
        refine lv_iadd hx hb dX2_decodeNumber_35 ?_
        refine lv_topi (fun x_8 ex_8 => ?_)
        refine lv_istore (lv' := [(4, .int x_8), (3, .int 0), (0, .ref nu), (1, .int fr), (2, .int en)]) hx hb dX2_decodeNumber_36 hl (by decide) rfl (fun ls hl => ?_)
        have LOOP_38 : ∀ (k_38 : Nat) (nb : Int32) (p_ : Int32) (H : Heap) (locs : List Loc) (ls : Array Slot), MSd (en.toInt - p_.toInt : Int) k_38 →  va_P (dC, dI) vwCl [(nu, .inr (5, [.ref au, .int lu])), (au, .inl (cI, cap, .inl fu))] H → va_D A [(nu, .inr (5, [.ref au, .int lu])), (au, .inl (cI, cap, .inl fu))] → va_S A s.heap H locs → lv_has ls 7 [(4, .int p_), (3, .int nb), (0, .ref nu), (1, .int fr), (2, .int en)] → W p l e (headSpec wsX2_decodeNumber ({ frames := 1, cells := 0, slots := 0, locals := 21 } : Room)).room s m ([.ref nu, .int fr, .int en] : List Value).toArray below meth c H locs 0 0 (MQ below QQ ([.ref nu, .int fr, .int en] : List Value).toArray s 0 0 A) (F0 m 38 ls []) := by
          clear hP hD hS hl
          intro k_38
          induction k_38 with
          | zero =>
            intro nb p_ H locs ls hm_38  hP hD hS hl
            exact ms_0 hm_38
          | succ k_38 ih_38 =>
            intro nb p_ H locs ls hm_38  hP hD hS hl
            refine lv_iload hx hb dX2_decodeNumber_38 (lv_at hl 0 rfl) ?_
            refine lv_iload_n hx hb dX2_decodeNumber_40 rfl (lv_at hl 4 rfl) ?_
            refine lv_icmp_ge (tgt := 153) hx hb dX2_decodeNumber_41 (by decide) (fun c_9 => ?_) (fun c_9 => ?_)
            · have tc_9 : en.toInt ≤ p_.toInt := v_le c_9
              have rw9_0 := v_rng p_
              refine lv_iconst (v := (-1)) hx hb dX2_decodeNumber_153 (by decide) ?_
              have hP9 := hP.sub (ws' := [(nu, .inr (5, [.ref au, .int lu])), (au, .inl (cI, cap, .inl fu))]) [0, 1] rfl
              have hD9 := hD.sub (ws' := [(nu, .inr (5, [.ref au, .int lu])), (au, .inl (cI, cap, .inl fu))]) [0, 1] (by decide +kernel) rfl
              rw [hQQ]
              exact W.iret (v := (-1)) hx hb hr (fun t ht hW => ⟨⟨(-1), (-1), rfl, rfl, ⟨by rw [ht]; exact hP9, hD9⟩⟩, hS.F ht⟩) hS.2.2 dX2_decodeNumber_154
            · have tc_9 : p_.toInt < en.toInt := v_nle c_9
              have rw9_0 := v_rng p_
              refine lv_iload hx hb dX2_decodeNumber_44 (lv_at hl 0 rfl) ?_
              refine lv_iload_n hx hb dX2_decodeNumber_46 rfl (lv_at hl 3 rfl) ?_
              refine lv_bipush (v := 8) hx hb dX2_decodeNumber_47 (by decide) ?_
              refine lv_iadd hx hb dX2_decodeNumber_49 ?_
              refine lv_topi (fun x_10 ex_10 => ?_)
              refine lv_icmp_ge (tgt := 153) hx hb dX2_decodeNumber_50 (by decide) (fun c_11 => ?_) (fun c_11 => ?_)
              · have tc_11 : x_10.toInt ≤ p_.toInt := v_le c_11
                have rw11_1 := v_rng x_10
                refine lv_iconst (v := (-1)) hx hb dX2_decodeNumber_153 (by decide) ?_
                have hP9 := hP.sub (ws' := [(nu, .inr (5, [.ref au, .int lu])), (au, .inl (cI, cap, .inl fu))]) [0, 1] rfl
                have hD9 := hD.sub (ws' := [(nu, .inr (5, [.ref au, .int lu])), (au, .inl (cI, cap, .inl fu))]) [0, 1] (by decide +kernel) rfl
                rw [hQQ]
                exact W.iret (v := (-1)) hx hb hr (fun t ht hW => ⟨⟨(-1), (-1), rfl, rfl, ⟨by rw [ht]; exact hP9, hD9⟩⟩, hS.F ht⟩) hS.2.2 dX2_decodeNumber_154
              · have tc_11 : p_.toInt < x_10.toInt := v_nle c_11
                have rw11_1 := v_rng x_10
                refine lv_aload_n hx hb dX2_decodeNumber_53 rfl (lv_at hl 2 rfl) ?_
                refine lv_iload hx hb dX2_decodeNumber_54 (lv_at hl 0 rfl) ?_
                have hPc := hP.sub (ws' := [(nu, .inr (5, [.ref au, .int lu])), (au, .inl (cI, cap, .inl fu))]) [0, 1] rfl
                have hDc := hD.sub (ws' := [(nu, .inr (5, [.ref au, .int lu])), (au, .inl (cI, cap, .inl fu))]) [0, 1] (by decide +kernel) rfl
                have hFc := va_free (wc := [(nu, .inr (5, [.ref au, .int lu])), (au, .inl (cI, cap, .inl fu))]) hD hS hA [0, 1] rfl
                refine va_calli (va_runV (As := [.int p_]) (rest := []) ⟨hx, hb, hml, hown, hts⟩ (m_X5_get l dC dI cI cS H.size nu au cap lu fu p_ (g_lu) (by omega)) (cwV 1 hts gX2_decodeNumber_X5_get rfl rfl rfl (by decide +kernel) ⟨Nat.le_of_ble_eq_true rfl, Nat.le_of_ble_eq_true rfl⟩) ⟨fun a U g mk q => by obtain ⟨q0, q1, qP, qK, qD⟩ := q; exact ⟨q0, q1, qP, va_K.moved (u := U) (U := U.calling g mk a) (Vm.Alike.refl U.vm) qK, qD⟩, va_recv hK hPc (ci := 5) (q0 := 0) rfl rfl, fun U hU hW => ⟨rfl, by rw [hU], by rw [hU]; exact hPc, va_K.moved hW.alike hK, hDc.weaken (fun _ _ _ _ => trivial)⟩⟩ rfl rfl hl.1 rfl (lv_room (Nat.le_of_ble_eq_true rfl)) dX2_decodeNumber_56 ⟨Nat.le_of_ble_eq_true rfl, Nat.le_of_ble_eq_true rfl⟩) hS (fun q _ h => hFc q h) hFc (fun r_12 u t H1 locs ht hvm hw hB hz1 hk1 hSn => ?_)
                subst hw
                obtain ⟨hP1, hD1, hf12_0⟩ := hB
                rw [ht] at hP1
                obtain ⟨hPn, hDn⟩ := va_join (wr := []) (w1 := [(nu, .inr (5, [.ref au, .int lu])), (au, .inl (cI, cap, .inl fu))]) hP hD [0, 1] [] rfl rfl (by decide +kernel) (by decide +kernel) hk1 hFc hP1 hD1
                clear hP hD hS hPc hDc hFc hk1 hz1 hvm ht hP1 hD1
                generalize H1 = H at hPn hSn ⊢
                have hP : va_P (dC, dI) vwCl [(nu, .inr (5, [.ref au, .int lu])), (au, .inl (cI, cap, .inl fu))] H := hPn
                have hD : va_D A [(nu, .inr (5, [.ref au, .int lu])), (au, .inl (cI, cap, .inl fu))] := hDn
                have hS := hSn
                clear hPn hDn hSn
                refine lv_istore (lv' := [(5, .int r_12), (4, .int p_), (3, .int nb), (0, .ref nu), (1, .int fr), (2, .int en)]) hx hb dX2_decodeNumber_59 hl (by decide) rfl (fun ls hl => ?_)
                refine lv_iload hx hb dX2_decodeNumber_61 (lv_at hl 0 rfl) ?_
                refine lv_bipush (v := 59) hx hb dX2_decodeNumber_63 (by decide) ?_
                refine lv_icmp_ne (tgt := 97) hx hb dX2_decodeNumber_65 (by decide) (fun c_13 => ?_) (fun c_13 => ?_)
                · have tc_13 : ¬ r_12.toInt = 59 := v_ne c_13
                  refine lv_iload_n hx hb dX2_decodeNumber_97 rfl (lv_at hl 2 rfl) ?_
                  refine lv_if_ne (tgt := 112) hx hb dX2_decodeNumber_98 (by decide) (fun c_14 => ?_) (fun c_14 => ?_)
                  · have tc_14 : ¬ nb.toInt = 0 := v_ne c_14
                    refine lv_iconst (v := 0) hx hb dX2_decodeNumber_112 (by decide) ?_
                    refine lv_istore (lv' := [(6, .int 0), (5, .int r_12), (4, .int p_), (3, .int nb), (0, .ref nu), (1, .int fr), (2, .int en)]) hx hb dX2_decodeNumber_113 hl (by decide) rfl (fun ls hl => ?_)
                    refine lv_iload hx hb dX2_decodeNumber_115 (lv_at hl 1 rfl) ?_
                    refine lv_bipush (v := 48) hx hb dX2_decodeNumber_117 (by decide) ?_
                    refine lv_icmp_lt (tgt := 134) hx hb dX2_decodeNumber_119 (by decide) (fun c_15 => ?_) (fun c_15 => ?_)
                    · have tc_15 : r_12.toInt < 48 := v_lt c_15
                      refine lv_iconst (v := (-1)) hx hb dX2_decodeNumber_134 (by decide) ?_
                      have hP9 := hP.sub (ws' := [(nu, .inr (5, [.ref au, .int lu])), (au, .inl (cI, cap, .inl fu))]) [0, 1] rfl
                      have hD9 := hD.sub (ws' := [(nu, .inr (5, [.ref au, .int lu])), (au, .inl (cI, cap, .inl fu))]) [0, 1] (by decide +kernel) rfl
                      rw [hQQ]
                      exact W.iret (v := (-1)) hx hb hr (fun t ht hW => ⟨⟨(-1), (-1), rfl, rfl, ⟨by rw [ht]; exact hP9, hD9⟩⟩, hS.F ht⟩) hS.2.2 dX2_decodeNumber_135
                    · have tc_15 : 48 ≤ r_12.toInt := v_nlt c_15
                      refine lv_iload hx hb dX2_decodeNumber_122 (lv_at hl 1 rfl) ?_
                      refine lv_bipush (v := 57) hx hb dX2_decodeNumber_124 (by decide) ?_
                      refine lv_icmp_gt (tgt := 134) hx hb dX2_decodeNumber_126 (by decide) (fun c_16 => ?_) (fun c_16 => ?_)
                      · have tc_16 : 57 < r_12.toInt := v_lt c_16
                        refine lv_iconst (v := (-1)) hx hb dX2_decodeNumber_134 (by decide) ?_
                        have hP9 := hP.sub (ws' := [(nu, .inr (5, [.ref au, .int lu])), (au, .inl (cI, cap, .inl fu))]) [0, 1] rfl
                        have hD9 := hD.sub (ws' := [(nu, .inr (5, [.ref au, .int lu])), (au, .inl (cI, cap, .inl fu))]) [0, 1] (by decide +kernel) rfl
                        rw [hQQ]
                        exact W.iret (v := (-1)) hx hb hr (fun t ht hW => ⟨⟨(-1), (-1), rfl, rfl, ⟨by rw [ht]; exact hP9, hD9⟩⟩, hS.F ht⟩) hS.2.2 dX2_decodeNumber_135
                      · have tc_16 : r_12.toInt ≤ 57 := v_nlt c_16
                        refine lv_iload hx hb dX2_decodeNumber_129 (lv_at hl 0 rfl) ?_
                        refine lv_if_eq (tgt := 136) hx hb dX2_decodeNumber_131 (by decide) (fun c_17 => ?_) (fun c_17 => absurd c_17 (by decide))
                        refine lv_iload_n hx hb dX2_decodeNumber_136 rfl (lv_at hl 3 rfl) ?_
                        refine lv_bipush (v := 10) hx hb dX2_decodeNumber_137 (by decide) ?_
                        refine lv_imul hx hb dX2_decodeNumber_139 ?_
                        refine lv_topi (fun x_18 ex_18 => ?_)
                        have rv18_0 := v_rng nb
                        refine lv_iload hx hb dX2_decodeNumber_140 (lv_at hl 1 rfl) ?_
                        refine lv_iadd hx hb dX2_decodeNumber_142 ?_
                        refine lv_topi (fun x_19 ex_19 => ?_)
                        have rv19_0 := v_rng x_18
                        refine lv_bipush (v := 48) hx hb dX2_decodeNumber_143 (by decide) ?_
                        refine lv_isub hx hb dX2_decodeNumber_145 ?_
                        refine lv_topi (fun x_20 ex_20 => ?_)
                        have rv20_0 := v_rng x_19
                        refine lv_istore_n (lv' := [(3, .int x_20), (6, .int 0), (5, .int r_12), (4, .int p_), (0, .ref nu), (1, .int fr), (2, .int en)]) hx hb dX2_decodeNumber_146 rfl hl (by decide) rfl (fun ls hl => ?_)
                        have rp_ := v_rng p_
                        obtain ⟨x_21, ex_21⟩ : ∃ y : Int32, y = p_ + 1 := ⟨_, rfl⟩
                        have tx_21 : x_21.toInt = p_.toInt + 1 := v_add ex_21 (by show -2147483648 ≤ p_.toInt + 1; omega) (by show p_.toInt + 1 < 2147483648; omega)
                        refine lv_iinc (v := x_21) (lv' := [(4, .int x_21), (3, .int x_20), (6, .int 0), (5, .int r_12), (0, .ref nu), (1, .int fr), (2, .int en)]) hx hb dX2_decodeNumber_147 hl (k := 3) rfl (by rw [ex_21]; rfl) (by decide) rfl (fun ls hl => ?_)
                        refine lv_goto (tgt := 38) hx hb dX2_decodeNumber_150 (by decide) ?_
                        exact ih_38 x_20 x_21 _ _ _ (ms_lt hm_38 (by show ((en.toInt - x_21.toInt : Int)) < en.toInt - p_.toInt; omega) (by show (0 : Int) < en.toInt - p_.toInt; omega))  hP hD hS (lv_sub hl [0, 1, 4, 5, 6] rfl)
                  · have tc_14 : nb.toInt = 0 := v_eq c_14
                    refine lv_iload hx hb dX2_decodeNumber_101 (lv_at hl 0 rfl) ?_
                    refine lv_bipush (v := 48) hx hb dX2_decodeNumber_103 (by decide) ?_
                    refine lv_icmp_ne (tgt := 112) hx hb dX2_decodeNumber_105 (by decide) (fun c_22 => ?_) (fun c_22 => ?_)
                    · have tc_22 : ¬ r_12.toInt = 48 := v_ne c_22
                      refine lv_iconst (v := 0) hx hb dX2_decodeNumber_112 (by decide) ?_
                      refine lv_istore (lv' := [(6, .int 0), (5, .int r_12), (4, .int p_), (3, .int nb), (0, .ref nu), (1, .int fr), (2, .int en)]) hx hb dX2_decodeNumber_113 hl (by decide) rfl (fun ls hl => ?_)
                      refine lv_iload hx hb dX2_decodeNumber_115 (lv_at hl 1 rfl) ?_
                      refine lv_bipush (v := 48) hx hb dX2_decodeNumber_117 (by decide) ?_
                      refine lv_icmp_lt (tgt := 134) hx hb dX2_decodeNumber_119 (by decide) (fun c_23 => ?_) (fun c_23 => ?_)
                      · have tc_23 : r_12.toInt < 48 := v_lt c_23
                        refine lv_iconst (v := (-1)) hx hb dX2_decodeNumber_134 (by decide) ?_
                        have hP9 := hP.sub (ws' := [(nu, .inr (5, [.ref au, .int lu])), (au, .inl (cI, cap, .inl fu))]) [0, 1] rfl
                        have hD9 := hD.sub (ws' := [(nu, .inr (5, [.ref au, .int lu])), (au, .inl (cI, cap, .inl fu))]) [0, 1] (by decide +kernel) rfl
                        rw [hQQ]
                        exact W.iret (v := (-1)) hx hb hr (fun t ht hW => ⟨⟨(-1), (-1), rfl, rfl, ⟨by rw [ht]; exact hP9, hD9⟩⟩, hS.F ht⟩) hS.2.2 dX2_decodeNumber_135
                      · have tc_23 : 48 ≤ r_12.toInt := v_nlt c_23
                        refine lv_iload hx hb dX2_decodeNumber_122 (lv_at hl 1 rfl) ?_
                        refine lv_bipush (v := 57) hx hb dX2_decodeNumber_124 (by decide) ?_
                        refine lv_icmp_gt (tgt := 134) hx hb dX2_decodeNumber_126 (by decide) (fun c_24 => ?_) (fun c_24 => ?_)
                        · have tc_24 : 57 < r_12.toInt := v_lt c_24
                          refine lv_iconst (v := (-1)) hx hb dX2_decodeNumber_134 (by decide) ?_
                          have hP9 := hP.sub (ws' := [(nu, .inr (5, [.ref au, .int lu])), (au, .inl (cI, cap, .inl fu))]) [0, 1] rfl
                          have hD9 := hD.sub (ws' := [(nu, .inr (5, [.ref au, .int lu])), (au, .inl (cI, cap, .inl fu))]) [0, 1] (by decide +kernel) rfl
                          rw [hQQ]
                          exact W.iret (v := (-1)) hx hb hr (fun t ht hW => ⟨⟨(-1), (-1), rfl, rfl, ⟨by rw [ht]; exact hP9, hD9⟩⟩, hS.F ht⟩) hS.2.2 dX2_decodeNumber_135
                        · have tc_24 : r_12.toInt ≤ 57 := v_nlt c_24
                          refine lv_iload hx hb dX2_decodeNumber_129 (lv_at hl 0 rfl) ?_
                          refine lv_if_eq (tgt := 136) hx hb dX2_decodeNumber_131 (by decide) (fun c_25 => ?_) (fun c_25 => absurd c_25 (by decide))
                          refine lv_iload_n hx hb dX2_decodeNumber_136 rfl (lv_at hl 3 rfl) ?_
                          refine lv_bipush (v := 10) hx hb dX2_decodeNumber_137 (by decide) ?_
                          refine lv_imul hx hb dX2_decodeNumber_139 ?_
                          refine lv_topi (fun x_26 ex_26 => ?_)
                          have tx_26 : x_26.toInt = nb.toInt * 10 := v_mul ex_26 (by show -2147483648 ≤ nb.toInt * 10; omega) (by show nb.toInt * 10 < 2147483648; omega)
                          refine lv_iload hx hb dX2_decodeNumber_140 (lv_at hl 1 rfl) ?_
                          refine lv_iadd hx hb dX2_decodeNumber_142 ?_
                          refine lv_topi (fun x_27 ex_27 => ?_)
                          have tx_27 : x_27.toInt = x_26.toInt + r_12.toInt := v_add ex_27 (by show -2147483648 ≤ x_26.toInt + r_12.toInt; omega) (by show x_26.toInt + r_12.toInt < 2147483648; omega)
                          refine lv_bipush (v := 48) hx hb dX2_decodeNumber_143 (by decide) ?_
                          refine lv_isub hx hb dX2_decodeNumber_145 ?_
                          refine lv_topi (fun x_28 ex_28 => ?_)
                          have tx_28 : x_28.toInt = x_27.toInt - 48 := v_sub ex_28 (by show -2147483648 ≤ x_27.toInt - 48; omega) (by show x_27.toInt - 48 < 2147483648; omega)
                          refine lv_istore_n (lv' := [(3, .int x_28), (6, .int 0), (5, .int r_12), (4, .int p_), (0, .ref nu), (1, .int fr), (2, .int en)]) hx hb dX2_decodeNumber_146 rfl hl (by decide) rfl (fun ls hl => ?_)
                          have rp_ := v_rng p_
                          obtain ⟨x_29, ex_29⟩ : ∃ y : Int32, y = p_ + 1 := ⟨_, rfl⟩
                          have tx_29 : x_29.toInt = p_.toInt + 1 := v_add ex_29 (by show -2147483648 ≤ p_.toInt + 1; omega) (by show p_.toInt + 1 < 2147483648; omega)
                          refine lv_iinc (v := x_29) (lv' := [(4, .int x_29), (3, .int x_28), (6, .int 0), (5, .int r_12), (0, .ref nu), (1, .int fr), (2, .int en)]) hx hb dX2_decodeNumber_147 hl (k := 3) rfl (by rw [ex_29]; rfl) (by decide) rfl (fun ls hl => ?_)
                          refine lv_goto (tgt := 38) hx hb dX2_decodeNumber_150 (by decide) ?_
                          exact ih_38 x_28 x_29 _ _ _ (ms_lt hm_38 (by show ((en.toInt - x_29.toInt : Int)) < en.toInt - p_.toInt; omega) (by show (0 : Int) < en.toInt - p_.toInt; omega))  hP hD hS (lv_sub hl [0, 1, 4, 5, 6] rfl)
                    · have tc_22 : r_12.toInt = 48 := v_eq c_22
                      refine lv_iconst (v := 1) hx hb dX2_decodeNumber_108 (by decide) ?_
                      refine lv_goto (tgt := 113) hx hb dX2_decodeNumber_109 (by decide) ?_
                      refine lv_istore (lv' := [(6, .int 1), (5, .int r_12), (4, .int p_), (3, .int nb), (0, .ref nu), (1, .int fr), (2, .int en)]) hx hb dX2_decodeNumber_113 hl (by decide) rfl (fun ls hl => ?_)
                      refine lv_iload hx hb dX2_decodeNumber_115 (lv_at hl 1 rfl) ?_
                      refine lv_bipush (v := 48) hx hb dX2_decodeNumber_117 (by decide) ?_
                      refine lv_icmp_lt (tgt := 134) hx hb dX2_decodeNumber_119 (by decide) (fun c_30 => by exfalso; have tc_30 : r_12.toInt < 48 := v_lt c_30; omega) (fun c_30 => ?_)
                      have tc_30 : 48 ≤ r_12.toInt := v_nlt c_30
                      refine lv_iload hx hb dX2_decodeNumber_122 (lv_at hl 1 rfl) ?_
                      refine lv_bipush (v := 57) hx hb dX2_decodeNumber_124 (by decide) ?_
                      refine lv_icmp_gt (tgt := 134) hx hb dX2_decodeNumber_126 (by decide) (fun c_31 => by exfalso; have tc_31 : 57 < r_12.toInt := v_lt c_31; omega) (fun c_31 => ?_)
                      have tc_31 : r_12.toInt ≤ 57 := v_nlt c_31
                      refine lv_iload hx hb dX2_decodeNumber_129 (lv_at hl 0 rfl) ?_
                      refine lv_if_eq (tgt := 136) hx hb dX2_decodeNumber_131 (by decide) (fun c_32 => absurd c_32 (by decide)) (fun c_32 => ?_)
                      refine lv_iconst (v := (-1)) hx hb dX2_decodeNumber_134 (by decide) ?_
                      have hP9 := hP.sub (ws' := [(nu, .inr (5, [.ref au, .int lu])), (au, .inl (cI, cap, .inl fu))]) [0, 1] rfl
                      have hD9 := hD.sub (ws' := [(nu, .inr (5, [.ref au, .int lu])), (au, .inl (cI, cap, .inl fu))]) [0, 1] (by decide +kernel) rfl
                      rw [hQQ]
                      exact W.iret (v := (-1)) hx hb hr (fun t ht hW => ⟨⟨(-1), (-1), rfl, rfl, ⟨by rw [ht]; exact hP9, hD9⟩⟩, hS.F ht⟩) hS.2.2 dX2_decodeNumber_135
                · have tc_13 : r_12.toInt = 59 := v_eq c_13
                  refine lv_iload_n hx hb dX2_decodeNumber_68 rfl (lv_at hl 2 rfl) ?_
                  have hPc := hP.sub (ws' := []) [] rfl
                  have hDc := hD.sub (ws' := []) [] (by decide +kernel) rfl
                  have hFc := va_free (wc := []) hD hS hA [] rfl
                  refine va_calli (va_runSN (As := [.int nb]) (rest := []) ⟨hx, hb, hml, hown, hts⟩ (m_X11_isLetter l dC dI cI cS H.size nb ) ⟨va_cnB 1 hts gX2_decodeNumber_X11_isLetter_n52 rfl rfl rfl hN52 (hts (.initialized RX11) (List.mem_of_getElem? (i := 9) rfl)) (by decide +kernel) ⟨Nat.le_of_ble_eq_true rfl, Nat.le_of_ble_eq_true rfl⟩, (hts (.static yX11_isLetter) (List.mem_of_getElem? (i := 8) rfl)), trivial⟩ ⟨fun a U g mk q => by obtain ⟨q0, q1, qP, qK, qD⟩ := q; exact ⟨q0, q1, qP, va_K.moved (u := U) (U := U.calling g mk a) (Vm.Alike.refl U.vm) qK, qD⟩, fun U hU hW => ⟨rfl, by rw [hU], by rw [hU]; exact hPc, va_K.moved hW.alike hK, hDc.weaken (fun _ _ _ _ => trivial)⟩⟩ rfl rfl hl.1 rfl (lv_room (Nat.le_of_ble_eq_true rfl)) dX2_decodeNumber_69 ⟨Nat.le_of_ble_eq_true rfl, Nat.le_of_ble_eq_true rfl⟩) hS (fun q _ h => hFc q h) hFc (fun r_33 u t H1 locs ht hvm hw hB hz1 hk1 hSn => ?_)
                  subst hw
                  obtain ⟨hP1, hD1, hf33_0, hf33_1⟩ := hB
                  rw [ht] at hP1
                  obtain ⟨hPn, hDn⟩ := va_join (wr := [(nu, .inr (5, [.ref au, .int lu])), (au, .inl (cI, cap, .inl fu))]) (w1 := []) hP hD [] [0, 1] rfl rfl (by decide +kernel) (by decide +kernel) hk1 hFc hP1 hD1
                  clear hP hD hS hPc hDc hFc hk1 hz1 hvm ht hP1 hD1
                  generalize H1 = H at hPn hSn ⊢
                  have hP : va_P (dC, dI) vwCl [(nu, .inr (5, [.ref au, .int lu])), (au, .inl (cI, cap, .inl fu))] H := hPn
                  have hD : va_D A [(nu, .inr (5, [.ref au, .int lu])), (au, .inl (cI, cap, .inl fu))] := hDn
                  have hS := hSn
                  clear hPn hDn hSn
                  refine lv_if_eq (tgt := 95) hx hb dX2_decodeNumber_72 (by decide) (fun c_34 => ?_) (fun c_34 => ?_)
                  · have tc_34 : r_33.toInt = 0 := v_eq c_34
                    refine lv_iconst (v := (-1)) hx hb dX2_decodeNumber_95 (by decide) ?_
                    have hP9 := hP.sub (ws' := [(nu, .inr (5, [.ref au, .int lu])), (au, .inl (cI, cap, .inl fu))]) [0, 1] rfl
                    have hD9 := hD.sub (ws' := [(nu, .inr (5, [.ref au, .int lu])), (au, .inl (cI, cap, .inl fu))]) [0, 1] (by decide +kernel) rfl
                    rw [hQQ]
                    exact W.iret (v := (-1)) hx hb hr (fun t ht hW => ⟨⟨(-1), (-1), rfl, rfl, ⟨by rw [ht]; exact hP9, hD9⟩⟩, hS.F ht⟩) hS.2.2 dX2_decodeNumber_96
                  · have tc_34 : ¬ r_33.toInt = 0 := v_ne c_34
                    refine lv_iload_n hx hb dX2_decodeNumber_75 rfl (lv_at hl 2 rfl) ?_
                    have hPc := hP.sub (ws' := []) [] rfl
                    have hDc := hD.sub (ws' := []) [] (by decide +kernel) rfl
                    have hFc := va_free (wc := []) hD hS hA [] rfl
                    refine va_calli (va_runS (As := [.int nb]) (rest := []) ⟨hx, hb, hml, hown, hts⟩ (m_X2_isNumbered l dC dI cI cS H.size nb ) (va_cwS 1 hts gX2_decodeNumber_X2_isNumbered rfl rfl rfl (by decide +kernel) ⟨Nat.le_of_ble_eq_true rfl, Nat.le_of_ble_eq_true rfl⟩) ⟨fun a U g mk q => by obtain ⟨q0, q1, qP, qK, qD⟩ := q; exact ⟨q0, q1, qP, va_K.moved (u := U) (U := U.calling g mk a) (Vm.Alike.refl U.vm) qK, qD⟩, fun U hU hW => ⟨rfl, by rw [hU], by rw [hU]; exact hPc, va_K.moved hW.alike hK, hDc.weaken (fun _ _ _ _ => trivial)⟩⟩ rfl rfl hl.1 rfl (lv_room (Nat.le_of_ble_eq_true rfl)) dX2_decodeNumber_76 ⟨Nat.le_of_ble_eq_true rfl, Nat.le_of_ble_eq_true rfl⟩) hS (fun q _ h => hFc q h) hFc (fun r_35 u t H1 locs ht hvm hw hB hz1 hk1 hSn => ?_)
                    subst hw
                    obtain ⟨hP1, hD1, hf35_0⟩ := hB
                    rw [ht] at hP1
                    obtain ⟨hPn, hDn⟩ := va_join (wr := [(nu, .inr (5, [.ref au, .int lu])), (au, .inl (cI, cap, .inl fu))]) (w1 := []) hP hD [] [0, 1] rfl rfl (by decide +kernel) (by decide +kernel) hk1 hFc hP1 hD1
                    clear hP hD hS hPc hDc hFc hk1 hz1 hvm ht hP1 hD1
                    generalize H1 = H at hPn hSn ⊢
                    have hP : va_P (dC, dI) vwCl [(nu, .inr (5, [.ref au, .int lu])), (au, .inl (cI, cap, .inl fu))] H := hPn
                    have hD : va_D A [(nu, .inr (5, [.ref au, .int lu])), (au, .inl (cI, cap, .inl fu))] := hDn
                    have hS := hSn
                    clear hPn hDn hSn
                    refine lv_if_eq (tgt := 95) hx hb dX2_decodeNumber_79 (by decide) (fun c_36 => ?_) (fun c_36 => ?_)
                    · have tc_36 : r_35.toInt = 0 := v_eq c_36
                      refine lv_iconst (v := (-1)) hx hb dX2_decodeNumber_95 (by decide) ?_
                      have hP9 := hP.sub (ws' := [(nu, .inr (5, [.ref au, .int lu])), (au, .inl (cI, cap, .inl fu))]) [0, 1] rfl
                      have hD9 := hD.sub (ws' := [(nu, .inr (5, [.ref au, .int lu])), (au, .inl (cI, cap, .inl fu))]) [0, 1] (by decide +kernel) rfl
                      rw [hQQ]
                      exact W.iret (v := (-1)) hx hb hr (fun t ht hW => ⟨⟨(-1), (-1), rfl, rfl, ⟨by rw [ht]; exact hP9, hD9⟩⟩, hS.F ht⟩) hS.2.2 dX2_decodeNumber_96
                    · have tc_36 : ¬ r_35.toInt = 0 := v_ne c_36
                      refine lv_iload_n hx hb dX2_decodeNumber_82 rfl (lv_at hl 2 rfl) ?_
                      refine lv_iload hx hb dX2_decodeNumber_83 (lv_at hl 1 rfl) ?_
                      refine lv_iconst (v := 1) hx hb dX2_decodeNumber_85 (by decide) ?_
                      refine lv_iadd hx hb dX2_decodeNumber_86 ?_
                      refine lv_topi (fun x_37 ex_37 => ?_)
                      have tx_37 : x_37.toInt = p_.toInt + 1 := v_add ex_37 (by show -2147483648 ≤ p_.toInt + 1; omega) (by show p_.toInt + 1 < 2147483648; omega)
                      refine lv_iload_n hx hb dX2_decodeNumber_87 rfl (lv_at hl 4 rfl) ?_
                      refine lv_isub hx hb dX2_decodeNumber_88 ?_
                      refine lv_topi (fun x_38 ex_38 => ?_)
                      have rv38_0 := v_rng x_37
                      have hPc := hP.sub (ws' := []) [] rfl
                      have hDc := hD.sub (ws' := []) [] (by decide +kernel) rfl
                      have hFc := va_free (wc := []) hD hS hA [] rfl
                      refine va_calli (va_runS (As := [.int nb, .int x_38]) (rest := []) ⟨hx, hb, hml, hown, hts⟩ (m_X2_found l dC dI cI cS H.size nb x_38 ) (va_cwS 2 hts gX2_decodeNumber_X2_found rfl rfl rfl (by decide +kernel) ⟨Nat.le_of_ble_eq_true rfl, Nat.le_of_ble_eq_true rfl⟩) ⟨fun a U g mk q => by obtain ⟨q0, q1, qP, qK, qD⟩ := q; exact ⟨q0, q1, qP, va_K.moved (u := U) (U := U.calling g mk a) (Vm.Alike.refl U.vm) qK, qD⟩, fun U hU hW => ⟨rfl, by rw [hU], by rw [hU]; exact hPc, va_K.moved hW.alike hK, hDc.weaken (fun _ _ _ _ => trivial)⟩⟩ rfl rfl hl.1 rfl (lv_room (Nat.le_of_ble_eq_true rfl)) dX2_decodeNumber_89 ⟨Nat.le_of_ble_eq_true rfl, Nat.le_of_ble_eq_true rfl⟩) hS (fun q _ h => hFc q h) hFc (fun r_39 u t H1 locs ht hvm hw hB hz1 hk1 hSn => ?_)
                      subst hw
                      obtain ⟨hP1, hD1⟩ := hB
                      rw [ht] at hP1
                      obtain ⟨hPn, hDn⟩ := va_join (wr := [(nu, .inr (5, [.ref au, .int lu])), (au, .inl (cI, cap, .inl fu))]) (w1 := []) hP hD [] [0, 1] rfl rfl (by decide +kernel) (by decide +kernel) hk1 hFc hP1 hD1
                      clear hP hD hS hPc hDc hFc hk1 hz1 hvm ht hP1 hD1
                      generalize H1 = H at hPn hSn ⊢
                      have hP : va_P (dC, dI) vwCl [(nu, .inr (5, [.ref au, .int lu])), (au, .inl (cI, cap, .inl fu))] H := hPn
                      have hD : va_D A [(nu, .inr (5, [.ref au, .int lu])), (au, .inl (cI, cap, .inl fu))] := hDn
                      have hS := hSn
                      clear hPn hDn hSn
                      refine lv_goto (tgt := 96) hx hb dX2_decodeNumber_92 (by decide) ?_
                      have hP9 := hP.sub (ws' := [(nu, .inr (5, [.ref au, .int lu])), (au, .inl (cI, cap, .inl fu))]) [0, 1] rfl
                      have hD9 := hD.sub (ws' := [(nu, .inr (5, [.ref au, .int lu])), (au, .inl (cI, cap, .inl fu))]) [0, 1] (by decide +kernel) rfl
                      rw [hQQ]
                      exact W.iret (v := r_39) hx hb hr (fun t ht hW => ⟨⟨r_39, r_39, rfl, rfl, ⟨by rw [ht]; exact hP9, hD9⟩⟩, hS.F ht⟩) hS.2.2 dX2_decodeNumber_96
        exact LOOP_38 _ 0 x_8 _ _ _ (ms_s _)  hP hD hS (lv_sub hl [0, 1, 2, 3, 4] rfl)
      · have tc_7 : ¬ r_6.toInt = 35 := v_ne c_7
        refine lv_iconst (v := (-1)) hx hb dX2_decodeNumber_29 (by decide) ?_
        have hP9 := hP.sub (ws' := [(nu, .inr (5, [.ref au, .int lu])), (au, .inl (cI, cap, .inl fu))]) [0, 1] rfl
        have hD9 := hD.sub (ws' := [(nu, .inr (5, [.ref au, .int lu])), (au, .inl (cI, cap, .inl fu))]) [0, 1] (by decide +kernel) rfl
        rw [hQQ]
        exact W.iret (v := (-1)) hx hb hr (fun t ht hW => ⟨⟨(-1), (-1), rfl, rfl, ⟨by rw [ht]; exact hP9, hD9⟩⟩, hS.F ht⟩) hS.2.2 dX2_decodeNumber_30

set_option maxHeartbeats 40000000 in
set_option maxRecDepth 100000 in
theorem m_X2_decode (l : Launch) (dC : Nat → ClassId) (dI : Nat → Nat → Nat) (cI cS : ClassId) (sz : Nat) (oC : Nat) (nu : Nat) (o4 : Nat) (o5 : Nat) (a41 : Nat) (a42 : Nat) (a43 : Nat) (a51 : Nat) (a52 : Nat) (a53 : Nat) (au : Nat) (cap : Nat) (l4 : Int32) (f41 : Nat → Int32) (l5 : Int32) (f51 : Nat → Int32) (lu : Int32) (fu : Nat → Int32) (cd : Int32) (fr : Int32) (en : Int32) (g_lu : 0 ≤ lu.toInt ∧ lu.toInt ≤ (cap : Int)) (hcap : cap ≤ 2400) : Met l yX2_decode wsX2_decode ({ frames := 2, cells := 0, slots := 0, locals := 48 } : Room) (va_Pc [.ref oC, .int cd, .ref nu, .int fr, .int en] (fun U => U.heap.size = sz ∧ va_P (dC, dI) vwCl [(oC, .inr (2, [.ref o4, .ref o5])), (o4, .inr (10, [.ref a41, .ref a42, .ref a43, .int l4])), (a41, .inl (cI, 256, .inl f41)), (o5, .inr (10, [.ref a51, .ref a52, .ref a53, .int l5])), (a51, .inl (cI, 256, .inl f51)), (nu, .inr (5, [.ref au, .int lu])), (au, .inl (cI, cap, .inl fu))] U.heap ∧ va_K (dC, dI) vwCl [(cI, .int), (cS, .short)] U ∧ va_D (fun _ => True) [(oC, .inr (2, [.ref o4, .ref o5])), (o4, .inr (10, [.ref a41, .ref a42, .ref a43, .int l4])), (a41, .inl (cI, 256, .inl f41)), (o5, .inr (10, [.ref a51, .ref a52, .ref a53, .int l5])), (a51, .inl (cI, 256, .inl f51)), (nu, .inr (5, [.ref au, .int lu])), (au, .inl (cI, cap, .inl fu))] ∧ va_Nw (.methodLinkNest RX2 52 yX11_isLetter "TextMender") U)) (va_Qi (fun (r : Int32) (u : Int32) => r = u) (fun (r : Int32) t => va_P (dC, dI) vwCl [(oC, .inr (2, [.ref o4, .ref o5])), (o4, .inr (10, [.ref a41, .ref a42, .ref a43, .int l4])), (a41, .inl (cI, 256, .inl f41)), (o5, .inr (10, [.ref a51, .ref a52, .ref a53, .int l5])), (a51, .inl (cI, 256, .inl f51)), (nu, .inr (5, [.ref au, .int lu])), (au, .inl (cI, cap, .inl fu))] t.heap ∧ va_D (va_A [(oC, .inr (2, [.ref o4, .ref o5])), (o4, .inr (10, [.ref a41, .ref a42, .ref a43, .int l4])), (a41, .inl (cI, 256, .inl f41)), (o5, .inr (10, [.ref a51, .ref a52, .ref a53, .int l5])), (a51, .inl (cI, 256, .inl f51)), (nu, .inr (5, [.ref au, .int lu])), (au, .inl (cI, cap, .inl fu))] sz) [(oC, .inr (2, [.ref o4, .ref o5])), (o4, .inr (10, [.ref a41, .ref a42, .ref a43, .int l4])), (a41, .inl (cI, 256, .inl f41)), (o5, .inr (10, [.ref a51, .ref a52, .ref a53, .int l5])), (a51, .inl (cI, 256, .inl f51)), (nu, .inr (5, [.ref au, .int lu])), (au, .inl (cI, cap, .inl fu))]) (va_A [(oC, .inr (2, [.ref o4, .ref o5])), (o4, .inr (10, [.ref a41, .ref a42, .ref a43, .int l4])), (a41, .inl (cI, 256, .inl f41)), (o5, .inr (10, [.ref a51, .ref a52, .ref a53, .int l5])), (a51, .inl (cI, 256, .inl f51)), (nu, .inr (5, [.ref au, .int lu])), (au, .inl (cI, cap, .inl fu))] sz)) 0 0 (va_A [(oC, .inr (2, [.ref o4, .ref o5])), (o4, .inr (10, [.ref a41, .ref a42, .ref a43, .int l4])), (a41, .inl (cI, 256, .inl f41)), (o5, .inr (10, [.ref a51, .ref a52, .ref a53, .int l5])), (a51, .inl (cI, 256, .inl f51)), (nu, .inr (5, [.ref au, .int lu])), (au, .inl (cI, cap, .inl fu))] sz) := by
  refine Met.ofW (cc := cX2_decode) (maxL := 7) (ret := (some .int)) (by decide) rfl ?_
  intro p e s m args below meth c s₁ B hml hv
  obtain ⟨rfl, hsz, hP, hK, hD0, hN52⟩ := hv
  have hx := B.exec
  have hb := B.bytes
  have hr := B.returns
  have hts := atoms_spec (ws := wsX2_decode) B.pre
  have hown : s.vm.findClass RX2 = some m.cls := findClass_of_methodNamed B.named
  have hlocks := B.notSynchronized
  subst hsz
  have hD := hD0.self (sz := s.heap.size)
  generalize hAe : va_A [(oC, .inr (2, [.ref o4, .ref o5])), (o4, .inr (10, [.ref a41, .ref a42, .ref a43, .int l4])), (a41, .inl (cI, 256, .inl f41)), (o5, .inr (10, [.ref a51, .ref a52, .ref a53, .int l5])), (a51, .inl (cI, 256, .inl f51)), (nu, .inr (5, [.ref au, .int lu])), (au, .inl (cI, cap, .inl fu))] s.heap.size = A at hD ⊢
  have hA : ∀ q : Nat, s.heap.size ≤ q → A q := fun q h => by rw [← hAe]; exact Or.inr h
  have hS : va_S A s.heap s.heap [] := va_S.rf
  have hP : va_P (dC, dI) vwCl [(oC, .inr (2, [.ref o4, .ref o5])), (o4, .inr (10, [.ref a41, .ref a42, .ref a43, .int l4])), (a41, .inl (cI, 256, .inl f41)), (o5, .inr (10, [.ref a51, .ref a52, .ref a53, .int l5])), (a51, .inl (cI, 256, .inl f51)), (nu, .inr (5, [.ref au, .int lu])), (au, .inl (cI, cap, .inl fu))] s.heap := hP
  have hl := lv_entry ([.ref oC, .int cd, .ref nu, .int fr, .int en]) (n := 7) (Nat.le_of_ble_eq_true rfl)
  rw [lg_entry_eq]
  generalize (lg_sl ([.ref oC, .int cd, .ref nu, .int fr, .int en]) ++ List.replicate (7 - (lg_sl ([.ref oC, .int cd, .ref nu, .int fr, .int en])).length) Slot.unset).toArray = ls at hl ⊢
  have hl : lv_has ls 7 [(0, .ref oC), (1, .int cd), (2, .ref nu), (3, .int fr), (4, .int en)] := hl
  obtain ⟨QQ, hQQ⟩ : ∃ QQ : Array Value → State → Outcome → State → Prop, QQ = va_Qi (fun (r : Int32) (u : Int32) => r = u) (fun (r : Int32) t => va_P (dC, dI) vwCl [(oC, .inr (2, [.ref o4, .ref o5])), (o4, .inr (10, [.ref a41, .ref a42, .ref a43, .int l4])), (a41, .inl (cI, 256, .inl f41)), (o5, .inr (10, [.ref a51, .ref a52, .ref a53, .int l5])), (a51, .inl (cI, 256, .inl f51)), (nu, .inr (5, [.ref au, .int lu])), (au, .inl (cI, cap, .inl fu))] t.heap ∧ va_D A [(oC, .inr (2, [.ref o4, .ref o5])), (o4, .inr (10, [.ref a41, .ref a42, .ref a43, .int l4])), (a41, .inl (cI, 256, .inl f41)), (o5, .inr (10, [.ref a51, .ref a52, .ref a53, .int l5])), (a51, .inl (cI, 256, .inl f51)), (nu, .inr (5, [.ref au, .int lu])), (au, .inl (cI, cap, .inl fu))]) A := ⟨_, rfl⟩
  rw [← hQQ]
  refine lv_aload_n hx hb dX2_decode_0 rfl (lv_at hl 2 rfl) ?_
  refine lv_iload_n hx hb dX2_decode_1 rfl (lv_at hl 3 rfl) ?_
  have hPc := hP.sub (ws' := [(nu, .inr (5, [.ref au, .int lu])), (au, .inl (cI, cap, .inl fu))]) [5, 6] rfl
  have hDc := hD.sub (ws' := [(nu, .inr (5, [.ref au, .int lu])), (au, .inl (cI, cap, .inl fu))]) [5, 6] (by decide +kernel) rfl
  have hFc := va_free (wc := [(nu, .inr (5, [.ref au, .int lu])), (au, .inl (cI, cap, .inl fu))]) hD hS hA [5, 6] rfl
  refine va_calli (va_runV (As := [.int fr]) (rest := []) ⟨hx, hb, hml, hown, hts⟩ (m_X5_get l dC dI cI cS s.heap.size nu au cap lu fu fr (g_lu) (by omega)) (cwV 1 hts gX2_decode_X5_get rfl rfl rfl (by decide +kernel) ⟨Nat.le_of_ble_eq_true rfl, Nat.le_of_ble_eq_true rfl⟩) ⟨fun a U g mk q => by obtain ⟨q0, q1, qP, qK, qD⟩ := q; exact ⟨q0, q1, qP, va_K.moved (u := U) (U := U.calling g mk a) (Vm.Alike.refl U.vm) qK, qD⟩, va_recv hK hPc (ci := 5) (q0 := 0) rfl rfl, fun U hU hW => ⟨rfl, by rw [hU], by rw [hU]; exact hPc, va_K.moved hW.alike hK, hDc.weaken (fun _ _ _ _ => trivial)⟩⟩ rfl rfl hl.1 rfl (lv_room (Nat.le_of_ble_eq_true rfl)) dX2_decode_2 ⟨Nat.le_of_ble_eq_true rfl, Nat.le_of_ble_eq_true rfl⟩) hS (fun q _ h => hFc q h) hFc (fun r_1 u t H1 locs ht hvm hw hB hz1 hk1 hSn => ?_)
  subst hw
  obtain ⟨hP1, hD1, hf1_0⟩ := hB
  rw [ht] at hP1
  obtain ⟨hPn, hDn⟩ := va_join (wr := [(oC, .inr (2, [.ref o4, .ref o5])), (o4, .inr (10, [.ref a41, .ref a42, .ref a43, .int l4])), (a41, .inl (cI, 256, .inl f41)), (o5, .inr (10, [.ref a51, .ref a52, .ref a53, .int l5])), (a51, .inl (cI, 256, .inl f51))]) (w1 := [(nu, .inr (5, [.ref au, .int lu])), (au, .inl (cI, cap, .inl fu))]) hP hD [5, 6] [0, 1, 2, 3, 4] rfl rfl (by decide +kernel) (by decide +kernel) hk1 hFc hP1 hD1
  clear hP hD hS hPc hDc hFc hk1 hz1 hvm ht hP1 hD1
  generalize H1 = H at hPn hSn ⊢
  have hP : va_P (dC, dI) vwCl [(oC, .inr (2, [.ref o4, .ref o5])), (o4, .inr (10, [.ref a41, .ref a42, .ref a43, .int l4])), (a41, .inl (cI, 256, .inl f41)), (o5, .inr (10, [.ref a51, .ref a52, .ref a53, .int l5])), (a51, .inl (cI, 256, .inl f51)), (nu, .inr (5, [.ref au, .int lu])), (au, .inl (cI, cap, .inl fu))] H := hPn
  have hD : va_D A [(oC, .inr (2, [.ref o4, .ref o5])), (o4, .inr (10, [.ref a41, .ref a42, .ref a43, .int l4])), (a41, .inl (cI, 256, .inl f41)), (o5, .inr (10, [.ref a51, .ref a52, .ref a53, .int l5])), (a51, .inl (cI, 256, .inl f51)), (nu, .inr (5, [.ref au, .int lu])), (au, .inl (cI, cap, .inl fu))] := hDn
  have hS := hSn
  clear hPn hDn hSn
  refine lv_istore (lv' := [(5, .int r_1), (0, .ref oC), (1, .int cd), (2, .ref nu), (3, .int fr), (4, .int en)]) hx hb dX2_decode_5 hl (by decide) rfl (fun ls hl => ?_)
  refine lv_iload hx hb dX2_decode_7 (lv_at hl 0 rfl) ?_
  refine lv_iconst (v := (-1)) hx hb dX2_decode_9 (by decide) ?_
  refine lv_icmp_eq (tgt := 19) hx hb dX2_decode_10 (by decide) (fun c_2 => ?_) (fun c_2 => ?_)
  · have tc_2 : r_1.toInt = (-1) := v_eq c_2
    refine lv_iconst (v := (-1)) hx hb dX2_decode_19 (by decide) ?_
    have hP9 := hP.sub (ws' := [(oC, .inr (2, [.ref o4, .ref o5])), (o4, .inr (10, [.ref a41, .ref a42, .ref a43, .int l4])), (a41, .inl (cI, 256, .inl f41)), (o5, .inr (10, [.ref a51, .ref a52, .ref a53, .int l5])), (a51, .inl (cI, 256, .inl f51)), (nu, .inr (5, [.ref au, .int lu])), (au, .inl (cI, cap, .inl fu))]) [0, 1, 2, 3, 4, 5, 6] rfl
    have hD9 := hD.sub (ws' := [(oC, .inr (2, [.ref o4, .ref o5])), (o4, .inr (10, [.ref a41, .ref a42, .ref a43, .int l4])), (a41, .inl (cI, 256, .inl f41)), (o5, .inr (10, [.ref a51, .ref a52, .ref a53, .int l5])), (a51, .inl (cI, 256, .inl f51)), (nu, .inr (5, [.ref au, .int lu])), (au, .inl (cI, cap, .inl fu))]) [0, 1, 2, 3, 4, 5, 6] (by decide +kernel) rfl
    rw [hQQ]
    exact W.iret (v := (-1)) hx hb hr (fun t ht hW => ⟨⟨(-1), (-1), rfl, rfl, ⟨by rw [ht]; exact hP9, hD9⟩⟩, hS.F ht⟩) hS.2.2 dX2_decode_20
  · have tc_2 : ¬ r_1.toInt = (-1) := v_ne c_2
    refine lv_iload_n hx hb dX2_decode_13 rfl (lv_at hl 4 rfl) ?_
    refine lv_iload hx hb dX2_decode_14 (lv_at hl 5 rfl) ?_
    refine lv_icmp_lt (tgt := 21) hx hb dX2_decode_16 (by decide) (fun c_3 => ?_) (fun c_3 => ?_)
    · have tc_3 : fr.toInt < en.toInt := v_lt c_3
      have rw3_0 := v_rng fr
      have rw3_1 := v_rng en
      refine lv_aload_n hx hb dX2_decode_21 rfl (lv_at hl 1 rfl) ?_
      refine lv_iload_n hx hb dX2_decode_22 rfl (lv_at hl 2 rfl) ?_
      refine lv_iload hx hb dX2_decode_23 (lv_at hl 0 rfl) ?_
      have hPc := hP.sub (ws' := [(oC, .inr (2, [.ref o4, .ref o5])), (o4, .inr (10, [.ref a41, .ref a42, .ref a43, .int l4])), (a41, .inl (cI, 256, .inl f41)), (o5, .inr (10, [.ref a51, .ref a52, .ref a53, .int l5])), (a51, .inl (cI, 256, .inl f51))]) [0, 1, 2, 3, 4] rfl
      have hDc := hD.sub (ws' := [(oC, .inr (2, [.ref o4, .ref o5])), (o4, .inr (10, [.ref a41, .ref a42, .ref a43, .int l4])), (a41, .inl (cI, 256, .inl f41)), (o5, .inr (10, [.ref a51, .ref a52, .ref a53, .int l5])), (a51, .inl (cI, 256, .inl f51))]) [0, 1, 2, 3, 4] (by decide +kernel) rfl
      have hFc := va_free (wc := [(oC, .inr (2, [.ref o4, .ref o5])), (o4, .inr (10, [.ref a41, .ref a42, .ref a43, .int l4])), (a41, .inl (cI, 256, .inl f41)), (o5, .inr (10, [.ref a51, .ref a52, .ref a53, .int l5])), (a51, .inl (cI, 256, .inl f51))]) hD hS hA [0, 1, 2, 3, 4] rfl
      refine va_calli (va_runV (As := [.int cd, .int r_1]) (rest := []) ⟨hx, hb, hml, hown, hts⟩ (m_X2_letterAlone l dC dI cI cS H.size oC o4 o5 a41 a42 a43 a51 a52 a53 l4 f41 l5 f51 cd r_1 ) (cwV 2 hts gX2_decode_X2_letterAlone rfl rfl rfl (by decide +kernel) ⟨Nat.le_of_ble_eq_true rfl, Nat.le_of_ble_eq_true rfl⟩) ⟨fun a U g mk q => by obtain ⟨q0, q1, qP, qK, qD⟩ := q; exact ⟨q0, q1, qP, va_K.moved (u := U) (U := U.calling g mk a) (Vm.Alike.refl U.vm) qK, qD⟩, va_recv hK hPc (ci := 2) (q0 := 0) rfl rfl, fun U hU hW => ⟨rfl, by rw [hU], by rw [hU]; exact hPc, va_K.moved hW.alike hK, hDc.weaken (fun _ _ _ _ => trivial)⟩⟩ rfl rfl hl.1 rfl (lv_room (Nat.le_of_ble_eq_true rfl)) dX2_decode_25 ⟨Nat.le_of_ble_eq_true rfl, Nat.le_of_ble_eq_true rfl⟩) hS (fun q _ h => hFc q h) hFc (fun r_4 u t H1 locs ht hvm hw hB hz1 hk1 hSn => ?_)
      subst hw
      obtain ⟨hP1, hD1⟩ := hB
      rw [ht] at hP1
      obtain ⟨hPn, hDn⟩ := va_join (wr := [(nu, .inr (5, [.ref au, .int lu])), (au, .inl (cI, cap, .inl fu))]) (w1 := [(oC, .inr (2, [.ref o4, .ref o5])), (o4, .inr (10, [.ref a41, .ref a42, .ref a43, .int l4])), (a41, .inl (cI, 256, .inl f41)), (o5, .inr (10, [.ref a51, .ref a52, .ref a53, .int l5])), (a51, .inl (cI, 256, .inl f51))]) hP hD [0, 1, 2, 3, 4] [5, 6] rfl rfl (by decide +kernel) (by decide +kernel) hk1 hFc hP1 hD1
      clear hP hD hS hPc hDc hFc hk1 hz1 hvm ht hP1 hD1
      generalize H1 = H at hPn hSn ⊢
      have hP : va_P (dC, dI) vwCl [(nu, .inr (5, [.ref au, .int lu])), (au, .inl (cI, cap, .inl fu)), (oC, .inr (2, [.ref o4, .ref o5])), (o4, .inr (10, [.ref a41, .ref a42, .ref a43, .int l4])), (a41, .inl (cI, 256, .inl f41)), (o5, .inr (10, [.ref a51, .ref a52, .ref a53, .int l5])), (a51, .inl (cI, 256, .inl f51))] H := hPn
      have hD : va_D A [(nu, .inr (5, [.ref au, .int lu])), (au, .inl (cI, cap, .inl fu)), (oC, .inr (2, [.ref o4, .ref o5])), (o4, .inr (10, [.ref a41, .ref a42, .ref a43, .int l4])), (a41, .inl (cI, 256, .inl f41)), (o5, .inr (10, [.ref a51, .ref a52, .ref a53, .int l5])), (a51, .inl (cI, 256, .inl f51))] := hDn
      have hS := hSn
      clear hPn hDn hSn
      refine lv_istore (lv' := [(6, .int r_4), (5, .int r_1), (0, .ref oC), (1, .int cd), (2, .ref nu), (3, .int fr), (4, .int en)]) hx hb dX2_decode_28 hl (by decide) rfl (fun ls hl => ?_)
      refine lv_iload hx hb dX2_decode_30 (lv_at hl 0 rfl) ?_
      refine lv_iconst (v := (-1)) hx hb dX2_decode_32 (by decide) ?_
      refine lv_icmp_eq (tgt := 43) hx hb dX2_decode_33 (by decide) (fun c_5 => ?_) (fun c_5 => ?_)
      · have tc_5 : r_4.toInt = (-1) := v_eq c_5
        refine lv_iload_n hx hb dX2_decode_43 rfl (lv_at hl 3 rfl) ?_
        refine lv_iconst (v := 2) hx hb dX2_decode_44 (by decide) ?_
        refine lv_icmp_ne (tgt := 56) hx hb dX2_decode_45 (by decide) (fun c_6 => ?_) (fun c_6 => ?_)
        · have tc_6 : ¬ cd.toInt = 2 := v_ne c_6
          refine lv_iload_n hx hb dX2_decode_56 rfl (lv_at hl 3 rfl) ?_
          refine lv_iconst (v := 3) hx hb dX2_decode_57 (by decide) ?_
          refine lv_icmp_ne (tgt := 71) hx hb dX2_decode_58 (by decide) (fun c_7 => ?_) (fun c_7 => ?_)
          · have tc_7 : ¬ cd.toInt = 3 := v_ne c_7
            refine lv_iconst (v := (-1)) hx hb dX2_decode_71 (by decide) ?_
            have hP9 := hP.sub (ws' := [(oC, .inr (2, [.ref o4, .ref o5])), (o4, .inr (10, [.ref a41, .ref a42, .ref a43, .int l4])), (a41, .inl (cI, 256, .inl f41)), (o5, .inr (10, [.ref a51, .ref a52, .ref a53, .int l5])), (a51, .inl (cI, 256, .inl f51)), (nu, .inr (5, [.ref au, .int lu])), (au, .inl (cI, cap, .inl fu))]) [2, 3, 4, 5, 6, 0, 1] rfl
            have hD9 := hD.sub (ws' := [(oC, .inr (2, [.ref o4, .ref o5])), (o4, .inr (10, [.ref a41, .ref a42, .ref a43, .int l4])), (a41, .inl (cI, 256, .inl f41)), (o5, .inr (10, [.ref a51, .ref a52, .ref a53, .int l5])), (a51, .inl (cI, 256, .inl f51)), (nu, .inr (5, [.ref au, .int lu])), (au, .inl (cI, cap, .inl fu))]) [2, 3, 4, 5, 6, 0, 1] (by decide +kernel) rfl
            rw [hQQ]
            exact W.iret (v := (-1)) hx hb hr (fun t ht hW => ⟨⟨(-1), (-1), rfl, rfl, ⟨by rw [ht]; exact hP9, hD9⟩⟩, hS.F ht⟩) hS.2.2 dX2_decode_72
          · have tc_7 : cd.toInt = 3 := v_eq c_7
            refine lv_aload_n hx hb dX2_decode_61 rfl (lv_at hl 4 rfl) ?_
            refine lv_iload_n hx hb dX2_decode_62 rfl (lv_at hl 5 rfl) ?_
            refine lv_iload hx hb dX2_decode_63 (lv_at hl 6 rfl) ?_
            have hPc := hP.sub (ws' := [(nu, .inr (5, [.ref au, .int lu])), (au, .inl (cI, cap, .inl fu))]) [0, 1] rfl
            have hDc := hD.sub (ws' := [(nu, .inr (5, [.ref au, .int lu])), (au, .inl (cI, cap, .inl fu))]) [0, 1] (by decide +kernel) rfl
            have hFc := va_free (wc := [(nu, .inr (5, [.ref au, .int lu])), (au, .inl (cI, cap, .inl fu))]) hD hS hA [0, 1] rfl
            refine va_calli (va_runS (As := [.ref nu, .int fr, .int en]) (rest := []) ⟨hx, hb, hml, hown, hts⟩ (m_X2_decodeNumber l dC dI cI cS H.size nu au cap lu fu fr en (g_lu) (by omega)) (va_cwS 3 hts gX2_decode_X2_decodeNumber rfl rfl rfl (by decide +kernel) ⟨Nat.le_of_ble_eq_true rfl, Nat.le_of_ble_eq_true rfl⟩) ⟨fun a U g mk q => by obtain ⟨q0, q1, qP, qK, qD, qN0⟩ := q; exact ⟨q0, q1, qP, va_K.moved (u := U) (U := U.calling g mk a) (Vm.Alike.refl U.vm) qK, qD, va_Nw.same rfl rfl qN0⟩, fun U hU hW => ⟨rfl, by rw [hU], by rw [hU]; exact hPc, va_K.moved hW.alike hK, hDc.weaken (fun _ _ _ _ => trivial), va_Nw.warmM hW hN52⟩⟩ rfl rfl hl.1 rfl (lv_room (Nat.le_of_ble_eq_true rfl)) dX2_decode_65 ⟨Nat.le_of_ble_eq_true rfl, Nat.le_of_ble_eq_true rfl⟩) hS (fun q _ h => hFc q h) hFc (fun r_8 u t H1 locs ht hvm hw hB hz1 hk1 hSn => ?_)
            subst hw
            obtain ⟨hP1, hD1⟩ := hB
            rw [ht] at hP1
            obtain ⟨hPn, hDn⟩ := va_join (wr := [(oC, .inr (2, [.ref o4, .ref o5])), (o4, .inr (10, [.ref a41, .ref a42, .ref a43, .int l4])), (a41, .inl (cI, 256, .inl f41)), (o5, .inr (10, [.ref a51, .ref a52, .ref a53, .int l5])), (a51, .inl (cI, 256, .inl f51))]) (w1 := [(nu, .inr (5, [.ref au, .int lu])), (au, .inl (cI, cap, .inl fu))]) hP hD [0, 1] [2, 3, 4, 5, 6] rfl rfl (by decide +kernel) (by decide +kernel) hk1 hFc hP1 hD1
            clear hP hD hS hPc hDc hFc hk1 hz1 hvm ht hP1 hD1
            generalize H1 = H at hPn hSn ⊢
            have hP : va_P (dC, dI) vwCl [(oC, .inr (2, [.ref o4, .ref o5])), (o4, .inr (10, [.ref a41, .ref a42, .ref a43, .int l4])), (a41, .inl (cI, 256, .inl f41)), (o5, .inr (10, [.ref a51, .ref a52, .ref a53, .int l5])), (a51, .inl (cI, 256, .inl f51)), (nu, .inr (5, [.ref au, .int lu])), (au, .inl (cI, cap, .inl fu))] H := hPn
            have hD : va_D A [(oC, .inr (2, [.ref o4, .ref o5])), (o4, .inr (10, [.ref a41, .ref a42, .ref a43, .int l4])), (a41, .inl (cI, 256, .inl f41)), (o5, .inr (10, [.ref a51, .ref a52, .ref a53, .int l5])), (a51, .inl (cI, 256, .inl f51)), (nu, .inr (5, [.ref au, .int lu])), (au, .inl (cI, cap, .inl fu))] := hDn
            have hS := hSn
            clear hPn hDn hSn
            refine lv_goto (tgt := 72) hx hb dX2_decode_68 (by decide) ?_
            have hP9 := hP.sub (ws' := [(oC, .inr (2, [.ref o4, .ref o5])), (o4, .inr (10, [.ref a41, .ref a42, .ref a43, .int l4])), (a41, .inl (cI, 256, .inl f41)), (o5, .inr (10, [.ref a51, .ref a52, .ref a53, .int l5])), (a51, .inl (cI, 256, .inl f51)), (nu, .inr (5, [.ref au, .int lu])), (au, .inl (cI, cap, .inl fu))]) [0, 1, 2, 3, 4, 5, 6] rfl
            have hD9 := hD.sub (ws' := [(oC, .inr (2, [.ref o4, .ref o5])), (o4, .inr (10, [.ref a41, .ref a42, .ref a43, .int l4])), (a41, .inl (cI, 256, .inl f41)), (o5, .inr (10, [.ref a51, .ref a52, .ref a53, .int l5])), (a51, .inl (cI, 256, .inl f51)), (nu, .inr (5, [.ref au, .int lu])), (au, .inl (cI, cap, .inl fu))]) [0, 1, 2, 3, 4, 5, 6] (by decide +kernel) rfl
            rw [hQQ]
            exact W.iret (v := r_8) hx hb hr (fun t ht hW => ⟨⟨r_8, r_8, rfl, rfl, ⟨by rw [ht]; exact hP9, hD9⟩⟩, hS.F ht⟩) hS.2.2 dX2_decode_72
        · have tc_6 : cd.toInt = 2 := v_eq c_6
          refine lv_aload_n hx hb dX2_decode_48 rfl (lv_at hl 4 rfl) ?_
          refine lv_iload_n hx hb dX2_decode_49 rfl (lv_at hl 5 rfl) ?_
          refine lv_iload hx hb dX2_decode_50 (lv_at hl 6 rfl) ?_
          have hPc := hP.sub (ws' := [(nu, .inr (5, [.ref au, .int lu])), (au, .inl (cI, cap, .inl fu))]) [0, 1] rfl
          have hDc := hD.sub (ws' := [(nu, .inr (5, [.ref au, .int lu])), (au, .inl (cI, cap, .inl fu))]) [0, 1] (by decide +kernel) rfl
          have hFc := va_free (wc := [(nu, .inr (5, [.ref au, .int lu])), (au, .inl (cI, cap, .inl fu))]) hD hS hA [0, 1] rfl
          refine va_calli (va_runS (As := [.ref nu, .int fr, .int en]) (rest := []) ⟨hx, hb, hml, hown, hts⟩ (m_X2_decodeMany l dC dI cI cS H.size nu au cap lu fu fr en (g_lu) (by omega)) (va_cwS 3 hts gX2_decode_X2_decodeMany rfl rfl rfl (by decide +kernel) ⟨Nat.le_of_ble_eq_true rfl, Nat.le_of_ble_eq_true rfl⟩) ⟨fun a U g mk q => by obtain ⟨q0, q1, qP, qK, qD, qN0⟩ := q; exact ⟨q0, q1, qP, va_K.moved (u := U) (U := U.calling g mk a) (Vm.Alike.refl U.vm) qK, qD, va_Nw.same rfl rfl qN0⟩, fun U hU hW => ⟨rfl, by rw [hU], by rw [hU]; exact hPc, va_K.moved hW.alike hK, hDc.weaken (fun _ _ _ _ => trivial), va_Nw.warmM hW hN52⟩⟩ rfl rfl hl.1 rfl (lv_room (Nat.le_of_ble_eq_true rfl)) dX2_decode_52 ⟨Nat.le_of_ble_eq_true rfl, Nat.le_of_ble_eq_true rfl⟩) hS (fun q _ h => hFc q h) hFc (fun r_9 u t H1 locs ht hvm hw hB hz1 hk1 hSn => ?_)
          subst hw
          obtain ⟨hP1, hD1⟩ := hB
          rw [ht] at hP1
          obtain ⟨hPn, hDn⟩ := va_join (wr := [(oC, .inr (2, [.ref o4, .ref o5])), (o4, .inr (10, [.ref a41, .ref a42, .ref a43, .int l4])), (a41, .inl (cI, 256, .inl f41)), (o5, .inr (10, [.ref a51, .ref a52, .ref a53, .int l5])), (a51, .inl (cI, 256, .inl f51))]) (w1 := [(nu, .inr (5, [.ref au, .int lu])), (au, .inl (cI, cap, .inl fu))]) hP hD [0, 1] [2, 3, 4, 5, 6] rfl rfl (by decide +kernel) (by decide +kernel) hk1 hFc hP1 hD1
          clear hP hD hS hPc hDc hFc hk1 hz1 hvm ht hP1 hD1
          generalize H1 = H at hPn hSn ⊢
          have hP : va_P (dC, dI) vwCl [(oC, .inr (2, [.ref o4, .ref o5])), (o4, .inr (10, [.ref a41, .ref a42, .ref a43, .int l4])), (a41, .inl (cI, 256, .inl f41)), (o5, .inr (10, [.ref a51, .ref a52, .ref a53, .int l5])), (a51, .inl (cI, 256, .inl f51)), (nu, .inr (5, [.ref au, .int lu])), (au, .inl (cI, cap, .inl fu))] H := hPn
          have hD : va_D A [(oC, .inr (2, [.ref o4, .ref o5])), (o4, .inr (10, [.ref a41, .ref a42, .ref a43, .int l4])), (a41, .inl (cI, 256, .inl f41)), (o5, .inr (10, [.ref a51, .ref a52, .ref a53, .int l5])), (a51, .inl (cI, 256, .inl f51)), (nu, .inr (5, [.ref au, .int lu])), (au, .inl (cI, cap, .inl fu))] := hDn
          have hS := hSn
          clear hPn hDn hSn
          have hP9 := hP.sub (ws' := [(oC, .inr (2, [.ref o4, .ref o5])), (o4, .inr (10, [.ref a41, .ref a42, .ref a43, .int l4])), (a41, .inl (cI, 256, .inl f41)), (o5, .inr (10, [.ref a51, .ref a52, .ref a53, .int l5])), (a51, .inl (cI, 256, .inl f51)), (nu, .inr (5, [.ref au, .int lu])), (au, .inl (cI, cap, .inl fu))]) [0, 1, 2, 3, 4, 5, 6] rfl
          have hD9 := hD.sub (ws' := [(oC, .inr (2, [.ref o4, .ref o5])), (o4, .inr (10, [.ref a41, .ref a42, .ref a43, .int l4])), (a41, .inl (cI, 256, .inl f41)), (o5, .inr (10, [.ref a51, .ref a52, .ref a53, .int l5])), (a51, .inl (cI, 256, .inl f51)), (nu, .inr (5, [.ref au, .int lu])), (au, .inl (cI, cap, .inl fu))]) [0, 1, 2, 3, 4, 5, 6] (by decide +kernel) rfl
          rw [hQQ]
          exact W.iret (v := r_9) hx hb hr (fun t ht hW => ⟨⟨r_9, r_9, rfl, rfl, ⟨by rw [ht]; exact hP9, hD9⟩⟩, hS.F ht⟩) hS.2.2 dX2_decode_55
      · have tc_5 : ¬ r_4.toInt = (-1) := v_ne c_5
        refine lv_iload hx hb dX2_decode_36 (lv_at hl 0 rfl) ?_
        refine lv_iconst (v := 1) hx hb dX2_decode_38 (by decide) ?_
        have hPc := hP.sub (ws' := []) [] rfl
        have hDc := hD.sub (ws' := []) [] (by decide +kernel) rfl
        have hFc := va_free (wc := []) hD hS hA [] rfl
        refine va_calli (va_runS (As := [.int r_4, .int 1]) (rest := []) ⟨hx, hb, hml, hown, hts⟩ (m_X2_found l dC dI cI cS H.size r_4 1 ) (va_cwS 2 hts gX2_decode_X2_found rfl rfl rfl (by decide +kernel) ⟨Nat.le_of_ble_eq_true rfl, Nat.le_of_ble_eq_true rfl⟩) ⟨fun a U g mk q => by obtain ⟨q0, q1, qP, qK, qD⟩ := q; exact ⟨q0, q1, qP, va_K.moved (u := U) (U := U.calling g mk a) (Vm.Alike.refl U.vm) qK, qD⟩, fun U hU hW => ⟨rfl, by rw [hU], by rw [hU]; exact hPc, va_K.moved hW.alike hK, hDc.weaken (fun _ _ _ _ => trivial)⟩⟩ rfl rfl hl.1 rfl (lv_room (Nat.le_of_ble_eq_true rfl)) dX2_decode_39 ⟨Nat.le_of_ble_eq_true rfl, Nat.le_of_ble_eq_true rfl⟩) hS (fun q _ h => hFc q h) hFc (fun r_10 u t H1 locs ht hvm hw hB hz1 hk1 hSn => ?_)
        subst hw
        obtain ⟨hP1, hD1⟩ := hB
        rw [ht] at hP1
        obtain ⟨hPn, hDn⟩ := va_join (wr := [(nu, .inr (5, [.ref au, .int lu])), (au, .inl (cI, cap, .inl fu)), (oC, .inr (2, [.ref o4, .ref o5])), (o4, .inr (10, [.ref a41, .ref a42, .ref a43, .int l4])), (a41, .inl (cI, 256, .inl f41)), (o5, .inr (10, [.ref a51, .ref a52, .ref a53, .int l5])), (a51, .inl (cI, 256, .inl f51))]) (w1 := []) hP hD [] [0, 1, 2, 3, 4, 5, 6] rfl rfl (by decide +kernel) (by decide +kernel) hk1 hFc hP1 hD1
        clear hP hD hS hPc hDc hFc hk1 hz1 hvm ht hP1 hD1
        generalize H1 = H at hPn hSn ⊢
        have hP : va_P (dC, dI) vwCl [(nu, .inr (5, [.ref au, .int lu])), (au, .inl (cI, cap, .inl fu)), (oC, .inr (2, [.ref o4, .ref o5])), (o4, .inr (10, [.ref a41, .ref a42, .ref a43, .int l4])), (a41, .inl (cI, 256, .inl f41)), (o5, .inr (10, [.ref a51, .ref a52, .ref a53, .int l5])), (a51, .inl (cI, 256, .inl f51))] H := hPn
        have hD : va_D A [(nu, .inr (5, [.ref au, .int lu])), (au, .inl (cI, cap, .inl fu)), (oC, .inr (2, [.ref o4, .ref o5])), (o4, .inr (10, [.ref a41, .ref a42, .ref a43, .int l4])), (a41, .inl (cI, 256, .inl f41)), (o5, .inr (10, [.ref a51, .ref a52, .ref a53, .int l5])), (a51, .inl (cI, 256, .inl f51))] := hDn
        have hS := hSn
        clear hPn hDn hSn
        have hP9 := hP.sub (ws' := [(oC, .inr (2, [.ref o4, .ref o5])), (o4, .inr (10, [.ref a41, .ref a42, .ref a43, .int l4])), (a41, .inl (cI, 256, .inl f41)), (o5, .inr (10, [.ref a51, .ref a52, .ref a53, .int l5])), (a51, .inl (cI, 256, .inl f51)), (nu, .inr (5, [.ref au, .int lu])), (au, .inl (cI, cap, .inl fu))]) [2, 3, 4, 5, 6, 0, 1] rfl
        have hD9 := hD.sub (ws' := [(oC, .inr (2, [.ref o4, .ref o5])), (o4, .inr (10, [.ref a41, .ref a42, .ref a43, .int l4])), (a41, .inl (cI, 256, .inl f41)), (o5, .inr (10, [.ref a51, .ref a52, .ref a53, .int l5])), (a51, .inl (cI, 256, .inl f51)), (nu, .inr (5, [.ref au, .int lu])), (au, .inl (cI, cap, .inl fu))]) [2, 3, 4, 5, 6, 0, 1] (by decide +kernel) rfl
        rw [hQQ]
        exact W.iret (v := r_10) hx hb hr (fun t ht hW => ⟨⟨r_10, r_10, rfl, rfl, ⟨by rw [ht]; exact hP9, hD9⟩⟩, hS.F ht⟩) hS.2.2 dX2_decode_42
    · have tc_3 : en.toInt ≤ fr.toInt := v_nlt c_3
      have rw3_0 := v_rng fr
      have rw3_1 := v_rng en
      refine lv_iconst (v := (-1)) hx hb dX2_decode_19 (by decide) ?_
      have hP9 := hP.sub (ws' := [(oC, .inr (2, [.ref o4, .ref o5])), (o4, .inr (10, [.ref a41, .ref a42, .ref a43, .int l4])), (a41, .inl (cI, 256, .inl f41)), (o5, .inr (10, [.ref a51, .ref a52, .ref a53, .int l5])), (a51, .inl (cI, 256, .inl f51)), (nu, .inr (5, [.ref au, .int lu])), (au, .inl (cI, cap, .inl fu))]) [0, 1, 2, 3, 4, 5, 6] rfl
      have hD9 := hD.sub (ws' := [(oC, .inr (2, [.ref o4, .ref o5])), (o4, .inr (10, [.ref a41, .ref a42, .ref a43, .int l4])), (a41, .inl (cI, 256, .inl f41)), (o5, .inr (10, [.ref a51, .ref a52, .ref a53, .int l5])), (a51, .inl (cI, 256, .inl f51)), (nu, .inr (5, [.ref au, .int lu])), (au, .inl (cI, cap, .inl fu))]) [0, 1, 2, 3, 4, 5, 6] (by decide +kernel) rfl
      rw [hQQ]
      exact W.iret (v := (-1)) hx hb hr (fun t ht hW => ⟨⟨(-1), (-1), rfl, rfl, ⟨by rw [ht]; exact hP9, hD9⟩⟩, hS.F ht⟩) hS.2.2 dX2_decode_20

set_option maxHeartbeats 40000000 in
set_option maxRecDepth 100000 in
theorem m_X2_encodeMany (l : Launch) (dC : Nat → ClassId) (dI : Nat → Nat → Nat) (cI cS : ClassId) (sz : Nat) (nu : Nat) (au : Nat) (cap : Nat) (lu : Int32) (fu : Nat → Int32) (le : Int32) (g_lu : 0 ≤ lu.toInt ∧ lu.toInt ≤ (cap : Int)) (hcap : cap ≤ 2400) : Met l yX2_encodeMany wsX2_encodeMany ({ frames := 1, cells := 0, slots := 0, locals := 21 } : Room) (va_Pc [.int le, .ref nu] (fun U => U.heap.size = sz ∧ va_P (dC, dI) vwCl [(nu, .inr (5, [.ref au, .int lu])), (au, .inl (cI, cap, .inl fu))] U.heap ∧ va_K (dC, dI) vwCl [(cI, .int), (cS, .short)] U ∧ va_D (fun _ => True) [(nu, .inr (5, [.ref au, .int lu])), (au, .inl (cI, cap, .inl fu))])) (va_Qi (fun (r : Int32) (u : Int32) => r = u) (fun (r : Int32) t => ∃ (lu' : Int32) (fu' : Nat → Int32), va_P (dC, dI) vwCl [(nu, .inr (5, [.ref au, .int lu'])), (au, .inl (cI, cap, .inl fu'))] t.heap ∧ va_D (va_A [(nu, .inr (5, [.ref au, .int lu])), (au, .inl (cI, cap, .inl fu))] sz) [(nu, .inr (5, [.ref au, .int lu'])), (au, .inl (cI, cap, .inl fu'))] ∧ (0 ≤ lu'.toInt ∧ lu'.toInt ≤ (cap : Int)) ∧ (0 ≤ r.toInt ∧ r.toInt ≤ 1)) (va_A [(nu, .inr (5, [.ref au, .int lu])), (au, .inl (cI, cap, .inl fu))] sz)) 0 0 (va_A [(nu, .inr (5, [.ref au, .int lu])), (au, .inl (cI, cap, .inl fu))] sz) := by
  refine Met.ofW (cc := cX2_encodeMany) (maxL := 3) (ret := (some .boolean)) (by decide) rfl ?_
  intro p e s m args below meth c s₁ B hml hv
  obtain ⟨rfl, hsz, hP, hK, hD0⟩ := hv
  have hx := B.exec
  have hb := B.bytes
  have hr := B.returns
  have hts := atoms_spec (ws := wsX2_encodeMany) B.pre
  have hown : s.vm.findClass RX2 = some m.cls := findClass_of_methodNamed B.named
  have hlocks := B.notSynchronized
  subst hsz
  have hD := hD0.self (sz := s.heap.size)
  generalize hAe : va_A [(nu, .inr (5, [.ref au, .int lu])), (au, .inl (cI, cap, .inl fu))] s.heap.size = A at hD ⊢
  have hA : ∀ q : Nat, s.heap.size ≤ q → A q := fun q h => by rw [← hAe]; exact Or.inr h
  have hS : va_S A s.heap s.heap [] := va_S.rf
  have hP : va_P (dC, dI) vwCl [(nu, .inr (5, [.ref au, .int lu])), (au, .inl (cI, cap, .inl fu))] s.heap := hP
  have hl := lv_entry ([.int le, .ref nu]) (n := 3) (Nat.le_of_ble_eq_true rfl)
  rw [lg_entry_eq]
  generalize (lg_sl ([.int le, .ref nu]) ++ List.replicate (3 - (lg_sl ([.int le, .ref nu])).length) Slot.unset).toArray = ls at hl ⊢
  have hl : lv_has ls 3 [(0, .int le), (1, .ref nu)] := hl
  obtain ⟨QQ, hQQ⟩ : ∃ QQ : Array Value → State → Outcome → State → Prop, QQ = va_Qi (fun (r : Int32) (u : Int32) => r = u) (fun (r : Int32) t => ∃ (lu' : Int32) (fu' : Nat → Int32), va_P (dC, dI) vwCl [(nu, .inr (5, [.ref au, .int lu'])), (au, .inl (cI, cap, .inl fu'))] t.heap ∧ va_D A [(nu, .inr (5, [.ref au, .int lu'])), (au, .inl (cI, cap, .inl fu'))] ∧ (0 ≤ lu'.toInt ∧ lu'.toInt ≤ (cap : Int)) ∧ (0 ≤ r.toInt ∧ r.toInt ≤ 1)) A := ⟨_, rfl⟩
  rw [← hQQ]
  refine lv_iload_n hx hb dX2_encodeMany_0 rfl (lv_at hl 0 rfl) ?_
  refine lv_sipush (v := 128) hx hb dX2_encodeMany_1 (by decide) ?_
  refine lv_icmp_ge (tgt := 13) hx hb dX2_encodeMany_4 (by decide) (fun c_1 => ?_) (fun c_1 => ?_)
  · have tc_1 : 128 ≤ le.toInt := v_le c_1
    refine lv_iload_n hx hb dX2_encodeMany_13 rfl (lv_at hl 0 rfl) ?_
    refine lv_sipush (v := 2048) hx hb dX2_encodeMany_14 (by decide) ?_
    refine lv_icmp_ge (tgt := 36) hx hb dX2_encodeMany_17 (by decide) (fun c_2 => ?_) (fun c_2 => ?_)
    · have tc_2 : 2048 ≤ le.toInt := v_le c_2
      refine lv_aload_n hx hb dX2_encodeMany_36 rfl (lv_at hl 1 rfl) ?_
      refine lv_sipush (v := 224) hx hb dX2_encodeMany_37 (by decide) ?_
      refine lv_iload_n hx hb dX2_encodeMany_40 rfl (lv_at hl 0 rfl) ?_
      refine lv_bipush (v := 12) hx hb dX2_encodeMany_41 (by decide) ?_
      refine lv_ishr hx hb dX2_encodeMany_43 ?_
      refine lv_topi (fun x_3 ex_3 => ?_)
      have rv3_0 := v_rng le
      have tx_3 : x_3.toInt = le.toInt / 4096 := v_shr 12 ex_3 (by decide)
      refine lv_iadd hx hb dX2_encodeMany_44 ?_
      refine lv_topi (fun x_4 ex_4 => ?_)
      have tx_4 : x_4.toInt = 224 + x_3.toInt := v_add ex_4 (by show -2147483648 ≤ 224 + x_3.toInt; omega) (by show 224 + x_3.toInt < 2147483648; omega)
      have hPc := hP.sub (ws' := [(nu, .inr (5, [.ref au, .int lu])), (au, .inl (cI, cap, .inl fu))]) [0, 1] rfl
      have hDc := hD.sub (ws' := [(nu, .inr (5, [.ref au, .int lu])), (au, .inl (cI, cap, .inl fu))]) [0, 1] (by decide +kernel) rfl
      have hFc := va_free (wc := [(nu, .inr (5, [.ref au, .int lu])), (au, .inl (cI, cap, .inl fu))]) hD hS hA [0, 1] rfl
      refine va_calli (va_runV (As := [.int x_4]) (rest := []) ⟨hx, hb, hml, hown, hts⟩ (m_X5_add l dC dI cI cS s.heap.size nu au cap lu fu x_4 (g_lu) (by omega)) (cwV 1 hts gX2_encodeMany_X5_add rfl rfl rfl (by decide +kernel) ⟨Nat.le_of_ble_eq_true rfl, Nat.le_of_ble_eq_true rfl⟩) ⟨fun a U g mk q => by obtain ⟨q0, q1, qP, qK, qD⟩ := q; exact ⟨q0, q1, qP, va_K.moved (u := U) (U := U.calling g mk a) (Vm.Alike.refl U.vm) qK, qD⟩, va_recv hK hPc (ci := 5) (q0 := 0) rfl rfl, fun U hU hW => ⟨rfl, by rw [hU], by rw [hU]; exact hPc, va_K.moved hW.alike hK, hDc.weaken (fun _ _ _ _ => trivial)⟩⟩ rfl rfl hl.1 rfl (lv_room (Nat.le_of_ble_eq_true rfl)) dX2_encodeMany_45 ⟨Nat.le_of_ble_eq_true rfl, Nat.le_of_ble_eq_true rfl⟩) hS (fun q _ h => hFc q h) hFc (fun r_5 u t H1 locs ht hvm hw hB hz1 hk1 hSn => ?_)
      subst hw
      obtain ⟨lu_5, fu_5, hP1, hD1, hf5_0, hf5_1, hf5_2⟩ := hB
      rw [ht] at hP1
      obtain ⟨hPn, hDn⟩ := va_join (wr := []) (w1 := [(nu, .inr (5, [.ref au, .int lu_5])), (au, .inl (cI, cap, .inl fu_5))]) hP hD [0, 1] [] rfl rfl (by decide +kernel) (by decide +kernel) hk1 hFc hP1 hD1
      clear hP hD hS hPc hDc hFc hk1 hz1 hvm ht hP1 hD1
      generalize H1 = H at hPn hSn ⊢
      have hP : va_P (dC, dI) vwCl [(nu, .inr (5, [.ref au, .int lu_5])), (au, .inl (cI, cap, .inl fu_5))] H := hPn
      have hD : va_D A [(nu, .inr (5, [.ref au, .int lu_5])), (au, .inl (cI, cap, .inl fu_5))] := hDn
      have hS := hSn
      clear hPn hDn hSn
      refine lv_if_eq (tgt := 73) hx hb dX2_encodeMany_48 (by decide) (fun c_6 => ?_) (fun c_6 => ?_)
      · have tc_6 : r_5.toInt = 0 := v_eq c_6
        refine lv_iconst (v := 0) hx hb dX2_encodeMany_73 (by decide) ?_
        refine lv_istore_n (lv' := [(2, .int 0), (0, .int le), (1, .ref nu)]) hx hb dX2_encodeMany_74 rfl hl (by decide) rfl (fun ls hl => ?_)
        refine lv_iload_n hx hb dX2_encodeMany_75 rfl (lv_at hl 0 rfl) ?_
        refine lv_if_eq (tgt := 98) hx hb dX2_encodeMany_76 (by decide) (fun c_7 => ?_) (fun c_7 => absurd c_7 (by decide))
        refine lv_iconst (v := 0) hx hb dX2_encodeMany_98 (by decide) ?_
        have hP9 := hP.sub (ws' := [(nu, .inr (5, [.ref au, .int lu_5])), (au, .inl (cI, cap, .inl fu_5))]) [0, 1] rfl
        have hD9 := hD.sub (ws' := [(nu, .inr (5, [.ref au, .int lu_5])), (au, .inl (cI, cap, .inl fu_5))]) [0, 1] (by decide +kernel) rfl
        rw [hQQ]
        exact W.zret (v := 0) (ty := .boolean) hx hb hr (rfl) (fun t ht hW => ⟨⟨0, 0, rfl, rfl, ⟨lu_5, fu_5, by rw [ht]; exact hP9, hD9, hf5_0, by decide⟩⟩, hS.F ht⟩) hS.2.2 dX2_encodeMany_99
      · have tc_6 : ¬ r_5.toInt = 0 := v_ne c_6
        refine lv_aload_n hx hb dX2_encodeMany_51 rfl (lv_at hl 1 rfl) ?_
        refine lv_sipush (v := 128) hx hb dX2_encodeMany_52 (by decide) ?_
        refine lv_iload_n hx hb dX2_encodeMany_55 rfl (lv_at hl 0 rfl) ?_
        refine lv_bipush (v := 6) hx hb dX2_encodeMany_56 (by decide) ?_
        refine lv_ishr hx hb dX2_encodeMany_58 ?_
        refine lv_topi (fun x_8 ex_8 => ?_)
        have tx_8 : x_8.toInt = le.toInt / 64 := v_shr 6 ex_8 (by decide)
        refine lv_bipush (v := 63) hx hb dX2_encodeMany_59 (by decide) ?_
        refine lv_iand hx hb dX2_encodeMany_61 ?_
        refine lv_topi (fun x_9 ex_9 => ?_)
        have tx_9 : 0 ≤ x_9.toInt ∧ x_9.toInt < 64 := v_and 6 ex_9 (by decide) (by decide)
        refine lv_iadd hx hb dX2_encodeMany_62 ?_
        refine lv_topi (fun x_10 ex_10 => ?_)
        have tx_10 : x_10.toInt = 128 + x_9.toInt := v_add ex_10 (by show -2147483648 ≤ 128 + x_9.toInt; omega) (by show 128 + x_9.toInt < 2147483648; omega)
        have hPc := hP.sub (ws' := [(nu, .inr (5, [.ref au, .int lu_5])), (au, .inl (cI, cap, .inl fu_5))]) [0, 1] rfl
        have hDc := hD.sub (ws' := [(nu, .inr (5, [.ref au, .int lu_5])), (au, .inl (cI, cap, .inl fu_5))]) [0, 1] (by decide +kernel) rfl
        have hFc := va_free (wc := [(nu, .inr (5, [.ref au, .int lu_5])), (au, .inl (cI, cap, .inl fu_5))]) hD hS hA [0, 1] rfl
        refine va_calli (va_runV (As := [.int x_10]) (rest := []) ⟨hx, hb, hml, hown, hts⟩ (m_X5_add l dC dI cI cS H.size nu au cap lu_5 fu_5 x_10 (hf5_0) (by omega)) (cwV 1 hts gX2_encodeMany_X5_add rfl rfl rfl (by decide +kernel) ⟨Nat.le_of_ble_eq_true rfl, Nat.le_of_ble_eq_true rfl⟩) ⟨fun a U g mk q => by obtain ⟨q0, q1, qP, qK, qD⟩ := q; exact ⟨q0, q1, qP, va_K.moved (u := U) (U := U.calling g mk a) (Vm.Alike.refl U.vm) qK, qD⟩, va_recv hK hPc (ci := 5) (q0 := 0) rfl rfl, fun U hU hW => ⟨rfl, by rw [hU], by rw [hU]; exact hPc, va_K.moved hW.alike hK, hDc.weaken (fun _ _ _ _ => trivial)⟩⟩ rfl rfl hl.1 rfl (lv_room (Nat.le_of_ble_eq_true rfl)) dX2_encodeMany_63 ⟨Nat.le_of_ble_eq_true rfl, Nat.le_of_ble_eq_true rfl⟩) hS (fun q _ h => hFc q h) hFc (fun r_11 u t H1 locs ht hvm hw hB hz1 hk1 hSn => ?_)
        subst hw
        obtain ⟨lu_11, fu_11, hP1, hD1, hf11_0, hf11_1, hf11_2⟩ := hB
        rw [ht] at hP1
        obtain ⟨hPn, hDn⟩ := va_join (wr := []) (w1 := [(nu, .inr (5, [.ref au, .int lu_11])), (au, .inl (cI, cap, .inl fu_11))]) hP hD [0, 1] [] rfl rfl (by decide +kernel) (by decide +kernel) hk1 hFc hP1 hD1
        clear hP hD hS hPc hDc hFc hk1 hz1 hvm ht hP1 hD1
        generalize H1 = H at hPn hSn ⊢
        have hP : va_P (dC, dI) vwCl [(nu, .inr (5, [.ref au, .int lu_11])), (au, .inl (cI, cap, .inl fu_11))] H := hPn
        have hD : va_D A [(nu, .inr (5, [.ref au, .int lu_11])), (au, .inl (cI, cap, .inl fu_11))] := hDn
        have hS := hSn
        clear hPn hDn hSn
        refine lv_if_eq (tgt := 73) hx hb dX2_encodeMany_66 (by decide) (fun c_12 => ?_) (fun c_12 => ?_)
        · have tc_12 : r_11.toInt = 0 := v_eq c_12
          refine lv_iconst (v := 0) hx hb dX2_encodeMany_73 (by decide) ?_
          refine lv_istore_n (lv' := [(2, .int 0), (0, .int le), (1, .ref nu)]) hx hb dX2_encodeMany_74 rfl hl (by decide) rfl (fun ls hl => ?_)
          refine lv_iload_n hx hb dX2_encodeMany_75 rfl (lv_at hl 0 rfl) ?_
          refine lv_if_eq (tgt := 98) hx hb dX2_encodeMany_76 (by decide) (fun c_13 => ?_) (fun c_13 => absurd c_13 (by decide))
          refine lv_iconst (v := 0) hx hb dX2_encodeMany_98 (by decide) ?_
          have hP9 := hP.sub (ws' := [(nu, .inr (5, [.ref au, .int lu_11])), (au, .inl (cI, cap, .inl fu_11))]) [0, 1] rfl
          have hD9 := hD.sub (ws' := [(nu, .inr (5, [.ref au, .int lu_11])), (au, .inl (cI, cap, .inl fu_11))]) [0, 1] (by decide +kernel) rfl
          rw [hQQ]
          exact W.zret (v := 0) (ty := .boolean) hx hb hr (rfl) (fun t ht hW => ⟨⟨0, 0, rfl, rfl, ⟨lu_11, fu_11, by rw [ht]; exact hP9, hD9, hf11_0, by decide⟩⟩, hS.F ht⟩) hS.2.2 dX2_encodeMany_99
        · have tc_12 : ¬ r_11.toInt = 0 := v_ne c_12
          refine lv_iconst (v := 1) hx hb dX2_encodeMany_69 (by decide) ?_
          refine lv_goto (tgt := 74) hx hb dX2_encodeMany_70 (by decide) ?_
          refine lv_istore_n (lv' := [(2, .int 1), (0, .int le), (1, .ref nu)]) hx hb dX2_encodeMany_74 rfl hl (by decide) rfl (fun ls hl => ?_)
          refine lv_iload_n hx hb dX2_encodeMany_75 rfl (lv_at hl 0 rfl) ?_
          refine lv_if_eq (tgt := 98) hx hb dX2_encodeMany_76 (by decide) (fun c_14 => absurd c_14 (by decide)) (fun c_14 => ?_)
          refine lv_aload_n hx hb dX2_encodeMany_79 rfl (lv_at hl 2 rfl) ?_
          refine lv_sipush (v := 128) hx hb dX2_encodeMany_80 (by decide) ?_
          refine lv_iload_n hx hb dX2_encodeMany_83 rfl (lv_at hl 1 rfl) ?_
          refine lv_bipush (v := 63) hx hb dX2_encodeMany_84 (by decide) ?_
          refine lv_iand hx hb dX2_encodeMany_86 ?_
          refine lv_topi (fun x_15 ex_15 => ?_)
          have tx_15 : 0 ≤ x_15.toInt ∧ x_15.toInt < 64 := v_and 6 ex_15 (by decide) (by decide)
          refine lv_iadd hx hb dX2_encodeMany_87 ?_
          refine lv_topi (fun x_16 ex_16 => ?_)
          have tx_16 : x_16.toInt = 128 + x_15.toInt := v_add ex_16 (by show -2147483648 ≤ 128 + x_15.toInt; omega) (by show 128 + x_15.toInt < 2147483648; omega)
          have hPc := hP.sub (ws' := [(nu, .inr (5, [.ref au, .int lu_11])), (au, .inl (cI, cap, .inl fu_11))]) [0, 1] rfl
          have hDc := hD.sub (ws' := [(nu, .inr (5, [.ref au, .int lu_11])), (au, .inl (cI, cap, .inl fu_11))]) [0, 1] (by decide +kernel) rfl
          have hFc := va_free (wc := [(nu, .inr (5, [.ref au, .int lu_11])), (au, .inl (cI, cap, .inl fu_11))]) hD hS hA [0, 1] rfl
          refine va_calli (va_runV (As := [.int x_16]) (rest := []) ⟨hx, hb, hml, hown, hts⟩ (m_X5_add l dC dI cI cS H.size nu au cap lu_11 fu_11 x_16 (hf11_0) (by omega)) (cwV 1 hts gX2_encodeMany_X5_add rfl rfl rfl (by decide +kernel) ⟨Nat.le_of_ble_eq_true rfl, Nat.le_of_ble_eq_true rfl⟩) ⟨fun a U g mk q => by obtain ⟨q0, q1, qP, qK, qD⟩ := q; exact ⟨q0, q1, qP, va_K.moved (u := U) (U := U.calling g mk a) (Vm.Alike.refl U.vm) qK, qD⟩, va_recv hK hPc (ci := 5) (q0 := 0) rfl rfl, fun U hU hW => ⟨rfl, by rw [hU], by rw [hU]; exact hPc, va_K.moved hW.alike hK, hDc.weaken (fun _ _ _ _ => trivial)⟩⟩ rfl rfl hl.1 rfl (lv_room (Nat.le_of_ble_eq_true rfl)) dX2_encodeMany_88 ⟨Nat.le_of_ble_eq_true rfl, Nat.le_of_ble_eq_true rfl⟩) hS (fun q _ h => hFc q h) hFc (fun r_17 u t H1 locs ht hvm hw hB hz1 hk1 hSn => ?_)
          subst hw
          obtain ⟨lu_17, fu_17, hP1, hD1, hf17_0, hf17_1, hf17_2⟩ := hB
          rw [ht] at hP1
          obtain ⟨hPn, hDn⟩ := va_join (wr := []) (w1 := [(nu, .inr (5, [.ref au, .int lu_17])), (au, .inl (cI, cap, .inl fu_17))]) hP hD [0, 1] [] rfl rfl (by decide +kernel) (by decide +kernel) hk1 hFc hP1 hD1
          clear hP hD hS hPc hDc hFc hk1 hz1 hvm ht hP1 hD1
          generalize H1 = H at hPn hSn ⊢
          have hP : va_P (dC, dI) vwCl [(nu, .inr (5, [.ref au, .int lu_17])), (au, .inl (cI, cap, .inl fu_17))] H := hPn
          have hD : va_D A [(nu, .inr (5, [.ref au, .int lu_17])), (au, .inl (cI, cap, .inl fu_17))] := hDn
          have hS := hSn
          clear hPn hDn hSn
          refine lv_if_eq (tgt := 98) hx hb dX2_encodeMany_91 (by decide) (fun c_18 => ?_) (fun c_18 => ?_)
          · have tc_18 : r_17.toInt = 0 := v_eq c_18
            refine lv_iconst (v := 0) hx hb dX2_encodeMany_98 (by decide) ?_
            have hP9 := hP.sub (ws' := [(nu, .inr (5, [.ref au, .int lu_17])), (au, .inl (cI, cap, .inl fu_17))]) [0, 1] rfl
            have hD9 := hD.sub (ws' := [(nu, .inr (5, [.ref au, .int lu_17])), (au, .inl (cI, cap, .inl fu_17))]) [0, 1] (by decide +kernel) rfl
            rw [hQQ]
            exact W.zret (v := 0) (ty := .boolean) hx hb hr (rfl) (fun t ht hW => ⟨⟨0, 0, rfl, rfl, ⟨lu_17, fu_17, by rw [ht]; exact hP9, hD9, hf17_0, by decide⟩⟩, hS.F ht⟩) hS.2.2 dX2_encodeMany_99
          · have tc_18 : ¬ r_17.toInt = 0 := v_ne c_18
            refine lv_iconst (v := 1) hx hb dX2_encodeMany_94 (by decide) ?_
            refine lv_goto (tgt := 99) hx hb dX2_encodeMany_95 (by decide) ?_
            have hP9 := hP.sub (ws' := [(nu, .inr (5, [.ref au, .int lu_17])), (au, .inl (cI, cap, .inl fu_17))]) [0, 1] rfl
            have hD9 := hD.sub (ws' := [(nu, .inr (5, [.ref au, .int lu_17])), (au, .inl (cI, cap, .inl fu_17))]) [0, 1] (by decide +kernel) rfl
            rw [hQQ]
            exact W.zret (v := 1) (ty := .boolean) hx hb hr (rfl) (fun t ht hW => ⟨⟨1, 1, rfl, rfl, ⟨lu_17, fu_17, by rw [ht]; exact hP9, hD9, hf17_0, by decide⟩⟩, hS.F ht⟩) hS.2.2 dX2_encodeMany_99
    · have tc_2 : le.toInt < 2048 := v_nle c_2
      refine lv_aload_n hx hb dX2_encodeMany_20 rfl (lv_at hl 1 rfl) ?_
      refine lv_sipush (v := 192) hx hb dX2_encodeMany_21 (by decide) ?_
      refine lv_iload_n hx hb dX2_encodeMany_24 rfl (lv_at hl 0 rfl) ?_
      refine lv_bipush (v := 6) hx hb dX2_encodeMany_25 (by decide) ?_
      refine lv_ishr hx hb dX2_encodeMany_27 ?_
      refine lv_topi (fun x_19 ex_19 => ?_)
      have tx_19 : x_19.toInt = le.toInt / 64 := v_shr 6 ex_19 (by decide)
      refine lv_iadd hx hb dX2_encodeMany_28 ?_
      refine lv_topi (fun x_20 ex_20 => ?_)
      have tx_20 : x_20.toInt = 192 + x_19.toInt := v_add ex_20 (by show -2147483648 ≤ 192 + x_19.toInt; omega) (by show 192 + x_19.toInt < 2147483648; omega)
      have hPc := hP.sub (ws' := [(nu, .inr (5, [.ref au, .int lu])), (au, .inl (cI, cap, .inl fu))]) [0, 1] rfl
      have hDc := hD.sub (ws' := [(nu, .inr (5, [.ref au, .int lu])), (au, .inl (cI, cap, .inl fu))]) [0, 1] (by decide +kernel) rfl
      have hFc := va_free (wc := [(nu, .inr (5, [.ref au, .int lu])), (au, .inl (cI, cap, .inl fu))]) hD hS hA [0, 1] rfl
      refine va_calli (va_runV (As := [.int x_20]) (rest := []) ⟨hx, hb, hml, hown, hts⟩ (m_X5_add l dC dI cI cS s.heap.size nu au cap lu fu x_20 (g_lu) (by omega)) (cwV 1 hts gX2_encodeMany_X5_add rfl rfl rfl (by decide +kernel) ⟨Nat.le_of_ble_eq_true rfl, Nat.le_of_ble_eq_true rfl⟩) ⟨fun a U g mk q => by obtain ⟨q0, q1, qP, qK, qD⟩ := q; exact ⟨q0, q1, qP, va_K.moved (u := U) (U := U.calling g mk a) (Vm.Alike.refl U.vm) qK, qD⟩, va_recv hK hPc (ci := 5) (q0 := 0) rfl rfl, fun U hU hW => ⟨rfl, by rw [hU], by rw [hU]; exact hPc, va_K.moved hW.alike hK, hDc.weaken (fun _ _ _ _ => trivial)⟩⟩ rfl rfl hl.1 rfl (lv_room (Nat.le_of_ble_eq_true rfl)) dX2_encodeMany_29 ⟨Nat.le_of_ble_eq_true rfl, Nat.le_of_ble_eq_true rfl⟩) hS (fun q _ h => hFc q h) hFc (fun r_21 u t H1 locs ht hvm hw hB hz1 hk1 hSn => ?_)
      subst hw
      obtain ⟨lu_21, fu_21, hP1, hD1, hf21_0, hf21_1, hf21_2⟩ := hB
      rw [ht] at hP1
      obtain ⟨hPn, hDn⟩ := va_join (wr := []) (w1 := [(nu, .inr (5, [.ref au, .int lu_21])), (au, .inl (cI, cap, .inl fu_21))]) hP hD [0, 1] [] rfl rfl (by decide +kernel) (by decide +kernel) hk1 hFc hP1 hD1
      clear hP hD hS hPc hDc hFc hk1 hz1 hvm ht hP1 hD1
      generalize H1 = H at hPn hSn ⊢
      have hP : va_P (dC, dI) vwCl [(nu, .inr (5, [.ref au, .int lu_21])), (au, .inl (cI, cap, .inl fu_21))] H := hPn
      have hD : va_D A [(nu, .inr (5, [.ref au, .int lu_21])), (au, .inl (cI, cap, .inl fu_21))] := hDn
      have hS := hSn
      clear hPn hDn hSn
      refine lv_istore_n (lv' := [(2, .int r_21), (0, .int le), (1, .ref nu)]) hx hb dX2_encodeMany_32 rfl hl (by decide) rfl (fun ls hl => ?_)
      refine lv_goto (tgt := 75) hx hb dX2_encodeMany_33 (by decide) ?_
      refine lv_iload_n hx hb dX2_encodeMany_75 rfl (lv_at hl 0 rfl) ?_
      refine lv_if_eq (tgt := 98) hx hb dX2_encodeMany_76 (by decide) (fun c_22 => ?_) (fun c_22 => ?_)
      · have tc_22 : r_21.toInt = 0 := v_eq c_22
        refine lv_iconst (v := 0) hx hb dX2_encodeMany_98 (by decide) ?_
        have hP9 := hP.sub (ws' := [(nu, .inr (5, [.ref au, .int lu_21])), (au, .inl (cI, cap, .inl fu_21))]) [0, 1] rfl
        have hD9 := hD.sub (ws' := [(nu, .inr (5, [.ref au, .int lu_21])), (au, .inl (cI, cap, .inl fu_21))]) [0, 1] (by decide +kernel) rfl
        rw [hQQ]
        exact W.zret (v := 0) (ty := .boolean) hx hb hr (rfl) (fun t ht hW => ⟨⟨0, 0, rfl, rfl, ⟨lu_21, fu_21, by rw [ht]; exact hP9, hD9, hf21_0, by decide⟩⟩, hS.F ht⟩) hS.2.2 dX2_encodeMany_99
      · have tc_22 : ¬ r_21.toInt = 0 := v_ne c_22
        refine lv_aload_n hx hb dX2_encodeMany_79 rfl (lv_at hl 2 rfl) ?_
        refine lv_sipush (v := 128) hx hb dX2_encodeMany_80 (by decide) ?_
        refine lv_iload_n hx hb dX2_encodeMany_83 rfl (lv_at hl 1 rfl) ?_
        refine lv_bipush (v := 63) hx hb dX2_encodeMany_84 (by decide) ?_
        refine lv_iand hx hb dX2_encodeMany_86 ?_
        refine lv_topi (fun x_23 ex_23 => ?_)
        have tx_23 : 0 ≤ x_23.toInt ∧ x_23.toInt < 64 := v_and 6 ex_23 (by decide) (by decide)
        refine lv_iadd hx hb dX2_encodeMany_87 ?_
        refine lv_topi (fun x_24 ex_24 => ?_)
        have tx_24 : x_24.toInt = 128 + x_23.toInt := v_add ex_24 (by show -2147483648 ≤ 128 + x_23.toInt; omega) (by show 128 + x_23.toInt < 2147483648; omega)
        have hPc := hP.sub (ws' := [(nu, .inr (5, [.ref au, .int lu_21])), (au, .inl (cI, cap, .inl fu_21))]) [0, 1] rfl
        have hDc := hD.sub (ws' := [(nu, .inr (5, [.ref au, .int lu_21])), (au, .inl (cI, cap, .inl fu_21))]) [0, 1] (by decide +kernel) rfl
        have hFc := va_free (wc := [(nu, .inr (5, [.ref au, .int lu_21])), (au, .inl (cI, cap, .inl fu_21))]) hD hS hA [0, 1] rfl
        refine va_calli (va_runV (As := [.int x_24]) (rest := []) ⟨hx, hb, hml, hown, hts⟩ (m_X5_add l dC dI cI cS H.size nu au cap lu_21 fu_21 x_24 (hf21_0) (by omega)) (cwV 1 hts gX2_encodeMany_X5_add rfl rfl rfl (by decide +kernel) ⟨Nat.le_of_ble_eq_true rfl, Nat.le_of_ble_eq_true rfl⟩) ⟨fun a U g mk q => by obtain ⟨q0, q1, qP, qK, qD⟩ := q; exact ⟨q0, q1, qP, va_K.moved (u := U) (U := U.calling g mk a) (Vm.Alike.refl U.vm) qK, qD⟩, va_recv hK hPc (ci := 5) (q0 := 0) rfl rfl, fun U hU hW => ⟨rfl, by rw [hU], by rw [hU]; exact hPc, va_K.moved hW.alike hK, hDc.weaken (fun _ _ _ _ => trivial)⟩⟩ rfl rfl hl.1 rfl (lv_room (Nat.le_of_ble_eq_true rfl)) dX2_encodeMany_88 ⟨Nat.le_of_ble_eq_true rfl, Nat.le_of_ble_eq_true rfl⟩) hS (fun q _ h => hFc q h) hFc (fun r_25 u t H1 locs ht hvm hw hB hz1 hk1 hSn => ?_)
        subst hw
        obtain ⟨lu_25, fu_25, hP1, hD1, hf25_0, hf25_1, hf25_2⟩ := hB
        rw [ht] at hP1
        obtain ⟨hPn, hDn⟩ := va_join (wr := []) (w1 := [(nu, .inr (5, [.ref au, .int lu_25])), (au, .inl (cI, cap, .inl fu_25))]) hP hD [0, 1] [] rfl rfl (by decide +kernel) (by decide +kernel) hk1 hFc hP1 hD1
        clear hP hD hS hPc hDc hFc hk1 hz1 hvm ht hP1 hD1
        generalize H1 = H at hPn hSn ⊢
        have hP : va_P (dC, dI) vwCl [(nu, .inr (5, [.ref au, .int lu_25])), (au, .inl (cI, cap, .inl fu_25))] H := hPn
        have hD : va_D A [(nu, .inr (5, [.ref au, .int lu_25])), (au, .inl (cI, cap, .inl fu_25))] := hDn
        have hS := hSn
        clear hPn hDn hSn
        refine lv_if_eq (tgt := 98) hx hb dX2_encodeMany_91 (by decide) (fun c_26 => ?_) (fun c_26 => ?_)
        · have tc_26 : r_25.toInt = 0 := v_eq c_26
          refine lv_iconst (v := 0) hx hb dX2_encodeMany_98 (by decide) ?_
          have hP9 := hP.sub (ws' := [(nu, .inr (5, [.ref au, .int lu_25])), (au, .inl (cI, cap, .inl fu_25))]) [0, 1] rfl
          have hD9 := hD.sub (ws' := [(nu, .inr (5, [.ref au, .int lu_25])), (au, .inl (cI, cap, .inl fu_25))]) [0, 1] (by decide +kernel) rfl
          rw [hQQ]
          exact W.zret (v := 0) (ty := .boolean) hx hb hr (rfl) (fun t ht hW => ⟨⟨0, 0, rfl, rfl, ⟨lu_25, fu_25, by rw [ht]; exact hP9, hD9, hf25_0, by decide⟩⟩, hS.F ht⟩) hS.2.2 dX2_encodeMany_99
        · have tc_26 : ¬ r_25.toInt = 0 := v_ne c_26
          refine lv_iconst (v := 1) hx hb dX2_encodeMany_94 (by decide) ?_
          refine lv_goto (tgt := 99) hx hb dX2_encodeMany_95 (by decide) ?_
          have hP9 := hP.sub (ws' := [(nu, .inr (5, [.ref au, .int lu_25])), (au, .inl (cI, cap, .inl fu_25))]) [0, 1] rfl
          have hD9 := hD.sub (ws' := [(nu, .inr (5, [.ref au, .int lu_25])), (au, .inl (cI, cap, .inl fu_25))]) [0, 1] (by decide +kernel) rfl
          rw [hQQ]
          exact W.zret (v := 1) (ty := .boolean) hx hb hr (rfl) (fun t ht hW => ⟨⟨1, 1, rfl, rfl, ⟨lu_25, fu_25, by rw [ht]; exact hP9, hD9, hf25_0, by decide⟩⟩, hS.F ht⟩) hS.2.2 dX2_encodeMany_99
  · have tc_1 : le.toInt < 128 := v_nle c_1
    refine lv_aload_n hx hb dX2_encodeMany_7 rfl (lv_at hl 1 rfl) ?_
    refine lv_iload_n hx hb dX2_encodeMany_8 rfl (lv_at hl 0 rfl) ?_
    have hPc := hP.sub (ws' := [(nu, .inr (5, [.ref au, .int lu])), (au, .inl (cI, cap, .inl fu))]) [0, 1] rfl
    have hDc := hD.sub (ws' := [(nu, .inr (5, [.ref au, .int lu])), (au, .inl (cI, cap, .inl fu))]) [0, 1] (by decide +kernel) rfl
    have hFc := va_free (wc := [(nu, .inr (5, [.ref au, .int lu])), (au, .inl (cI, cap, .inl fu))]) hD hS hA [0, 1] rfl
    refine va_calli (va_runV (As := [.int le]) (rest := []) ⟨hx, hb, hml, hown, hts⟩ (m_X5_add l dC dI cI cS s.heap.size nu au cap lu fu le (g_lu) (by omega)) (cwV 1 hts gX2_encodeMany_X5_add rfl rfl rfl (by decide +kernel) ⟨Nat.le_of_ble_eq_true rfl, Nat.le_of_ble_eq_true rfl⟩) ⟨fun a U g mk q => by obtain ⟨q0, q1, qP, qK, qD⟩ := q; exact ⟨q0, q1, qP, va_K.moved (u := U) (U := U.calling g mk a) (Vm.Alike.refl U.vm) qK, qD⟩, va_recv hK hPc (ci := 5) (q0 := 0) rfl rfl, fun U hU hW => ⟨rfl, by rw [hU], by rw [hU]; exact hPc, va_K.moved hW.alike hK, hDc.weaken (fun _ _ _ _ => trivial)⟩⟩ rfl rfl hl.1 rfl (lv_room (Nat.le_of_ble_eq_true rfl)) dX2_encodeMany_9 ⟨Nat.le_of_ble_eq_true rfl, Nat.le_of_ble_eq_true rfl⟩) hS (fun q _ h => hFc q h) hFc (fun r_27 u t H1 locs ht hvm hw hB hz1 hk1 hSn => ?_)
    subst hw
    obtain ⟨lu_27, fu_27, hP1, hD1, hf27_0, hf27_1, hf27_2⟩ := hB
    rw [ht] at hP1
    obtain ⟨hPn, hDn⟩ := va_join (wr := []) (w1 := [(nu, .inr (5, [.ref au, .int lu_27])), (au, .inl (cI, cap, .inl fu_27))]) hP hD [0, 1] [] rfl rfl (by decide +kernel) (by decide +kernel) hk1 hFc hP1 hD1
    clear hP hD hS hPc hDc hFc hk1 hz1 hvm ht hP1 hD1
    generalize H1 = H at hPn hSn ⊢
    have hP : va_P (dC, dI) vwCl [(nu, .inr (5, [.ref au, .int lu_27])), (au, .inl (cI, cap, .inl fu_27))] H := hPn
    have hD : va_D A [(nu, .inr (5, [.ref au, .int lu_27])), (au, .inl (cI, cap, .inl fu_27))] := hDn
    have hS := hSn
    clear hPn hDn hSn
    have hP9 := hP.sub (ws' := [(nu, .inr (5, [.ref au, .int lu_27])), (au, .inl (cI, cap, .inl fu_27))]) [0, 1] rfl
    have hD9 := hD.sub (ws' := [(nu, .inr (5, [.ref au, .int lu_27])), (au, .inl (cI, cap, .inl fu_27))]) [0, 1] (by decide +kernel) rfl
    rw [hQQ]
    exact W.zret (v := r_27) (ty := .boolean) hx hb hr (v_bool (by omega)) (fun t ht hW => ⟨⟨r_27, r_27, rfl, rfl, ⟨lu_27, fu_27, by rw [ht]; exact hP9, hD9, hf27_0, hf27_1⟩⟩, hS.F ht⟩) hS.2.2 dX2_encodeMany_12

set_option maxHeartbeats 40000000 in
set_option maxRecDepth 100000 in
theorem m_X2_encodeNumber (l : Launch) (dC : Nat → ClassId) (dI : Nat → Nat → Nat) (cI cS : ClassId) (sz : Nat) (nu : Nat) (au : Nat) (cap : Nat) (lu : Int32) (fu : Nat → Int32) (le : Int32) (g_lu : 0 ≤ lu.toInt ∧ lu.toInt ≤ (cap : Int)) (hcap : cap ≤ 2400) : Met l yX2_encodeNumber wsX2_encodeNumber ({ frames := 1, cells := 0, slots := 0, locals := 21 } : Room) (va_Pc [.int le, .ref nu] (fun U => U.heap.size = sz ∧ va_P (dC, dI) vwCl [(nu, .inr (5, [.ref au, .int lu])), (au, .inl (cI, cap, .inl fu))] U.heap ∧ va_K (dC, dI) vwCl [(cI, .int), (cS, .short)] U ∧ va_D (fun _ => True) [(nu, .inr (5, [.ref au, .int lu])), (au, .inl (cI, cap, .inl fu))])) (va_Qi (fun (r : Int32) (u : Int32) => r = u) (fun (r : Int32) t => ∃ (lu' : Int32) (fu' : Nat → Int32), va_P (dC, dI) vwCl [(nu, .inr (5, [.ref au, .int lu'])), (au, .inl (cI, cap, .inl fu'))] t.heap ∧ va_D (va_A [(nu, .inr (5, [.ref au, .int lu])), (au, .inl (cI, cap, .inl fu))] sz) [(nu, .inr (5, [.ref au, .int lu'])), (au, .inl (cI, cap, .inl fu'))] ∧ (0 ≤ lu'.toInt ∧ lu'.toInt ≤ (cap : Int)) ∧ (0 ≤ r.toInt ∧ r.toInt ≤ 1)) (va_A [(nu, .inr (5, [.ref au, .int lu])), (au, .inl (cI, cap, .inl fu))] sz)) 0 0 (va_A [(nu, .inr (5, [.ref au, .int lu])), (au, .inl (cI, cap, .inl fu))] sz) := by
  refine Met.ofW (cc := cX2_encodeNumber) (maxL := 6) (ret := (some .boolean)) (by decide) rfl ?_
  intro p e s m args below meth c s₁ B hml hv
  obtain ⟨rfl, hsz, hP, hK, hD0⟩ := hv
  have hx := B.exec
  have hb := B.bytes
  have hr := B.returns
  have hts := atoms_spec (ws := wsX2_encodeNumber) B.pre
  have hown : s.vm.findClass RX2 = some m.cls := findClass_of_methodNamed B.named
  have hlocks := B.notSynchronized
  subst hsz
  have hD := hD0.self (sz := s.heap.size)
  generalize hAe : va_A [(nu, .inr (5, [.ref au, .int lu])), (au, .inl (cI, cap, .inl fu))] s.heap.size = A at hD ⊢
  have hA : ∀ q : Nat, s.heap.size ≤ q → A q := fun q h => by rw [← hAe]; exact Or.inr h
  have hS : va_S A s.heap s.heap [] := va_S.rf
  have hP : va_P (dC, dI) vwCl [(nu, .inr (5, [.ref au, .int lu])), (au, .inl (cI, cap, .inl fu))] s.heap := hP
  have hl := lv_entry ([.int le, .ref nu]) (n := 6) (Nat.le_of_ble_eq_true rfl)
  rw [lg_entry_eq]
  generalize (lg_sl ([.int le, .ref nu]) ++ List.replicate (6 - (lg_sl ([.int le, .ref nu])).length) Slot.unset).toArray = ls at hl ⊢
  have hl : lv_has ls 6 [(0, .int le), (1, .ref nu)] := hl
  obtain ⟨QQ, hQQ⟩ : ∃ QQ : Array Value → State → Outcome → State → Prop, QQ = va_Qi (fun (r : Int32) (u : Int32) => r = u) (fun (r : Int32) t => ∃ (lu' : Int32) (fu' : Nat → Int32), va_P (dC, dI) vwCl [(nu, .inr (5, [.ref au, .int lu'])), (au, .inl (cI, cap, .inl fu'))] t.heap ∧ va_D A [(nu, .inr (5, [.ref au, .int lu'])), (au, .inl (cI, cap, .inl fu'))] ∧ (0 ≤ lu'.toInt ∧ lu'.toInt ≤ (cap : Int)) ∧ (0 ≤ r.toInt ∧ r.toInt ≤ 1)) A := ⟨_, rfl⟩
  rw [← hQQ]
  refine lv_aload_n hx hb dX2_encodeNumber_0 rfl (lv_at hl 1 rfl) ?_
  refine lv_bipush (v := 38) hx hb dX2_encodeNumber_1 (by decide) ?_
  have hPc := hP.sub (ws' := [(nu, .inr (5, [.ref au, .int lu])), (au, .inl (cI, cap, .inl fu))]) [0, 1] rfl
  have hDc := hD.sub (ws' := [(nu, .inr (5, [.ref au, .int lu])), (au, .inl (cI, cap, .inl fu))]) [0, 1] (by decide +kernel) rfl
  have hFc := va_free (wc := [(nu, .inr (5, [.ref au, .int lu])), (au, .inl (cI, cap, .inl fu))]) hD hS hA [0, 1] rfl
  refine va_calli (va_runV (As := [.int 38]) (rest := []) ⟨hx, hb, hml, hown, hts⟩ (m_X5_add l dC dI cI cS s.heap.size nu au cap lu fu 38 (g_lu) (by omega)) (cwV 1 hts gX2_encodeNumber_X5_add rfl rfl rfl (by decide +kernel) ⟨Nat.le_of_ble_eq_true rfl, Nat.le_of_ble_eq_true rfl⟩) ⟨fun a U g mk q => by obtain ⟨q0, q1, qP, qK, qD⟩ := q; exact ⟨q0, q1, qP, va_K.moved (u := U) (U := U.calling g mk a) (Vm.Alike.refl U.vm) qK, qD⟩, va_recv hK hPc (ci := 5) (q0 := 0) rfl rfl, fun U hU hW => ⟨rfl, by rw [hU], by rw [hU]; exact hPc, va_K.moved hW.alike hK, hDc.weaken (fun _ _ _ _ => trivial)⟩⟩ rfl rfl hl.1 rfl (lv_room (Nat.le_of_ble_eq_true rfl)) dX2_encodeNumber_3 ⟨Nat.le_of_ble_eq_true rfl, Nat.le_of_ble_eq_true rfl⟩) hS (fun q _ h => hFc q h) hFc (fun r_1 u t H1 locs ht hvm hw hB hz1 hk1 hSn => ?_)
  subst hw
  obtain ⟨lu_1, fu_1, hP1, hD1, hf1_0, hf1_1, hf1_2⟩ := hB
  rw [ht] at hP1
  obtain ⟨hPn, hDn⟩ := va_join (wr := []) (w1 := [(nu, .inr (5, [.ref au, .int lu_1])), (au, .inl (cI, cap, .inl fu_1))]) hP hD [0, 1] [] rfl rfl (by decide +kernel) (by decide +kernel) hk1 hFc hP1 hD1
  clear hP hD hS hPc hDc hFc hk1 hz1 hvm ht hP1 hD1
  generalize H1 = H at hPn hSn ⊢
  have hP : va_P (dC, dI) vwCl [(nu, .inr (5, [.ref au, .int lu_1])), (au, .inl (cI, cap, .inl fu_1))] H := hPn
  have hD : va_D A [(nu, .inr (5, [.ref au, .int lu_1])), (au, .inl (cI, cap, .inl fu_1))] := hDn
  have hS := hSn
  clear hPn hDn hSn
  refine lv_if_eq (tgt := 22) hx hb dX2_encodeNumber_6 (by decide) (fun c_2 => ?_) (fun c_2 => ?_)
  · have tc_2 : r_1.toInt = 0 := v_eq c_2
    refine lv_iconst (v := 0) hx hb dX2_encodeNumber_22 (by decide) ?_
    refine lv_istore_n (lv' := [(2, .int 0), (0, .int le), (1, .ref nu)]) hx hb dX2_encodeNumber_23 rfl hl (by decide) rfl (fun ls hl => ?_)
    refine lv_iconst (v := 0) hx hb dX2_encodeNumber_24 (by decide) ?_
    refine lv_istore_n (lv' := [(3, .int 0), (2, .int 0), (0, .int le), (1, .ref nu)]) hx hb dX2_encodeNumber_25 rfl hl (by decide) rfl (fun ls hl => ?_)
    refine lv_sipush (v := 10000) hx hb dX2_encodeNumber_26 (by decide) ?_
    refine lv_istore (lv' := [(4, .int 10000), (3, .int 0), (2, .int 0), (0, .int le), (1, .ref nu)]) hx hb dX2_encodeNumber_29 hl (by decide) rfl (fun ls hl => ?_)
    have LOOP_31 : ∀ (k_31 : Nat) (gd : Int32) (bg : Int32) (un : Int32) (l2 : Int32) (f2 : Nat → Int32) (H : Heap) (locs : List Loc) (ls : Array Slot), MSd (un.toInt : Int) k_31 → (0 ≤ gd.toInt ∧ gd.toInt ≤ 1) → (0 ≤ bg.toInt ∧ bg.toInt ≤ 1) → (0 ≤ un.toInt ∧ un.toInt ≤ 10000) → (0 ≤ l2.toInt ∧ l2.toInt ≤ (cap : Int)) → va_P (dC, dI) vwCl [(nu, .inr (5, [.ref au, .int l2])), (au, .inl (cI, cap, .inl f2))] H → va_D A [(nu, .inr (5, [.ref au, .int l2])), (au, .inl (cI, cap, .inl f2))] → va_S A s.heap H locs → lv_has ls 6 [(4, .int un), (3, .int bg), (2, .int gd), (0, .int le), (1, .ref nu)] → W p l e (headSpec wsX2_encodeNumber ({ frames := 1, cells := 0, slots := 0, locals := 21 } : Room)).room s m ([.int le, .ref nu] : List Value).toArray below meth c H locs 0 0 (MQ below QQ ([.int le, .ref nu] : List Value).toArray s 0 0 A) (F0 m 31 ls []) := by
      clear hP hD hS hl
      intro k_31
      induction k_31 with
      | zero =>
        intro gd bg un l2 f2 H locs ls hm_31 g_gd g_bg g_un g_l2 hP hD hS hl
        exact ms_0 hm_31
      | succ k_31 ih_31 =>
        intro gd bg un l2 f2 H locs ls hm_31 g_gd g_bg g_un g_l2 hP hD hS hl
        refine lv_iload hx hb dX2_encodeNumber_31 (lv_at hl 0 rfl) ?_
        refine lv_if_le (tgt := 96) hx hb dX2_encodeNumber_33 (by decide) (fun c_3 => ?_) (fun c_3 => ?_)
        · have tc_3 : un.toInt ≤ 0 := v_le c_3
          refine lv_iload_n hx hb dX2_encodeNumber_96 rfl (lv_at hl 2 rfl) ?_
          refine lv_if_eq (tgt := 113) hx hb dX2_encodeNumber_97 (by decide) (fun c_4 => ?_) (fun c_4 => ?_)
          · have tc_4 : gd.toInt = 0 := v_eq c_4
            refine lv_iconst (v := 0) hx hb dX2_encodeNumber_113 (by decide) ?_
            have hP9 := hP.sub (ws' := [(nu, .inr (5, [.ref au, .int l2])), (au, .inl (cI, cap, .inl f2))]) [0, 1] rfl
            have hD9 := hD.sub (ws' := [(nu, .inr (5, [.ref au, .int l2])), (au, .inl (cI, cap, .inl f2))]) [0, 1] (by decide +kernel) rfl
            rw [hQQ]
            exact W.zret (v := 0) (ty := .boolean) hx hb hr (rfl) (fun t ht hW => ⟨⟨0, 0, rfl, rfl, ⟨l2, f2, by rw [ht]; exact hP9, hD9, g_l2, by decide⟩⟩, hS.F ht⟩) hS.2.2 dX2_encodeNumber_114
          · have tc_4 : ¬ gd.toInt = 0 := v_ne c_4
            refine lv_aload_n hx hb dX2_encodeNumber_100 rfl (lv_at hl 4 rfl) ?_
            refine lv_bipush (v := 59) hx hb dX2_encodeNumber_101 (by decide) ?_
            have hPc := hP.sub (ws' := [(nu, .inr (5, [.ref au, .int l2])), (au, .inl (cI, cap, .inl f2))]) [0, 1] rfl
            have hDc := hD.sub (ws' := [(nu, .inr (5, [.ref au, .int l2])), (au, .inl (cI, cap, .inl f2))]) [0, 1] (by decide +kernel) rfl
            have hFc := va_free (wc := [(nu, .inr (5, [.ref au, .int l2])), (au, .inl (cI, cap, .inl f2))]) hD hS hA [0, 1] rfl
            refine va_calli (va_runV (As := [.int 59]) (rest := []) ⟨hx, hb, hml, hown, hts⟩ (m_X5_add l dC dI cI cS H.size nu au cap l2 f2 59 (g_l2) (by omega)) (cwV 1 hts gX2_encodeNumber_X5_add rfl rfl rfl (by decide +kernel) ⟨Nat.le_of_ble_eq_true rfl, Nat.le_of_ble_eq_true rfl⟩) ⟨fun a U g mk q => by obtain ⟨q0, q1, qP, qK, qD⟩ := q; exact ⟨q0, q1, qP, va_K.moved (u := U) (U := U.calling g mk a) (Vm.Alike.refl U.vm) qK, qD⟩, va_recv hK hPc (ci := 5) (q0 := 0) rfl rfl, fun U hU hW => ⟨rfl, by rw [hU], by rw [hU]; exact hPc, va_K.moved hW.alike hK, hDc.weaken (fun _ _ _ _ => trivial)⟩⟩ rfl rfl hl.1 rfl (lv_room (Nat.le_of_ble_eq_true rfl)) dX2_encodeNumber_103 ⟨Nat.le_of_ble_eq_true rfl, Nat.le_of_ble_eq_true rfl⟩) hS (fun q _ h => hFc q h) hFc (fun r_5 u t H1 locs ht hvm hw hB hz1 hk1 hSn => ?_)
            subst hw
            obtain ⟨lu_5, fu_5, hP1, hD1, hf5_0, hf5_1, hf5_2⟩ := hB
            rw [ht] at hP1
            obtain ⟨hPn, hDn⟩ := va_join (wr := []) (w1 := [(nu, .inr (5, [.ref au, .int lu_5])), (au, .inl (cI, cap, .inl fu_5))]) hP hD [0, 1] [] rfl rfl (by decide +kernel) (by decide +kernel) hk1 hFc hP1 hD1
            clear hP hD hS hPc hDc hFc hk1 hz1 hvm ht hP1 hD1
            generalize H1 = H at hPn hSn ⊢
            have hP : va_P (dC, dI) vwCl [(nu, .inr (5, [.ref au, .int lu_5])), (au, .inl (cI, cap, .inl fu_5))] H := hPn
            have hD : va_D A [(nu, .inr (5, [.ref au, .int lu_5])), (au, .inl (cI, cap, .inl fu_5))] := hDn
            have hS := hSn
            clear hPn hDn hSn
            refine lv_if_eq (tgt := 113) hx hb dX2_encodeNumber_106 (by decide) (fun c_6 => ?_) (fun c_6 => ?_)
            · have tc_6 : r_5.toInt = 0 := v_eq c_6
              refine lv_iconst (v := 0) hx hb dX2_encodeNumber_113 (by decide) ?_
              have hP9 := hP.sub (ws' := [(nu, .inr (5, [.ref au, .int lu_5])), (au, .inl (cI, cap, .inl fu_5))]) [0, 1] rfl
              have hD9 := hD.sub (ws' := [(nu, .inr (5, [.ref au, .int lu_5])), (au, .inl (cI, cap, .inl fu_5))]) [0, 1] (by decide +kernel) rfl
              rw [hQQ]
              exact W.zret (v := 0) (ty := .boolean) hx hb hr (rfl) (fun t ht hW => ⟨⟨0, 0, rfl, rfl, ⟨lu_5, fu_5, by rw [ht]; exact hP9, hD9, hf5_0, by decide⟩⟩, hS.F ht⟩) hS.2.2 dX2_encodeNumber_114
            · have tc_6 : ¬ r_5.toInt = 0 := v_ne c_6
              refine lv_iconst (v := 1) hx hb dX2_encodeNumber_109 (by decide) ?_
              refine lv_goto (tgt := 114) hx hb dX2_encodeNumber_110 (by decide) ?_
              have hP9 := hP.sub (ws' := [(nu, .inr (5, [.ref au, .int lu_5])), (au, .inl (cI, cap, .inl fu_5))]) [0, 1] rfl
              have hD9 := hD.sub (ws' := [(nu, .inr (5, [.ref au, .int lu_5])), (au, .inl (cI, cap, .inl fu_5))]) [0, 1] (by decide +kernel) rfl
              rw [hQQ]
              exact W.zret (v := 1) (ty := .boolean) hx hb hr (rfl) (fun t ht hW => ⟨⟨1, 1, rfl, rfl, ⟨lu_5, fu_5, by rw [ht]; exact hP9, hD9, hf5_0, by decide⟩⟩, hS.F ht⟩) hS.2.2 dX2_encodeNumber_114
        · have tc_3 : 0 < un.toInt := v_nle c_3
          refine lv_iload_n hx hb dX2_encodeNumber_36 rfl (lv_at hl 3 rfl) ?_
          refine lv_iload hx hb dX2_encodeNumber_37 (lv_at hl 0 rfl) ?_
          refine lv_idiv hx hb dX2_encodeNumber_39 (v_nz (by omega)) ?_
          refine lv_topi (fun x_7 ex_7 => ?_)
          refine lv_bipush (v := 10) hx hb dX2_encodeNumber_40 (by decide) ?_
          refine lv_irem hx hb dX2_encodeNumber_42 (by decide) ?_
          refine lv_topi (fun x_8 ex_8 => ?_)
          refine lv_istore (lv' := [(5, .int x_8), (4, .int un), (3, .int bg), (2, .int gd), (0, .int le), (1, .ref nu)]) hx hb dX2_encodeNumber_43 hl (by decide) rfl (fun ls hl => ?_)
          refine lv_iload_n hx hb dX2_encodeNumber_45 rfl (lv_at hl 2 rfl) ?_
          refine lv_if_ne (tgt := 54) hx hb dX2_encodeNumber_46 (by decide) (fun c_9 => ?_) (fun c_9 => ?_)
          · have tc_9 : ¬ bg.toInt = 0 := v_ne c_9
            refine lv_iconst (v := 1) hx hb dX2_encodeNumber_54 (by decide) ?_
            refine lv_goto (tgt := 59) hx hb dX2_encodeNumber_55 (by decide) ?_
            refine lv_istore_n (lv' := [(3, .int 1), (5, .int x_8), (4, .int un), (2, .int gd), (0, .int le), (1, .ref nu)]) hx hb dX2_encodeNumber_59 rfl hl (by decide) rfl (fun ls hl => ?_)
            refine lv_iload_n hx hb dX2_encodeNumber_60 rfl (lv_at hl 0 rfl) ?_
            refine lv_if_eq (tgt := 86) hx hb dX2_encodeNumber_61 (by decide) (fun c_10 => absurd c_10 (by decide)) (fun c_10 => ?_)
            refine lv_iload_n hx hb dX2_encodeNumber_64 rfl (lv_at hl 3 rfl) ?_
            refine lv_if_eq (tgt := 84) hx hb dX2_encodeNumber_65 (by decide) (fun c_11 => ?_) (fun c_11 => ?_)
            · have tc_11 : gd.toInt = 0 := v_eq c_11
              refine lv_iconst (v := 0) hx hb dX2_encodeNumber_84 (by decide) ?_
              refine lv_istore_n (lv' := [(2, .int 0), (3, .int 1), (5, .int x_8), (4, .int un), (0, .int le), (1, .ref nu)]) hx hb dX2_encodeNumber_85 rfl hl (by decide) rfl (fun ls hl => ?_)
              refine lv_iload hx hb dX2_encodeNumber_86 (lv_at hl 3 rfl) ?_
              refine lv_bipush (v := 10) hx hb dX2_encodeNumber_88 (by decide) ?_
              refine lv_idiv hx hb dX2_encodeNumber_90 (by decide) ?_
              refine lv_topi (fun x_12 ex_12 => ?_)
              have tx_12 : x_12.toInt = un.toInt / 10 := v_div ex_12 (by omega) (by decide)
              refine lv_istore (lv' := [(4, .int x_12), (2, .int 0), (3, .int 1), (5, .int x_8), (0, .int le), (1, .ref nu)]) hx hb dX2_encodeNumber_91 hl (by decide) rfl (fun ls hl => ?_)
              refine lv_goto (tgt := 31) hx hb dX2_encodeNumber_93 (by decide) ?_
              exact ih_31 0 1 x_12 l2 f2 _ _ _ (ms_lt hm_31 (by show ((x_12.toInt : Int)) < un.toInt; omega) (by show (0 : Int) < un.toInt; omega)) (by decide) (by decide) (by show 0 ≤ x_12.toInt ∧ x_12.toInt ≤ 10000; omega) (g_l2) hP hD hS (lv_sub hl [0, 2, 1, 4, 5] rfl)
            · have tc_11 : ¬ gd.toInt = 0 := v_ne c_11
              refine lv_aload_n hx hb dX2_encodeNumber_68 rfl (lv_at hl 5 rfl) ?_
              refine lv_bipush (v := 48) hx hb dX2_encodeNumber_69 (by decide) ?_
              refine lv_iload hx hb dX2_encodeNumber_71 (lv_at hl 1 rfl) ?_
              refine lv_iadd hx hb dX2_encodeNumber_73 ?_
              refine lv_topi (fun x_13 ex_13 => ?_)
              have rv13_1 := v_rng x_8
              have hPc := hP.sub (ws' := [(nu, .inr (5, [.ref au, .int l2])), (au, .inl (cI, cap, .inl f2))]) [0, 1] rfl
              have hDc := hD.sub (ws' := [(nu, .inr (5, [.ref au, .int l2])), (au, .inl (cI, cap, .inl f2))]) [0, 1] (by decide +kernel) rfl
              have hFc := va_free (wc := [(nu, .inr (5, [.ref au, .int l2])), (au, .inl (cI, cap, .inl f2))]) hD hS hA [0, 1] rfl
              refine va_calli (va_runV (As := [.int x_13]) (rest := []) ⟨hx, hb, hml, hown, hts⟩ (m_X5_add l dC dI cI cS H.size nu au cap l2 f2 x_13 (g_l2) (by omega)) (cwV 1 hts gX2_encodeNumber_X5_add rfl rfl rfl (by decide +kernel) ⟨Nat.le_of_ble_eq_true rfl, Nat.le_of_ble_eq_true rfl⟩) ⟨fun a U g mk q => by obtain ⟨q0, q1, qP, qK, qD⟩ := q; exact ⟨q0, q1, qP, va_K.moved (u := U) (U := U.calling g mk a) (Vm.Alike.refl U.vm) qK, qD⟩, va_recv hK hPc (ci := 5) (q0 := 0) rfl rfl, fun U hU hW => ⟨rfl, by rw [hU], by rw [hU]; exact hPc, va_K.moved hW.alike hK, hDc.weaken (fun _ _ _ _ => trivial)⟩⟩ rfl rfl hl.1 rfl (lv_room (Nat.le_of_ble_eq_true rfl)) dX2_encodeNumber_74 ⟨Nat.le_of_ble_eq_true rfl, Nat.le_of_ble_eq_true rfl⟩) hS (fun q _ h => hFc q h) hFc (fun r_14 u t H1 locs ht hvm hw hB hz1 hk1 hSn => ?_)
              subst hw
              obtain ⟨lu_14, fu_14, hP1, hD1, hf14_0, hf14_1, hf14_2⟩ := hB
              rw [ht] at hP1
              obtain ⟨hPn, hDn⟩ := va_join (wr := []) (w1 := [(nu, .inr (5, [.ref au, .int lu_14])), (au, .inl (cI, cap, .inl fu_14))]) hP hD [0, 1] [] rfl rfl (by decide +kernel) (by decide +kernel) hk1 hFc hP1 hD1
              clear hP hD hS hPc hDc hFc hk1 hz1 hvm ht hP1 hD1
              generalize H1 = H at hPn hSn ⊢
              have hP : va_P (dC, dI) vwCl [(nu, .inr (5, [.ref au, .int lu_14])), (au, .inl (cI, cap, .inl fu_14))] H := hPn
              have hD : va_D A [(nu, .inr (5, [.ref au, .int lu_14])), (au, .inl (cI, cap, .inl fu_14))] := hDn
              have hS := hSn
              clear hPn hDn hSn
              refine lv_if_eq (tgt := 84) hx hb dX2_encodeNumber_77 (by decide) (fun c_15 => ?_) (fun c_15 => ?_)
              · have tc_15 : r_14.toInt = 0 := v_eq c_15
                refine lv_iconst (v := 0) hx hb dX2_encodeNumber_84 (by decide) ?_
                refine lv_istore_n (lv' := [(2, .int 0), (3, .int 1), (5, .int x_8), (4, .int un), (0, .int le), (1, .ref nu)]) hx hb dX2_encodeNumber_85 rfl hl (by decide) rfl (fun ls hl => ?_)
                refine lv_iload hx hb dX2_encodeNumber_86 (lv_at hl 3 rfl) ?_
                refine lv_bipush (v := 10) hx hb dX2_encodeNumber_88 (by decide) ?_
                refine lv_idiv hx hb dX2_encodeNumber_90 (by decide) ?_
                refine lv_topi (fun x_16 ex_16 => ?_)
                have tx_16 : x_16.toInt = un.toInt / 10 := v_div ex_16 (by omega) (by decide)
                refine lv_istore (lv' := [(4, .int x_16), (2, .int 0), (3, .int 1), (5, .int x_8), (0, .int le), (1, .ref nu)]) hx hb dX2_encodeNumber_91 hl (by decide) rfl (fun ls hl => ?_)
                refine lv_goto (tgt := 31) hx hb dX2_encodeNumber_93 (by decide) ?_
                exact ih_31 0 1 x_16 lu_14 fu_14 _ _ _ (ms_lt hm_31 (by show ((x_16.toInt : Int)) < un.toInt; omega) (by show (0 : Int) < un.toInt; omega)) (by decide) (by decide) (by show 0 ≤ x_16.toInt ∧ x_16.toInt ≤ 10000; omega) (hf14_0) hP hD hS (lv_sub hl [0, 2, 1, 4, 5] rfl)
              · have tc_15 : ¬ r_14.toInt = 0 := v_ne c_15
                refine lv_iconst (v := 1) hx hb dX2_encodeNumber_80 (by decide) ?_
                refine lv_goto (tgt := 85) hx hb dX2_encodeNumber_81 (by decide) ?_
                refine lv_istore_n (lv' := [(2, .int 1), (3, .int 1), (5, .int x_8), (4, .int un), (0, .int le), (1, .ref nu)]) hx hb dX2_encodeNumber_85 rfl hl (by decide) rfl (fun ls hl => ?_)
                refine lv_iload hx hb dX2_encodeNumber_86 (lv_at hl 3 rfl) ?_
                refine lv_bipush (v := 10) hx hb dX2_encodeNumber_88 (by decide) ?_
                refine lv_idiv hx hb dX2_encodeNumber_90 (by decide) ?_
                refine lv_topi (fun x_17 ex_17 => ?_)
                have tx_17 : x_17.toInt = un.toInt / 10 := v_div ex_17 (by omega) (by decide)
                refine lv_istore (lv' := [(4, .int x_17), (2, .int 1), (3, .int 1), (5, .int x_8), (0, .int le), (1, .ref nu)]) hx hb dX2_encodeNumber_91 hl (by decide) rfl (fun ls hl => ?_)
                refine lv_goto (tgt := 31) hx hb dX2_encodeNumber_93 (by decide) ?_
                exact ih_31 1 1 x_17 lu_14 fu_14 _ _ _ (ms_lt hm_31 (by show ((x_17.toInt : Int)) < un.toInt; omega) (by show (0 : Int) < un.toInt; omega)) (by decide) (by decide) (by show 0 ≤ x_17.toInt ∧ x_17.toInt ≤ 10000; omega) (hf14_0) hP hD hS (lv_sub hl [0, 2, 1, 4, 5] rfl)
          · have tc_9 : bg.toInt = 0 := v_eq c_9
            refine lv_iload hx hb dX2_encodeNumber_49 (lv_at hl 0 rfl) ?_
            refine lv_if_eq (tgt := 58) hx hb dX2_encodeNumber_51 (by decide) (fun c_18 => ?_) (fun c_18 => ?_)
            · have tc_18 : x_8.toInt = 0 := v_eq c_18
              refine lv_iconst (v := 0) hx hb dX2_encodeNumber_58 (by decide) ?_
              refine lv_istore_n (lv' := [(3, .int 0), (5, .int x_8), (4, .int un), (2, .int gd), (0, .int le), (1, .ref nu)]) hx hb dX2_encodeNumber_59 rfl hl (by decide) rfl (fun ls hl => ?_)
              refine lv_iload_n hx hb dX2_encodeNumber_60 rfl (lv_at hl 0 rfl) ?_
              refine lv_if_eq (tgt := 86) hx hb dX2_encodeNumber_61 (by decide) (fun c_19 => ?_) (fun c_19 => absurd c_19 (by decide))
              refine lv_iload hx hb dX2_encodeNumber_86 (lv_at hl 2 rfl) ?_
              refine lv_bipush (v := 10) hx hb dX2_encodeNumber_88 (by decide) ?_
              refine lv_idiv hx hb dX2_encodeNumber_90 (by decide) ?_
              refine lv_topi (fun x_20 ex_20 => ?_)
              have tx_20 : x_20.toInt = un.toInt / 10 := v_div ex_20 (by omega) (by decide)
              refine lv_istore (lv' := [(4, .int x_20), (3, .int 0), (5, .int x_8), (2, .int gd), (0, .int le), (1, .ref nu)]) hx hb dX2_encodeNumber_91 hl (by decide) rfl (fun ls hl => ?_)
              refine lv_goto (tgt := 31) hx hb dX2_encodeNumber_93 (by decide) ?_
              exact ih_31 gd 0 x_20 l2 f2 _ _ _ (ms_lt hm_31 (by show ((x_20.toInt : Int)) < un.toInt; omega) (by show (0 : Int) < un.toInt; omega)) (g_gd) (by decide) (by show 0 ≤ x_20.toInt ∧ x_20.toInt ≤ 10000; omega) (g_l2) hP hD hS (lv_sub hl [0, 1, 3, 4, 5] rfl)
            · have tc_18 : ¬ x_8.toInt = 0 := v_ne c_18
              refine lv_iconst (v := 1) hx hb dX2_encodeNumber_54 (by decide) ?_
              refine lv_goto (tgt := 59) hx hb dX2_encodeNumber_55 (by decide) ?_
              refine lv_istore_n (lv' := [(3, .int 1), (5, .int x_8), (4, .int un), (2, .int gd), (0, .int le), (1, .ref nu)]) hx hb dX2_encodeNumber_59 rfl hl (by decide) rfl (fun ls hl => ?_)
              refine lv_iload_n hx hb dX2_encodeNumber_60 rfl (lv_at hl 0 rfl) ?_
              refine lv_if_eq (tgt := 86) hx hb dX2_encodeNumber_61 (by decide) (fun c_21 => absurd c_21 (by decide)) (fun c_21 => ?_)
              refine lv_iload_n hx hb dX2_encodeNumber_64 rfl (lv_at hl 3 rfl) ?_
              refine lv_if_eq (tgt := 84) hx hb dX2_encodeNumber_65 (by decide) (fun c_22 => ?_) (fun c_22 => ?_)
              · have tc_22 : gd.toInt = 0 := v_eq c_22
                refine lv_iconst (v := 0) hx hb dX2_encodeNumber_84 (by decide) ?_
                refine lv_istore_n (lv' := [(2, .int 0), (3, .int 1), (5, .int x_8), (4, .int un), (0, .int le), (1, .ref nu)]) hx hb dX2_encodeNumber_85 rfl hl (by decide) rfl (fun ls hl => ?_)
                refine lv_iload hx hb dX2_encodeNumber_86 (lv_at hl 3 rfl) ?_
                refine lv_bipush (v := 10) hx hb dX2_encodeNumber_88 (by decide) ?_
                refine lv_idiv hx hb dX2_encodeNumber_90 (by decide) ?_
                refine lv_topi (fun x_23 ex_23 => ?_)
                have tx_23 : x_23.toInt = un.toInt / 10 := v_div ex_23 (by omega) (by decide)
                refine lv_istore (lv' := [(4, .int x_23), (2, .int 0), (3, .int 1), (5, .int x_8), (0, .int le), (1, .ref nu)]) hx hb dX2_encodeNumber_91 hl (by decide) rfl (fun ls hl => ?_)
                refine lv_goto (tgt := 31) hx hb dX2_encodeNumber_93 (by decide) ?_
                exact ih_31 0 1 x_23 l2 f2 _ _ _ (ms_lt hm_31 (by show ((x_23.toInt : Int)) < un.toInt; omega) (by show (0 : Int) < un.toInt; omega)) (by decide) (by decide) (by show 0 ≤ x_23.toInt ∧ x_23.toInt ≤ 10000; omega) (g_l2) hP hD hS (lv_sub hl [0, 2, 1, 4, 5] rfl)
              · have tc_22 : ¬ gd.toInt = 0 := v_ne c_22
                refine lv_aload_n hx hb dX2_encodeNumber_68 rfl (lv_at hl 5 rfl) ?_
                refine lv_bipush (v := 48) hx hb dX2_encodeNumber_69 (by decide) ?_
                refine lv_iload hx hb dX2_encodeNumber_71 (lv_at hl 1 rfl) ?_
                refine lv_iadd hx hb dX2_encodeNumber_73 ?_
                refine lv_topi (fun x_24 ex_24 => ?_)
                have rv24_1 := v_rng x_8
                have hPc := hP.sub (ws' := [(nu, .inr (5, [.ref au, .int l2])), (au, .inl (cI, cap, .inl f2))]) [0, 1] rfl
                have hDc := hD.sub (ws' := [(nu, .inr (5, [.ref au, .int l2])), (au, .inl (cI, cap, .inl f2))]) [0, 1] (by decide +kernel) rfl
                have hFc := va_free (wc := [(nu, .inr (5, [.ref au, .int l2])), (au, .inl (cI, cap, .inl f2))]) hD hS hA [0, 1] rfl
                refine va_calli (va_runV (As := [.int x_24]) (rest := []) ⟨hx, hb, hml, hown, hts⟩ (m_X5_add l dC dI cI cS H.size nu au cap l2 f2 x_24 (g_l2) (by omega)) (cwV 1 hts gX2_encodeNumber_X5_add rfl rfl rfl (by decide +kernel) ⟨Nat.le_of_ble_eq_true rfl, Nat.le_of_ble_eq_true rfl⟩) ⟨fun a U g mk q => by obtain ⟨q0, q1, qP, qK, qD⟩ := q; exact ⟨q0, q1, qP, va_K.moved (u := U) (U := U.calling g mk a) (Vm.Alike.refl U.vm) qK, qD⟩, va_recv hK hPc (ci := 5) (q0 := 0) rfl rfl, fun U hU hW => ⟨rfl, by rw [hU], by rw [hU]; exact hPc, va_K.moved hW.alike hK, hDc.weaken (fun _ _ _ _ => trivial)⟩⟩ rfl rfl hl.1 rfl (lv_room (Nat.le_of_ble_eq_true rfl)) dX2_encodeNumber_74 ⟨Nat.le_of_ble_eq_true rfl, Nat.le_of_ble_eq_true rfl⟩) hS (fun q _ h => hFc q h) hFc (fun r_25 u t H1 locs ht hvm hw hB hz1 hk1 hSn => ?_)
                subst hw
                obtain ⟨lu_25, fu_25, hP1, hD1, hf25_0, hf25_1, hf25_2⟩ := hB
                rw [ht] at hP1
                obtain ⟨hPn, hDn⟩ := va_join (wr := []) (w1 := [(nu, .inr (5, [.ref au, .int lu_25])), (au, .inl (cI, cap, .inl fu_25))]) hP hD [0, 1] [] rfl rfl (by decide +kernel) (by decide +kernel) hk1 hFc hP1 hD1
                clear hP hD hS hPc hDc hFc hk1 hz1 hvm ht hP1 hD1
                generalize H1 = H at hPn hSn ⊢
                have hP : va_P (dC, dI) vwCl [(nu, .inr (5, [.ref au, .int lu_25])), (au, .inl (cI, cap, .inl fu_25))] H := hPn
                have hD : va_D A [(nu, .inr (5, [.ref au, .int lu_25])), (au, .inl (cI, cap, .inl fu_25))] := hDn
                have hS := hSn
                clear hPn hDn hSn
                refine lv_if_eq (tgt := 84) hx hb dX2_encodeNumber_77 (by decide) (fun c_26 => ?_) (fun c_26 => ?_)
                · have tc_26 : r_25.toInt = 0 := v_eq c_26
                  refine lv_iconst (v := 0) hx hb dX2_encodeNumber_84 (by decide) ?_
                  refine lv_istore_n (lv' := [(2, .int 0), (3, .int 1), (5, .int x_8), (4, .int un), (0, .int le), (1, .ref nu)]) hx hb dX2_encodeNumber_85 rfl hl (by decide) rfl (fun ls hl => ?_)
                  refine lv_iload hx hb dX2_encodeNumber_86 (lv_at hl 3 rfl) ?_
                  refine lv_bipush (v := 10) hx hb dX2_encodeNumber_88 (by decide) ?_
                  refine lv_idiv hx hb dX2_encodeNumber_90 (by decide) ?_
                  refine lv_topi (fun x_27 ex_27 => ?_)
                  have tx_27 : x_27.toInt = un.toInt / 10 := v_div ex_27 (by omega) (by decide)
                  refine lv_istore (lv' := [(4, .int x_27), (2, .int 0), (3, .int 1), (5, .int x_8), (0, .int le), (1, .ref nu)]) hx hb dX2_encodeNumber_91 hl (by decide) rfl (fun ls hl => ?_)
                  refine lv_goto (tgt := 31) hx hb dX2_encodeNumber_93 (by decide) ?_
                  exact ih_31 0 1 x_27 lu_25 fu_25 _ _ _ (ms_lt hm_31 (by show ((x_27.toInt : Int)) < un.toInt; omega) (by show (0 : Int) < un.toInt; omega)) (by decide) (by decide) (by show 0 ≤ x_27.toInt ∧ x_27.toInt ≤ 10000; omega) (hf25_0) hP hD hS (lv_sub hl [0, 2, 1, 4, 5] rfl)
                · have tc_26 : ¬ r_25.toInt = 0 := v_ne c_26
                  refine lv_iconst (v := 1) hx hb dX2_encodeNumber_80 (by decide) ?_
                  refine lv_goto (tgt := 85) hx hb dX2_encodeNumber_81 (by decide) ?_
                  refine lv_istore_n (lv' := [(2, .int 1), (3, .int 1), (5, .int x_8), (4, .int un), (0, .int le), (1, .ref nu)]) hx hb dX2_encodeNumber_85 rfl hl (by decide) rfl (fun ls hl => ?_)
                  refine lv_iload hx hb dX2_encodeNumber_86 (lv_at hl 3 rfl) ?_
                  refine lv_bipush (v := 10) hx hb dX2_encodeNumber_88 (by decide) ?_
                  refine lv_idiv hx hb dX2_encodeNumber_90 (by decide) ?_
                  refine lv_topi (fun x_28 ex_28 => ?_)
                  have tx_28 : x_28.toInt = un.toInt / 10 := v_div ex_28 (by omega) (by decide)
                  refine lv_istore (lv' := [(4, .int x_28), (2, .int 1), (3, .int 1), (5, .int x_8), (0, .int le), (1, .ref nu)]) hx hb dX2_encodeNumber_91 hl (by decide) rfl (fun ls hl => ?_)
                  refine lv_goto (tgt := 31) hx hb dX2_encodeNumber_93 (by decide) ?_
                  exact ih_31 1 1 x_28 lu_25 fu_25 _ _ _ (ms_lt hm_31 (by show ((x_28.toInt : Int)) < un.toInt; omega) (by show (0 : Int) < un.toInt; omega)) (by decide) (by decide) (by show 0 ≤ x_28.toInt ∧ x_28.toInt ≤ 10000; omega) (hf25_0) hP hD hS (lv_sub hl [0, 2, 1, 4, 5] rfl)
    exact LOOP_31 _ 0 0 10000 lu_1 fu_1 _ _ _ (ms_s _) (by decide) (by decide) (by decide) (hf1_0) hP hD hS (lv_sub hl [0, 1, 2, 3, 4] rfl)
  · have tc_2 : ¬ r_1.toInt = 0 := v_ne c_2
    refine lv_aload_n hx hb dX2_encodeNumber_9 rfl (lv_at hl 1 rfl) ?_
    refine lv_bipush (v := 35) hx hb dX2_encodeNumber_10 (by decide) ?_
    have hPc := hP.sub (ws' := [(nu, .inr (5, [.ref au, .int lu_1])), (au, .inl (cI, cap, .inl fu_1))]) [0, 1] rfl
    have hDc := hD.sub (ws' := [(nu, .inr (5, [.ref au, .int lu_1])), (au, .inl (cI, cap, .inl fu_1))]) [0, 1] (by decide +kernel) rfl
    have hFc := va_free (wc := [(nu, .inr (5, [.ref au, .int lu_1])), (au, .inl (cI, cap, .inl fu_1))]) hD hS hA [0, 1] rfl
    refine va_calli (va_runV (As := [.int 35]) (rest := []) ⟨hx, hb, hml, hown, hts⟩ (m_X5_add l dC dI cI cS H.size nu au cap lu_1 fu_1 35 (hf1_0) (by omega)) (cwV 1 hts gX2_encodeNumber_X5_add rfl rfl rfl (by decide +kernel) ⟨Nat.le_of_ble_eq_true rfl, Nat.le_of_ble_eq_true rfl⟩) ⟨fun a U g mk q => by obtain ⟨q0, q1, qP, qK, qD⟩ := q; exact ⟨q0, q1, qP, va_K.moved (u := U) (U := U.calling g mk a) (Vm.Alike.refl U.vm) qK, qD⟩, va_recv hK hPc (ci := 5) (q0 := 0) rfl rfl, fun U hU hW => ⟨rfl, by rw [hU], by rw [hU]; exact hPc, va_K.moved hW.alike hK, hDc.weaken (fun _ _ _ _ => trivial)⟩⟩ rfl rfl hl.1 rfl (lv_room (Nat.le_of_ble_eq_true rfl)) dX2_encodeNumber_12 ⟨Nat.le_of_ble_eq_true rfl, Nat.le_of_ble_eq_true rfl⟩) hS (fun q _ h => hFc q h) hFc (fun r_29 u t H1 locs ht hvm hw hB hz1 hk1 hSn => ?_)
    subst hw
    obtain ⟨lu_29, fu_29, hP1, hD1, hf29_0, hf29_1, hf29_2⟩ := hB
    rw [ht] at hP1
    obtain ⟨hPn, hDn⟩ := va_join (wr := []) (w1 := [(nu, .inr (5, [.ref au, .int lu_29])), (au, .inl (cI, cap, .inl fu_29))]) hP hD [0, 1] [] rfl rfl (by decide +kernel) (by decide +kernel) hk1 hFc hP1 hD1
    clear hP hD hS hPc hDc hFc hk1 hz1 hvm ht hP1 hD1
    generalize H1 = H at hPn hSn ⊢
    have hP : va_P (dC, dI) vwCl [(nu, .inr (5, [.ref au, .int lu_29])), (au, .inl (cI, cap, .inl fu_29))] H := hPn
    have hD : va_D A [(nu, .inr (5, [.ref au, .int lu_29])), (au, .inl (cI, cap, .inl fu_29))] := hDn
    have hS := hSn
    clear hPn hDn hSn
    refine lv_if_eq (tgt := 22) hx hb dX2_encodeNumber_15 (by decide) (fun c_30 => ?_) (fun c_30 => ?_)
    · have tc_30 : r_29.toInt = 0 := v_eq c_30
      refine lv_iconst (v := 0) hx hb dX2_encodeNumber_22 (by decide) ?_
      refine lv_istore_n (lv' := [(2, .int 0), (0, .int le), (1, .ref nu)]) hx hb dX2_encodeNumber_23 rfl hl (by decide) rfl (fun ls hl => ?_)
      refine lv_iconst (v := 0) hx hb dX2_encodeNumber_24 (by decide) ?_
      refine lv_istore_n (lv' := [(3, .int 0), (2, .int 0), (0, .int le), (1, .ref nu)]) hx hb dX2_encodeNumber_25 rfl hl (by decide) rfl (fun ls hl => ?_)
      refine lv_sipush (v := 10000) hx hb dX2_encodeNumber_26 (by decide) ?_
      refine lv_istore (lv' := [(4, .int 10000), (3, .int 0), (2, .int 0), (0, .int le), (1, .ref nu)]) hx hb dX2_encodeNumber_29 hl (by decide) rfl (fun ls hl => ?_)
      have LOOP_31 : ∀ (k_31 : Nat) (gd : Int32) (bg : Int32) (un : Int32) (l2 : Int32) (f2 : Nat → Int32) (H : Heap) (locs : List Loc) (ls : Array Slot), MSd (un.toInt : Int) k_31 → (0 ≤ gd.toInt ∧ gd.toInt ≤ 1) → (0 ≤ bg.toInt ∧ bg.toInt ≤ 1) → (0 ≤ un.toInt ∧ un.toInt ≤ 10000) → (0 ≤ l2.toInt ∧ l2.toInt ≤ (cap : Int)) → va_P (dC, dI) vwCl [(nu, .inr (5, [.ref au, .int l2])), (au, .inl (cI, cap, .inl f2))] H → va_D A [(nu, .inr (5, [.ref au, .int l2])), (au, .inl (cI, cap, .inl f2))] → va_S A s.heap H locs → lv_has ls 6 [(4, .int un), (3, .int bg), (2, .int gd), (0, .int le), (1, .ref nu)] → W p l e (headSpec wsX2_encodeNumber ({ frames := 1, cells := 0, slots := 0, locals := 21 } : Room)).room s m ([.int le, .ref nu] : List Value).toArray below meth c H locs 0 0 (MQ below QQ ([.int le, .ref nu] : List Value).toArray s 0 0 A) (F0 m 31 ls []) := by
        clear hP hD hS hl
        intro k_31
        induction k_31 with
        | zero =>
          intro gd bg un l2 f2 H locs ls hm_31 g_gd g_bg g_un g_l2 hP hD hS hl
          exact ms_0 hm_31
        | succ k_31 ih_31 =>
          intro gd bg un l2 f2 H locs ls hm_31 g_gd g_bg g_un g_l2 hP hD hS hl
          refine lv_iload hx hb dX2_encodeNumber_31 (lv_at hl 0 rfl) ?_
          refine lv_if_le (tgt := 96) hx hb dX2_encodeNumber_33 (by decide) (fun c_31 => ?_) (fun c_31 => ?_)
          · have tc_31 : un.toInt ≤ 0 := v_le c_31
            refine lv_iload_n hx hb dX2_encodeNumber_96 rfl (lv_at hl 2 rfl) ?_
            refine lv_if_eq (tgt := 113) hx hb dX2_encodeNumber_97 (by decide) (fun c_32 => ?_) (fun c_32 => ?_)
            · have tc_32 : gd.toInt = 0 := v_eq c_32
              refine lv_iconst (v := 0) hx hb dX2_encodeNumber_113 (by decide) ?_
              have hP9 := hP.sub (ws' := [(nu, .inr (5, [.ref au, .int l2])), (au, .inl (cI, cap, .inl f2))]) [0, 1] rfl
              have hD9 := hD.sub (ws' := [(nu, .inr (5, [.ref au, .int l2])), (au, .inl (cI, cap, .inl f2))]) [0, 1] (by decide +kernel) rfl
              rw [hQQ]
              exact W.zret (v := 0) (ty := .boolean) hx hb hr (rfl) (fun t ht hW => ⟨⟨0, 0, rfl, rfl, ⟨l2, f2, by rw [ht]; exact hP9, hD9, g_l2, by decide⟩⟩, hS.F ht⟩) hS.2.2 dX2_encodeNumber_114
            · have tc_32 : ¬ gd.toInt = 0 := v_ne c_32
              refine lv_aload_n hx hb dX2_encodeNumber_100 rfl (lv_at hl 4 rfl) ?_
              refine lv_bipush (v := 59) hx hb dX2_encodeNumber_101 (by decide) ?_
              have hPc := hP.sub (ws' := [(nu, .inr (5, [.ref au, .int l2])), (au, .inl (cI, cap, .inl f2))]) [0, 1] rfl
              have hDc := hD.sub (ws' := [(nu, .inr (5, [.ref au, .int l2])), (au, .inl (cI, cap, .inl f2))]) [0, 1] (by decide +kernel) rfl
              have hFc := va_free (wc := [(nu, .inr (5, [.ref au, .int l2])), (au, .inl (cI, cap, .inl f2))]) hD hS hA [0, 1] rfl
              refine va_calli (va_runV (As := [.int 59]) (rest := []) ⟨hx, hb, hml, hown, hts⟩ (m_X5_add l dC dI cI cS H.size nu au cap l2 f2 59 (g_l2) (by omega)) (cwV 1 hts gX2_encodeNumber_X5_add rfl rfl rfl (by decide +kernel) ⟨Nat.le_of_ble_eq_true rfl, Nat.le_of_ble_eq_true rfl⟩) ⟨fun a U g mk q => by obtain ⟨q0, q1, qP, qK, qD⟩ := q; exact ⟨q0, q1, qP, va_K.moved (u := U) (U := U.calling g mk a) (Vm.Alike.refl U.vm) qK, qD⟩, va_recv hK hPc (ci := 5) (q0 := 0) rfl rfl, fun U hU hW => ⟨rfl, by rw [hU], by rw [hU]; exact hPc, va_K.moved hW.alike hK, hDc.weaken (fun _ _ _ _ => trivial)⟩⟩ rfl rfl hl.1 rfl (lv_room (Nat.le_of_ble_eq_true rfl)) dX2_encodeNumber_103 ⟨Nat.le_of_ble_eq_true rfl, Nat.le_of_ble_eq_true rfl⟩) hS (fun q _ h => hFc q h) hFc (fun r_33 u t H1 locs ht hvm hw hB hz1 hk1 hSn => ?_)
              subst hw
              obtain ⟨lu_33, fu_33, hP1, hD1, hf33_0, hf33_1, hf33_2⟩ := hB
              rw [ht] at hP1
              obtain ⟨hPn, hDn⟩ := va_join (wr := []) (w1 := [(nu, .inr (5, [.ref au, .int lu_33])), (au, .inl (cI, cap, .inl fu_33))]) hP hD [0, 1] [] rfl rfl (by decide +kernel) (by decide +kernel) hk1 hFc hP1 hD1
              clear hP hD hS hPc hDc hFc hk1 hz1 hvm ht hP1 hD1
              generalize H1 = H at hPn hSn ⊢
              have hP : va_P (dC, dI) vwCl [(nu, .inr (5, [.ref au, .int lu_33])), (au, .inl (cI, cap, .inl fu_33))] H := hPn
              have hD : va_D A [(nu, .inr (5, [.ref au, .int lu_33])), (au, .inl (cI, cap, .inl fu_33))] := hDn
              have hS := hSn
              clear hPn hDn hSn
              refine lv_if_eq (tgt := 113) hx hb dX2_encodeNumber_106 (by decide) (fun c_34 => ?_) (fun c_34 => ?_)
              · have tc_34 : r_33.toInt = 0 := v_eq c_34
                refine lv_iconst (v := 0) hx hb dX2_encodeNumber_113 (by decide) ?_
                have hP9 := hP.sub (ws' := [(nu, .inr (5, [.ref au, .int lu_33])), (au, .inl (cI, cap, .inl fu_33))]) [0, 1] rfl
                have hD9 := hD.sub (ws' := [(nu, .inr (5, [.ref au, .int lu_33])), (au, .inl (cI, cap, .inl fu_33))]) [0, 1] (by decide +kernel) rfl
                rw [hQQ]
                exact W.zret (v := 0) (ty := .boolean) hx hb hr (rfl) (fun t ht hW => ⟨⟨0, 0, rfl, rfl, ⟨lu_33, fu_33, by rw [ht]; exact hP9, hD9, hf33_0, by decide⟩⟩, hS.F ht⟩) hS.2.2 dX2_encodeNumber_114
              · have tc_34 : ¬ r_33.toInt = 0 := v_ne c_34
                refine lv_iconst (v := 1) hx hb dX2_encodeNumber_109 (by decide) ?_
                refine lv_goto (tgt := 114) hx hb dX2_encodeNumber_110 (by decide) ?_
                have hP9 := hP.sub (ws' := [(nu, .inr (5, [.ref au, .int lu_33])), (au, .inl (cI, cap, .inl fu_33))]) [0, 1] rfl
                have hD9 := hD.sub (ws' := [(nu, .inr (5, [.ref au, .int lu_33])), (au, .inl (cI, cap, .inl fu_33))]) [0, 1] (by decide +kernel) rfl
                rw [hQQ]
                exact W.zret (v := 1) (ty := .boolean) hx hb hr (rfl) (fun t ht hW => ⟨⟨1, 1, rfl, rfl, ⟨lu_33, fu_33, by rw [ht]; exact hP9, hD9, hf33_0, by decide⟩⟩, hS.F ht⟩) hS.2.2 dX2_encodeNumber_114
          · have tc_31 : 0 < un.toInt := v_nle c_31
            refine lv_iload_n hx hb dX2_encodeNumber_36 rfl (lv_at hl 3 rfl) ?_
            refine lv_iload hx hb dX2_encodeNumber_37 (lv_at hl 0 rfl) ?_
            refine lv_idiv hx hb dX2_encodeNumber_39 (v_nz (by omega)) ?_
            refine lv_topi (fun x_35 ex_35 => ?_)
            refine lv_bipush (v := 10) hx hb dX2_encodeNumber_40 (by decide) ?_
            refine lv_irem hx hb dX2_encodeNumber_42 (by decide) ?_
            refine lv_topi (fun x_36 ex_36 => ?_)
            refine lv_istore (lv' := [(5, .int x_36), (4, .int un), (3, .int bg), (2, .int gd), (0, .int le), (1, .ref nu)]) hx hb dX2_encodeNumber_43 hl (by decide) rfl (fun ls hl => ?_)
            refine lv_iload_n hx hb dX2_encodeNumber_45 rfl (lv_at hl 2 rfl) ?_
            refine lv_if_ne (tgt := 54) hx hb dX2_encodeNumber_46 (by decide) (fun c_37 => ?_) (fun c_37 => ?_)
            · have tc_37 : ¬ bg.toInt = 0 := v_ne c_37
              refine lv_iconst (v := 1) hx hb dX2_encodeNumber_54 (by decide) ?_
              refine lv_goto (tgt := 59) hx hb dX2_encodeNumber_55 (by decide) ?_
              refine lv_istore_n (lv' := [(3, .int 1), (5, .int x_36), (4, .int un), (2, .int gd), (0, .int le), (1, .ref nu)]) hx hb dX2_encodeNumber_59 rfl hl (by decide) rfl (fun ls hl => ?_)
              refine lv_iload_n hx hb dX2_encodeNumber_60 rfl (lv_at hl 0 rfl) ?_
              refine lv_if_eq (tgt := 86) hx hb dX2_encodeNumber_61 (by decide) (fun c_38 => absurd c_38 (by decide)) (fun c_38 => ?_)
              refine lv_iload_n hx hb dX2_encodeNumber_64 rfl (lv_at hl 3 rfl) ?_
              refine lv_if_eq (tgt := 84) hx hb dX2_encodeNumber_65 (by decide) (fun c_39 => ?_) (fun c_39 => ?_)
              · have tc_39 : gd.toInt = 0 := v_eq c_39
                refine lv_iconst (v := 0) hx hb dX2_encodeNumber_84 (by decide) ?_
                refine lv_istore_n (lv' := [(2, .int 0), (3, .int 1), (5, .int x_36), (4, .int un), (0, .int le), (1, .ref nu)]) hx hb dX2_encodeNumber_85 rfl hl (by decide) rfl (fun ls hl => ?_)
                refine lv_iload hx hb dX2_encodeNumber_86 (lv_at hl 3 rfl) ?_
                refine lv_bipush (v := 10) hx hb dX2_encodeNumber_88 (by decide) ?_
                refine lv_idiv hx hb dX2_encodeNumber_90 (by decide) ?_
                refine lv_topi (fun x_40 ex_40 => ?_)
                have tx_40 : x_40.toInt = un.toInt / 10 := v_div ex_40 (by omega) (by decide)
                refine lv_istore (lv' := [(4, .int x_40), (2, .int 0), (3, .int 1), (5, .int x_36), (0, .int le), (1, .ref nu)]) hx hb dX2_encodeNumber_91 hl (by decide) rfl (fun ls hl => ?_)
                refine lv_goto (tgt := 31) hx hb dX2_encodeNumber_93 (by decide) ?_
                exact ih_31 0 1 x_40 l2 f2 _ _ _ (ms_lt hm_31 (by show ((x_40.toInt : Int)) < un.toInt; omega) (by show (0 : Int) < un.toInt; omega)) (by decide) (by decide) (by show 0 ≤ x_40.toInt ∧ x_40.toInt ≤ 10000; omega) (g_l2) hP hD hS (lv_sub hl [0, 2, 1, 4, 5] rfl)
              · have tc_39 : ¬ gd.toInt = 0 := v_ne c_39
                refine lv_aload_n hx hb dX2_encodeNumber_68 rfl (lv_at hl 5 rfl) ?_
                refine lv_bipush (v := 48) hx hb dX2_encodeNumber_69 (by decide) ?_
                refine lv_iload hx hb dX2_encodeNumber_71 (lv_at hl 1 rfl) ?_
                refine lv_iadd hx hb dX2_encodeNumber_73 ?_
                refine lv_topi (fun x_41 ex_41 => ?_)
                have rv41_1 := v_rng x_36
                have hPc := hP.sub (ws' := [(nu, .inr (5, [.ref au, .int l2])), (au, .inl (cI, cap, .inl f2))]) [0, 1] rfl
                have hDc := hD.sub (ws' := [(nu, .inr (5, [.ref au, .int l2])), (au, .inl (cI, cap, .inl f2))]) [0, 1] (by decide +kernel) rfl
                have hFc := va_free (wc := [(nu, .inr (5, [.ref au, .int l2])), (au, .inl (cI, cap, .inl f2))]) hD hS hA [0, 1] rfl
                refine va_calli (va_runV (As := [.int x_41]) (rest := []) ⟨hx, hb, hml, hown, hts⟩ (m_X5_add l dC dI cI cS H.size nu au cap l2 f2 x_41 (g_l2) (by omega)) (cwV 1 hts gX2_encodeNumber_X5_add rfl rfl rfl (by decide +kernel) ⟨Nat.le_of_ble_eq_true rfl, Nat.le_of_ble_eq_true rfl⟩) ⟨fun a U g mk q => by obtain ⟨q0, q1, qP, qK, qD⟩ := q; exact ⟨q0, q1, qP, va_K.moved (u := U) (U := U.calling g mk a) (Vm.Alike.refl U.vm) qK, qD⟩, va_recv hK hPc (ci := 5) (q0 := 0) rfl rfl, fun U hU hW => ⟨rfl, by rw [hU], by rw [hU]; exact hPc, va_K.moved hW.alike hK, hDc.weaken (fun _ _ _ _ => trivial)⟩⟩ rfl rfl hl.1 rfl (lv_room (Nat.le_of_ble_eq_true rfl)) dX2_encodeNumber_74 ⟨Nat.le_of_ble_eq_true rfl, Nat.le_of_ble_eq_true rfl⟩) hS (fun q _ h => hFc q h) hFc (fun r_42 u t H1 locs ht hvm hw hB hz1 hk1 hSn => ?_)
                subst hw
                obtain ⟨lu_42, fu_42, hP1, hD1, hf42_0, hf42_1, hf42_2⟩ := hB
                rw [ht] at hP1
                obtain ⟨hPn, hDn⟩ := va_join (wr := []) (w1 := [(nu, .inr (5, [.ref au, .int lu_42])), (au, .inl (cI, cap, .inl fu_42))]) hP hD [0, 1] [] rfl rfl (by decide +kernel) (by decide +kernel) hk1 hFc hP1 hD1
                clear hP hD hS hPc hDc hFc hk1 hz1 hvm ht hP1 hD1
                generalize H1 = H at hPn hSn ⊢
                have hP : va_P (dC, dI) vwCl [(nu, .inr (5, [.ref au, .int lu_42])), (au, .inl (cI, cap, .inl fu_42))] H := hPn
                have hD : va_D A [(nu, .inr (5, [.ref au, .int lu_42])), (au, .inl (cI, cap, .inl fu_42))] := hDn
                have hS := hSn
                clear hPn hDn hSn
                refine lv_if_eq (tgt := 84) hx hb dX2_encodeNumber_77 (by decide) (fun c_43 => ?_) (fun c_43 => ?_)
                · have tc_43 : r_42.toInt = 0 := v_eq c_43
                  refine lv_iconst (v := 0) hx hb dX2_encodeNumber_84 (by decide) ?_
                  refine lv_istore_n (lv' := [(2, .int 0), (3, .int 1), (5, .int x_36), (4, .int un), (0, .int le), (1, .ref nu)]) hx hb dX2_encodeNumber_85 rfl hl (by decide) rfl (fun ls hl => ?_)
                  refine lv_iload hx hb dX2_encodeNumber_86 (lv_at hl 3 rfl) ?_
                  refine lv_bipush (v := 10) hx hb dX2_encodeNumber_88 (by decide) ?_
                  refine lv_idiv hx hb dX2_encodeNumber_90 (by decide) ?_
                  refine lv_topi (fun x_44 ex_44 => ?_)
                  have tx_44 : x_44.toInt = un.toInt / 10 := v_div ex_44 (by omega) (by decide)
                  refine lv_istore (lv' := [(4, .int x_44), (2, .int 0), (3, .int 1), (5, .int x_36), (0, .int le), (1, .ref nu)]) hx hb dX2_encodeNumber_91 hl (by decide) rfl (fun ls hl => ?_)
                  refine lv_goto (tgt := 31) hx hb dX2_encodeNumber_93 (by decide) ?_
                  exact ih_31 0 1 x_44 lu_42 fu_42 _ _ _ (ms_lt hm_31 (by show ((x_44.toInt : Int)) < un.toInt; omega) (by show (0 : Int) < un.toInt; omega)) (by decide) (by decide) (by show 0 ≤ x_44.toInt ∧ x_44.toInt ≤ 10000; omega) (hf42_0) hP hD hS (lv_sub hl [0, 2, 1, 4, 5] rfl)
                · have tc_43 : ¬ r_42.toInt = 0 := v_ne c_43
                  refine lv_iconst (v := 1) hx hb dX2_encodeNumber_80 (by decide) ?_
                  refine lv_goto (tgt := 85) hx hb dX2_encodeNumber_81 (by decide) ?_
                  refine lv_istore_n (lv' := [(2, .int 1), (3, .int 1), (5, .int x_36), (4, .int un), (0, .int le), (1, .ref nu)]) hx hb dX2_encodeNumber_85 rfl hl (by decide) rfl (fun ls hl => ?_)
                  refine lv_iload hx hb dX2_encodeNumber_86 (lv_at hl 3 rfl) ?_
                  refine lv_bipush (v := 10) hx hb dX2_encodeNumber_88 (by decide) ?_
                  refine lv_idiv hx hb dX2_encodeNumber_90 (by decide) ?_
                  refine lv_topi (fun x_45 ex_45 => ?_)
                  have tx_45 : x_45.toInt = un.toInt / 10 := v_div ex_45 (by omega) (by decide)
                  refine lv_istore (lv' := [(4, .int x_45), (2, .int 1), (3, .int 1), (5, .int x_36), (0, .int le), (1, .ref nu)]) hx hb dX2_encodeNumber_91 hl (by decide) rfl (fun ls hl => ?_)
                  refine lv_goto (tgt := 31) hx hb dX2_encodeNumber_93 (by decide) ?_
                  exact ih_31 1 1 x_45 lu_42 fu_42 _ _ _ (ms_lt hm_31 (by show ((x_45.toInt : Int)) < un.toInt; omega) (by show (0 : Int) < un.toInt; omega)) (by decide) (by decide) (by show 0 ≤ x_45.toInt ∧ x_45.toInt ≤ 10000; omega) (hf42_0) hP hD hS (lv_sub hl [0, 2, 1, 4, 5] rfl)
            · have tc_37 : bg.toInt = 0 := v_eq c_37
              refine lv_iload hx hb dX2_encodeNumber_49 (lv_at hl 0 rfl) ?_
              refine lv_if_eq (tgt := 58) hx hb dX2_encodeNumber_51 (by decide) (fun c_46 => ?_) (fun c_46 => ?_)
              · have tc_46 : x_36.toInt = 0 := v_eq c_46
                refine lv_iconst (v := 0) hx hb dX2_encodeNumber_58 (by decide) ?_
                refine lv_istore_n (lv' := [(3, .int 0), (5, .int x_36), (4, .int un), (2, .int gd), (0, .int le), (1, .ref nu)]) hx hb dX2_encodeNumber_59 rfl hl (by decide) rfl (fun ls hl => ?_)
                refine lv_iload_n hx hb dX2_encodeNumber_60 rfl (lv_at hl 0 rfl) ?_
                refine lv_if_eq (tgt := 86) hx hb dX2_encodeNumber_61 (by decide) (fun c_47 => ?_) (fun c_47 => absurd c_47 (by decide))
                refine lv_iload hx hb dX2_encodeNumber_86 (lv_at hl 2 rfl) ?_
                refine lv_bipush (v := 10) hx hb dX2_encodeNumber_88 (by decide) ?_
                refine lv_idiv hx hb dX2_encodeNumber_90 (by decide) ?_
                refine lv_topi (fun x_48 ex_48 => ?_)
                have tx_48 : x_48.toInt = un.toInt / 10 := v_div ex_48 (by omega) (by decide)
                refine lv_istore (lv' := [(4, .int x_48), (3, .int 0), (5, .int x_36), (2, .int gd), (0, .int le), (1, .ref nu)]) hx hb dX2_encodeNumber_91 hl (by decide) rfl (fun ls hl => ?_)
                refine lv_goto (tgt := 31) hx hb dX2_encodeNumber_93 (by decide) ?_
                exact ih_31 gd 0 x_48 l2 f2 _ _ _ (ms_lt hm_31 (by show ((x_48.toInt : Int)) < un.toInt; omega) (by show (0 : Int) < un.toInt; omega)) (g_gd) (by decide) (by show 0 ≤ x_48.toInt ∧ x_48.toInt ≤ 10000; omega) (g_l2) hP hD hS (lv_sub hl [0, 1, 3, 4, 5] rfl)
              · have tc_46 : ¬ x_36.toInt = 0 := v_ne c_46
                refine lv_iconst (v := 1) hx hb dX2_encodeNumber_54 (by decide) ?_
                refine lv_goto (tgt := 59) hx hb dX2_encodeNumber_55 (by decide) ?_
                refine lv_istore_n (lv' := [(3, .int 1), (5, .int x_36), (4, .int un), (2, .int gd), (0, .int le), (1, .ref nu)]) hx hb dX2_encodeNumber_59 rfl hl (by decide) rfl (fun ls hl => ?_)
                refine lv_iload_n hx hb dX2_encodeNumber_60 rfl (lv_at hl 0 rfl) ?_
                refine lv_if_eq (tgt := 86) hx hb dX2_encodeNumber_61 (by decide) (fun c_49 => absurd c_49 (by decide)) (fun c_49 => ?_)
                refine lv_iload_n hx hb dX2_encodeNumber_64 rfl (lv_at hl 3 rfl) ?_
                refine lv_if_eq (tgt := 84) hx hb dX2_encodeNumber_65 (by decide) (fun c_50 => ?_) (fun c_50 => ?_)
                · have tc_50 : gd.toInt = 0 := v_eq c_50
                  refine lv_iconst (v := 0) hx hb dX2_encodeNumber_84 (by decide) ?_
                  refine lv_istore_n (lv' := [(2, .int 0), (3, .int 1), (5, .int x_36), (4, .int un), (0, .int le), (1, .ref nu)]) hx hb dX2_encodeNumber_85 rfl hl (by decide) rfl (fun ls hl => ?_)
                  refine lv_iload hx hb dX2_encodeNumber_86 (lv_at hl 3 rfl) ?_
                  refine lv_bipush (v := 10) hx hb dX2_encodeNumber_88 (by decide) ?_
                  refine lv_idiv hx hb dX2_encodeNumber_90 (by decide) ?_
                  refine lv_topi (fun x_51 ex_51 => ?_)
                  have tx_51 : x_51.toInt = un.toInt / 10 := v_div ex_51 (by omega) (by decide)
                  refine lv_istore (lv' := [(4, .int x_51), (2, .int 0), (3, .int 1), (5, .int x_36), (0, .int le), (1, .ref nu)]) hx hb dX2_encodeNumber_91 hl (by decide) rfl (fun ls hl => ?_)
                  refine lv_goto (tgt := 31) hx hb dX2_encodeNumber_93 (by decide) ?_
                  exact ih_31 0 1 x_51 l2 f2 _ _ _ (ms_lt hm_31 (by show ((x_51.toInt : Int)) < un.toInt; omega) (by show (0 : Int) < un.toInt; omega)) (by decide) (by decide) (by show 0 ≤ x_51.toInt ∧ x_51.toInt ≤ 10000; omega) (g_l2) hP hD hS (lv_sub hl [0, 2, 1, 4, 5] rfl)
                · have tc_50 : ¬ gd.toInt = 0 := v_ne c_50
                  refine lv_aload_n hx hb dX2_encodeNumber_68 rfl (lv_at hl 5 rfl) ?_
                  refine lv_bipush (v := 48) hx hb dX2_encodeNumber_69 (by decide) ?_
                  refine lv_iload hx hb dX2_encodeNumber_71 (lv_at hl 1 rfl) ?_
                  refine lv_iadd hx hb dX2_encodeNumber_73 ?_
                  refine lv_topi (fun x_52 ex_52 => ?_)
                  have rv52_1 := v_rng x_36
                  have hPc := hP.sub (ws' := [(nu, .inr (5, [.ref au, .int l2])), (au, .inl (cI, cap, .inl f2))]) [0, 1] rfl
                  have hDc := hD.sub (ws' := [(nu, .inr (5, [.ref au, .int l2])), (au, .inl (cI, cap, .inl f2))]) [0, 1] (by decide +kernel) rfl
                  have hFc := va_free (wc := [(nu, .inr (5, [.ref au, .int l2])), (au, .inl (cI, cap, .inl f2))]) hD hS hA [0, 1] rfl
                  refine va_calli (va_runV (As := [.int x_52]) (rest := []) ⟨hx, hb, hml, hown, hts⟩ (m_X5_add l dC dI cI cS H.size nu au cap l2 f2 x_52 (g_l2) (by omega)) (cwV 1 hts gX2_encodeNumber_X5_add rfl rfl rfl (by decide +kernel) ⟨Nat.le_of_ble_eq_true rfl, Nat.le_of_ble_eq_true rfl⟩) ⟨fun a U g mk q => by obtain ⟨q0, q1, qP, qK, qD⟩ := q; exact ⟨q0, q1, qP, va_K.moved (u := U) (U := U.calling g mk a) (Vm.Alike.refl U.vm) qK, qD⟩, va_recv hK hPc (ci := 5) (q0 := 0) rfl rfl, fun U hU hW => ⟨rfl, by rw [hU], by rw [hU]; exact hPc, va_K.moved hW.alike hK, hDc.weaken (fun _ _ _ _ => trivial)⟩⟩ rfl rfl hl.1 rfl (lv_room (Nat.le_of_ble_eq_true rfl)) dX2_encodeNumber_74 ⟨Nat.le_of_ble_eq_true rfl, Nat.le_of_ble_eq_true rfl⟩) hS (fun q _ h => hFc q h) hFc (fun r_53 u t H1 locs ht hvm hw hB hz1 hk1 hSn => ?_)
                  subst hw
                  obtain ⟨lu_53, fu_53, hP1, hD1, hf53_0, hf53_1, hf53_2⟩ := hB
                  rw [ht] at hP1
                  obtain ⟨hPn, hDn⟩ := va_join (wr := []) (w1 := [(nu, .inr (5, [.ref au, .int lu_53])), (au, .inl (cI, cap, .inl fu_53))]) hP hD [0, 1] [] rfl rfl (by decide +kernel) (by decide +kernel) hk1 hFc hP1 hD1
                  clear hP hD hS hPc hDc hFc hk1 hz1 hvm ht hP1 hD1
                  generalize H1 = H at hPn hSn ⊢
                  have hP : va_P (dC, dI) vwCl [(nu, .inr (5, [.ref au, .int lu_53])), (au, .inl (cI, cap, .inl fu_53))] H := hPn
                  have hD : va_D A [(nu, .inr (5, [.ref au, .int lu_53])), (au, .inl (cI, cap, .inl fu_53))] := hDn
                  have hS := hSn
                  clear hPn hDn hSn
                  refine lv_if_eq (tgt := 84) hx hb dX2_encodeNumber_77 (by decide) (fun c_54 => ?_) (fun c_54 => ?_)
                  · have tc_54 : r_53.toInt = 0 := v_eq c_54
                    refine lv_iconst (v := 0) hx hb dX2_encodeNumber_84 (by decide) ?_
                    refine lv_istore_n (lv' := [(2, .int 0), (3, .int 1), (5, .int x_36), (4, .int un), (0, .int le), (1, .ref nu)]) hx hb dX2_encodeNumber_85 rfl hl (by decide) rfl (fun ls hl => ?_)
                    refine lv_iload hx hb dX2_encodeNumber_86 (lv_at hl 3 rfl) ?_
                    refine lv_bipush (v := 10) hx hb dX2_encodeNumber_88 (by decide) ?_
                    refine lv_idiv hx hb dX2_encodeNumber_90 (by decide) ?_
                    refine lv_topi (fun x_55 ex_55 => ?_)
                    have tx_55 : x_55.toInt = un.toInt / 10 := v_div ex_55 (by omega) (by decide)
                    refine lv_istore (lv' := [(4, .int x_55), (2, .int 0), (3, .int 1), (5, .int x_36), (0, .int le), (1, .ref nu)]) hx hb dX2_encodeNumber_91 hl (by decide) rfl (fun ls hl => ?_)
                    refine lv_goto (tgt := 31) hx hb dX2_encodeNumber_93 (by decide) ?_
                    exact ih_31 0 1 x_55 lu_53 fu_53 _ _ _ (ms_lt hm_31 (by show ((x_55.toInt : Int)) < un.toInt; omega) (by show (0 : Int) < un.toInt; omega)) (by decide) (by decide) (by show 0 ≤ x_55.toInt ∧ x_55.toInt ≤ 10000; omega) (hf53_0) hP hD hS (lv_sub hl [0, 2, 1, 4, 5] rfl)
                  · have tc_54 : ¬ r_53.toInt = 0 := v_ne c_54
                    refine lv_iconst (v := 1) hx hb dX2_encodeNumber_80 (by decide) ?_
                    refine lv_goto (tgt := 85) hx hb dX2_encodeNumber_81 (by decide) ?_
                    refine lv_istore_n (lv' := [(2, .int 1), (3, .int 1), (5, .int x_36), (4, .int un), (0, .int le), (1, .ref nu)]) hx hb dX2_encodeNumber_85 rfl hl (by decide) rfl (fun ls hl => ?_)
                    refine lv_iload hx hb dX2_encodeNumber_86 (lv_at hl 3 rfl) ?_
                    refine lv_bipush (v := 10) hx hb dX2_encodeNumber_88 (by decide) ?_
                    refine lv_idiv hx hb dX2_encodeNumber_90 (by decide) ?_
                    refine lv_topi (fun x_56 ex_56 => ?_)
                    have tx_56 : x_56.toInt = un.toInt / 10 := v_div ex_56 (by omega) (by decide)
                    refine lv_istore (lv' := [(4, .int x_56), (2, .int 1), (3, .int 1), (5, .int x_36), (0, .int le), (1, .ref nu)]) hx hb dX2_encodeNumber_91 hl (by decide) rfl (fun ls hl => ?_)
                    refine lv_goto (tgt := 31) hx hb dX2_encodeNumber_93 (by decide) ?_
                    exact ih_31 1 1 x_56 lu_53 fu_53 _ _ _ (ms_lt hm_31 (by show ((x_56.toInt : Int)) < un.toInt; omega) (by show (0 : Int) < un.toInt; omega)) (by decide) (by decide) (by show 0 ≤ x_56.toInt ∧ x_56.toInt ≤ 10000; omega) (hf53_0) hP hD hS (lv_sub hl [0, 2, 1, 4, 5] rfl)
      exact LOOP_31 _ 0 0 10000 lu_29 fu_29 _ _ _ (ms_s _) (by decide) (by decide) (by decide) (hf29_0) hP hD hS (lv_sub hl [0, 1, 2, 3, 4] rfl)
    · have tc_30 : ¬ r_29.toInt = 0 := v_ne c_30
      refine lv_iconst (v := 1) hx hb dX2_encodeNumber_18 (by decide) ?_
      refine lv_goto (tgt := 23) hx hb dX2_encodeNumber_19 (by decide) ?_
      refine lv_istore_n (lv' := [(2, .int 1), (0, .int le), (1, .ref nu)]) hx hb dX2_encodeNumber_23 rfl hl (by decide) rfl (fun ls hl => ?_)
      refine lv_iconst (v := 0) hx hb dX2_encodeNumber_24 (by decide) ?_
      refine lv_istore_n (lv' := [(3, .int 0), (2, .int 1), (0, .int le), (1, .ref nu)]) hx hb dX2_encodeNumber_25 rfl hl (by decide) rfl (fun ls hl => ?_)
      refine lv_sipush (v := 10000) hx hb dX2_encodeNumber_26 (by decide) ?_
      refine lv_istore (lv' := [(4, .int 10000), (3, .int 0), (2, .int 1), (0, .int le), (1, .ref nu)]) hx hb dX2_encodeNumber_29 hl (by decide) rfl (fun ls hl => ?_)
      have LOOP_31 : ∀ (k_31 : Nat) (gd : Int32) (bg : Int32) (un : Int32) (l2 : Int32) (f2 : Nat → Int32) (H : Heap) (locs : List Loc) (ls : Array Slot), MSd (un.toInt : Int) k_31 → (0 ≤ gd.toInt ∧ gd.toInt ≤ 1) → (0 ≤ bg.toInt ∧ bg.toInt ≤ 1) → (0 ≤ un.toInt ∧ un.toInt ≤ 10000) → (0 ≤ l2.toInt ∧ l2.toInt ≤ (cap : Int)) → va_P (dC, dI) vwCl [(nu, .inr (5, [.ref au, .int l2])), (au, .inl (cI, cap, .inl f2))] H → va_D A [(nu, .inr (5, [.ref au, .int l2])), (au, .inl (cI, cap, .inl f2))] → va_S A s.heap H locs → lv_has ls 6 [(4, .int un), (3, .int bg), (2, .int gd), (0, .int le), (1, .ref nu)] → W p l e (headSpec wsX2_encodeNumber ({ frames := 1, cells := 0, slots := 0, locals := 21 } : Room)).room s m ([.int le, .ref nu] : List Value).toArray below meth c H locs 0 0 (MQ below QQ ([.int le, .ref nu] : List Value).toArray s 0 0 A) (F0 m 31 ls []) := by
        clear hP hD hS hl
        intro k_31
        induction k_31 with
        | zero =>
          intro gd bg un l2 f2 H locs ls hm_31 g_gd g_bg g_un g_l2 hP hD hS hl
          exact ms_0 hm_31
        | succ k_31 ih_31 =>
          intro gd bg un l2 f2 H locs ls hm_31 g_gd g_bg g_un g_l2 hP hD hS hl
          refine lv_iload hx hb dX2_encodeNumber_31 (lv_at hl 0 rfl) ?_
          refine lv_if_le (tgt := 96) hx hb dX2_encodeNumber_33 (by decide) (fun c_57 => ?_) (fun c_57 => ?_)
          · have tc_57 : un.toInt ≤ 0 := v_le c_57
            refine lv_iload_n hx hb dX2_encodeNumber_96 rfl (lv_at hl 2 rfl) ?_
            refine lv_if_eq (tgt := 113) hx hb dX2_encodeNumber_97 (by decide) (fun c_58 => ?_) (fun c_58 => ?_)
            · have tc_58 : gd.toInt = 0 := v_eq c_58
              refine lv_iconst (v := 0) hx hb dX2_encodeNumber_113 (by decide) ?_
              have hP9 := hP.sub (ws' := [(nu, .inr (5, [.ref au, .int l2])), (au, .inl (cI, cap, .inl f2))]) [0, 1] rfl
              have hD9 := hD.sub (ws' := [(nu, .inr (5, [.ref au, .int l2])), (au, .inl (cI, cap, .inl f2))]) [0, 1] (by decide +kernel) rfl
              rw [hQQ]
              exact W.zret (v := 0) (ty := .boolean) hx hb hr (rfl) (fun t ht hW => ⟨⟨0, 0, rfl, rfl, ⟨l2, f2, by rw [ht]; exact hP9, hD9, g_l2, by decide⟩⟩, hS.F ht⟩) hS.2.2 dX2_encodeNumber_114
            · have tc_58 : ¬ gd.toInt = 0 := v_ne c_58
              refine lv_aload_n hx hb dX2_encodeNumber_100 rfl (lv_at hl 4 rfl) ?_
              refine lv_bipush (v := 59) hx hb dX2_encodeNumber_101 (by decide) ?_
              have hPc := hP.sub (ws' := [(nu, .inr (5, [.ref au, .int l2])), (au, .inl (cI, cap, .inl f2))]) [0, 1] rfl
              have hDc := hD.sub (ws' := [(nu, .inr (5, [.ref au, .int l2])), (au, .inl (cI, cap, .inl f2))]) [0, 1] (by decide +kernel) rfl
              have hFc := va_free (wc := [(nu, .inr (5, [.ref au, .int l2])), (au, .inl (cI, cap, .inl f2))]) hD hS hA [0, 1] rfl
              refine va_calli (va_runV (As := [.int 59]) (rest := []) ⟨hx, hb, hml, hown, hts⟩ (m_X5_add l dC dI cI cS H.size nu au cap l2 f2 59 (g_l2) (by omega)) (cwV 1 hts gX2_encodeNumber_X5_add rfl rfl rfl (by decide +kernel) ⟨Nat.le_of_ble_eq_true rfl, Nat.le_of_ble_eq_true rfl⟩) ⟨fun a U g mk q => by obtain ⟨q0, q1, qP, qK, qD⟩ := q; exact ⟨q0, q1, qP, va_K.moved (u := U) (U := U.calling g mk a) (Vm.Alike.refl U.vm) qK, qD⟩, va_recv hK hPc (ci := 5) (q0 := 0) rfl rfl, fun U hU hW => ⟨rfl, by rw [hU], by rw [hU]; exact hPc, va_K.moved hW.alike hK, hDc.weaken (fun _ _ _ _ => trivial)⟩⟩ rfl rfl hl.1 rfl (lv_room (Nat.le_of_ble_eq_true rfl)) dX2_encodeNumber_103 ⟨Nat.le_of_ble_eq_true rfl, Nat.le_of_ble_eq_true rfl⟩) hS (fun q _ h => hFc q h) hFc (fun r_59 u t H1 locs ht hvm hw hB hz1 hk1 hSn => ?_)
              subst hw
              obtain ⟨lu_59, fu_59, hP1, hD1, hf59_0, hf59_1, hf59_2⟩ := hB
              rw [ht] at hP1
              obtain ⟨hPn, hDn⟩ := va_join (wr := []) (w1 := [(nu, .inr (5, [.ref au, .int lu_59])), (au, .inl (cI, cap, .inl fu_59))]) hP hD [0, 1] [] rfl rfl (by decide +kernel) (by decide +kernel) hk1 hFc hP1 hD1
              clear hP hD hS hPc hDc hFc hk1 hz1 hvm ht hP1 hD1
              generalize H1 = H at hPn hSn ⊢
              have hP : va_P (dC, dI) vwCl [(nu, .inr (5, [.ref au, .int lu_59])), (au, .inl (cI, cap, .inl fu_59))] H := hPn
              have hD : va_D A [(nu, .inr (5, [.ref au, .int lu_59])), (au, .inl (cI, cap, .inl fu_59))] := hDn
              have hS := hSn
              clear hPn hDn hSn
              refine lv_if_eq (tgt := 113) hx hb dX2_encodeNumber_106 (by decide) (fun c_60 => ?_) (fun c_60 => ?_)
              · have tc_60 : r_59.toInt = 0 := v_eq c_60
                refine lv_iconst (v := 0) hx hb dX2_encodeNumber_113 (by decide) ?_
                have hP9 := hP.sub (ws' := [(nu, .inr (5, [.ref au, .int lu_59])), (au, .inl (cI, cap, .inl fu_59))]) [0, 1] rfl
                have hD9 := hD.sub (ws' := [(nu, .inr (5, [.ref au, .int lu_59])), (au, .inl (cI, cap, .inl fu_59))]) [0, 1] (by decide +kernel) rfl
                rw [hQQ]
                exact W.zret (v := 0) (ty := .boolean) hx hb hr (rfl) (fun t ht hW => ⟨⟨0, 0, rfl, rfl, ⟨lu_59, fu_59, by rw [ht]; exact hP9, hD9, hf59_0, by decide⟩⟩, hS.F ht⟩) hS.2.2 dX2_encodeNumber_114
              · have tc_60 : ¬ r_59.toInt = 0 := v_ne c_60
                refine lv_iconst (v := 1) hx hb dX2_encodeNumber_109 (by decide) ?_
                refine lv_goto (tgt := 114) hx hb dX2_encodeNumber_110 (by decide) ?_
                have hP9 := hP.sub (ws' := [(nu, .inr (5, [.ref au, .int lu_59])), (au, .inl (cI, cap, .inl fu_59))]) [0, 1] rfl
                have hD9 := hD.sub (ws' := [(nu, .inr (5, [.ref au, .int lu_59])), (au, .inl (cI, cap, .inl fu_59))]) [0, 1] (by decide +kernel) rfl
                rw [hQQ]
                exact W.zret (v := 1) (ty := .boolean) hx hb hr (rfl) (fun t ht hW => ⟨⟨1, 1, rfl, rfl, ⟨lu_59, fu_59, by rw [ht]; exact hP9, hD9, hf59_0, by decide⟩⟩, hS.F ht⟩) hS.2.2 dX2_encodeNumber_114
          · have tc_57 : 0 < un.toInt := v_nle c_57
            refine lv_iload_n hx hb dX2_encodeNumber_36 rfl (lv_at hl 3 rfl) ?_
            refine lv_iload hx hb dX2_encodeNumber_37 (lv_at hl 0 rfl) ?_
            refine lv_idiv hx hb dX2_encodeNumber_39 (v_nz (by omega)) ?_
            refine lv_topi (fun x_61 ex_61 => ?_)
            refine lv_bipush (v := 10) hx hb dX2_encodeNumber_40 (by decide) ?_
            refine lv_irem hx hb dX2_encodeNumber_42 (by decide) ?_
            refine lv_topi (fun x_62 ex_62 => ?_)
            refine lv_istore (lv' := [(5, .int x_62), (4, .int un), (3, .int bg), (2, .int gd), (0, .int le), (1, .ref nu)]) hx hb dX2_encodeNumber_43 hl (by decide) rfl (fun ls hl => ?_)
            refine lv_iload_n hx hb dX2_encodeNumber_45 rfl (lv_at hl 2 rfl) ?_
            refine lv_if_ne (tgt := 54) hx hb dX2_encodeNumber_46 (by decide) (fun c_63 => ?_) (fun c_63 => ?_)
            · have tc_63 : ¬ bg.toInt = 0 := v_ne c_63
              refine lv_iconst (v := 1) hx hb dX2_encodeNumber_54 (by decide) ?_
              refine lv_goto (tgt := 59) hx hb dX2_encodeNumber_55 (by decide) ?_
              refine lv_istore_n (lv' := [(3, .int 1), (5, .int x_62), (4, .int un), (2, .int gd), (0, .int le), (1, .ref nu)]) hx hb dX2_encodeNumber_59 rfl hl (by decide) rfl (fun ls hl => ?_)
              refine lv_iload_n hx hb dX2_encodeNumber_60 rfl (lv_at hl 0 rfl) ?_
              refine lv_if_eq (tgt := 86) hx hb dX2_encodeNumber_61 (by decide) (fun c_64 => absurd c_64 (by decide)) (fun c_64 => ?_)
              refine lv_iload_n hx hb dX2_encodeNumber_64 rfl (lv_at hl 3 rfl) ?_
              refine lv_if_eq (tgt := 84) hx hb dX2_encodeNumber_65 (by decide) (fun c_65 => ?_) (fun c_65 => ?_)
              · have tc_65 : gd.toInt = 0 := v_eq c_65
                refine lv_iconst (v := 0) hx hb dX2_encodeNumber_84 (by decide) ?_
                refine lv_istore_n (lv' := [(2, .int 0), (3, .int 1), (5, .int x_62), (4, .int un), (0, .int le), (1, .ref nu)]) hx hb dX2_encodeNumber_85 rfl hl (by decide) rfl (fun ls hl => ?_)
                refine lv_iload hx hb dX2_encodeNumber_86 (lv_at hl 3 rfl) ?_
                refine lv_bipush (v := 10) hx hb dX2_encodeNumber_88 (by decide) ?_
                refine lv_idiv hx hb dX2_encodeNumber_90 (by decide) ?_
                refine lv_topi (fun x_66 ex_66 => ?_)
                have tx_66 : x_66.toInt = un.toInt / 10 := v_div ex_66 (by omega) (by decide)
                refine lv_istore (lv' := [(4, .int x_66), (2, .int 0), (3, .int 1), (5, .int x_62), (0, .int le), (1, .ref nu)]) hx hb dX2_encodeNumber_91 hl (by decide) rfl (fun ls hl => ?_)
                refine lv_goto (tgt := 31) hx hb dX2_encodeNumber_93 (by decide) ?_
                exact ih_31 0 1 x_66 l2 f2 _ _ _ (ms_lt hm_31 (by show ((x_66.toInt : Int)) < un.toInt; omega) (by show (0 : Int) < un.toInt; omega)) (by decide) (by decide) (by show 0 ≤ x_66.toInt ∧ x_66.toInt ≤ 10000; omega) (g_l2) hP hD hS (lv_sub hl [0, 2, 1, 4, 5] rfl)
              · have tc_65 : ¬ gd.toInt = 0 := v_ne c_65
                refine lv_aload_n hx hb dX2_encodeNumber_68 rfl (lv_at hl 5 rfl) ?_
                refine lv_bipush (v := 48) hx hb dX2_encodeNumber_69 (by decide) ?_
                refine lv_iload hx hb dX2_encodeNumber_71 (lv_at hl 1 rfl) ?_
                refine lv_iadd hx hb dX2_encodeNumber_73 ?_
                refine lv_topi (fun x_67 ex_67 => ?_)
                have rv67_1 := v_rng x_62
                have hPc := hP.sub (ws' := [(nu, .inr (5, [.ref au, .int l2])), (au, .inl (cI, cap, .inl f2))]) [0, 1] rfl
                have hDc := hD.sub (ws' := [(nu, .inr (5, [.ref au, .int l2])), (au, .inl (cI, cap, .inl f2))]) [0, 1] (by decide +kernel) rfl
                have hFc := va_free (wc := [(nu, .inr (5, [.ref au, .int l2])), (au, .inl (cI, cap, .inl f2))]) hD hS hA [0, 1] rfl
                refine va_calli (va_runV (As := [.int x_67]) (rest := []) ⟨hx, hb, hml, hown, hts⟩ (m_X5_add l dC dI cI cS H.size nu au cap l2 f2 x_67 (g_l2) (by omega)) (cwV 1 hts gX2_encodeNumber_X5_add rfl rfl rfl (by decide +kernel) ⟨Nat.le_of_ble_eq_true rfl, Nat.le_of_ble_eq_true rfl⟩) ⟨fun a U g mk q => by obtain ⟨q0, q1, qP, qK, qD⟩ := q; exact ⟨q0, q1, qP, va_K.moved (u := U) (U := U.calling g mk a) (Vm.Alike.refl U.vm) qK, qD⟩, va_recv hK hPc (ci := 5) (q0 := 0) rfl rfl, fun U hU hW => ⟨rfl, by rw [hU], by rw [hU]; exact hPc, va_K.moved hW.alike hK, hDc.weaken (fun _ _ _ _ => trivial)⟩⟩ rfl rfl hl.1 rfl (lv_room (Nat.le_of_ble_eq_true rfl)) dX2_encodeNumber_74 ⟨Nat.le_of_ble_eq_true rfl, Nat.le_of_ble_eq_true rfl⟩) hS (fun q _ h => hFc q h) hFc (fun r_68 u t H1 locs ht hvm hw hB hz1 hk1 hSn => ?_)
                subst hw
                obtain ⟨lu_68, fu_68, hP1, hD1, hf68_0, hf68_1, hf68_2⟩ := hB
                rw [ht] at hP1
                obtain ⟨hPn, hDn⟩ := va_join (wr := []) (w1 := [(nu, .inr (5, [.ref au, .int lu_68])), (au, .inl (cI, cap, .inl fu_68))]) hP hD [0, 1] [] rfl rfl (by decide +kernel) (by decide +kernel) hk1 hFc hP1 hD1
                clear hP hD hS hPc hDc hFc hk1 hz1 hvm ht hP1 hD1
                generalize H1 = H at hPn hSn ⊢
                have hP : va_P (dC, dI) vwCl [(nu, .inr (5, [.ref au, .int lu_68])), (au, .inl (cI, cap, .inl fu_68))] H := hPn
                have hD : va_D A [(nu, .inr (5, [.ref au, .int lu_68])), (au, .inl (cI, cap, .inl fu_68))] := hDn
                have hS := hSn
                clear hPn hDn hSn
                refine lv_if_eq (tgt := 84) hx hb dX2_encodeNumber_77 (by decide) (fun c_69 => ?_) (fun c_69 => ?_)
                · have tc_69 : r_68.toInt = 0 := v_eq c_69
                  refine lv_iconst (v := 0) hx hb dX2_encodeNumber_84 (by decide) ?_
                  refine lv_istore_n (lv' := [(2, .int 0), (3, .int 1), (5, .int x_62), (4, .int un), (0, .int le), (1, .ref nu)]) hx hb dX2_encodeNumber_85 rfl hl (by decide) rfl (fun ls hl => ?_)
                  refine lv_iload hx hb dX2_encodeNumber_86 (lv_at hl 3 rfl) ?_
                  refine lv_bipush (v := 10) hx hb dX2_encodeNumber_88 (by decide) ?_
                  refine lv_idiv hx hb dX2_encodeNumber_90 (by decide) ?_
                  refine lv_topi (fun x_70 ex_70 => ?_)
                  have tx_70 : x_70.toInt = un.toInt / 10 := v_div ex_70 (by omega) (by decide)
                  refine lv_istore (lv' := [(4, .int x_70), (2, .int 0), (3, .int 1), (5, .int x_62), (0, .int le), (1, .ref nu)]) hx hb dX2_encodeNumber_91 hl (by decide) rfl (fun ls hl => ?_)
                  refine lv_goto (tgt := 31) hx hb dX2_encodeNumber_93 (by decide) ?_
                  exact ih_31 0 1 x_70 lu_68 fu_68 _ _ _ (ms_lt hm_31 (by show ((x_70.toInt : Int)) < un.toInt; omega) (by show (0 : Int) < un.toInt; omega)) (by decide) (by decide) (by show 0 ≤ x_70.toInt ∧ x_70.toInt ≤ 10000; omega) (hf68_0) hP hD hS (lv_sub hl [0, 2, 1, 4, 5] rfl)
                · have tc_69 : ¬ r_68.toInt = 0 := v_ne c_69
                  refine lv_iconst (v := 1) hx hb dX2_encodeNumber_80 (by decide) ?_
                  refine lv_goto (tgt := 85) hx hb dX2_encodeNumber_81 (by decide) ?_
                  refine lv_istore_n (lv' := [(2, .int 1), (3, .int 1), (5, .int x_62), (4, .int un), (0, .int le), (1, .ref nu)]) hx hb dX2_encodeNumber_85 rfl hl (by decide) rfl (fun ls hl => ?_)
                  refine lv_iload hx hb dX2_encodeNumber_86 (lv_at hl 3 rfl) ?_
                  refine lv_bipush (v := 10) hx hb dX2_encodeNumber_88 (by decide) ?_
                  refine lv_idiv hx hb dX2_encodeNumber_90 (by decide) ?_
                  refine lv_topi (fun x_71 ex_71 => ?_)
                  have tx_71 : x_71.toInt = un.toInt / 10 := v_div ex_71 (by omega) (by decide)
                  refine lv_istore (lv' := [(4, .int x_71), (2, .int 1), (3, .int 1), (5, .int x_62), (0, .int le), (1, .ref nu)]) hx hb dX2_encodeNumber_91 hl (by decide) rfl (fun ls hl => ?_)
                  refine lv_goto (tgt := 31) hx hb dX2_encodeNumber_93 (by decide) ?_
                  exact ih_31 1 1 x_71 lu_68 fu_68 _ _ _ (ms_lt hm_31 (by show ((x_71.toInt : Int)) < un.toInt; omega) (by show (0 : Int) < un.toInt; omega)) (by decide) (by decide) (by show 0 ≤ x_71.toInt ∧ x_71.toInt ≤ 10000; omega) (hf68_0) hP hD hS (lv_sub hl [0, 2, 1, 4, 5] rfl)
            · have tc_63 : bg.toInt = 0 := v_eq c_63
              refine lv_iload hx hb dX2_encodeNumber_49 (lv_at hl 0 rfl) ?_
              refine lv_if_eq (tgt := 58) hx hb dX2_encodeNumber_51 (by decide) (fun c_72 => ?_) (fun c_72 => ?_)
              · have tc_72 : x_62.toInt = 0 := v_eq c_72
                refine lv_iconst (v := 0) hx hb dX2_encodeNumber_58 (by decide) ?_
                refine lv_istore_n (lv' := [(3, .int 0), (5, .int x_62), (4, .int un), (2, .int gd), (0, .int le), (1, .ref nu)]) hx hb dX2_encodeNumber_59 rfl hl (by decide) rfl (fun ls hl => ?_)
                refine lv_iload_n hx hb dX2_encodeNumber_60 rfl (lv_at hl 0 rfl) ?_
                refine lv_if_eq (tgt := 86) hx hb dX2_encodeNumber_61 (by decide) (fun c_73 => ?_) (fun c_73 => absurd c_73 (by decide))
                refine lv_iload hx hb dX2_encodeNumber_86 (lv_at hl 2 rfl) ?_
                refine lv_bipush (v := 10) hx hb dX2_encodeNumber_88 (by decide) ?_
                refine lv_idiv hx hb dX2_encodeNumber_90 (by decide) ?_
                refine lv_topi (fun x_74 ex_74 => ?_)
                have tx_74 : x_74.toInt = un.toInt / 10 := v_div ex_74 (by omega) (by decide)
                refine lv_istore (lv' := [(4, .int x_74), (3, .int 0), (5, .int x_62), (2, .int gd), (0, .int le), (1, .ref nu)]) hx hb dX2_encodeNumber_91 hl (by decide) rfl (fun ls hl => ?_)
                refine lv_goto (tgt := 31) hx hb dX2_encodeNumber_93 (by decide) ?_
                exact ih_31 gd 0 x_74 l2 f2 _ _ _ (ms_lt hm_31 (by show ((x_74.toInt : Int)) < un.toInt; omega) (by show (0 : Int) < un.toInt; omega)) (g_gd) (by decide) (by show 0 ≤ x_74.toInt ∧ x_74.toInt ≤ 10000; omega) (g_l2) hP hD hS (lv_sub hl [0, 1, 3, 4, 5] rfl)
              · have tc_72 : ¬ x_62.toInt = 0 := v_ne c_72
                refine lv_iconst (v := 1) hx hb dX2_encodeNumber_54 (by decide) ?_
                refine lv_goto (tgt := 59) hx hb dX2_encodeNumber_55 (by decide) ?_
                refine lv_istore_n (lv' := [(3, .int 1), (5, .int x_62), (4, .int un), (2, .int gd), (0, .int le), (1, .ref nu)]) hx hb dX2_encodeNumber_59 rfl hl (by decide) rfl (fun ls hl => ?_)
                refine lv_iload_n hx hb dX2_encodeNumber_60 rfl (lv_at hl 0 rfl) ?_
                refine lv_if_eq (tgt := 86) hx hb dX2_encodeNumber_61 (by decide) (fun c_75 => absurd c_75 (by decide)) (fun c_75 => ?_)
                refine lv_iload_n hx hb dX2_encodeNumber_64 rfl (lv_at hl 3 rfl) ?_
                refine lv_if_eq (tgt := 84) hx hb dX2_encodeNumber_65 (by decide) (fun c_76 => ?_) (fun c_76 => ?_)
                · have tc_76 : gd.toInt = 0 := v_eq c_76
                  refine lv_iconst (v := 0) hx hb dX2_encodeNumber_84 (by decide) ?_
                  refine lv_istore_n (lv' := [(2, .int 0), (3, .int 1), (5, .int x_62), (4, .int un), (0, .int le), (1, .ref nu)]) hx hb dX2_encodeNumber_85 rfl hl (by decide) rfl (fun ls hl => ?_)
                  refine lv_iload hx hb dX2_encodeNumber_86 (lv_at hl 3 rfl) ?_
                  refine lv_bipush (v := 10) hx hb dX2_encodeNumber_88 (by decide) ?_
                  refine lv_idiv hx hb dX2_encodeNumber_90 (by decide) ?_
                  refine lv_topi (fun x_77 ex_77 => ?_)
                  have tx_77 : x_77.toInt = un.toInt / 10 := v_div ex_77 (by omega) (by decide)
                  refine lv_istore (lv' := [(4, .int x_77), (2, .int 0), (3, .int 1), (5, .int x_62), (0, .int le), (1, .ref nu)]) hx hb dX2_encodeNumber_91 hl (by decide) rfl (fun ls hl => ?_)
                  refine lv_goto (tgt := 31) hx hb dX2_encodeNumber_93 (by decide) ?_
                  exact ih_31 0 1 x_77 l2 f2 _ _ _ (ms_lt hm_31 (by show ((x_77.toInt : Int)) < un.toInt; omega) (by show (0 : Int) < un.toInt; omega)) (by decide) (by decide) (by show 0 ≤ x_77.toInt ∧ x_77.toInt ≤ 10000; omega) (g_l2) hP hD hS (lv_sub hl [0, 2, 1, 4, 5] rfl)
                · have tc_76 : ¬ gd.toInt = 0 := v_ne c_76
                  refine lv_aload_n hx hb dX2_encodeNumber_68 rfl (lv_at hl 5 rfl) ?_
                  refine lv_bipush (v := 48) hx hb dX2_encodeNumber_69 (by decide) ?_
                  refine lv_iload hx hb dX2_encodeNumber_71 (lv_at hl 1 rfl) ?_
                  refine lv_iadd hx hb dX2_encodeNumber_73 ?_
                  refine lv_topi (fun x_78 ex_78 => ?_)
                  have rv78_1 := v_rng x_62
                  have hPc := hP.sub (ws' := [(nu, .inr (5, [.ref au, .int l2])), (au, .inl (cI, cap, .inl f2))]) [0, 1] rfl
                  have hDc := hD.sub (ws' := [(nu, .inr (5, [.ref au, .int l2])), (au, .inl (cI, cap, .inl f2))]) [0, 1] (by decide +kernel) rfl
                  have hFc := va_free (wc := [(nu, .inr (5, [.ref au, .int l2])), (au, .inl (cI, cap, .inl f2))]) hD hS hA [0, 1] rfl
                  refine va_calli (va_runV (As := [.int x_78]) (rest := []) ⟨hx, hb, hml, hown, hts⟩ (m_X5_add l dC dI cI cS H.size nu au cap l2 f2 x_78 (g_l2) (by omega)) (cwV 1 hts gX2_encodeNumber_X5_add rfl rfl rfl (by decide +kernel) ⟨Nat.le_of_ble_eq_true rfl, Nat.le_of_ble_eq_true rfl⟩) ⟨fun a U g mk q => by obtain ⟨q0, q1, qP, qK, qD⟩ := q; exact ⟨q0, q1, qP, va_K.moved (u := U) (U := U.calling g mk a) (Vm.Alike.refl U.vm) qK, qD⟩, va_recv hK hPc (ci := 5) (q0 := 0) rfl rfl, fun U hU hW => ⟨rfl, by rw [hU], by rw [hU]; exact hPc, va_K.moved hW.alike hK, hDc.weaken (fun _ _ _ _ => trivial)⟩⟩ rfl rfl hl.1 rfl (lv_room (Nat.le_of_ble_eq_true rfl)) dX2_encodeNumber_74 ⟨Nat.le_of_ble_eq_true rfl, Nat.le_of_ble_eq_true rfl⟩) hS (fun q _ h => hFc q h) hFc (fun r_79 u t H1 locs ht hvm hw hB hz1 hk1 hSn => ?_)
                  subst hw
                  obtain ⟨lu_79, fu_79, hP1, hD1, hf79_0, hf79_1, hf79_2⟩ := hB
                  rw [ht] at hP1
                  obtain ⟨hPn, hDn⟩ := va_join (wr := []) (w1 := [(nu, .inr (5, [.ref au, .int lu_79])), (au, .inl (cI, cap, .inl fu_79))]) hP hD [0, 1] [] rfl rfl (by decide +kernel) (by decide +kernel) hk1 hFc hP1 hD1
                  clear hP hD hS hPc hDc hFc hk1 hz1 hvm ht hP1 hD1
                  generalize H1 = H at hPn hSn ⊢
                  have hP : va_P (dC, dI) vwCl [(nu, .inr (5, [.ref au, .int lu_79])), (au, .inl (cI, cap, .inl fu_79))] H := hPn
                  have hD : va_D A [(nu, .inr (5, [.ref au, .int lu_79])), (au, .inl (cI, cap, .inl fu_79))] := hDn
                  have hS := hSn
                  clear hPn hDn hSn
                  refine lv_if_eq (tgt := 84) hx hb dX2_encodeNumber_77 (by decide) (fun c_80 => ?_) (fun c_80 => ?_)
                  · have tc_80 : r_79.toInt = 0 := v_eq c_80
                    refine lv_iconst (v := 0) hx hb dX2_encodeNumber_84 (by decide) ?_
                    refine lv_istore_n (lv' := [(2, .int 0), (3, .int 1), (5, .int x_62), (4, .int un), (0, .int le), (1, .ref nu)]) hx hb dX2_encodeNumber_85 rfl hl (by decide) rfl (fun ls hl => ?_)
                    refine lv_iload hx hb dX2_encodeNumber_86 (lv_at hl 3 rfl) ?_
                    refine lv_bipush (v := 10) hx hb dX2_encodeNumber_88 (by decide) ?_
                    refine lv_idiv hx hb dX2_encodeNumber_90 (by decide) ?_
                    refine lv_topi (fun x_81 ex_81 => ?_)
                    have tx_81 : x_81.toInt = un.toInt / 10 := v_div ex_81 (by omega) (by decide)
                    refine lv_istore (lv' := [(4, .int x_81), (2, .int 0), (3, .int 1), (5, .int x_62), (0, .int le), (1, .ref nu)]) hx hb dX2_encodeNumber_91 hl (by decide) rfl (fun ls hl => ?_)
                    refine lv_goto (tgt := 31) hx hb dX2_encodeNumber_93 (by decide) ?_
                    exact ih_31 0 1 x_81 lu_79 fu_79 _ _ _ (ms_lt hm_31 (by show ((x_81.toInt : Int)) < un.toInt; omega) (by show (0 : Int) < un.toInt; omega)) (by decide) (by decide) (by show 0 ≤ x_81.toInt ∧ x_81.toInt ≤ 10000; omega) (hf79_0) hP hD hS (lv_sub hl [0, 2, 1, 4, 5] rfl)
                  · have tc_80 : ¬ r_79.toInt = 0 := v_ne c_80
                    refine lv_iconst (v := 1) hx hb dX2_encodeNumber_80 (by decide) ?_
                    refine lv_goto (tgt := 85) hx hb dX2_encodeNumber_81 (by decide) ?_
                    refine lv_istore_n (lv' := [(2, .int 1), (3, .int 1), (5, .int x_62), (4, .int un), (0, .int le), (1, .ref nu)]) hx hb dX2_encodeNumber_85 rfl hl (by decide) rfl (fun ls hl => ?_)
                    refine lv_iload hx hb dX2_encodeNumber_86 (lv_at hl 3 rfl) ?_
                    refine lv_bipush (v := 10) hx hb dX2_encodeNumber_88 (by decide) ?_
                    refine lv_idiv hx hb dX2_encodeNumber_90 (by decide) ?_
                    refine lv_topi (fun x_82 ex_82 => ?_)
                    have tx_82 : x_82.toInt = un.toInt / 10 := v_div ex_82 (by omega) (by decide)
                    refine lv_istore (lv' := [(4, .int x_82), (2, .int 1), (3, .int 1), (5, .int x_62), (0, .int le), (1, .ref nu)]) hx hb dX2_encodeNumber_91 hl (by decide) rfl (fun ls hl => ?_)
                    refine lv_goto (tgt := 31) hx hb dX2_encodeNumber_93 (by decide) ?_
                    exact ih_31 1 1 x_82 lu_79 fu_79 _ _ _ (ms_lt hm_31 (by show ((x_82.toInt : Int)) < un.toInt; omega) (by show (0 : Int) < un.toInt; omega)) (by decide) (by decide) (by show 0 ≤ x_82.toInt ∧ x_82.toInt ≤ 10000; omega) (hf79_0) hP hD hS (lv_sub hl [0, 2, 1, 4, 5] rfl)
      exact LOOP_31 _ 1 0 10000 lu_29 fu_29 _ _ _ (ms_s _) (by decide) (by decide) (by decide) (hf29_0) hP hD hS (lv_sub hl [0, 1, 2, 3, 4] rfl)

set_option maxHeartbeats 40000000 in
set_option maxRecDepth 100000 in
theorem m_X2_encode (l : Launch) (dC : Nat → ClassId) (dI : Nat → Nat → Nat) (cI cS : ClassId) (sz : Nat) (oC : Nat) (nu : Nat) (o4 : Nat) (o5 : Nat) (a41 : Nat) (a42 : Nat) (a43 : Nat) (a51 : Nat) (a52 : Nat) (a53 : Nat) (au : Nat) (cap : Nat) (l4 : Int32) (f42 : Nat → Int32) (f43 : Nat → Int32) (l5 : Int32) (f52 : Nat → Int32) (f53 : Nat → Int32) (lu : Int32) (fu : Nat → Int32) (cd : Int32) (le : Int32) (g_lu : 0 ≤ lu.toInt ∧ lu.toInt ≤ (cap : Int)) (hcap : cap ≤ 2400) : Met l yX2_encode wsX2_encode ({ frames := 2, cells := 0, slots := 0, locals := 46 } : Room) (va_Pc [.ref oC, .int cd, .int le, .ref nu] (fun U => U.heap.size = sz ∧ va_P (dC, dI) vwCl [(oC, .inr (2, [.ref o4, .ref o5])), (o4, .inr (10, [.ref a41, .ref a42, .ref a43, .int l4])), (a42, .inl (cI, 512, .inl f42)), (a43, .inl (cI, 512, .inl f43)), (o5, .inr (10, [.ref a51, .ref a52, .ref a53, .int l5])), (a52, .inl (cI, 512, .inl f52)), (a53, .inl (cI, 512, .inl f53)), (nu, .inr (5, [.ref au, .int lu])), (au, .inl (cI, cap, .inl fu))] U.heap ∧ va_K (dC, dI) vwCl [(cI, .int), (cS, .short)] U ∧ va_D (fun _ => True) [(oC, .inr (2, [.ref o4, .ref o5])), (o4, .inr (10, [.ref a41, .ref a42, .ref a43, .int l4])), (a42, .inl (cI, 512, .inl f42)), (a43, .inl (cI, 512, .inl f43)), (o5, .inr (10, [.ref a51, .ref a52, .ref a53, .int l5])), (a52, .inl (cI, 512, .inl f52)), (a53, .inl (cI, 512, .inl f53)), (nu, .inr (5, [.ref au, .int lu])), (au, .inl (cI, cap, .inl fu))])) (va_Qi (fun (r : Int32) (u : Int32) => r = u) (fun (r : Int32) t => ∃ (lu' : Int32) (fu' : Nat → Int32), va_P (dC, dI) vwCl [(oC, .inr (2, [.ref o4, .ref o5])), (o4, .inr (10, [.ref a41, .ref a42, .ref a43, .int l4])), (a42, .inl (cI, 512, .inl f42)), (a43, .inl (cI, 512, .inl f43)), (o5, .inr (10, [.ref a51, .ref a52, .ref a53, .int l5])), (a52, .inl (cI, 512, .inl f52)), (a53, .inl (cI, 512, .inl f53)), (nu, .inr (5, [.ref au, .int lu'])), (au, .inl (cI, cap, .inl fu'))] t.heap ∧ va_D (va_A [(oC, .inr (2, [.ref o4, .ref o5])), (o4, .inr (10, [.ref a41, .ref a42, .ref a43, .int l4])), (a42, .inl (cI, 512, .inl f42)), (a43, .inl (cI, 512, .inl f43)), (o5, .inr (10, [.ref a51, .ref a52, .ref a53, .int l5])), (a52, .inl (cI, 512, .inl f52)), (a53, .inl (cI, 512, .inl f53)), (nu, .inr (5, [.ref au, .int lu])), (au, .inl (cI, cap, .inl fu))] sz) [(oC, .inr (2, [.ref o4, .ref o5])), (o4, .inr (10, [.ref a41, .ref a42, .ref a43, .int l4])), (a42, .inl (cI, 512, .inl f42)), (a43, .inl (cI, 512, .inl f43)), (o5, .inr (10, [.ref a51, .ref a52, .ref a53, .int l5])), (a52, .inl (cI, 512, .inl f52)), (a53, .inl (cI, 512, .inl f53)), (nu, .inr (5, [.ref au, .int lu'])), (au, .inl (cI, cap, .inl fu'))] ∧ (0 ≤ lu'.toInt ∧ lu'.toInt ≤ (cap : Int)) ∧ (0 ≤ r.toInt ∧ r.toInt ≤ 1)) (va_A [(oC, .inr (2, [.ref o4, .ref o5])), (o4, .inr (10, [.ref a41, .ref a42, .ref a43, .int l4])), (a42, .inl (cI, 512, .inl f42)), (a43, .inl (cI, 512, .inl f43)), (o5, .inr (10, [.ref a51, .ref a52, .ref a53, .int l5])), (a52, .inl (cI, 512, .inl f52)), (a53, .inl (cI, 512, .inl f53)), (nu, .inr (5, [.ref au, .int lu])), (au, .inl (cI, cap, .inl fu))] sz)) 0 0 (va_A [(oC, .inr (2, [.ref o4, .ref o5])), (o4, .inr (10, [.ref a41, .ref a42, .ref a43, .int l4])), (a42, .inl (cI, 512, .inl f42)), (a43, .inl (cI, 512, .inl f43)), (o5, .inr (10, [.ref a51, .ref a52, .ref a53, .int l5])), (a52, .inl (cI, 512, .inl f52)), (a53, .inl (cI, 512, .inl f53)), (nu, .inr (5, [.ref au, .int lu])), (au, .inl (cI, cap, .inl fu))] sz) := by
  refine Met.ofW (cc := cX2_encode) (maxL := 6) (ret := (some .boolean)) (by decide) rfl ?_
  intro p e s m args below meth c s₁ B hml hv
  obtain ⟨rfl, hsz, hP, hK, hD0⟩ := hv
  have hx := B.exec
  have hb := B.bytes
  have hr := B.returns
  have hts := atoms_spec (ws := wsX2_encode) B.pre
  have hown : s.vm.findClass RX2 = some m.cls := findClass_of_methodNamed B.named
  have hlocks := B.notSynchronized
  subst hsz
  have hD := hD0.self (sz := s.heap.size)
  generalize hAe : va_A [(oC, .inr (2, [.ref o4, .ref o5])), (o4, .inr (10, [.ref a41, .ref a42, .ref a43, .int l4])), (a42, .inl (cI, 512, .inl f42)), (a43, .inl (cI, 512, .inl f43)), (o5, .inr (10, [.ref a51, .ref a52, .ref a53, .int l5])), (a52, .inl (cI, 512, .inl f52)), (a53, .inl (cI, 512, .inl f53)), (nu, .inr (5, [.ref au, .int lu])), (au, .inl (cI, cap, .inl fu))] s.heap.size = A at hD ⊢
  have hA : ∀ q : Nat, s.heap.size ≤ q → A q := fun q h => by rw [← hAe]; exact Or.inr h
  have hS : va_S A s.heap s.heap [] := va_S.rf
  have hP : va_P (dC, dI) vwCl [(oC, .inr (2, [.ref o4, .ref o5])), (o4, .inr (10, [.ref a41, .ref a42, .ref a43, .int l4])), (a42, .inl (cI, 512, .inl f42)), (a43, .inl (cI, 512, .inl f43)), (o5, .inr (10, [.ref a51, .ref a52, .ref a53, .int l5])), (a52, .inl (cI, 512, .inl f52)), (a53, .inl (cI, 512, .inl f53)), (nu, .inr (5, [.ref au, .int lu])), (au, .inl (cI, cap, .inl fu))] s.heap := hP
  have hl := lv_entry ([.ref oC, .int cd, .int le, .ref nu]) (n := 6) (Nat.le_of_ble_eq_true rfl)
  rw [lg_entry_eq]
  generalize (lg_sl ([.ref oC, .int cd, .int le, .ref nu]) ++ List.replicate (6 - (lg_sl ([.ref oC, .int cd, .int le, .ref nu])).length) Slot.unset).toArray = ls at hl ⊢
  have hl : lv_has ls 6 [(0, .ref oC), (1, .int cd), (2, .int le), (3, .ref nu)] := hl
  obtain ⟨QQ, hQQ⟩ : ∃ QQ : Array Value → State → Outcome → State → Prop, QQ = va_Qi (fun (r : Int32) (u : Int32) => r = u) (fun (r : Int32) t => ∃ (lu' : Int32) (fu' : Nat → Int32), va_P (dC, dI) vwCl [(oC, .inr (2, [.ref o4, .ref o5])), (o4, .inr (10, [.ref a41, .ref a42, .ref a43, .int l4])), (a42, .inl (cI, 512, .inl f42)), (a43, .inl (cI, 512, .inl f43)), (o5, .inr (10, [.ref a51, .ref a52, .ref a53, .int l5])), (a52, .inl (cI, 512, .inl f52)), (a53, .inl (cI, 512, .inl f53)), (nu, .inr (5, [.ref au, .int lu'])), (au, .inl (cI, cap, .inl fu'))] t.heap ∧ va_D A [(oC, .inr (2, [.ref o4, .ref o5])), (o4, .inr (10, [.ref a41, .ref a42, .ref a43, .int l4])), (a42, .inl (cI, 512, .inl f42)), (a43, .inl (cI, 512, .inl f43)), (o5, .inr (10, [.ref a51, .ref a52, .ref a53, .int l5])), (a52, .inl (cI, 512, .inl f52)), (a53, .inl (cI, 512, .inl f53)), (nu, .inr (5, [.ref au, .int lu'])), (au, .inl (cI, cap, .inl fu'))] ∧ (0 ≤ lu'.toInt ∧ lu'.toInt ≤ (cap : Int)) ∧ (0 ≤ r.toInt ∧ r.toInt ≤ 1)) A := ⟨_, rfl⟩
  rw [← hQQ]
  refine lv_iload_n hx hb dX2_encode_0 rfl (lv_at hl 1 rfl) ?_
  by_cases c_1 : cd = 0
  · refine lv_tableIn (tgt := 32) hx hb dX2_encode_1 (by rw [c_1]; decide) (by rw [c_1]; decide) (by rw [c_1]; rfl) (by decide) ?_
    have tc_1 : cd.toInt = 0 := v_eq c_1
    refine lv_iload_n hx hb dX2_encode_32 rfl (lv_at hl 2 rfl) ?_
    refine lv_sipush (v := 128) hx hb dX2_encode_33 (by decide) ?_
    refine lv_icmp_ge (tgt := 51) hx hb dX2_encode_36 (by decide) (fun c_2 => ?_) (fun c_2 => ?_)
    · have tc_2 : 128 ≤ le.toInt := v_le c_2
      refine lv_iconst (v := 0) hx hb dX2_encode_51 (by decide) ?_
      have hP9 := hP.sub (ws' := [(oC, .inr (2, [.ref o4, .ref o5])), (o4, .inr (10, [.ref a41, .ref a42, .ref a43, .int l4])), (a42, .inl (cI, 512, .inl f42)), (a43, .inl (cI, 512, .inl f43)), (o5, .inr (10, [.ref a51, .ref a52, .ref a53, .int l5])), (a52, .inl (cI, 512, .inl f52)), (a53, .inl (cI, 512, .inl f53)), (nu, .inr (5, [.ref au, .int lu])), (au, .inl (cI, cap, .inl fu))]) [0, 1, 2, 3, 4, 5, 6, 7, 8] rfl
      have hD9 := hD.sub (ws' := [(oC, .inr (2, [.ref o4, .ref o5])), (o4, .inr (10, [.ref a41, .ref a42, .ref a43, .int l4])), (a42, .inl (cI, 512, .inl f42)), (a43, .inl (cI, 512, .inl f43)), (o5, .inr (10, [.ref a51, .ref a52, .ref a53, .int l5])), (a52, .inl (cI, 512, .inl f52)), (a53, .inl (cI, 512, .inl f53)), (nu, .inr (5, [.ref au, .int lu])), (au, .inl (cI, cap, .inl fu))]) [0, 1, 2, 3, 4, 5, 6, 7, 8] (by decide +kernel) rfl
      rw [hQQ]
      exact W.zret (v := 0) (ty := .boolean) hx hb hr (rfl) (fun t ht hW => ⟨⟨0, 0, rfl, rfl, ⟨lu, fu, by rw [ht]; exact hP9, hD9, g_lu, by decide⟩⟩, hS.F ht⟩) hS.2.2 dX2_encode_52
    · have tc_2 : le.toInt < 128 := v_nle c_2
      refine lv_aload_n hx hb dX2_encode_39 rfl (lv_at hl 3 rfl) ?_
      refine lv_iload_n hx hb dX2_encode_40 rfl (lv_at hl 2 rfl) ?_
      have hPc := hP.sub (ws' := [(nu, .inr (5, [.ref au, .int lu])), (au, .inl (cI, cap, .inl fu))]) [7, 8] rfl
      have hDc := hD.sub (ws' := [(nu, .inr (5, [.ref au, .int lu])), (au, .inl (cI, cap, .inl fu))]) [7, 8] (by decide +kernel) rfl
      have hFc := va_free (wc := [(nu, .inr (5, [.ref au, .int lu])), (au, .inl (cI, cap, .inl fu))]) hD hS hA [7, 8] rfl
      refine va_calli (va_runV (As := [.int le]) (rest := []) ⟨hx, hb, hml, hown, hts⟩ (m_X5_add l dC dI cI cS s.heap.size nu au cap lu fu le (g_lu) (by omega)) (cwV 1 hts gX2_encode_X5_add rfl rfl rfl (by decide +kernel) ⟨Nat.le_of_ble_eq_true rfl, Nat.le_of_ble_eq_true rfl⟩) ⟨fun a U g mk q => by obtain ⟨q0, q1, qP, qK, qD⟩ := q; exact ⟨q0, q1, qP, va_K.moved (u := U) (U := U.calling g mk a) (Vm.Alike.refl U.vm) qK, qD⟩, va_recv hK hPc (ci := 5) (q0 := 0) rfl rfl, fun U hU hW => ⟨rfl, by rw [hU], by rw [hU]; exact hPc, va_K.moved hW.alike hK, hDc.weaken (fun _ _ _ _ => trivial)⟩⟩ rfl rfl hl.1 rfl (lv_room (Nat.le_of_ble_eq_true rfl)) dX2_encode_41 ⟨Nat.le_of_ble_eq_true rfl, Nat.le_of_ble_eq_true rfl⟩) hS (fun q _ h => hFc q h) hFc (fun r_3 u t H1 locs ht hvm hw hB hz1 hk1 hSn => ?_)
      subst hw
      obtain ⟨lu_3, fu_3, hP1, hD1, hf3_0, hf3_1, hf3_2⟩ := hB
      rw [ht] at hP1
      obtain ⟨hPn, hDn⟩ := va_join (wr := [(oC, .inr (2, [.ref o4, .ref o5])), (o4, .inr (10, [.ref a41, .ref a42, .ref a43, .int l4])), (a42, .inl (cI, 512, .inl f42)), (a43, .inl (cI, 512, .inl f43)), (o5, .inr (10, [.ref a51, .ref a52, .ref a53, .int l5])), (a52, .inl (cI, 512, .inl f52)), (a53, .inl (cI, 512, .inl f53))]) (w1 := [(nu, .inr (5, [.ref au, .int lu_3])), (au, .inl (cI, cap, .inl fu_3))]) hP hD [7, 8] [0, 1, 2, 3, 4, 5, 6] rfl rfl (by decide +kernel) (by decide +kernel) hk1 hFc hP1 hD1
      clear hP hD hS hPc hDc hFc hk1 hz1 hvm ht hP1 hD1
      generalize H1 = H at hPn hSn ⊢
      have hP : va_P (dC, dI) vwCl [(oC, .inr (2, [.ref o4, .ref o5])), (o4, .inr (10, [.ref a41, .ref a42, .ref a43, .int l4])), (a42, .inl (cI, 512, .inl f42)), (a43, .inl (cI, 512, .inl f43)), (o5, .inr (10, [.ref a51, .ref a52, .ref a53, .int l5])), (a52, .inl (cI, 512, .inl f52)), (a53, .inl (cI, 512, .inl f53)), (nu, .inr (5, [.ref au, .int lu_3])), (au, .inl (cI, cap, .inl fu_3))] H := hPn
      have hD : va_D A [(oC, .inr (2, [.ref o4, .ref o5])), (o4, .inr (10, [.ref a41, .ref a42, .ref a43, .int l4])), (a42, .inl (cI, 512, .inl f42)), (a43, .inl (cI, 512, .inl f43)), (o5, .inr (10, [.ref a51, .ref a52, .ref a53, .int l5])), (a52, .inl (cI, 512, .inl f52)), (a53, .inl (cI, 512, .inl f53)), (nu, .inr (5, [.ref au, .int lu_3])), (au, .inl (cI, cap, .inl fu_3))] := hDn
      have hS := hSn
      clear hPn hDn hSn
      refine lv_if_eq (tgt := 51) hx hb dX2_encode_44 (by decide) (fun c_4 => ?_) (fun c_4 => ?_)
      · have tc_4 : r_3.toInt = 0 := v_eq c_4
        refine lv_iconst (v := 0) hx hb dX2_encode_51 (by decide) ?_
        have hP9 := hP.sub (ws' := [(oC, .inr (2, [.ref o4, .ref o5])), (o4, .inr (10, [.ref a41, .ref a42, .ref a43, .int l4])), (a42, .inl (cI, 512, .inl f42)), (a43, .inl (cI, 512, .inl f43)), (o5, .inr (10, [.ref a51, .ref a52, .ref a53, .int l5])), (a52, .inl (cI, 512, .inl f52)), (a53, .inl (cI, 512, .inl f53)), (nu, .inr (5, [.ref au, .int lu_3])), (au, .inl (cI, cap, .inl fu_3))]) [0, 1, 2, 3, 4, 5, 6, 7, 8] rfl
        have hD9 := hD.sub (ws' := [(oC, .inr (2, [.ref o4, .ref o5])), (o4, .inr (10, [.ref a41, .ref a42, .ref a43, .int l4])), (a42, .inl (cI, 512, .inl f42)), (a43, .inl (cI, 512, .inl f43)), (o5, .inr (10, [.ref a51, .ref a52, .ref a53, .int l5])), (a52, .inl (cI, 512, .inl f52)), (a53, .inl (cI, 512, .inl f53)), (nu, .inr (5, [.ref au, .int lu_3])), (au, .inl (cI, cap, .inl fu_3))]) [0, 1, 2, 3, 4, 5, 6, 7, 8] (by decide +kernel) rfl
        rw [hQQ]
        exact W.zret (v := 0) (ty := .boolean) hx hb hr (rfl) (fun t ht hW => ⟨⟨0, 0, rfl, rfl, ⟨lu_3, fu_3, by rw [ht]; exact hP9, hD9, hf3_0, by decide⟩⟩, hS.F ht⟩) hS.2.2 dX2_encode_52
      · have tc_4 : ¬ r_3.toInt = 0 := v_ne c_4
        refine lv_iconst (v := 1) hx hb dX2_encode_47 (by decide) ?_
        refine lv_goto (tgt := 52) hx hb dX2_encode_48 (by decide) ?_
        have hP9 := hP.sub (ws' := [(oC, .inr (2, [.ref o4, .ref o5])), (o4, .inr (10, [.ref a41, .ref a42, .ref a43, .int l4])), (a42, .inl (cI, 512, .inl f42)), (a43, .inl (cI, 512, .inl f43)), (o5, .inr (10, [.ref a51, .ref a52, .ref a53, .int l5])), (a52, .inl (cI, 512, .inl f52)), (a53, .inl (cI, 512, .inl f53)), (nu, .inr (5, [.ref au, .int lu_3])), (au, .inl (cI, cap, .inl fu_3))]) [0, 1, 2, 3, 4, 5, 6, 7, 8] rfl
        have hD9 := hD.sub (ws' := [(oC, .inr (2, [.ref o4, .ref o5])), (o4, .inr (10, [.ref a41, .ref a42, .ref a43, .int l4])), (a42, .inl (cI, 512, .inl f42)), (a43, .inl (cI, 512, .inl f43)), (o5, .inr (10, [.ref a51, .ref a52, .ref a53, .int l5])), (a52, .inl (cI, 512, .inl f52)), (a53, .inl (cI, 512, .inl f53)), (nu, .inr (5, [.ref au, .int lu_3])), (au, .inl (cI, cap, .inl fu_3))]) [0, 1, 2, 3, 4, 5, 6, 7, 8] (by decide +kernel) rfl
        rw [hQQ]
        exact W.zret (v := 1) (ty := .boolean) hx hb hr (rfl) (fun t ht hW => ⟨⟨1, 1, rfl, rfl, ⟨lu_3, fu_3, by rw [ht]; exact hP9, hD9, hf3_0, by decide⟩⟩, hS.F ht⟩) hS.2.2 dX2_encode_52
  · skip
    have tc_1 : ¬ cd.toInt = 0 := v_ne c_1
    by_cases c_5 : cd = 1
    · refine lv_tableIn (tgt := 53) hx hb dX2_encode_1 (by rw [c_5]; decide) (by rw [c_5]; decide) (by rw [c_5]; rfl) (by decide) ?_
      have tc_5 : cd.toInt = 1 := v_eq c_5
      refine lv_iload_n hx hb dX2_encode_53 rfl (lv_at hl 2 rfl) ?_
      refine lv_sipush (v := 256) hx hb dX2_encode_54 (by decide) ?_
      refine lv_icmp_ge (tgt := 72) hx hb dX2_encode_57 (by decide) (fun c_6 => ?_) (fun c_6 => ?_)
      · have tc_6 : 256 ≤ le.toInt := v_le c_6
        refine lv_iconst (v := 0) hx hb dX2_encode_72 (by decide) ?_
        have hP9 := hP.sub (ws' := [(oC, .inr (2, [.ref o4, .ref o5])), (o4, .inr (10, [.ref a41, .ref a42, .ref a43, .int l4])), (a42, .inl (cI, 512, .inl f42)), (a43, .inl (cI, 512, .inl f43)), (o5, .inr (10, [.ref a51, .ref a52, .ref a53, .int l5])), (a52, .inl (cI, 512, .inl f52)), (a53, .inl (cI, 512, .inl f53)), (nu, .inr (5, [.ref au, .int lu])), (au, .inl (cI, cap, .inl fu))]) [0, 1, 2, 3, 4, 5, 6, 7, 8] rfl
        have hD9 := hD.sub (ws' := [(oC, .inr (2, [.ref o4, .ref o5])), (o4, .inr (10, [.ref a41, .ref a42, .ref a43, .int l4])), (a42, .inl (cI, 512, .inl f42)), (a43, .inl (cI, 512, .inl f43)), (o5, .inr (10, [.ref a51, .ref a52, .ref a53, .int l5])), (a52, .inl (cI, 512, .inl f52)), (a53, .inl (cI, 512, .inl f53)), (nu, .inr (5, [.ref au, .int lu])), (au, .inl (cI, cap, .inl fu))]) [0, 1, 2, 3, 4, 5, 6, 7, 8] (by decide +kernel) rfl
        rw [hQQ]
        exact W.zret (v := 0) (ty := .boolean) hx hb hr (rfl) (fun t ht hW => ⟨⟨0, 0, rfl, rfl, ⟨lu, fu, by rw [ht]; exact hP9, hD9, g_lu, by decide⟩⟩, hS.F ht⟩) hS.2.2 dX2_encode_73
      · have tc_6 : le.toInt < 256 := v_nle c_6
        refine lv_aload_n hx hb dX2_encode_60 rfl (lv_at hl 3 rfl) ?_
        refine lv_iload_n hx hb dX2_encode_61 rfl (lv_at hl 2 rfl) ?_
        have hPc := hP.sub (ws' := [(nu, .inr (5, [.ref au, .int lu])), (au, .inl (cI, cap, .inl fu))]) [7, 8] rfl
        have hDc := hD.sub (ws' := [(nu, .inr (5, [.ref au, .int lu])), (au, .inl (cI, cap, .inl fu))]) [7, 8] (by decide +kernel) rfl
        have hFc := va_free (wc := [(nu, .inr (5, [.ref au, .int lu])), (au, .inl (cI, cap, .inl fu))]) hD hS hA [7, 8] rfl
        refine va_calli (va_runV (As := [.int le]) (rest := []) ⟨hx, hb, hml, hown, hts⟩ (m_X5_add l dC dI cI cS s.heap.size nu au cap lu fu le (g_lu) (by omega)) (cwV 1 hts gX2_encode_X5_add rfl rfl rfl (by decide +kernel) ⟨Nat.le_of_ble_eq_true rfl, Nat.le_of_ble_eq_true rfl⟩) ⟨fun a U g mk q => by obtain ⟨q0, q1, qP, qK, qD⟩ := q; exact ⟨q0, q1, qP, va_K.moved (u := U) (U := U.calling g mk a) (Vm.Alike.refl U.vm) qK, qD⟩, va_recv hK hPc (ci := 5) (q0 := 0) rfl rfl, fun U hU hW => ⟨rfl, by rw [hU], by rw [hU]; exact hPc, va_K.moved hW.alike hK, hDc.weaken (fun _ _ _ _ => trivial)⟩⟩ rfl rfl hl.1 rfl (lv_room (Nat.le_of_ble_eq_true rfl)) dX2_encode_62 ⟨Nat.le_of_ble_eq_true rfl, Nat.le_of_ble_eq_true rfl⟩) hS (fun q _ h => hFc q h) hFc (fun r_7 u t H1 locs ht hvm hw hB hz1 hk1 hSn => ?_)
        subst hw
        obtain ⟨lu_7, fu_7, hP1, hD1, hf7_0, hf7_1, hf7_2⟩ := hB
        rw [ht] at hP1
        obtain ⟨hPn, hDn⟩ := va_join (wr := [(oC, .inr (2, [.ref o4, .ref o5])), (o4, .inr (10, [.ref a41, .ref a42, .ref a43, .int l4])), (a42, .inl (cI, 512, .inl f42)), (a43, .inl (cI, 512, .inl f43)), (o5, .inr (10, [.ref a51, .ref a52, .ref a53, .int l5])), (a52, .inl (cI, 512, .inl f52)), (a53, .inl (cI, 512, .inl f53))]) (w1 := [(nu, .inr (5, [.ref au, .int lu_7])), (au, .inl (cI, cap, .inl fu_7))]) hP hD [7, 8] [0, 1, 2, 3, 4, 5, 6] rfl rfl (by decide +kernel) (by decide +kernel) hk1 hFc hP1 hD1
        clear hP hD hS hPc hDc hFc hk1 hz1 hvm ht hP1 hD1
        generalize H1 = H at hPn hSn ⊢
        have hP : va_P (dC, dI) vwCl [(oC, .inr (2, [.ref o4, .ref o5])), (o4, .inr (10, [.ref a41, .ref a42, .ref a43, .int l4])), (a42, .inl (cI, 512, .inl f42)), (a43, .inl (cI, 512, .inl f43)), (o5, .inr (10, [.ref a51, .ref a52, .ref a53, .int l5])), (a52, .inl (cI, 512, .inl f52)), (a53, .inl (cI, 512, .inl f53)), (nu, .inr (5, [.ref au, .int lu_7])), (au, .inl (cI, cap, .inl fu_7))] H := hPn
        have hD : va_D A [(oC, .inr (2, [.ref o4, .ref o5])), (o4, .inr (10, [.ref a41, .ref a42, .ref a43, .int l4])), (a42, .inl (cI, 512, .inl f42)), (a43, .inl (cI, 512, .inl f43)), (o5, .inr (10, [.ref a51, .ref a52, .ref a53, .int l5])), (a52, .inl (cI, 512, .inl f52)), (a53, .inl (cI, 512, .inl f53)), (nu, .inr (5, [.ref au, .int lu_7])), (au, .inl (cI, cap, .inl fu_7))] := hDn
        have hS := hSn
        clear hPn hDn hSn
        refine lv_if_eq (tgt := 72) hx hb dX2_encode_65 (by decide) (fun c_8 => ?_) (fun c_8 => ?_)
        · have tc_8 : r_7.toInt = 0 := v_eq c_8
          refine lv_iconst (v := 0) hx hb dX2_encode_72 (by decide) ?_
          have hP9 := hP.sub (ws' := [(oC, .inr (2, [.ref o4, .ref o5])), (o4, .inr (10, [.ref a41, .ref a42, .ref a43, .int l4])), (a42, .inl (cI, 512, .inl f42)), (a43, .inl (cI, 512, .inl f43)), (o5, .inr (10, [.ref a51, .ref a52, .ref a53, .int l5])), (a52, .inl (cI, 512, .inl f52)), (a53, .inl (cI, 512, .inl f53)), (nu, .inr (5, [.ref au, .int lu_7])), (au, .inl (cI, cap, .inl fu_7))]) [0, 1, 2, 3, 4, 5, 6, 7, 8] rfl
          have hD9 := hD.sub (ws' := [(oC, .inr (2, [.ref o4, .ref o5])), (o4, .inr (10, [.ref a41, .ref a42, .ref a43, .int l4])), (a42, .inl (cI, 512, .inl f42)), (a43, .inl (cI, 512, .inl f43)), (o5, .inr (10, [.ref a51, .ref a52, .ref a53, .int l5])), (a52, .inl (cI, 512, .inl f52)), (a53, .inl (cI, 512, .inl f53)), (nu, .inr (5, [.ref au, .int lu_7])), (au, .inl (cI, cap, .inl fu_7))]) [0, 1, 2, 3, 4, 5, 6, 7, 8] (by decide +kernel) rfl
          rw [hQQ]
          exact W.zret (v := 0) (ty := .boolean) hx hb hr (rfl) (fun t ht hW => ⟨⟨0, 0, rfl, rfl, ⟨lu_7, fu_7, by rw [ht]; exact hP9, hD9, hf7_0, by decide⟩⟩, hS.F ht⟩) hS.2.2 dX2_encode_73
        · have tc_8 : ¬ r_7.toInt = 0 := v_ne c_8
          refine lv_iconst (v := 1) hx hb dX2_encode_68 (by decide) ?_
          refine lv_goto (tgt := 73) hx hb dX2_encode_69 (by decide) ?_
          have hP9 := hP.sub (ws' := [(oC, .inr (2, [.ref o4, .ref o5])), (o4, .inr (10, [.ref a41, .ref a42, .ref a43, .int l4])), (a42, .inl (cI, 512, .inl f42)), (a43, .inl (cI, 512, .inl f43)), (o5, .inr (10, [.ref a51, .ref a52, .ref a53, .int l5])), (a52, .inl (cI, 512, .inl f52)), (a53, .inl (cI, 512, .inl f53)), (nu, .inr (5, [.ref au, .int lu_7])), (au, .inl (cI, cap, .inl fu_7))]) [0, 1, 2, 3, 4, 5, 6, 7, 8] rfl
          have hD9 := hD.sub (ws' := [(oC, .inr (2, [.ref o4, .ref o5])), (o4, .inr (10, [.ref a41, .ref a42, .ref a43, .int l4])), (a42, .inl (cI, 512, .inl f42)), (a43, .inl (cI, 512, .inl f43)), (o5, .inr (10, [.ref a51, .ref a52, .ref a53, .int l5])), (a52, .inl (cI, 512, .inl f52)), (a53, .inl (cI, 512, .inl f53)), (nu, .inr (5, [.ref au, .int lu_7])), (au, .inl (cI, cap, .inl fu_7))]) [0, 1, 2, 3, 4, 5, 6, 7, 8] (by decide +kernel) rfl
          rw [hQQ]
          exact W.zret (v := 1) (ty := .boolean) hx hb hr (rfl) (fun t ht hW => ⟨⟨1, 1, rfl, rfl, ⟨lu_7, fu_7, by rw [ht]; exact hP9, hD9, hf7_0, by decide⟩⟩, hS.F ht⟩) hS.2.2 dX2_encode_73
    · skip
      have tc_5 : ¬ cd.toInt = 1 := v_ne c_5
      by_cases c_9 : cd = 2
      · refine lv_tableIn (tgt := 74) hx hb dX2_encode_1 (by rw [c_9]; decide) (by rw [c_9]; decide) (by rw [c_9]; rfl) (by decide) ?_
        have tc_9 : cd.toInt = 2 := v_eq c_9
        refine lv_iload_n hx hb dX2_encode_74 rfl (lv_at hl 2 rfl) ?_
        refine lv_aload_n hx hb dX2_encode_75 rfl (lv_at hl 3 rfl) ?_
        have hPc := hP.sub (ws' := [(nu, .inr (5, [.ref au, .int lu])), (au, .inl (cI, cap, .inl fu))]) [7, 8] rfl
        have hDc := hD.sub (ws' := [(nu, .inr (5, [.ref au, .int lu])), (au, .inl (cI, cap, .inl fu))]) [7, 8] (by decide +kernel) rfl
        have hFc := va_free (wc := [(nu, .inr (5, [.ref au, .int lu])), (au, .inl (cI, cap, .inl fu))]) hD hS hA [7, 8] rfl
        refine va_calli (va_runS (As := [.int le, .ref nu]) (rest := []) ⟨hx, hb, hml, hown, hts⟩ (m_X2_encodeMany l dC dI cI cS s.heap.size nu au cap lu fu le (g_lu) (by omega)) (va_cwS 2 hts gX2_encode_X2_encodeMany rfl rfl rfl (by decide +kernel) ⟨Nat.le_of_ble_eq_true rfl, Nat.le_of_ble_eq_true rfl⟩) ⟨fun a U g mk q => by obtain ⟨q0, q1, qP, qK, qD⟩ := q; exact ⟨q0, q1, qP, va_K.moved (u := U) (U := U.calling g mk a) (Vm.Alike.refl U.vm) qK, qD⟩, fun U hU hW => ⟨rfl, by rw [hU], by rw [hU]; exact hPc, va_K.moved hW.alike hK, hDc.weaken (fun _ _ _ _ => trivial)⟩⟩ rfl rfl hl.1 rfl (lv_room (Nat.le_of_ble_eq_true rfl)) dX2_encode_76 ⟨Nat.le_of_ble_eq_true rfl, Nat.le_of_ble_eq_true rfl⟩) hS (fun q _ h => hFc q h) hFc (fun r_10 u t H1 locs ht hvm hw hB hz1 hk1 hSn => ?_)
        subst hw
        obtain ⟨lu_10, fu_10, hP1, hD1, hf10_0, hf10_1⟩ := hB
        rw [ht] at hP1
        obtain ⟨hPn, hDn⟩ := va_join (wr := [(oC, .inr (2, [.ref o4, .ref o5])), (o4, .inr (10, [.ref a41, .ref a42, .ref a43, .int l4])), (a42, .inl (cI, 512, .inl f42)), (a43, .inl (cI, 512, .inl f43)), (o5, .inr (10, [.ref a51, .ref a52, .ref a53, .int l5])), (a52, .inl (cI, 512, .inl f52)), (a53, .inl (cI, 512, .inl f53))]) (w1 := [(nu, .inr (5, [.ref au, .int lu_10])), (au, .inl (cI, cap, .inl fu_10))]) hP hD [7, 8] [0, 1, 2, 3, 4, 5, 6] rfl rfl (by decide +kernel) (by decide +kernel) hk1 hFc hP1 hD1
        clear hP hD hS hPc hDc hFc hk1 hz1 hvm ht hP1 hD1
        generalize H1 = H at hPn hSn ⊢
        have hP : va_P (dC, dI) vwCl [(oC, .inr (2, [.ref o4, .ref o5])), (o4, .inr (10, [.ref a41, .ref a42, .ref a43, .int l4])), (a42, .inl (cI, 512, .inl f42)), (a43, .inl (cI, 512, .inl f43)), (o5, .inr (10, [.ref a51, .ref a52, .ref a53, .int l5])), (a52, .inl (cI, 512, .inl f52)), (a53, .inl (cI, 512, .inl f53)), (nu, .inr (5, [.ref au, .int lu_10])), (au, .inl (cI, cap, .inl fu_10))] H := hPn
        have hD : va_D A [(oC, .inr (2, [.ref o4, .ref o5])), (o4, .inr (10, [.ref a41, .ref a42, .ref a43, .int l4])), (a42, .inl (cI, 512, .inl f42)), (a43, .inl (cI, 512, .inl f43)), (o5, .inr (10, [.ref a51, .ref a52, .ref a53, .int l5])), (a52, .inl (cI, 512, .inl f52)), (a53, .inl (cI, 512, .inl f53)), (nu, .inr (5, [.ref au, .int lu_10])), (au, .inl (cI, cap, .inl fu_10))] := hDn
        have hS := hSn
        clear hPn hDn hSn
        have hP9 := hP.sub (ws' := [(oC, .inr (2, [.ref o4, .ref o5])), (o4, .inr (10, [.ref a41, .ref a42, .ref a43, .int l4])), (a42, .inl (cI, 512, .inl f42)), (a43, .inl (cI, 512, .inl f43)), (o5, .inr (10, [.ref a51, .ref a52, .ref a53, .int l5])), (a52, .inl (cI, 512, .inl f52)), (a53, .inl (cI, 512, .inl f53)), (nu, .inr (5, [.ref au, .int lu_10])), (au, .inl (cI, cap, .inl fu_10))]) [0, 1, 2, 3, 4, 5, 6, 7, 8] rfl
        have hD9 := hD.sub (ws' := [(oC, .inr (2, [.ref o4, .ref o5])), (o4, .inr (10, [.ref a41, .ref a42, .ref a43, .int l4])), (a42, .inl (cI, 512, .inl f42)), (a43, .inl (cI, 512, .inl f43)), (o5, .inr (10, [.ref a51, .ref a52, .ref a53, .int l5])), (a52, .inl (cI, 512, .inl f52)), (a53, .inl (cI, 512, .inl f53)), (nu, .inr (5, [.ref au, .int lu_10])), (au, .inl (cI, cap, .inl fu_10))]) [0, 1, 2, 3, 4, 5, 6, 7, 8] (by decide +kernel) rfl
        rw [hQQ]
        exact W.zret (v := r_10) (ty := .boolean) hx hb hr (v_bool (by omega)) (fun t ht hW => ⟨⟨r_10, r_10, rfl, rfl, ⟨lu_10, fu_10, by rw [ht]; exact hP9, hD9, hf10_0, hf10_1⟩⟩, hS.F ht⟩) hS.2.2 dX2_encode_79
      · skip
        have tc_9 : ¬ cd.toInt = 2 := v_ne c_9
        by_cases c_11 : cd = 3
        · refine lv_tableIn (tgt := 80) hx hb dX2_encode_1 (by rw [c_11]; decide) (by rw [c_11]; decide) (by rw [c_11]; rfl) (by decide) ?_
          have tc_11 : cd.toInt = 3 := v_eq c_11
          refine lv_iload_n hx hb dX2_encode_80 rfl (lv_at hl 2 rfl) ?_
          have hPc := hP.sub (ws' := []) [] rfl
          have hDc := hD.sub (ws' := []) [] (by decide +kernel) rfl
          have hFc := va_free (wc := []) hD hS hA [] rfl
          refine va_calli (va_runS (As := [.int le]) (rest := []) ⟨hx, hb, hml, hown, hts⟩ (m_X2_isNumbered l dC dI cI cS s.heap.size le ) (va_cwS 1 hts gX2_encode_X2_isNumbered rfl rfl rfl (by decide +kernel) ⟨Nat.le_of_ble_eq_true rfl, Nat.le_of_ble_eq_true rfl⟩) ⟨fun a U g mk q => by obtain ⟨q0, q1, qP, qK, qD⟩ := q; exact ⟨q0, q1, qP, va_K.moved (u := U) (U := U.calling g mk a) (Vm.Alike.refl U.vm) qK, qD⟩, fun U hU hW => ⟨rfl, by rw [hU], by rw [hU]; exact hPc, va_K.moved hW.alike hK, hDc.weaken (fun _ _ _ _ => trivial)⟩⟩ rfl rfl hl.1 rfl (lv_room (Nat.le_of_ble_eq_true rfl)) dX2_encode_81 ⟨Nat.le_of_ble_eq_true rfl, Nat.le_of_ble_eq_true rfl⟩) hS (fun q _ h => hFc q h) hFc (fun r_12 u t H1 locs ht hvm hw hB hz1 hk1 hSn => ?_)
          subst hw
          obtain ⟨hP1, hD1, hf12_0⟩ := hB
          rw [ht] at hP1
          obtain ⟨hPn, hDn⟩ := va_join (wr := [(oC, .inr (2, [.ref o4, .ref o5])), (o4, .inr (10, [.ref a41, .ref a42, .ref a43, .int l4])), (a42, .inl (cI, 512, .inl f42)), (a43, .inl (cI, 512, .inl f43)), (o5, .inr (10, [.ref a51, .ref a52, .ref a53, .int l5])), (a52, .inl (cI, 512, .inl f52)), (a53, .inl (cI, 512, .inl f53)), (nu, .inr (5, [.ref au, .int lu])), (au, .inl (cI, cap, .inl fu))]) (w1 := []) hP hD [] [0, 1, 2, 3, 4, 5, 6, 7, 8] rfl rfl (by decide +kernel) (by decide +kernel) hk1 hFc hP1 hD1
          clear hP hD hS hPc hDc hFc hk1 hz1 hvm ht hP1 hD1
          generalize H1 = H at hPn hSn ⊢
          have hP : va_P (dC, dI) vwCl [(oC, .inr (2, [.ref o4, .ref o5])), (o4, .inr (10, [.ref a41, .ref a42, .ref a43, .int l4])), (a42, .inl (cI, 512, .inl f42)), (a43, .inl (cI, 512, .inl f43)), (o5, .inr (10, [.ref a51, .ref a52, .ref a53, .int l5])), (a52, .inl (cI, 512, .inl f52)), (a53, .inl (cI, 512, .inl f53)), (nu, .inr (5, [.ref au, .int lu])), (au, .inl (cI, cap, .inl fu))] H := hPn
          have hD : va_D A [(oC, .inr (2, [.ref o4, .ref o5])), (o4, .inr (10, [.ref a41, .ref a42, .ref a43, .int l4])), (a42, .inl (cI, 512, .inl f42)), (a43, .inl (cI, 512, .inl f43)), (o5, .inr (10, [.ref a51, .ref a52, .ref a53, .int l5])), (a52, .inl (cI, 512, .inl f52)), (a53, .inl (cI, 512, .inl f53)), (nu, .inr (5, [.ref au, .int lu])), (au, .inl (cI, cap, .inl fu))] := hDn
          have hS := hSn
          clear hPn hDn hSn
          refine lv_if_eq (tgt := 95) hx hb dX2_encode_84 (by decide) (fun c_13 => ?_) (fun c_13 => ?_)
          · have tc_13 : r_12.toInt = 0 := v_eq c_13
            refine lv_aload_n hx hb dX2_encode_95 rfl (lv_at hl 3 rfl) ?_
            refine lv_iload_n hx hb dX2_encode_96 rfl (lv_at hl 2 rfl) ?_
            have hPc := hP.sub (ws' := [(nu, .inr (5, [.ref au, .int lu])), (au, .inl (cI, cap, .inl fu))]) [7, 8] rfl
            have hDc := hD.sub (ws' := [(nu, .inr (5, [.ref au, .int lu])), (au, .inl (cI, cap, .inl fu))]) [7, 8] (by decide +kernel) rfl
            have hFc := va_free (wc := [(nu, .inr (5, [.ref au, .int lu])), (au, .inl (cI, cap, .inl fu))]) hD hS hA [7, 8] rfl
            refine va_calli (va_runV (As := [.int le]) (rest := []) ⟨hx, hb, hml, hown, hts⟩ (m_X5_add l dC dI cI cS H.size nu au cap lu fu le (g_lu) (by omega)) (cwV 1 hts gX2_encode_X5_add rfl rfl rfl (by decide +kernel) ⟨Nat.le_of_ble_eq_true rfl, Nat.le_of_ble_eq_true rfl⟩) ⟨fun a U g mk q => by obtain ⟨q0, q1, qP, qK, qD⟩ := q; exact ⟨q0, q1, qP, va_K.moved (u := U) (U := U.calling g mk a) (Vm.Alike.refl U.vm) qK, qD⟩, va_recv hK hPc (ci := 5) (q0 := 0) rfl rfl, fun U hU hW => ⟨rfl, by rw [hU], by rw [hU]; exact hPc, va_K.moved hW.alike hK, hDc.weaken (fun _ _ _ _ => trivial)⟩⟩ rfl rfl hl.1 rfl (lv_room (Nat.le_of_ble_eq_true rfl)) dX2_encode_97 ⟨Nat.le_of_ble_eq_true rfl, Nat.le_of_ble_eq_true rfl⟩) hS (fun q _ h => hFc q h) hFc (fun r_14 u t H1 locs ht hvm hw hB hz1 hk1 hSn => ?_)
            subst hw
            obtain ⟨lu_14, fu_14, hP1, hD1, hf14_0, hf14_1, hf14_2⟩ := hB
            rw [ht] at hP1
            obtain ⟨hPn, hDn⟩ := va_join (wr := [(oC, .inr (2, [.ref o4, .ref o5])), (o4, .inr (10, [.ref a41, .ref a42, .ref a43, .int l4])), (a42, .inl (cI, 512, .inl f42)), (a43, .inl (cI, 512, .inl f43)), (o5, .inr (10, [.ref a51, .ref a52, .ref a53, .int l5])), (a52, .inl (cI, 512, .inl f52)), (a53, .inl (cI, 512, .inl f53))]) (w1 := [(nu, .inr (5, [.ref au, .int lu_14])), (au, .inl (cI, cap, .inl fu_14))]) hP hD [7, 8] [0, 1, 2, 3, 4, 5, 6] rfl rfl (by decide +kernel) (by decide +kernel) hk1 hFc hP1 hD1
            clear hP hD hS hPc hDc hFc hk1 hz1 hvm ht hP1 hD1
            generalize H1 = H at hPn hSn ⊢
            have hP : va_P (dC, dI) vwCl [(oC, .inr (2, [.ref o4, .ref o5])), (o4, .inr (10, [.ref a41, .ref a42, .ref a43, .int l4])), (a42, .inl (cI, 512, .inl f42)), (a43, .inl (cI, 512, .inl f43)), (o5, .inr (10, [.ref a51, .ref a52, .ref a53, .int l5])), (a52, .inl (cI, 512, .inl f52)), (a53, .inl (cI, 512, .inl f53)), (nu, .inr (5, [.ref au, .int lu_14])), (au, .inl (cI, cap, .inl fu_14))] H := hPn
            have hD : va_D A [(oC, .inr (2, [.ref o4, .ref o5])), (o4, .inr (10, [.ref a41, .ref a42, .ref a43, .int l4])), (a42, .inl (cI, 512, .inl f42)), (a43, .inl (cI, 512, .inl f43)), (o5, .inr (10, [.ref a51, .ref a52, .ref a53, .int l5])), (a52, .inl (cI, 512, .inl f52)), (a53, .inl (cI, 512, .inl f53)), (nu, .inr (5, [.ref au, .int lu_14])), (au, .inl (cI, cap, .inl fu_14))] := hDn
            have hS := hSn
            clear hPn hDn hSn
            have hP9 := hP.sub (ws' := [(oC, .inr (2, [.ref o4, .ref o5])), (o4, .inr (10, [.ref a41, .ref a42, .ref a43, .int l4])), (a42, .inl (cI, 512, .inl f42)), (a43, .inl (cI, 512, .inl f43)), (o5, .inr (10, [.ref a51, .ref a52, .ref a53, .int l5])), (a52, .inl (cI, 512, .inl f52)), (a53, .inl (cI, 512, .inl f53)), (nu, .inr (5, [.ref au, .int lu_14])), (au, .inl (cI, cap, .inl fu_14))]) [0, 1, 2, 3, 4, 5, 6, 7, 8] rfl
            have hD9 := hD.sub (ws' := [(oC, .inr (2, [.ref o4, .ref o5])), (o4, .inr (10, [.ref a41, .ref a42, .ref a43, .int l4])), (a42, .inl (cI, 512, .inl f42)), (a43, .inl (cI, 512, .inl f43)), (o5, .inr (10, [.ref a51, .ref a52, .ref a53, .int l5])), (a52, .inl (cI, 512, .inl f52)), (a53, .inl (cI, 512, .inl f53)), (nu, .inr (5, [.ref au, .int lu_14])), (au, .inl (cI, cap, .inl fu_14))]) [0, 1, 2, 3, 4, 5, 6, 7, 8] (by decide +kernel) rfl
            rw [hQQ]
            exact W.zret (v := r_14) (ty := .boolean) hx hb hr (v_bool (by omega)) (fun t ht hW => ⟨⟨r_14, r_14, rfl, rfl, ⟨lu_14, fu_14, by rw [ht]; exact hP9, hD9, hf14_0, hf14_1⟩⟩, hS.F ht⟩) hS.2.2 dX2_encode_100
          · have tc_13 : ¬ r_12.toInt = 0 := v_ne c_13
            refine lv_iload_n hx hb dX2_encode_87 rfl (lv_at hl 2 rfl) ?_
            refine lv_aload_n hx hb dX2_encode_88 rfl (lv_at hl 3 rfl) ?_
            have hPc := hP.sub (ws' := [(nu, .inr (5, [.ref au, .int lu])), (au, .inl (cI, cap, .inl fu))]) [7, 8] rfl
            have hDc := hD.sub (ws' := [(nu, .inr (5, [.ref au, .int lu])), (au, .inl (cI, cap, .inl fu))]) [7, 8] (by decide +kernel) rfl
            have hFc := va_free (wc := [(nu, .inr (5, [.ref au, .int lu])), (au, .inl (cI, cap, .inl fu))]) hD hS hA [7, 8] rfl
            refine va_calli (va_runS (As := [.int le, .ref nu]) (rest := []) ⟨hx, hb, hml, hown, hts⟩ (m_X2_encodeNumber l dC dI cI cS H.size nu au cap lu fu le (g_lu) (by omega)) (va_cwS 2 hts gX2_encode_X2_encodeNumber rfl rfl rfl (by decide +kernel) ⟨Nat.le_of_ble_eq_true rfl, Nat.le_of_ble_eq_true rfl⟩) ⟨fun a U g mk q => by obtain ⟨q0, q1, qP, qK, qD⟩ := q; exact ⟨q0, q1, qP, va_K.moved (u := U) (U := U.calling g mk a) (Vm.Alike.refl U.vm) qK, qD⟩, fun U hU hW => ⟨rfl, by rw [hU], by rw [hU]; exact hPc, va_K.moved hW.alike hK, hDc.weaken (fun _ _ _ _ => trivial)⟩⟩ rfl rfl hl.1 rfl (lv_room (Nat.le_of_ble_eq_true rfl)) dX2_encode_89 ⟨Nat.le_of_ble_eq_true rfl, Nat.le_of_ble_eq_true rfl⟩) hS (fun q _ h => hFc q h) hFc (fun r_15 u t H1 locs ht hvm hw hB hz1 hk1 hSn => ?_)
            subst hw
            obtain ⟨lu_15, fu_15, hP1, hD1, hf15_0, hf15_1⟩ := hB
            rw [ht] at hP1
            obtain ⟨hPn, hDn⟩ := va_join (wr := [(oC, .inr (2, [.ref o4, .ref o5])), (o4, .inr (10, [.ref a41, .ref a42, .ref a43, .int l4])), (a42, .inl (cI, 512, .inl f42)), (a43, .inl (cI, 512, .inl f43)), (o5, .inr (10, [.ref a51, .ref a52, .ref a53, .int l5])), (a52, .inl (cI, 512, .inl f52)), (a53, .inl (cI, 512, .inl f53))]) (w1 := [(nu, .inr (5, [.ref au, .int lu_15])), (au, .inl (cI, cap, .inl fu_15))]) hP hD [7, 8] [0, 1, 2, 3, 4, 5, 6] rfl rfl (by decide +kernel) (by decide +kernel) hk1 hFc hP1 hD1
            clear hP hD hS hPc hDc hFc hk1 hz1 hvm ht hP1 hD1
            generalize H1 = H at hPn hSn ⊢
            have hP : va_P (dC, dI) vwCl [(oC, .inr (2, [.ref o4, .ref o5])), (o4, .inr (10, [.ref a41, .ref a42, .ref a43, .int l4])), (a42, .inl (cI, 512, .inl f42)), (a43, .inl (cI, 512, .inl f43)), (o5, .inr (10, [.ref a51, .ref a52, .ref a53, .int l5])), (a52, .inl (cI, 512, .inl f52)), (a53, .inl (cI, 512, .inl f53)), (nu, .inr (5, [.ref au, .int lu_15])), (au, .inl (cI, cap, .inl fu_15))] H := hPn
            have hD : va_D A [(oC, .inr (2, [.ref o4, .ref o5])), (o4, .inr (10, [.ref a41, .ref a42, .ref a43, .int l4])), (a42, .inl (cI, 512, .inl f42)), (a43, .inl (cI, 512, .inl f43)), (o5, .inr (10, [.ref a51, .ref a52, .ref a53, .int l5])), (a52, .inl (cI, 512, .inl f52)), (a53, .inl (cI, 512, .inl f53)), (nu, .inr (5, [.ref au, .int lu_15])), (au, .inl (cI, cap, .inl fu_15))] := hDn
            have hS := hSn
            clear hPn hDn hSn
            refine lv_goto (tgt := 100) hx hb dX2_encode_92 (by decide) ?_
            have hP9 := hP.sub (ws' := [(oC, .inr (2, [.ref o4, .ref o5])), (o4, .inr (10, [.ref a41, .ref a42, .ref a43, .int l4])), (a42, .inl (cI, 512, .inl f42)), (a43, .inl (cI, 512, .inl f43)), (o5, .inr (10, [.ref a51, .ref a52, .ref a53, .int l5])), (a52, .inl (cI, 512, .inl f52)), (a53, .inl (cI, 512, .inl f53)), (nu, .inr (5, [.ref au, .int lu_15])), (au, .inl (cI, cap, .inl fu_15))]) [0, 1, 2, 3, 4, 5, 6, 7, 8] rfl
            have hD9 := hD.sub (ws' := [(oC, .inr (2, [.ref o4, .ref o5])), (o4, .inr (10, [.ref a41, .ref a42, .ref a43, .int l4])), (a42, .inl (cI, 512, .inl f42)), (a43, .inl (cI, 512, .inl f43)), (o5, .inr (10, [.ref a51, .ref a52, .ref a53, .int l5])), (a52, .inl (cI, 512, .inl f52)), (a53, .inl (cI, 512, .inl f53)), (nu, .inr (5, [.ref au, .int lu_15])), (au, .inl (cI, cap, .inl fu_15))]) [0, 1, 2, 3, 4, 5, 6, 7, 8] (by decide +kernel) rfl
            rw [hQQ]
            exact W.zret (v := r_15) (ty := .boolean) hx hb hr (v_bool (by omega)) (fun t ht hW => ⟨⟨r_15, r_15, rfl, rfl, ⟨lu_15, fu_15, by rw [ht]; exact hP9, hD9, hf15_0, hf15_1⟩⟩, hS.F ht⟩) hS.2.2 dX2_encode_100
        · skip
          have tc_11 : ¬ cd.toInt = 3 := v_ne c_11
          refine lv_tableOut (tgt := 101) hx hb dX2_encode_1 (by omega) (by decide) ?_
          refine lv_aload_n hx hb dX2_encode_101 rfl (lv_at hl 0 rfl) ?_
          refine lv_iload_n hx hb dX2_encode_102 rfl (lv_at hl 1 rfl) ?_
          by_cases cs_16 : cd.toInt = 4
          · have hPc := hP.sub (ws' := [(oC, .inr (2, [.ref o4, .ref o5]))]) [0] rfl
            have hDc := hD.sub (ws' := [(oC, .inr (2, [.ref o4, .ref o5]))]) [0] (by decide +kernel) rfl
            have hFc := va_free (wc := [(oC, .inr (2, [.ref o4, .ref o5]))]) hD hS hA [0] rfl
            refine va_callr (va_runV (As := [.int cd]) (rest := []) ⟨hx, hb, hml, hown, hts⟩ (m_X2_toldCode_4 l dC dI cI cS s.heap.size oC o4 o5 cd (by omega)) (cwV 1 hts gX2_encode_X2_toldCode rfl rfl rfl (by decide +kernel) ⟨Nat.le_of_ble_eq_true rfl, Nat.le_of_ble_eq_true rfl⟩) ⟨fun a U g mk q => by obtain ⟨q0, q1, qP, qK, qD⟩ := q; exact ⟨q0, q1, qP, va_K.moved (u := U) (U := U.calling g mk a) (Vm.Alike.refl U.vm) qK, qD⟩, va_recv hK hPc (ci := 2) (q0 := 0) rfl rfl, fun U hU hW => ⟨rfl, by rw [hU], by rw [hU]; exact hPc, va_K.moved hW.alike hK, hDc.weaken (fun _ _ _ _ => trivial)⟩⟩ rfl rfl hl.1 rfl (lv_room (Nat.le_of_ble_eq_true rfl)) dX2_encode_103 ⟨Nat.le_of_ble_eq_true rfl, Nat.le_of_ble_eq_true rfl⟩) hS (fun q _ h => hFc q h) hFc (fun u r_17 t H1 locs ht hvm hw hB hz1 hk1 hSn => ?_)
            obtain ⟨hra, hP1, hD1⟩ := hB
            rw [hra]
            rw [ht] at hP1
            obtain ⟨hPn, hDn⟩ := va_join (wr := [(o4, .inr (10, [.ref a41, .ref a42, .ref a43, .int l4])), (a42, .inl (cI, 512, .inl f42)), (a43, .inl (cI, 512, .inl f43)), (o5, .inr (10, [.ref a51, .ref a52, .ref a53, .int l5])), (a52, .inl (cI, 512, .inl f52)), (a53, .inl (cI, 512, .inl f53)), (nu, .inr (5, [.ref au, .int lu])), (au, .inl (cI, cap, .inl fu))]) (w1 := [(oC, .inr (2, [.ref o4, .ref o5]))]) hP hD [0] [1, 2, 3, 4, 5, 6, 7, 8] rfl rfl (by decide +kernel) (by decide +kernel) hk1 hFc hP1 hD1
            clear hP hD hS hPc hDc hFc hk1 hz1 hvm ht hP1 hD1
            generalize H1 = H at hPn hSn ⊢
            have hP : va_P (dC, dI) vwCl [(o4, .inr (10, [.ref a41, .ref a42, .ref a43, .int l4])), (a42, .inl (cI, 512, .inl f42)), (a43, .inl (cI, 512, .inl f43)), (o5, .inr (10, [.ref a51, .ref a52, .ref a53, .int l5])), (a52, .inl (cI, 512, .inl f52)), (a53, .inl (cI, 512, .inl f53)), (nu, .inr (5, [.ref au, .int lu])), (au, .inl (cI, cap, .inl fu)), (oC, .inr (2, [.ref o4, .ref o5]))] H := hPn
            have hD : va_D A [(o4, .inr (10, [.ref a41, .ref a42, .ref a43, .int l4])), (a42, .inl (cI, 512, .inl f42)), (a43, .inl (cI, 512, .inl f43)), (o5, .inr (10, [.ref a51, .ref a52, .ref a53, .int l5])), (a52, .inl (cI, 512, .inl f52)), (a53, .inl (cI, 512, .inl f53)), (nu, .inr (5, [.ref au, .int lu])), (au, .inl (cI, cap, .inl fu)), (oC, .inr (2, [.ref o4, .ref o5]))] := hDn
            have hS := hSn
            clear hPn hDn hSn
            refine lv_astore (lv' := [(4, .ref o4), (0, .ref oC), (1, .int cd), (2, .int le), (3, .ref nu)]) hx hb dX2_encode_106 hl (by decide) rfl (fun ls hl => ?_)
            refine lv_aload hx hb dX2_encode_108 (lv_at hl 0 rfl) ?_
            refine lv_ifnonnull (tgt := 117) hx hb dX2_encode_110 (by decide) ?_
            refine lv_aload hx hb dX2_encode_117 (lv_at hl 0 rfl) ?_
            refine lv_iload_n hx hb dX2_encode_119 rfl (lv_at hl 3 rfl) ?_
            have hPc := hP.sub (ws' := [(o4, .inr (10, [.ref a41, .ref a42, .ref a43, .int l4])), (a42, .inl (cI, 512, .inl f42)), (a43, .inl (cI, 512, .inl f43))]) [0, 1, 2] rfl
            have hDc := hD.sub (ws' := [(o4, .inr (10, [.ref a41, .ref a42, .ref a43, .int l4])), (a42, .inl (cI, 512, .inl f42)), (a43, .inl (cI, 512, .inl f43))]) [0, 1, 2] (by decide +kernel) rfl
            have hFc := va_free (wc := [(o4, .inr (10, [.ref a41, .ref a42, .ref a43, .int l4])), (a42, .inl (cI, 512, .inl f42)), (a43, .inl (cI, 512, .inl f43))]) hD hS hA [0, 1, 2] rfl
            refine va_calli (va_runV (As := [.int le]) (rest := []) ⟨hx, hb, hml, hown, hts⟩ (m_X10_byteFor l dC dI cI cS H.size o4 a41 a42 a43 l4 f42 f43 le ) (cwV 1 hts gX2_encode_X10_byteFor rfl rfl rfl (by decide +kernel) ⟨Nat.le_of_ble_eq_true rfl, Nat.le_of_ble_eq_true rfl⟩) ⟨fun a U g mk q => by obtain ⟨q0, q1, qP, qK, qD⟩ := q; exact ⟨q0, q1, qP, va_K.moved (u := U) (U := U.calling g mk a) (Vm.Alike.refl U.vm) qK, qD⟩, va_recv hK hPc (ci := 10) (q0 := 0) rfl rfl, fun U hU hW => ⟨rfl, by rw [hU], by rw [hU]; exact hPc, va_K.moved hW.alike hK, hDc.weaken (fun _ _ _ _ => trivial)⟩⟩ rfl rfl hl.1 rfl (lv_room (Nat.le_of_ble_eq_true rfl)) dX2_encode_120 ⟨Nat.le_of_ble_eq_true rfl, Nat.le_of_ble_eq_true rfl⟩) hS (fun q _ h => hFc q h) hFc (fun r_18 u t H1 locs ht hvm hw hB hz1 hk1 hSn => ?_)
            subst hw
            obtain ⟨hP1, hD1⟩ := hB
            rw [ht] at hP1
            obtain ⟨hPn, hDn⟩ := va_join (wr := [(o5, .inr (10, [.ref a51, .ref a52, .ref a53, .int l5])), (a52, .inl (cI, 512, .inl f52)), (a53, .inl (cI, 512, .inl f53)), (nu, .inr (5, [.ref au, .int lu])), (au, .inl (cI, cap, .inl fu)), (oC, .inr (2, [.ref o4, .ref o5]))]) (w1 := [(o4, .inr (10, [.ref a41, .ref a42, .ref a43, .int l4])), (a42, .inl (cI, 512, .inl f42)), (a43, .inl (cI, 512, .inl f43))]) hP hD [0, 1, 2] [3, 4, 5, 6, 7, 8] rfl rfl (by decide +kernel) (by decide +kernel) hk1 hFc hP1 hD1
            clear hP hD hS hPc hDc hFc hk1 hz1 hvm ht hP1 hD1
            generalize H1 = H at hPn hSn ⊢
            have hP : va_P (dC, dI) vwCl [(o5, .inr (10, [.ref a51, .ref a52, .ref a53, .int l5])), (a52, .inl (cI, 512, .inl f52)), (a53, .inl (cI, 512, .inl f53)), (nu, .inr (5, [.ref au, .int lu])), (au, .inl (cI, cap, .inl fu)), (oC, .inr (2, [.ref o4, .ref o5])), (o4, .inr (10, [.ref a41, .ref a42, .ref a43, .int l4])), (a42, .inl (cI, 512, .inl f42)), (a43, .inl (cI, 512, .inl f43))] H := hPn
            have hD : va_D A [(o5, .inr (10, [.ref a51, .ref a52, .ref a53, .int l5])), (a52, .inl (cI, 512, .inl f52)), (a53, .inl (cI, 512, .inl f53)), (nu, .inr (5, [.ref au, .int lu])), (au, .inl (cI, cap, .inl fu)), (oC, .inr (2, [.ref o4, .ref o5])), (o4, .inr (10, [.ref a41, .ref a42, .ref a43, .int l4])), (a42, .inl (cI, 512, .inl f42)), (a43, .inl (cI, 512, .inl f43))] := hDn
            have hS := hSn
            clear hPn hDn hSn
            refine lv_istore (lv' := [(5, .int r_18), (4, .ref o4), (0, .ref oC), (1, .int cd), (2, .int le), (3, .ref nu)]) hx hb dX2_encode_123 hl (by decide) rfl (fun ls hl => ?_)
            refine lv_iload hx hb dX2_encode_125 (lv_at hl 0 rfl) ?_
            refine lv_iconst (v := (-1)) hx hb dX2_encode_127 (by decide) ?_
            refine lv_icmp_eq (tgt := 144) hx hb dX2_encode_128 (by decide) (fun c_19 => ?_) (fun c_19 => ?_)
            · have tc_19 : r_18.toInt = (-1) := v_eq c_19
              refine lv_iconst (v := 0) hx hb dX2_encode_144 (by decide) ?_
              have hP9 := hP.sub (ws' := [(oC, .inr (2, [.ref o4, .ref o5])), (o4, .inr (10, [.ref a41, .ref a42, .ref a43, .int l4])), (a42, .inl (cI, 512, .inl f42)), (a43, .inl (cI, 512, .inl f43)), (o5, .inr (10, [.ref a51, .ref a52, .ref a53, .int l5])), (a52, .inl (cI, 512, .inl f52)), (a53, .inl (cI, 512, .inl f53)), (nu, .inr (5, [.ref au, .int lu])), (au, .inl (cI, cap, .inl fu))]) [5, 6, 7, 8, 0, 1, 2, 3, 4] rfl
              have hD9 := hD.sub (ws' := [(oC, .inr (2, [.ref o4, .ref o5])), (o4, .inr (10, [.ref a41, .ref a42, .ref a43, .int l4])), (a42, .inl (cI, 512, .inl f42)), (a43, .inl (cI, 512, .inl f43)), (o5, .inr (10, [.ref a51, .ref a52, .ref a53, .int l5])), (a52, .inl (cI, 512, .inl f52)), (a53, .inl (cI, 512, .inl f53)), (nu, .inr (5, [.ref au, .int lu])), (au, .inl (cI, cap, .inl fu))]) [5, 6, 7, 8, 0, 1, 2, 3, 4] (by decide +kernel) rfl
              rw [hQQ]
              exact W.zret (v := 0) (ty := .boolean) hx hb hr (rfl) (fun t ht hW => ⟨⟨0, 0, rfl, rfl, ⟨lu, fu, by rw [ht]; exact hP9, hD9, g_lu, by decide⟩⟩, hS.F ht⟩) hS.2.2 dX2_encode_145
            · have tc_19 : ¬ r_18.toInt = (-1) := v_ne c_19
              refine lv_aload_n hx hb dX2_encode_131 rfl (lv_at hl 5 rfl) ?_
              refine lv_iload hx hb dX2_encode_132 (lv_at hl 0 rfl) ?_
              have hPc := hP.sub (ws' := [(nu, .inr (5, [.ref au, .int lu])), (au, .inl (cI, cap, .inl fu))]) [3, 4] rfl
              have hDc := hD.sub (ws' := [(nu, .inr (5, [.ref au, .int lu])), (au, .inl (cI, cap, .inl fu))]) [3, 4] (by decide +kernel) rfl
              have hFc := va_free (wc := [(nu, .inr (5, [.ref au, .int lu])), (au, .inl (cI, cap, .inl fu))]) hD hS hA [3, 4] rfl
              refine va_calli (va_runV (As := [.int r_18]) (rest := []) ⟨hx, hb, hml, hown, hts⟩ (m_X5_add l dC dI cI cS H.size nu au cap lu fu r_18 (g_lu) (by omega)) (cwV 1 hts gX2_encode_X5_add rfl rfl rfl (by decide +kernel) ⟨Nat.le_of_ble_eq_true rfl, Nat.le_of_ble_eq_true rfl⟩) ⟨fun a U g mk q => by obtain ⟨q0, q1, qP, qK, qD⟩ := q; exact ⟨q0, q1, qP, va_K.moved (u := U) (U := U.calling g mk a) (Vm.Alike.refl U.vm) qK, qD⟩, va_recv hK hPc (ci := 5) (q0 := 0) rfl rfl, fun U hU hW => ⟨rfl, by rw [hU], by rw [hU]; exact hPc, va_K.moved hW.alike hK, hDc.weaken (fun _ _ _ _ => trivial)⟩⟩ rfl rfl hl.1 rfl (lv_room (Nat.le_of_ble_eq_true rfl)) dX2_encode_134 ⟨Nat.le_of_ble_eq_true rfl, Nat.le_of_ble_eq_true rfl⟩) hS (fun q _ h => hFc q h) hFc (fun r_20 u t H1 locs ht hvm hw hB hz1 hk1 hSn => ?_)
              subst hw
              obtain ⟨lu_20, fu_20, hP1, hD1, hf20_0, hf20_1, hf20_2⟩ := hB
              rw [ht] at hP1
              obtain ⟨hPn, hDn⟩ := va_join (wr := [(o5, .inr (10, [.ref a51, .ref a52, .ref a53, .int l5])), (a52, .inl (cI, 512, .inl f52)), (a53, .inl (cI, 512, .inl f53)), (oC, .inr (2, [.ref o4, .ref o5])), (o4, .inr (10, [.ref a41, .ref a42, .ref a43, .int l4])), (a42, .inl (cI, 512, .inl f42)), (a43, .inl (cI, 512, .inl f43))]) (w1 := [(nu, .inr (5, [.ref au, .int lu_20])), (au, .inl (cI, cap, .inl fu_20))]) hP hD [3, 4] [0, 1, 2, 5, 6, 7, 8] rfl rfl (by decide +kernel) (by decide +kernel) hk1 hFc hP1 hD1
              clear hP hD hS hPc hDc hFc hk1 hz1 hvm ht hP1 hD1
              generalize H1 = H at hPn hSn ⊢
              have hP : va_P (dC, dI) vwCl [(o5, .inr (10, [.ref a51, .ref a52, .ref a53, .int l5])), (a52, .inl (cI, 512, .inl f52)), (a53, .inl (cI, 512, .inl f53)), (oC, .inr (2, [.ref o4, .ref o5])), (o4, .inr (10, [.ref a41, .ref a42, .ref a43, .int l4])), (a42, .inl (cI, 512, .inl f42)), (a43, .inl (cI, 512, .inl f43)), (nu, .inr (5, [.ref au, .int lu_20])), (au, .inl (cI, cap, .inl fu_20))] H := hPn
              have hD : va_D A [(o5, .inr (10, [.ref a51, .ref a52, .ref a53, .int l5])), (a52, .inl (cI, 512, .inl f52)), (a53, .inl (cI, 512, .inl f53)), (oC, .inr (2, [.ref o4, .ref o5])), (o4, .inr (10, [.ref a41, .ref a42, .ref a43, .int l4])), (a42, .inl (cI, 512, .inl f42)), (a43, .inl (cI, 512, .inl f43)), (nu, .inr (5, [.ref au, .int lu_20])), (au, .inl (cI, cap, .inl fu_20))] := hDn
              have hS := hSn
              clear hPn hDn hSn
              refine lv_if_eq (tgt := 144) hx hb dX2_encode_137 (by decide) (fun c_21 => ?_) (fun c_21 => ?_)
              · have tc_21 : r_20.toInt = 0 := v_eq c_21
                refine lv_iconst (v := 0) hx hb dX2_encode_144 (by decide) ?_
                have hP9 := hP.sub (ws' := [(oC, .inr (2, [.ref o4, .ref o5])), (o4, .inr (10, [.ref a41, .ref a42, .ref a43, .int l4])), (a42, .inl (cI, 512, .inl f42)), (a43, .inl (cI, 512, .inl f43)), (o5, .inr (10, [.ref a51, .ref a52, .ref a53, .int l5])), (a52, .inl (cI, 512, .inl f52)), (a53, .inl (cI, 512, .inl f53)), (nu, .inr (5, [.ref au, .int lu_20])), (au, .inl (cI, cap, .inl fu_20))]) [3, 4, 5, 6, 0, 1, 2, 7, 8] rfl
                have hD9 := hD.sub (ws' := [(oC, .inr (2, [.ref o4, .ref o5])), (o4, .inr (10, [.ref a41, .ref a42, .ref a43, .int l4])), (a42, .inl (cI, 512, .inl f42)), (a43, .inl (cI, 512, .inl f43)), (o5, .inr (10, [.ref a51, .ref a52, .ref a53, .int l5])), (a52, .inl (cI, 512, .inl f52)), (a53, .inl (cI, 512, .inl f53)), (nu, .inr (5, [.ref au, .int lu_20])), (au, .inl (cI, cap, .inl fu_20))]) [3, 4, 5, 6, 0, 1, 2, 7, 8] (by decide +kernel) rfl
                rw [hQQ]
                exact W.zret (v := 0) (ty := .boolean) hx hb hr (rfl) (fun t ht hW => ⟨⟨0, 0, rfl, rfl, ⟨lu_20, fu_20, by rw [ht]; exact hP9, hD9, hf20_0, by decide⟩⟩, hS.F ht⟩) hS.2.2 dX2_encode_145
              · have tc_21 : ¬ r_20.toInt = 0 := v_ne c_21
                refine lv_iconst (v := 1) hx hb dX2_encode_140 (by decide) ?_
                refine lv_goto (tgt := 145) hx hb dX2_encode_141 (by decide) ?_
                have hP9 := hP.sub (ws' := [(oC, .inr (2, [.ref o4, .ref o5])), (o4, .inr (10, [.ref a41, .ref a42, .ref a43, .int l4])), (a42, .inl (cI, 512, .inl f42)), (a43, .inl (cI, 512, .inl f43)), (o5, .inr (10, [.ref a51, .ref a52, .ref a53, .int l5])), (a52, .inl (cI, 512, .inl f52)), (a53, .inl (cI, 512, .inl f53)), (nu, .inr (5, [.ref au, .int lu_20])), (au, .inl (cI, cap, .inl fu_20))]) [3, 4, 5, 6, 0, 1, 2, 7, 8] rfl
                have hD9 := hD.sub (ws' := [(oC, .inr (2, [.ref o4, .ref o5])), (o4, .inr (10, [.ref a41, .ref a42, .ref a43, .int l4])), (a42, .inl (cI, 512, .inl f42)), (a43, .inl (cI, 512, .inl f43)), (o5, .inr (10, [.ref a51, .ref a52, .ref a53, .int l5])), (a52, .inl (cI, 512, .inl f52)), (a53, .inl (cI, 512, .inl f53)), (nu, .inr (5, [.ref au, .int lu_20])), (au, .inl (cI, cap, .inl fu_20))]) [3, 4, 5, 6, 0, 1, 2, 7, 8] (by decide +kernel) rfl
                rw [hQQ]
                exact W.zret (v := 1) (ty := .boolean) hx hb hr (rfl) (fun t ht hW => ⟨⟨1, 1, rfl, rfl, ⟨lu_20, fu_20, by rw [ht]; exact hP9, hD9, hf20_0, by decide⟩⟩, hS.F ht⟩) hS.2.2 dX2_encode_145
          · skip
            by_cases cs_22 : cd.toInt = 5
            · have hPc := hP.sub (ws' := [(oC, .inr (2, [.ref o4, .ref o5]))]) [0] rfl
              have hDc := hD.sub (ws' := [(oC, .inr (2, [.ref o4, .ref o5]))]) [0] (by decide +kernel) rfl
              have hFc := va_free (wc := [(oC, .inr (2, [.ref o4, .ref o5]))]) hD hS hA [0] rfl
              refine va_callr (va_runV (As := [.int cd]) (rest := []) ⟨hx, hb, hml, hown, hts⟩ (m_X2_toldCode_5 l dC dI cI cS s.heap.size oC o4 o5 cd (by omega)) (cwV 1 hts gX2_encode_X2_toldCode rfl rfl rfl (by decide +kernel) ⟨Nat.le_of_ble_eq_true rfl, Nat.le_of_ble_eq_true rfl⟩) ⟨fun a U g mk q => by obtain ⟨q0, q1, qP, qK, qD⟩ := q; exact ⟨q0, q1, qP, va_K.moved (u := U) (U := U.calling g mk a) (Vm.Alike.refl U.vm) qK, qD⟩, va_recv hK hPc (ci := 2) (q0 := 0) rfl rfl, fun U hU hW => ⟨rfl, by rw [hU], by rw [hU]; exact hPc, va_K.moved hW.alike hK, hDc.weaken (fun _ _ _ _ => trivial)⟩⟩ rfl rfl hl.1 rfl (lv_room (Nat.le_of_ble_eq_true rfl)) dX2_encode_103 ⟨Nat.le_of_ble_eq_true rfl, Nat.le_of_ble_eq_true rfl⟩) hS (fun q _ h => hFc q h) hFc (fun u r_23 t H1 locs ht hvm hw hB hz1 hk1 hSn => ?_)
              obtain ⟨hra, hP1, hD1⟩ := hB
              rw [hra]
              rw [ht] at hP1
              obtain ⟨hPn, hDn⟩ := va_join (wr := [(o4, .inr (10, [.ref a41, .ref a42, .ref a43, .int l4])), (a42, .inl (cI, 512, .inl f42)), (a43, .inl (cI, 512, .inl f43)), (o5, .inr (10, [.ref a51, .ref a52, .ref a53, .int l5])), (a52, .inl (cI, 512, .inl f52)), (a53, .inl (cI, 512, .inl f53)), (nu, .inr (5, [.ref au, .int lu])), (au, .inl (cI, cap, .inl fu))]) (w1 := [(oC, .inr (2, [.ref o4, .ref o5]))]) hP hD [0] [1, 2, 3, 4, 5, 6, 7, 8] rfl rfl (by decide +kernel) (by decide +kernel) hk1 hFc hP1 hD1
              clear hP hD hS hPc hDc hFc hk1 hz1 hvm ht hP1 hD1
              generalize H1 = H at hPn hSn ⊢
              have hP : va_P (dC, dI) vwCl [(o4, .inr (10, [.ref a41, .ref a42, .ref a43, .int l4])), (a42, .inl (cI, 512, .inl f42)), (a43, .inl (cI, 512, .inl f43)), (o5, .inr (10, [.ref a51, .ref a52, .ref a53, .int l5])), (a52, .inl (cI, 512, .inl f52)), (a53, .inl (cI, 512, .inl f53)), (nu, .inr (5, [.ref au, .int lu])), (au, .inl (cI, cap, .inl fu)), (oC, .inr (2, [.ref o4, .ref o5]))] H := hPn
              have hD : va_D A [(o4, .inr (10, [.ref a41, .ref a42, .ref a43, .int l4])), (a42, .inl (cI, 512, .inl f42)), (a43, .inl (cI, 512, .inl f43)), (o5, .inr (10, [.ref a51, .ref a52, .ref a53, .int l5])), (a52, .inl (cI, 512, .inl f52)), (a53, .inl (cI, 512, .inl f53)), (nu, .inr (5, [.ref au, .int lu])), (au, .inl (cI, cap, .inl fu)), (oC, .inr (2, [.ref o4, .ref o5]))] := hDn
              have hS := hSn
              clear hPn hDn hSn
              refine lv_astore (lv' := [(4, .ref o5), (0, .ref oC), (1, .int cd), (2, .int le), (3, .ref nu)]) hx hb dX2_encode_106 hl (by decide) rfl (fun ls hl => ?_)
              refine lv_aload hx hb dX2_encode_108 (lv_at hl 0 rfl) ?_
              refine lv_ifnonnull (tgt := 117) hx hb dX2_encode_110 (by decide) ?_
              refine lv_aload hx hb dX2_encode_117 (lv_at hl 0 rfl) ?_
              refine lv_iload_n hx hb dX2_encode_119 rfl (lv_at hl 3 rfl) ?_
              have hPc := hP.sub (ws' := [(o5, .inr (10, [.ref a51, .ref a52, .ref a53, .int l5])), (a52, .inl (cI, 512, .inl f52)), (a53, .inl (cI, 512, .inl f53))]) [3, 4, 5] rfl
              have hDc := hD.sub (ws' := [(o5, .inr (10, [.ref a51, .ref a52, .ref a53, .int l5])), (a52, .inl (cI, 512, .inl f52)), (a53, .inl (cI, 512, .inl f53))]) [3, 4, 5] (by decide +kernel) rfl
              have hFc := va_free (wc := [(o5, .inr (10, [.ref a51, .ref a52, .ref a53, .int l5])), (a52, .inl (cI, 512, .inl f52)), (a53, .inl (cI, 512, .inl f53))]) hD hS hA [3, 4, 5] rfl
              refine va_calli (va_runV (As := [.int le]) (rest := []) ⟨hx, hb, hml, hown, hts⟩ (m_X10_byteFor l dC dI cI cS H.size o5 a51 a52 a53 l5 f52 f53 le ) (cwV 1 hts gX2_encode_X10_byteFor rfl rfl rfl (by decide +kernel) ⟨Nat.le_of_ble_eq_true rfl, Nat.le_of_ble_eq_true rfl⟩) ⟨fun a U g mk q => by obtain ⟨q0, q1, qP, qK, qD⟩ := q; exact ⟨q0, q1, qP, va_K.moved (u := U) (U := U.calling g mk a) (Vm.Alike.refl U.vm) qK, qD⟩, va_recv hK hPc (ci := 10) (q0 := 0) rfl rfl, fun U hU hW => ⟨rfl, by rw [hU], by rw [hU]; exact hPc, va_K.moved hW.alike hK, hDc.weaken (fun _ _ _ _ => trivial)⟩⟩ rfl rfl hl.1 rfl (lv_room (Nat.le_of_ble_eq_true rfl)) dX2_encode_120 ⟨Nat.le_of_ble_eq_true rfl, Nat.le_of_ble_eq_true rfl⟩) hS (fun q _ h => hFc q h) hFc (fun r_24 u t H1 locs ht hvm hw hB hz1 hk1 hSn => ?_)
              subst hw
              obtain ⟨hP1, hD1⟩ := hB
              rw [ht] at hP1
              obtain ⟨hPn, hDn⟩ := va_join (wr := [(o4, .inr (10, [.ref a41, .ref a42, .ref a43, .int l4])), (a42, .inl (cI, 512, .inl f42)), (a43, .inl (cI, 512, .inl f43)), (nu, .inr (5, [.ref au, .int lu])), (au, .inl (cI, cap, .inl fu)), (oC, .inr (2, [.ref o4, .ref o5]))]) (w1 := [(o5, .inr (10, [.ref a51, .ref a52, .ref a53, .int l5])), (a52, .inl (cI, 512, .inl f52)), (a53, .inl (cI, 512, .inl f53))]) hP hD [3, 4, 5] [0, 1, 2, 6, 7, 8] rfl rfl (by decide +kernel) (by decide +kernel) hk1 hFc hP1 hD1
              clear hP hD hS hPc hDc hFc hk1 hz1 hvm ht hP1 hD1
              generalize H1 = H at hPn hSn ⊢
              have hP : va_P (dC, dI) vwCl [(o4, .inr (10, [.ref a41, .ref a42, .ref a43, .int l4])), (a42, .inl (cI, 512, .inl f42)), (a43, .inl (cI, 512, .inl f43)), (nu, .inr (5, [.ref au, .int lu])), (au, .inl (cI, cap, .inl fu)), (oC, .inr (2, [.ref o4, .ref o5])), (o5, .inr (10, [.ref a51, .ref a52, .ref a53, .int l5])), (a52, .inl (cI, 512, .inl f52)), (a53, .inl (cI, 512, .inl f53))] H := hPn
              have hD : va_D A [(o4, .inr (10, [.ref a41, .ref a42, .ref a43, .int l4])), (a42, .inl (cI, 512, .inl f42)), (a43, .inl (cI, 512, .inl f43)), (nu, .inr (5, [.ref au, .int lu])), (au, .inl (cI, cap, .inl fu)), (oC, .inr (2, [.ref o4, .ref o5])), (o5, .inr (10, [.ref a51, .ref a52, .ref a53, .int l5])), (a52, .inl (cI, 512, .inl f52)), (a53, .inl (cI, 512, .inl f53))] := hDn
              have hS := hSn
              clear hPn hDn hSn
              refine lv_istore (lv' := [(5, .int r_24), (4, .ref o5), (0, .ref oC), (1, .int cd), (2, .int le), (3, .ref nu)]) hx hb dX2_encode_123 hl (by decide) rfl (fun ls hl => ?_)
              refine lv_iload hx hb dX2_encode_125 (lv_at hl 0 rfl) ?_
              refine lv_iconst (v := (-1)) hx hb dX2_encode_127 (by decide) ?_
              refine lv_icmp_eq (tgt := 144) hx hb dX2_encode_128 (by decide) (fun c_25 => ?_) (fun c_25 => ?_)
              · have tc_25 : r_24.toInt = (-1) := v_eq c_25
                refine lv_iconst (v := 0) hx hb dX2_encode_144 (by decide) ?_
                have hP9 := hP.sub (ws' := [(oC, .inr (2, [.ref o4, .ref o5])), (o4, .inr (10, [.ref a41, .ref a42, .ref a43, .int l4])), (a42, .inl (cI, 512, .inl f42)), (a43, .inl (cI, 512, .inl f43)), (o5, .inr (10, [.ref a51, .ref a52, .ref a53, .int l5])), (a52, .inl (cI, 512, .inl f52)), (a53, .inl (cI, 512, .inl f53)), (nu, .inr (5, [.ref au, .int lu])), (au, .inl (cI, cap, .inl fu))]) [5, 0, 1, 2, 6, 7, 8, 3, 4] rfl
                have hD9 := hD.sub (ws' := [(oC, .inr (2, [.ref o4, .ref o5])), (o4, .inr (10, [.ref a41, .ref a42, .ref a43, .int l4])), (a42, .inl (cI, 512, .inl f42)), (a43, .inl (cI, 512, .inl f43)), (o5, .inr (10, [.ref a51, .ref a52, .ref a53, .int l5])), (a52, .inl (cI, 512, .inl f52)), (a53, .inl (cI, 512, .inl f53)), (nu, .inr (5, [.ref au, .int lu])), (au, .inl (cI, cap, .inl fu))]) [5, 0, 1, 2, 6, 7, 8, 3, 4] (by decide +kernel) rfl
                rw [hQQ]
                exact W.zret (v := 0) (ty := .boolean) hx hb hr (rfl) (fun t ht hW => ⟨⟨0, 0, rfl, rfl, ⟨lu, fu, by rw [ht]; exact hP9, hD9, g_lu, by decide⟩⟩, hS.F ht⟩) hS.2.2 dX2_encode_145
              · have tc_25 : ¬ r_24.toInt = (-1) := v_ne c_25
                refine lv_aload_n hx hb dX2_encode_131 rfl (lv_at hl 5 rfl) ?_
                refine lv_iload hx hb dX2_encode_132 (lv_at hl 0 rfl) ?_
                have hPc := hP.sub (ws' := [(nu, .inr (5, [.ref au, .int lu])), (au, .inl (cI, cap, .inl fu))]) [3, 4] rfl
                have hDc := hD.sub (ws' := [(nu, .inr (5, [.ref au, .int lu])), (au, .inl (cI, cap, .inl fu))]) [3, 4] (by decide +kernel) rfl
                have hFc := va_free (wc := [(nu, .inr (5, [.ref au, .int lu])), (au, .inl (cI, cap, .inl fu))]) hD hS hA [3, 4] rfl
                refine va_calli (va_runV (As := [.int r_24]) (rest := []) ⟨hx, hb, hml, hown, hts⟩ (m_X5_add l dC dI cI cS H.size nu au cap lu fu r_24 (g_lu) (by omega)) (cwV 1 hts gX2_encode_X5_add rfl rfl rfl (by decide +kernel) ⟨Nat.le_of_ble_eq_true rfl, Nat.le_of_ble_eq_true rfl⟩) ⟨fun a U g mk q => by obtain ⟨q0, q1, qP, qK, qD⟩ := q; exact ⟨q0, q1, qP, va_K.moved (u := U) (U := U.calling g mk a) (Vm.Alike.refl U.vm) qK, qD⟩, va_recv hK hPc (ci := 5) (q0 := 0) rfl rfl, fun U hU hW => ⟨rfl, by rw [hU], by rw [hU]; exact hPc, va_K.moved hW.alike hK, hDc.weaken (fun _ _ _ _ => trivial)⟩⟩ rfl rfl hl.1 rfl (lv_room (Nat.le_of_ble_eq_true rfl)) dX2_encode_134 ⟨Nat.le_of_ble_eq_true rfl, Nat.le_of_ble_eq_true rfl⟩) hS (fun q _ h => hFc q h) hFc (fun r_26 u t H1 locs ht hvm hw hB hz1 hk1 hSn => ?_)
                subst hw
                obtain ⟨lu_26, fu_26, hP1, hD1, hf26_0, hf26_1, hf26_2⟩ := hB
                rw [ht] at hP1
                obtain ⟨hPn, hDn⟩ := va_join (wr := [(o4, .inr (10, [.ref a41, .ref a42, .ref a43, .int l4])), (a42, .inl (cI, 512, .inl f42)), (a43, .inl (cI, 512, .inl f43)), (oC, .inr (2, [.ref o4, .ref o5])), (o5, .inr (10, [.ref a51, .ref a52, .ref a53, .int l5])), (a52, .inl (cI, 512, .inl f52)), (a53, .inl (cI, 512, .inl f53))]) (w1 := [(nu, .inr (5, [.ref au, .int lu_26])), (au, .inl (cI, cap, .inl fu_26))]) hP hD [3, 4] [0, 1, 2, 5, 6, 7, 8] rfl rfl (by decide +kernel) (by decide +kernel) hk1 hFc hP1 hD1
                clear hP hD hS hPc hDc hFc hk1 hz1 hvm ht hP1 hD1
                generalize H1 = H at hPn hSn ⊢
                have hP : va_P (dC, dI) vwCl [(o4, .inr (10, [.ref a41, .ref a42, .ref a43, .int l4])), (a42, .inl (cI, 512, .inl f42)), (a43, .inl (cI, 512, .inl f43)), (oC, .inr (2, [.ref o4, .ref o5])), (o5, .inr (10, [.ref a51, .ref a52, .ref a53, .int l5])), (a52, .inl (cI, 512, .inl f52)), (a53, .inl (cI, 512, .inl f53)), (nu, .inr (5, [.ref au, .int lu_26])), (au, .inl (cI, cap, .inl fu_26))] H := hPn
                have hD : va_D A [(o4, .inr (10, [.ref a41, .ref a42, .ref a43, .int l4])), (a42, .inl (cI, 512, .inl f42)), (a43, .inl (cI, 512, .inl f43)), (oC, .inr (2, [.ref o4, .ref o5])), (o5, .inr (10, [.ref a51, .ref a52, .ref a53, .int l5])), (a52, .inl (cI, 512, .inl f52)), (a53, .inl (cI, 512, .inl f53)), (nu, .inr (5, [.ref au, .int lu_26])), (au, .inl (cI, cap, .inl fu_26))] := hDn
                have hS := hSn
                clear hPn hDn hSn
                refine lv_if_eq (tgt := 144) hx hb dX2_encode_137 (by decide) (fun c_27 => ?_) (fun c_27 => ?_)
                · have tc_27 : r_26.toInt = 0 := v_eq c_27
                  refine lv_iconst (v := 0) hx hb dX2_encode_144 (by decide) ?_
                  have hP9 := hP.sub (ws' := [(oC, .inr (2, [.ref o4, .ref o5])), (o4, .inr (10, [.ref a41, .ref a42, .ref a43, .int l4])), (a42, .inl (cI, 512, .inl f42)), (a43, .inl (cI, 512, .inl f43)), (o5, .inr (10, [.ref a51, .ref a52, .ref a53, .int l5])), (a52, .inl (cI, 512, .inl f52)), (a53, .inl (cI, 512, .inl f53)), (nu, .inr (5, [.ref au, .int lu_26])), (au, .inl (cI, cap, .inl fu_26))]) [3, 0, 1, 2, 4, 5, 6, 7, 8] rfl
                  have hD9 := hD.sub (ws' := [(oC, .inr (2, [.ref o4, .ref o5])), (o4, .inr (10, [.ref a41, .ref a42, .ref a43, .int l4])), (a42, .inl (cI, 512, .inl f42)), (a43, .inl (cI, 512, .inl f43)), (o5, .inr (10, [.ref a51, .ref a52, .ref a53, .int l5])), (a52, .inl (cI, 512, .inl f52)), (a53, .inl (cI, 512, .inl f53)), (nu, .inr (5, [.ref au, .int lu_26])), (au, .inl (cI, cap, .inl fu_26))]) [3, 0, 1, 2, 4, 5, 6, 7, 8] (by decide +kernel) rfl
                  rw [hQQ]
                  exact W.zret (v := 0) (ty := .boolean) hx hb hr (rfl) (fun t ht hW => ⟨⟨0, 0, rfl, rfl, ⟨lu_26, fu_26, by rw [ht]; exact hP9, hD9, hf26_0, by decide⟩⟩, hS.F ht⟩) hS.2.2 dX2_encode_145
                · have tc_27 : ¬ r_26.toInt = 0 := v_ne c_27
                  refine lv_iconst (v := 1) hx hb dX2_encode_140 (by decide) ?_
                  refine lv_goto (tgt := 145) hx hb dX2_encode_141 (by decide) ?_
                  have hP9 := hP.sub (ws' := [(oC, .inr (2, [.ref o4, .ref o5])), (o4, .inr (10, [.ref a41, .ref a42, .ref a43, .int l4])), (a42, .inl (cI, 512, .inl f42)), (a43, .inl (cI, 512, .inl f43)), (o5, .inr (10, [.ref a51, .ref a52, .ref a53, .int l5])), (a52, .inl (cI, 512, .inl f52)), (a53, .inl (cI, 512, .inl f53)), (nu, .inr (5, [.ref au, .int lu_26])), (au, .inl (cI, cap, .inl fu_26))]) [3, 0, 1, 2, 4, 5, 6, 7, 8] rfl
                  have hD9 := hD.sub (ws' := [(oC, .inr (2, [.ref o4, .ref o5])), (o4, .inr (10, [.ref a41, .ref a42, .ref a43, .int l4])), (a42, .inl (cI, 512, .inl f42)), (a43, .inl (cI, 512, .inl f43)), (o5, .inr (10, [.ref a51, .ref a52, .ref a53, .int l5])), (a52, .inl (cI, 512, .inl f52)), (a53, .inl (cI, 512, .inl f53)), (nu, .inr (5, [.ref au, .int lu_26])), (au, .inl (cI, cap, .inl fu_26))]) [3, 0, 1, 2, 4, 5, 6, 7, 8] (by decide +kernel) rfl
                  rw [hQQ]
                  exact W.zret (v := 1) (ty := .boolean) hx hb hr (rfl) (fun t ht hW => ⟨⟨1, 1, rfl, rfl, ⟨lu_26, fu_26, by rw [ht]; exact hP9, hD9, hf26_0, by decide⟩⟩, hS.F ht⟩) hS.2.2 dX2_encode_145
            · skip
              have hPc := hP.sub (ws' := [(oC, .inr (2, [.ref o4, .ref o5]))]) [0] rfl
              have hDc := hD.sub (ws' := [(oC, .inr (2, [.ref o4, .ref o5]))]) [0] (by decide +kernel) rfl
              have hFc := va_free (wc := [(oC, .inr (2, [.ref o4, .ref o5]))]) hD hS hA [0] rfl
              refine va_callq (va_runV (As := [.int cd]) (rest := []) ⟨hx, hb, hml, hown, hts⟩ (m_X2_toldCode_n l dC dI cI cS s.heap.size oC o4 o5 cd (by omega) (by omega)) (cwV 1 hts gX2_encode_X2_toldCode rfl rfl rfl (by decide +kernel) ⟨Nat.le_of_ble_eq_true rfl, Nat.le_of_ble_eq_true rfl⟩) ⟨fun a U g mk q => by obtain ⟨q0, q1, qP, qK, qD⟩ := q; exact ⟨q0, q1, qP, va_K.moved (u := U) (U := U.calling g mk a) (Vm.Alike.refl U.vm) qK, qD⟩, va_recv hK hPc (ci := 2) (q0 := 0) rfl rfl, fun U hU hW => ⟨rfl, by rw [hU], by rw [hU]; exact hPc, va_K.moved hW.alike hK, hDc.weaken (fun _ _ _ _ => trivial)⟩⟩ rfl rfl hl.1 rfl (lv_room (Nat.le_of_ble_eq_true rfl)) dX2_encode_103 ⟨Nat.le_of_ble_eq_true rfl, Nat.le_of_ble_eq_true rfl⟩) hS (fun q _ h => hFc q h) hFc (fun r_28 u t H1 locs ht hvm hw hB hz1 hk1 hSn => ?_)
              obtain ⟨hP1, hD1⟩ := hB
              rw [ht] at hP1
              obtain ⟨hPn, hDn⟩ := va_join (wr := [(o4, .inr (10, [.ref a41, .ref a42, .ref a43, .int l4])), (a42, .inl (cI, 512, .inl f42)), (a43, .inl (cI, 512, .inl f43)), (o5, .inr (10, [.ref a51, .ref a52, .ref a53, .int l5])), (a52, .inl (cI, 512, .inl f52)), (a53, .inl (cI, 512, .inl f53)), (nu, .inr (5, [.ref au, .int lu])), (au, .inl (cI, cap, .inl fu))]) (w1 := [(oC, .inr (2, [.ref o4, .ref o5]))]) hP hD [0] [1, 2, 3, 4, 5, 6, 7, 8] rfl rfl (by decide +kernel) (by decide +kernel) hk1 hFc hP1 hD1
              clear hP hD hS hPc hDc hFc hk1 hz1 hvm ht hP1 hD1
              generalize H1 = H at hPn hSn ⊢
              have hP : va_P (dC, dI) vwCl [(o4, .inr (10, [.ref a41, .ref a42, .ref a43, .int l4])), (a42, .inl (cI, 512, .inl f42)), (a43, .inl (cI, 512, .inl f43)), (o5, .inr (10, [.ref a51, .ref a52, .ref a53, .int l5])), (a52, .inl (cI, 512, .inl f52)), (a53, .inl (cI, 512, .inl f53)), (nu, .inr (5, [.ref au, .int lu])), (au, .inl (cI, cap, .inl fu)), (oC, .inr (2, [.ref o4, .ref o5]))] H := hPn
              have hD : va_D A [(o4, .inr (10, [.ref a41, .ref a42, .ref a43, .int l4])), (a42, .inl (cI, 512, .inl f42)), (a43, .inl (cI, 512, .inl f43)), (o5, .inr (10, [.ref a51, .ref a52, .ref a53, .int l5])), (a52, .inl (cI, 512, .inl f52)), (a53, .inl (cI, 512, .inl f53)), (nu, .inr (5, [.ref au, .int lu])), (au, .inl (cI, cap, .inl fu)), (oC, .inr (2, [.ref o4, .ref o5]))] := hDn
              have hS := hSn
              clear hPn hDn hSn
              obtain rfl := hw
              refine W.eq (g2 := F0 m 106 ls [.null]) rfl ?_
              refine lv_astoreN (lv' := [(4, .null), (0, .ref oC), (1, .int cd), (2, .int le), (3, .ref nu)]) hx hb dX2_encode_106 hl (by decide) rfl (fun ls hl => ?_)
              refine lv_aloadN hx hb dX2_encode_108 (lv_at hl 0 rfl) ?_
              refine lv_ifnonnullN hx hb dX2_encode_110 ?_
              refine lv_iconst (v := (-1)) hx hb dX2_encode_113 (by decide) ?_
              refine lv_goto (tgt := 123) hx hb dX2_encode_114 (by decide) ?_
              refine lv_istore (lv' := [(5, .int (-1)), (4, .null), (0, .ref oC), (1, .int cd), (2, .int le), (3, .ref nu)]) hx hb dX2_encode_123 hl (by decide) rfl (fun ls hl => ?_)
              refine lv_iload hx hb dX2_encode_125 (lv_at hl 0 rfl) ?_
              refine lv_iconst (v := (-1)) hx hb dX2_encode_127 (by decide) ?_
              refine lv_icmp_eq (tgt := 144) hx hb dX2_encode_128 (by decide) (fun c_29 => ?_) (fun c_29 => absurd c_29 (by decide))
              refine lv_iconst (v := 0) hx hb dX2_encode_144 (by decide) ?_
              have hP9 := hP.sub (ws' := [(oC, .inr (2, [.ref o4, .ref o5])), (o4, .inr (10, [.ref a41, .ref a42, .ref a43, .int l4])), (a42, .inl (cI, 512, .inl f42)), (a43, .inl (cI, 512, .inl f43)), (o5, .inr (10, [.ref a51, .ref a52, .ref a53, .int l5])), (a52, .inl (cI, 512, .inl f52)), (a53, .inl (cI, 512, .inl f53)), (nu, .inr (5, [.ref au, .int lu])), (au, .inl (cI, cap, .inl fu))]) [8, 0, 1, 2, 3, 4, 5, 6, 7] rfl
              have hD9 := hD.sub (ws' := [(oC, .inr (2, [.ref o4, .ref o5])), (o4, .inr (10, [.ref a41, .ref a42, .ref a43, .int l4])), (a42, .inl (cI, 512, .inl f42)), (a43, .inl (cI, 512, .inl f43)), (o5, .inr (10, [.ref a51, .ref a52, .ref a53, .int l5])), (a52, .inl (cI, 512, .inl f52)), (a53, .inl (cI, 512, .inl f53)), (nu, .inr (5, [.ref au, .int lu])), (au, .inl (cI, cap, .inl fu))]) [8, 0, 1, 2, 3, 4, 5, 6, 7] (by decide +kernel) rfl
              rw [hQQ]
              exact W.zret (v := 0) (ty := .boolean) hx hb hr (rfl) (fun t ht hW => ⟨⟨0, 0, rfl, rfl, ⟨lu, fu, by rw [ht]; exact hP9, hD9, g_lu, by decide⟩⟩, hS.F ht⟩) hS.2.2 dX2_encode_145

set_option maxHeartbeats 40000000 in
set_option maxRecDepth 100000 in
theorem m_X2_isWritten (l : Launch) (dC : Nat → ClassId) (dI : Nat → Nat → Nat) (cI cS : ClassId) (sz : Nat) (oC : Nat) (o4 : Nat) (o5 : Nat) (a41 : Nat) (a42 : Nat) (a43 : Nat) (a51 : Nat) (a52 : Nat) (a53 : Nat) (l4 : Int32) (f41 : Nat → Int32) (l5 : Int32) (f51 : Nat → Int32) (cd : Int32) (v : Int32)  : Met l yX2_isWritten wsX2_isWritten ({ frames := 2, cells := 0, slots := 0, locals := 44 } : Room) (va_Pc [.ref oC, .int cd, .int v] (fun U => U.heap.size = sz ∧ va_P (dC, dI) vwCl [(oC, .inr (2, [.ref o4, .ref o5])), (o4, .inr (10, [.ref a41, .ref a42, .ref a43, .int l4])), (a41, .inl (cI, 256, .inl f41)), (o5, .inr (10, [.ref a51, .ref a52, .ref a53, .int l5])), (a51, .inl (cI, 256, .inl f51))] U.heap ∧ va_K (dC, dI) vwCl [(cI, .int), (cS, .short)] U ∧ va_D (fun _ => True) [(oC, .inr (2, [.ref o4, .ref o5])), (o4, .inr (10, [.ref a41, .ref a42, .ref a43, .int l4])), (a41, .inl (cI, 256, .inl f41)), (o5, .inr (10, [.ref a51, .ref a52, .ref a53, .int l5])), (a51, .inl (cI, 256, .inl f51))])) (va_Qi (fun (r : Int32) (u : Int32) => r = u) (fun (r : Int32) t => va_P (dC, dI) vwCl [(oC, .inr (2, [.ref o4, .ref o5])), (o4, .inr (10, [.ref a41, .ref a42, .ref a43, .int l4])), (a41, .inl (cI, 256, .inl f41)), (o5, .inr (10, [.ref a51, .ref a52, .ref a53, .int l5])), (a51, .inl (cI, 256, .inl f51))] t.heap ∧ va_D (va_A [(oC, .inr (2, [.ref o4, .ref o5])), (o4, .inr (10, [.ref a41, .ref a42, .ref a43, .int l4])), (a41, .inl (cI, 256, .inl f41)), (o5, .inr (10, [.ref a51, .ref a52, .ref a53, .int l5])), (a51, .inl (cI, 256, .inl f51))] sz) [(oC, .inr (2, [.ref o4, .ref o5])), (o4, .inr (10, [.ref a41, .ref a42, .ref a43, .int l4])), (a41, .inl (cI, 256, .inl f41)), (o5, .inr (10, [.ref a51, .ref a52, .ref a53, .int l5])), (a51, .inl (cI, 256, .inl f51))] ∧ (0 ≤ r.toInt ∧ r.toInt ≤ 1)) (va_A [(oC, .inr (2, [.ref o4, .ref o5])), (o4, .inr (10, [.ref a41, .ref a42, .ref a43, .int l4])), (a41, .inl (cI, 256, .inl f41)), (o5, .inr (10, [.ref a51, .ref a52, .ref a53, .int l5])), (a51, .inl (cI, 256, .inl f51))] sz)) 0 0 (va_A [(oC, .inr (2, [.ref o4, .ref o5])), (o4, .inr (10, [.ref a41, .ref a42, .ref a43, .int l4])), (a41, .inl (cI, 256, .inl f41)), (o5, .inr (10, [.ref a51, .ref a52, .ref a53, .int l5])), (a51, .inl (cI, 256, .inl f51))] sz) := by
  refine Met.ofW (cc := cX2_isWritten) (maxL := 3) (ret := (some .boolean)) (by decide) rfl ?_
  intro p e s m args below meth c s₁ B hml hv
  obtain ⟨rfl, hsz, hP, hK, hD0⟩ := hv
  have hx := B.exec
  have hb := B.bytes
  have hr := B.returns
  have hts := atoms_spec (ws := wsX2_isWritten) B.pre
  have hown : s.vm.findClass RX2 = some m.cls := findClass_of_methodNamed B.named
  have hlocks := B.notSynchronized
  subst hsz
  have hD := hD0.self (sz := s.heap.size)
  generalize hAe : va_A [(oC, .inr (2, [.ref o4, .ref o5])), (o4, .inr (10, [.ref a41, .ref a42, .ref a43, .int l4])), (a41, .inl (cI, 256, .inl f41)), (o5, .inr (10, [.ref a51, .ref a52, .ref a53, .int l5])), (a51, .inl (cI, 256, .inl f51))] s.heap.size = A at hD ⊢
  have hA : ∀ q : Nat, s.heap.size ≤ q → A q := fun q h => by rw [← hAe]; exact Or.inr h
  have hS : va_S A s.heap s.heap [] := va_S.rf
  have hP : va_P (dC, dI) vwCl [(oC, .inr (2, [.ref o4, .ref o5])), (o4, .inr (10, [.ref a41, .ref a42, .ref a43, .int l4])), (a41, .inl (cI, 256, .inl f41)), (o5, .inr (10, [.ref a51, .ref a52, .ref a53, .int l5])), (a51, .inl (cI, 256, .inl f51))] s.heap := hP
  have hl := lv_entry ([.ref oC, .int cd, .int v]) (n := 3) (Nat.le_of_ble_eq_true rfl)
  rw [lg_entry_eq]
  generalize (lg_sl ([.ref oC, .int cd, .int v]) ++ List.replicate (3 - (lg_sl ([.ref oC, .int cd, .int v])).length) Slot.unset).toArray = ls at hl ⊢
  have hl : lv_has ls 3 [(0, .ref oC), (1, .int cd), (2, .int v)] := hl
  obtain ⟨QQ, hQQ⟩ : ∃ QQ : Array Value → State → Outcome → State → Prop, QQ = va_Qi (fun (r : Int32) (u : Int32) => r = u) (fun (r : Int32) t => va_P (dC, dI) vwCl [(oC, .inr (2, [.ref o4, .ref o5])), (o4, .inr (10, [.ref a41, .ref a42, .ref a43, .int l4])), (a41, .inl (cI, 256, .inl f41)), (o5, .inr (10, [.ref a51, .ref a52, .ref a53, .int l5])), (a51, .inl (cI, 256, .inl f51))] t.heap ∧ va_D A [(oC, .inr (2, [.ref o4, .ref o5])), (o4, .inr (10, [.ref a41, .ref a42, .ref a43, .int l4])), (a41, .inl (cI, 256, .inl f41)), (o5, .inr (10, [.ref a51, .ref a52, .ref a53, .int l5])), (a51, .inl (cI, 256, .inl f51))] ∧ (0 ≤ r.toInt ∧ r.toInt ≤ 1)) A := ⟨_, rfl⟩
  rw [← hQQ]
  refine lv_iload_n hx hb dX2_isWritten_0 rfl (lv_at hl 1 rfl) ?_
  by_cases c_1 : cd = 2
  · refine lv_lookup (tgt := 28) hx hb dX2_isWritten_1 (by decide) (by rw [c_1] <;> rfl) (by decide) ?_
    have tc_1 : cd.toInt = 2 := v_eq c_1
    refine lv_iload_n hx hb dX2_isWritten_28 rfl (lv_at hl 2 rfl) ?_
    refine lv_sipush (v := 192) hx hb dX2_isWritten_29 (by decide) ?_
    refine lv_icmp_lt (tgt := 49) hx hb dX2_isWritten_32 (by decide) (fun c_2 => ?_) (fun c_2 => ?_)
    · have tc_2 : v.toInt < 192 := v_lt c_2
      refine lv_iconst (v := 1) hx hb dX2_isWritten_49 (by decide) ?_
      refine lv_goto (tgt := 54) hx hb dX2_isWritten_50 (by decide) ?_
      have hP9 := hP.sub (ws' := [(oC, .inr (2, [.ref o4, .ref o5])), (o4, .inr (10, [.ref a41, .ref a42, .ref a43, .int l4])), (a41, .inl (cI, 256, .inl f41)), (o5, .inr (10, [.ref a51, .ref a52, .ref a53, .int l5])), (a51, .inl (cI, 256, .inl f51))]) [0, 1, 2, 3, 4] rfl
      have hD9 := hD.sub (ws' := [(oC, .inr (2, [.ref o4, .ref o5])), (o4, .inr (10, [.ref a41, .ref a42, .ref a43, .int l4])), (a41, .inl (cI, 256, .inl f41)), (o5, .inr (10, [.ref a51, .ref a52, .ref a53, .int l5])), (a51, .inl (cI, 256, .inl f51))]) [0, 1, 2, 3, 4] (by decide +kernel) rfl
      rw [hQQ]
      exact W.zret (v := 1) (ty := .boolean) hx hb hr (rfl) (fun t ht hW => ⟨⟨1, 1, rfl, rfl, ⟨by rw [ht]; exact hP9, hD9, by decide⟩⟩, hS.F ht⟩) hS.2.2 dX2_isWritten_54
    · have tc_2 : 192 ≤ v.toInt := v_nlt c_2
      refine lv_iload_n hx hb dX2_isWritten_35 rfl (lv_at hl 2 rfl) ?_
      refine lv_sipush (v := 193) hx hb dX2_isWritten_36 (by decide) ?_
      refine lv_icmp_le (tgt := 53) hx hb dX2_isWritten_39 (by decide) (fun c_3 => ?_) (fun c_3 => ?_)
      · have tc_3 : v.toInt ≤ 193 := v_le c_3
        refine lv_iconst (v := 0) hx hb dX2_isWritten_53 (by decide) ?_
        have hP9 := hP.sub (ws' := [(oC, .inr (2, [.ref o4, .ref o5])), (o4, .inr (10, [.ref a41, .ref a42, .ref a43, .int l4])), (a41, .inl (cI, 256, .inl f41)), (o5, .inr (10, [.ref a51, .ref a52, .ref a53, .int l5])), (a51, .inl (cI, 256, .inl f51))]) [0, 1, 2, 3, 4] rfl
        have hD9 := hD.sub (ws' := [(oC, .inr (2, [.ref o4, .ref o5])), (o4, .inr (10, [.ref a41, .ref a42, .ref a43, .int l4])), (a41, .inl (cI, 256, .inl f41)), (o5, .inr (10, [.ref a51, .ref a52, .ref a53, .int l5])), (a51, .inl (cI, 256, .inl f51))]) [0, 1, 2, 3, 4] (by decide +kernel) rfl
        rw [hQQ]
        exact W.zret (v := 0) (ty := .boolean) hx hb hr (rfl) (fun t ht hW => ⟨⟨0, 0, rfl, rfl, ⟨by rw [ht]; exact hP9, hD9, by decide⟩⟩, hS.F ht⟩) hS.2.2 dX2_isWritten_54
      · have tc_3 : 193 < v.toInt := v_nle c_3
        refine lv_iload_n hx hb dX2_isWritten_42 rfl (lv_at hl 2 rfl) ?_
        refine lv_sipush (v := 240) hx hb dX2_isWritten_43 (by decide) ?_
        refine lv_icmp_ge (tgt := 53) hx hb dX2_isWritten_46 (by decide) (fun c_4 => ?_) (fun c_4 => ?_)
        · have tc_4 : 240 ≤ v.toInt := v_le c_4
          refine lv_iconst (v := 0) hx hb dX2_isWritten_53 (by decide) ?_
          have hP9 := hP.sub (ws' := [(oC, .inr (2, [.ref o4, .ref o5])), (o4, .inr (10, [.ref a41, .ref a42, .ref a43, .int l4])), (a41, .inl (cI, 256, .inl f41)), (o5, .inr (10, [.ref a51, .ref a52, .ref a53, .int l5])), (a51, .inl (cI, 256, .inl f51))]) [0, 1, 2, 3, 4] rfl
          have hD9 := hD.sub (ws' := [(oC, .inr (2, [.ref o4, .ref o5])), (o4, .inr (10, [.ref a41, .ref a42, .ref a43, .int l4])), (a41, .inl (cI, 256, .inl f41)), (o5, .inr (10, [.ref a51, .ref a52, .ref a53, .int l5])), (a51, .inl (cI, 256, .inl f51))]) [0, 1, 2, 3, 4] (by decide +kernel) rfl
          rw [hQQ]
          exact W.zret (v := 0) (ty := .boolean) hx hb hr (rfl) (fun t ht hW => ⟨⟨0, 0, rfl, rfl, ⟨by rw [ht]; exact hP9, hD9, by decide⟩⟩, hS.F ht⟩) hS.2.2 dX2_isWritten_54
        · have tc_4 : v.toInt < 240 := v_nle c_4
          refine lv_iconst (v := 1) hx hb dX2_isWritten_49 (by decide) ?_
          refine lv_goto (tgt := 54) hx hb dX2_isWritten_50 (by decide) ?_
          have hP9 := hP.sub (ws' := [(oC, .inr (2, [.ref o4, .ref o5])), (o4, .inr (10, [.ref a41, .ref a42, .ref a43, .int l4])), (a41, .inl (cI, 256, .inl f41)), (o5, .inr (10, [.ref a51, .ref a52, .ref a53, .int l5])), (a51, .inl (cI, 256, .inl f51))]) [0, 1, 2, 3, 4] rfl
          have hD9 := hD.sub (ws' := [(oC, .inr (2, [.ref o4, .ref o5])), (o4, .inr (10, [.ref a41, .ref a42, .ref a43, .int l4])), (a41, .inl (cI, 256, .inl f41)), (o5, .inr (10, [.ref a51, .ref a52, .ref a53, .int l5])), (a51, .inl (cI, 256, .inl f51))]) [0, 1, 2, 3, 4] (by decide +kernel) rfl
          rw [hQQ]
          exact W.zret (v := 1) (ty := .boolean) hx hb hr (rfl) (fun t ht hW => ⟨⟨1, 1, rfl, rfl, ⟨by rw [ht]; exact hP9, hD9, by decide⟩⟩, hS.F ht⟩) hS.2.2 dX2_isWritten_54
  · skip
    have tc_1 : ¬ cd.toInt = 2 := v_ne c_1
    by_cases c_5 : cd = 3
    · refine lv_lookup (tgt := 55) hx hb dX2_isWritten_1 (by decide) (by rw [c_5] <;> rfl) (by decide) ?_
      have tc_5 : cd.toInt = 3 := v_eq c_5
      refine lv_iload_n hx hb dX2_isWritten_55 rfl (lv_at hl 2 rfl) ?_
      refine lv_sipush (v := 128) hx hb dX2_isWritten_56 (by decide) ?_
      refine lv_icmp_ge (tgt := 66) hx hb dX2_isWritten_59 (by decide) (fun c_6 => ?_) (fun c_6 => ?_)
      · have tc_6 : 128 ≤ v.toInt := v_le c_6
        refine lv_iconst (v := 0) hx hb dX2_isWritten_66 (by decide) ?_
        have hP9 := hP.sub (ws' := [(oC, .inr (2, [.ref o4, .ref o5])), (o4, .inr (10, [.ref a41, .ref a42, .ref a43, .int l4])), (a41, .inl (cI, 256, .inl f41)), (o5, .inr (10, [.ref a51, .ref a52, .ref a53, .int l5])), (a51, .inl (cI, 256, .inl f51))]) [0, 1, 2, 3, 4] rfl
        have hD9 := hD.sub (ws' := [(oC, .inr (2, [.ref o4, .ref o5])), (o4, .inr (10, [.ref a41, .ref a42, .ref a43, .int l4])), (a41, .inl (cI, 256, .inl f41)), (o5, .inr (10, [.ref a51, .ref a52, .ref a53, .int l5])), (a51, .inl (cI, 256, .inl f51))]) [0, 1, 2, 3, 4] (by decide +kernel) rfl
        rw [hQQ]
        exact W.zret (v := 0) (ty := .boolean) hx hb hr (rfl) (fun t ht hW => ⟨⟨0, 0, rfl, rfl, ⟨by rw [ht]; exact hP9, hD9, by decide⟩⟩, hS.F ht⟩) hS.2.2 dX2_isWritten_67
      · have tc_6 : v.toInt < 128 := v_nle c_6
        refine lv_iconst (v := 1) hx hb dX2_isWritten_62 (by decide) ?_
        refine lv_goto (tgt := 67) hx hb dX2_isWritten_63 (by decide) ?_
        have hP9 := hP.sub (ws' := [(oC, .inr (2, [.ref o4, .ref o5])), (o4, .inr (10, [.ref a41, .ref a42, .ref a43, .int l4])), (a41, .inl (cI, 256, .inl f41)), (o5, .inr (10, [.ref a51, .ref a52, .ref a53, .int l5])), (a51, .inl (cI, 256, .inl f51))]) [0, 1, 2, 3, 4] rfl
        have hD9 := hD.sub (ws' := [(oC, .inr (2, [.ref o4, .ref o5])), (o4, .inr (10, [.ref a41, .ref a42, .ref a43, .int l4])), (a41, .inl (cI, 256, .inl f41)), (o5, .inr (10, [.ref a51, .ref a52, .ref a53, .int l5])), (a51, .inl (cI, 256, .inl f51))]) [0, 1, 2, 3, 4] (by decide +kernel) rfl
        rw [hQQ]
        exact W.zret (v := 1) (ty := .boolean) hx hb hr (rfl) (fun t ht hW => ⟨⟨1, 1, rfl, rfl, ⟨by rw [ht]; exact hP9, hD9, by decide⟩⟩, hS.F ht⟩) hS.2.2 dX2_isWritten_67
    · skip
      have tc_5 : ¬ cd.toInt = 3 := v_ne c_5
      refine lv_lookup (tgt := 68) hx hb dX2_isWritten_1 (by decide) (by show Op.lookupswitch.offset [(2, 27), (3, 54)] _ _ = 67; rw [lv_osw (a := 2) c_1 rfl, lv_osw (a := 3) c_5 rfl] <;> rfl) (by decide) ?_
      refine lv_aload_n hx hb dX2_isWritten_68 rfl (lv_at hl 0 rfl) ?_
      refine lv_iload_n hx hb dX2_isWritten_69 rfl (lv_at hl 1 rfl) ?_
      refine lv_iload_n hx hb dX2_isWritten_70 rfl (lv_at hl 2 rfl) ?_
      have hPc := hP.sub (ws' := [(oC, .inr (2, [.ref o4, .ref o5])), (o4, .inr (10, [.ref a41, .ref a42, .ref a43, .int l4])), (a41, .inl (cI, 256, .inl f41)), (o5, .inr (10, [.ref a51, .ref a52, .ref a53, .int l5])), (a51, .inl (cI, 256, .inl f51))]) [0, 1, 2, 3, 4] rfl
      have hDc := hD.sub (ws' := [(oC, .inr (2, [.ref o4, .ref o5])), (o4, .inr (10, [.ref a41, .ref a42, .ref a43, .int l4])), (a41, .inl (cI, 256, .inl f41)), (o5, .inr (10, [.ref a51, .ref a52, .ref a53, .int l5])), (a51, .inl (cI, 256, .inl f51))]) [0, 1, 2, 3, 4] (by decide +kernel) rfl
      have hFc := va_free (wc := [(oC, .inr (2, [.ref o4, .ref o5])), (o4, .inr (10, [.ref a41, .ref a42, .ref a43, .int l4])), (a41, .inl (cI, 256, .inl f41)), (o5, .inr (10, [.ref a51, .ref a52, .ref a53, .int l5])), (a51, .inl (cI, 256, .inl f51))]) hD hS hA [0, 1, 2, 3, 4] rfl
      refine va_calli (va_runV (As := [.int cd, .int v]) (rest := []) ⟨hx, hb, hml, hown, hts⟩ (m_X2_letterAlone l dC dI cI cS s.heap.size oC o4 o5 a41 a42 a43 a51 a52 a53 l4 f41 l5 f51 cd v ) (cwV 2 hts gX2_isWritten_X2_letterAlone rfl rfl rfl (by decide +kernel) ⟨Nat.le_of_ble_eq_true rfl, Nat.le_of_ble_eq_true rfl⟩) ⟨fun a U g mk q => by obtain ⟨q0, q1, qP, qK, qD⟩ := q; exact ⟨q0, q1, qP, va_K.moved (u := U) (U := U.calling g mk a) (Vm.Alike.refl U.vm) qK, qD⟩, va_recv hK hPc (ci := 2) (q0 := 0) rfl rfl, fun U hU hW => ⟨rfl, by rw [hU], by rw [hU]; exact hPc, va_K.moved hW.alike hK, hDc.weaken (fun _ _ _ _ => trivial)⟩⟩ rfl rfl hl.1 rfl (lv_room (Nat.le_of_ble_eq_true rfl)) dX2_isWritten_71 ⟨Nat.le_of_ble_eq_true rfl, Nat.le_of_ble_eq_true rfl⟩) hS (fun q _ h => hFc q h) hFc (fun r_7 u t H1 locs ht hvm hw hB hz1 hk1 hSn => ?_)
      subst hw
      obtain ⟨hP1, hD1⟩ := hB
      rw [ht] at hP1
      obtain ⟨hPn, hDn⟩ := va_join (wr := []) (w1 := [(oC, .inr (2, [.ref o4, .ref o5])), (o4, .inr (10, [.ref a41, .ref a42, .ref a43, .int l4])), (a41, .inl (cI, 256, .inl f41)), (o5, .inr (10, [.ref a51, .ref a52, .ref a53, .int l5])), (a51, .inl (cI, 256, .inl f51))]) hP hD [0, 1, 2, 3, 4] [] rfl rfl (by decide +kernel) (by decide +kernel) hk1 hFc hP1 hD1
      clear hP hD hS hPc hDc hFc hk1 hz1 hvm ht hP1 hD1
      generalize H1 = H at hPn hSn ⊢
      have hP : va_P (dC, dI) vwCl [(oC, .inr (2, [.ref o4, .ref o5])), (o4, .inr (10, [.ref a41, .ref a42, .ref a43, .int l4])), (a41, .inl (cI, 256, .inl f41)), (o5, .inr (10, [.ref a51, .ref a52, .ref a53, .int l5])), (a51, .inl (cI, 256, .inl f51))] H := hPn
      have hD : va_D A [(oC, .inr (2, [.ref o4, .ref o5])), (o4, .inr (10, [.ref a41, .ref a42, .ref a43, .int l4])), (a41, .inl (cI, 256, .inl f41)), (o5, .inr (10, [.ref a51, .ref a52, .ref a53, .int l5])), (a51, .inl (cI, 256, .inl f51))] := hDn
      have hS := hSn
      clear hPn hDn hSn
      refine lv_iconst (v := (-1)) hx hb dX2_isWritten_74 (by decide) ?_
      refine lv_icmp_eq (tgt := 82) hx hb dX2_isWritten_75 (by decide) (fun c_8 => ?_) (fun c_8 => ?_)
      · have tc_8 : r_7.toInt = (-1) := v_eq c_8
        refine lv_iconst (v := 0) hx hb dX2_isWritten_82 (by decide) ?_
        have hP9 := hP.sub (ws' := [(oC, .inr (2, [.ref o4, .ref o5])), (o4, .inr (10, [.ref a41, .ref a42, .ref a43, .int l4])), (a41, .inl (cI, 256, .inl f41)), (o5, .inr (10, [.ref a51, .ref a52, .ref a53, .int l5])), (a51, .inl (cI, 256, .inl f51))]) [0, 1, 2, 3, 4] rfl
        have hD9 := hD.sub (ws' := [(oC, .inr (2, [.ref o4, .ref o5])), (o4, .inr (10, [.ref a41, .ref a42, .ref a43, .int l4])), (a41, .inl (cI, 256, .inl f41)), (o5, .inr (10, [.ref a51, .ref a52, .ref a53, .int l5])), (a51, .inl (cI, 256, .inl f51))]) [0, 1, 2, 3, 4] (by decide +kernel) rfl
        rw [hQQ]
        exact W.zret (v := 0) (ty := .boolean) hx hb hr (rfl) (fun t ht hW => ⟨⟨0, 0, rfl, rfl, ⟨by rw [ht]; exact hP9, hD9, by decide⟩⟩, hS.F ht⟩) hS.2.2 dX2_isWritten_83
      · have tc_8 : ¬ r_7.toInt = (-1) := v_ne c_8
        refine lv_iconst (v := 1) hx hb dX2_isWritten_78 (by decide) ?_
        refine lv_goto (tgt := 83) hx hb dX2_isWritten_79 (by decide) ?_
        have hP9 := hP.sub (ws' := [(oC, .inr (2, [.ref o4, .ref o5])), (o4, .inr (10, [.ref a41, .ref a42, .ref a43, .int l4])), (a41, .inl (cI, 256, .inl f41)), (o5, .inr (10, [.ref a51, .ref a52, .ref a53, .int l5])), (a51, .inl (cI, 256, .inl f51))]) [0, 1, 2, 3, 4] rfl
        have hD9 := hD.sub (ws' := [(oC, .inr (2, [.ref o4, .ref o5])), (o4, .inr (10, [.ref a41, .ref a42, .ref a43, .int l4])), (a41, .inl (cI, 256, .inl f41)), (o5, .inr (10, [.ref a51, .ref a52, .ref a53, .int l5])), (a51, .inl (cI, 256, .inl f51))]) [0, 1, 2, 3, 4] (by decide +kernel) rfl
        rw [hQQ]
        exact W.zret (v := 1) (ty := .boolean) hx hb hr (rfl) (fun t ht hW => ⟨⟨1, 1, rfl, rfl, ⟨by rw [ht]; exact hP9, hD9, by decide⟩⟩, hS.F ht⟩) hS.2.2 dX2_isWritten_83

set_option maxHeartbeats 40000000 in
set_option maxRecDepth 100000 in
theorem m_X2_neverLost (l : Launch) (dC : Nat → ClassId) (dI : Nat → Nat → Nat) (cI cS : ClassId) (sz : Nat) (oC : Nat) (o4 : Nat) (o5 : Nat) (a41 : Nat) (a42 : Nat) (a43 : Nat) (a51 : Nat) (a52 : Nat) (a53 : Nat) (l4 : Int32) (f41 : Nat → Int32) (l5 : Int32) (f51 : Nat → Int32) (a : Int32) (b : Int32)  : Met l yX2_neverLost wsX2_neverLost ({ frames := 3, cells := 0, slots := 0, locals := 66 } : Room) (va_Pc [.ref oC, .int a, .int b] (fun U => U.heap.size = sz ∧ va_P (dC, dI) vwCl [(oC, .inr (2, [.ref o4, .ref o5])), (o4, .inr (10, [.ref a41, .ref a42, .ref a43, .int l4])), (a41, .inl (cI, 256, .inl f41)), (o5, .inr (10, [.ref a51, .ref a52, .ref a53, .int l5])), (a51, .inl (cI, 256, .inl f51))] U.heap ∧ va_K (dC, dI) vwCl [(cI, .int), (cS, .short)] U ∧ va_D (fun _ => True) [(oC, .inr (2, [.ref o4, .ref o5])), (o4, .inr (10, [.ref a41, .ref a42, .ref a43, .int l4])), (a41, .inl (cI, 256, .inl f41)), (o5, .inr (10, [.ref a51, .ref a52, .ref a53, .int l5])), (a51, .inl (cI, 256, .inl f51))])) (va_Qi (fun (r : Int32) (u : Int32) => r = u) (fun (r : Int32) t => va_P (dC, dI) vwCl [(oC, .inr (2, [.ref o4, .ref o5])), (o4, .inr (10, [.ref a41, .ref a42, .ref a43, .int l4])), (a41, .inl (cI, 256, .inl f41)), (o5, .inr (10, [.ref a51, .ref a52, .ref a53, .int l5])), (a51, .inl (cI, 256, .inl f51))] t.heap ∧ va_D (va_A [(oC, .inr (2, [.ref o4, .ref o5])), (o4, .inr (10, [.ref a41, .ref a42, .ref a43, .int l4])), (a41, .inl (cI, 256, .inl f41)), (o5, .inr (10, [.ref a51, .ref a52, .ref a53, .int l5])), (a51, .inl (cI, 256, .inl f51))] sz) [(oC, .inr (2, [.ref o4, .ref o5])), (o4, .inr (10, [.ref a41, .ref a42, .ref a43, .int l4])), (a41, .inl (cI, 256, .inl f41)), (o5, .inr (10, [.ref a51, .ref a52, .ref a53, .int l5])), (a51, .inl (cI, 256, .inl f51))] ∧ (0 ≤ r.toInt ∧ r.toInt ≤ 1)) (va_A [(oC, .inr (2, [.ref o4, .ref o5])), (o4, .inr (10, [.ref a41, .ref a42, .ref a43, .int l4])), (a41, .inl (cI, 256, .inl f41)), (o5, .inr (10, [.ref a51, .ref a52, .ref a53, .int l5])), (a51, .inl (cI, 256, .inl f51))] sz)) 0 0 (va_A [(oC, .inr (2, [.ref o4, .ref o5])), (o4, .inr (10, [.ref a41, .ref a42, .ref a43, .int l4])), (a41, .inl (cI, 256, .inl f41)), (o5, .inr (10, [.ref a51, .ref a52, .ref a53, .int l5])), (a51, .inl (cI, 256, .inl f51))] sz) := by
  refine Met.ofW (cc := cX2_neverLost) (maxL := 4) (ret := (some .boolean)) (by decide) rfl ?_
  intro p e s m args below meth c s₁ B hml hv
  obtain ⟨rfl, hsz, hP, hK, hD0⟩ := hv
  have hx := B.exec
  have hb := B.bytes
  have hr := B.returns
  have hts := atoms_spec (ws := wsX2_neverLost) B.pre
  have hown : s.vm.findClass RX2 = some m.cls := findClass_of_methodNamed B.named
  have hlocks := B.notSynchronized
  subst hsz
  have hD := hD0.self (sz := s.heap.size)
  generalize hAe : va_A [(oC, .inr (2, [.ref o4, .ref o5])), (o4, .inr (10, [.ref a41, .ref a42, .ref a43, .int l4])), (a41, .inl (cI, 256, .inl f41)), (o5, .inr (10, [.ref a51, .ref a52, .ref a53, .int l5])), (a51, .inl (cI, 256, .inl f51))] s.heap.size = A at hD ⊢
  have hA : ∀ q : Nat, s.heap.size ≤ q → A q := fun q h => by rw [← hAe]; exact Or.inr h
  have hS : va_S A s.heap s.heap [] := va_S.rf
  have hP : va_P (dC, dI) vwCl [(oC, .inr (2, [.ref o4, .ref o5])), (o4, .inr (10, [.ref a41, .ref a42, .ref a43, .int l4])), (a41, .inl (cI, 256, .inl f41)), (o5, .inr (10, [.ref a51, .ref a52, .ref a53, .int l5])), (a51, .inl (cI, 256, .inl f51))] s.heap := hP
  have hl := lv_entry ([.ref oC, .int a, .int b]) (n := 4) (Nat.le_of_ble_eq_true rfl)
  rw [lg_entry_eq]
  generalize (lg_sl ([.ref oC, .int a, .int b]) ++ List.replicate (4 - (lg_sl ([.ref oC, .int a, .int b])).length) Slot.unset).toArray = ls at hl ⊢
  have hl : lv_has ls 4 [(0, .ref oC), (1, .int a), (2, .int b)] := hl
  obtain ⟨QQ, hQQ⟩ : ∃ QQ : Array Value → State → Outcome → State → Prop, QQ = va_Qi (fun (r : Int32) (u : Int32) => r = u) (fun (r : Int32) t => va_P (dC, dI) vwCl [(oC, .inr (2, [.ref o4, .ref o5])), (o4, .inr (10, [.ref a41, .ref a42, .ref a43, .int l4])), (a41, .inl (cI, 256, .inl f41)), (o5, .inr (10, [.ref a51, .ref a52, .ref a53, .int l5])), (a51, .inl (cI, 256, .inl f51))] t.heap ∧ va_D A [(oC, .inr (2, [.ref o4, .ref o5])), (o4, .inr (10, [.ref a41, .ref a42, .ref a43, .int l4])), (a41, .inl (cI, 256, .inl f41)), (o5, .inr (10, [.ref a51, .ref a52, .ref a53, .int l5])), (a51, .inl (cI, 256, .inl f51))] ∧ (0 ≤ r.toInt ∧ r.toInt ≤ 1)) A := ⟨_, rfl⟩
  rw [← hQQ]
  refine lv_iload_n hx hb dX2_neverLost_0 rfl (lv_at hl 1 rfl) ?_
  refine lv_iload_n hx hb dX2_neverLost_1 rfl (lv_at hl 2 rfl) ?_
  refine lv_icmp_ne (tgt := 7) hx hb dX2_neverLost_2 (by decide) (fun c_1 => ?_) (fun c_1 => ?_)
  · have tc_1 : ¬ a.toInt = b.toInt := v_ne c_1
    have rw1_0 := v_rng a
    have rw1_1 := v_rng b
    refine lv_iconst (v := 0) hx hb dX2_neverLost_7 (by decide) ?_
    refine lv_istore_n (lv' := [(3, .int 0), (0, .ref oC), (1, .int a), (2, .int b)]) hx hb dX2_neverLost_8 rfl hl (by decide) rfl (fun ls hl => ?_)
    have LOOP_9 : ∀ (k_9 : Nat) (v : Int32) (H : Heap) (locs : List Loc) (ls : Array Slot), MSd (256 - v.toInt : Int) k_9 → (0 ≤ v.toInt ∧ v.toInt ≤ 256) → va_P (dC, dI) vwCl [(oC, .inr (2, [.ref o4, .ref o5])), (o4, .inr (10, [.ref a41, .ref a42, .ref a43, .int l4])), (a41, .inl (cI, 256, .inl f41)), (o5, .inr (10, [.ref a51, .ref a52, .ref a53, .int l5])), (a51, .inl (cI, 256, .inl f51))] H → va_D A [(oC, .inr (2, [.ref o4, .ref o5])), (o4, .inr (10, [.ref a41, .ref a42, .ref a43, .int l4])), (a41, .inl (cI, 256, .inl f41)), (o5, .inr (10, [.ref a51, .ref a52, .ref a53, .int l5])), (a51, .inl (cI, 256, .inl f51))] → va_S A s.heap H locs → lv_has ls 4 [(3, .int v), (0, .ref oC), (1, .int a), (2, .int b)] → W p l e (headSpec wsX2_neverLost ({ frames := 3, cells := 0, slots := 0, locals := 66 } : Room)).room s m ([.ref oC, .int a, .int b] : List Value).toArray below meth c H locs 0 0 (MQ below QQ ([.ref oC, .int a, .int b] : List Value).toArray s 0 0 A) (F0 m 9 ls []) := by
      clear hP hD hS hl
      intro k_9
      induction k_9 with
      | zero =>
        intro v H locs ls hm_9 g_v hP hD hS hl
        exact ms_0 hm_9
      | succ k_9 ih_9 =>
        intro v H locs ls hm_9 g_v hP hD hS hl
        refine lv_iload_n hx hb dX2_neverLost_9 rfl (lv_at hl 0 rfl) ?_
        refine lv_sipush (v := 256) hx hb dX2_neverLost_10 (by decide) ?_
        refine lv_icmp_ge (tgt := 43) hx hb dX2_neverLost_13 (by decide) (fun c_2 => ?_) (fun c_2 => ?_)
        · have tc_2 : 256 ≤ v.toInt := v_le c_2
          refine lv_iconst (v := 1) hx hb dX2_neverLost_43 (by decide) ?_
          have hP9 := hP.sub (ws' := [(oC, .inr (2, [.ref o4, .ref o5])), (o4, .inr (10, [.ref a41, .ref a42, .ref a43, .int l4])), (a41, .inl (cI, 256, .inl f41)), (o5, .inr (10, [.ref a51, .ref a52, .ref a53, .int l5])), (a51, .inl (cI, 256, .inl f51))]) [0, 1, 2, 3, 4] rfl
          have hD9 := hD.sub (ws' := [(oC, .inr (2, [.ref o4, .ref o5])), (o4, .inr (10, [.ref a41, .ref a42, .ref a43, .int l4])), (a41, .inl (cI, 256, .inl f41)), (o5, .inr (10, [.ref a51, .ref a52, .ref a53, .int l5])), (a51, .inl (cI, 256, .inl f51))]) [0, 1, 2, 3, 4] (by decide +kernel) rfl
          rw [hQQ]
          exact W.zret (v := 1) (ty := .boolean) hx hb hr (rfl) (fun t ht hW => ⟨⟨1, 1, rfl, rfl, ⟨by rw [ht]; exact hP9, hD9, by decide⟩⟩, hS.F ht⟩) hS.2.2 dX2_neverLost_44
        · have tc_2 : v.toInt < 256 := v_nle c_2
          refine lv_aload_n hx hb dX2_neverLost_16 rfl (lv_at hl 1 rfl) ?_
          refine lv_iload_n hx hb dX2_neverLost_17 rfl (lv_at hl 2 rfl) ?_
          refine lv_iload_n hx hb dX2_neverLost_18 rfl (lv_at hl 0 rfl) ?_
          have hPc := hP.sub (ws' := [(oC, .inr (2, [.ref o4, .ref o5])), (o4, .inr (10, [.ref a41, .ref a42, .ref a43, .int l4])), (a41, .inl (cI, 256, .inl f41)), (o5, .inr (10, [.ref a51, .ref a52, .ref a53, .int l5])), (a51, .inl (cI, 256, .inl f51))]) [0, 1, 2, 3, 4] rfl
          have hDc := hD.sub (ws' := [(oC, .inr (2, [.ref o4, .ref o5])), (o4, .inr (10, [.ref a41, .ref a42, .ref a43, .int l4])), (a41, .inl (cI, 256, .inl f41)), (o5, .inr (10, [.ref a51, .ref a52, .ref a53, .int l5])), (a51, .inl (cI, 256, .inl f51))]) [0, 1, 2, 3, 4] (by decide +kernel) rfl
          have hFc := va_free (wc := [(oC, .inr (2, [.ref o4, .ref o5])), (o4, .inr (10, [.ref a41, .ref a42, .ref a43, .int l4])), (a41, .inl (cI, 256, .inl f41)), (o5, .inr (10, [.ref a51, .ref a52, .ref a53, .int l5])), (a51, .inl (cI, 256, .inl f51))]) hD hS hA [0, 1, 2, 3, 4] rfl
          refine va_calli (va_runV (As := [.int a, .int v]) (rest := []) ⟨hx, hb, hml, hown, hts⟩ (m_X2_isWritten l dC dI cI cS H.size oC o4 o5 a41 a42 a43 a51 a52 a53 l4 f41 l5 f51 a v ) (cwV 2 hts gX2_neverLost_X2_isWritten rfl rfl rfl (by decide +kernel) ⟨Nat.le_of_ble_eq_true rfl, Nat.le_of_ble_eq_true rfl⟩) ⟨fun a U g mk q => by obtain ⟨q0, q1, qP, qK, qD⟩ := q; exact ⟨q0, q1, qP, va_K.moved (u := U) (U := U.calling g mk a) (Vm.Alike.refl U.vm) qK, qD⟩, va_recv hK hPc (ci := 2) (q0 := 0) rfl rfl, fun U hU hW => ⟨rfl, by rw [hU], by rw [hU]; exact hPc, va_K.moved hW.alike hK, hDc.weaken (fun _ _ _ _ => trivial)⟩⟩ rfl rfl hl.1 rfl (lv_room (Nat.le_of_ble_eq_true rfl)) dX2_neverLost_19 ⟨Nat.le_of_ble_eq_true rfl, Nat.le_of_ble_eq_true rfl⟩) hS (fun q _ h => hFc q h) hFc (fun r_3 u t H1 locs ht hvm hw hB hz1 hk1 hSn => ?_)
          subst hw
          obtain ⟨hP1, hD1, hf3_0⟩ := hB
          rw [ht] at hP1
          obtain ⟨hPn, hDn⟩ := va_join (wr := []) (w1 := [(oC, .inr (2, [.ref o4, .ref o5])), (o4, .inr (10, [.ref a41, .ref a42, .ref a43, .int l4])), (a41, .inl (cI, 256, .inl f41)), (o5, .inr (10, [.ref a51, .ref a52, .ref a53, .int l5])), (a51, .inl (cI, 256, .inl f51))]) hP hD [0, 1, 2, 3, 4] [] rfl rfl (by decide +kernel) (by decide +kernel) hk1 hFc hP1 hD1
          clear hP hD hS hPc hDc hFc hk1 hz1 hvm ht hP1 hD1
          generalize H1 = H at hPn hSn ⊢
          have hP : va_P (dC, dI) vwCl [(oC, .inr (2, [.ref o4, .ref o5])), (o4, .inr (10, [.ref a41, .ref a42, .ref a43, .int l4])), (a41, .inl (cI, 256, .inl f41)), (o5, .inr (10, [.ref a51, .ref a52, .ref a53, .int l5])), (a51, .inl (cI, 256, .inl f51))] H := hPn
          have hD : va_D A [(oC, .inr (2, [.ref o4, .ref o5])), (o4, .inr (10, [.ref a41, .ref a42, .ref a43, .int l4])), (a41, .inl (cI, 256, .inl f41)), (o5, .inr (10, [.ref a51, .ref a52, .ref a53, .int l5])), (a51, .inl (cI, 256, .inl f51))] := hDn
          have hS := hSn
          clear hPn hDn hSn
          refine lv_if_eq (tgt := 37) hx hb dX2_neverLost_22 (by decide) (fun c_4 => ?_) (fun c_4 => ?_)
          · have tc_4 : r_3.toInt = 0 := v_eq c_4
            obtain ⟨x_5, ex_5⟩ : ∃ y : Int32, y = v + 1 := ⟨_, rfl⟩
            have tx_5 : x_5.toInt = v.toInt + 1 := v_add ex_5 (by show -2147483648 ≤ v.toInt + 1; omega) (by show v.toInt + 1 < 2147483648; omega)
            refine lv_iinc (v := x_5) (lv' := [(3, .int x_5), (0, .ref oC), (1, .int a), (2, .int b)]) hx hb dX2_neverLost_37 hl (k := 0) rfl (by rw [ex_5]; rfl) (by decide) rfl (fun ls hl => ?_)
            refine lv_goto (tgt := 9) hx hb dX2_neverLost_40 (by decide) ?_
            exact ih_9 x_5 _ _ _ (ms_lt hm_9 (by show ((256 - x_5.toInt : Int)) < 256 - v.toInt; omega) (by show (0 : Int) < 256 - v.toInt; omega)) (by show 0 ≤ x_5.toInt ∧ x_5.toInt ≤ 256; omega) hP hD hS (lv_sub hl [0, 1, 2, 3] rfl)
          · have tc_4 : ¬ r_3.toInt = 0 := v_ne c_4
            refine lv_aload_n hx hb dX2_neverLost_25 rfl (lv_at hl 1 rfl) ?_
            refine lv_iload_n hx hb dX2_neverLost_26 rfl (lv_at hl 3 rfl) ?_
            refine lv_iload_n hx hb dX2_neverLost_27 rfl (lv_at hl 0 rfl) ?_
            have hPc := hP.sub (ws' := [(oC, .inr (2, [.ref o4, .ref o5])), (o4, .inr (10, [.ref a41, .ref a42, .ref a43, .int l4])), (a41, .inl (cI, 256, .inl f41)), (o5, .inr (10, [.ref a51, .ref a52, .ref a53, .int l5])), (a51, .inl (cI, 256, .inl f51))]) [0, 1, 2, 3, 4] rfl
            have hDc := hD.sub (ws' := [(oC, .inr (2, [.ref o4, .ref o5])), (o4, .inr (10, [.ref a41, .ref a42, .ref a43, .int l4])), (a41, .inl (cI, 256, .inl f41)), (o5, .inr (10, [.ref a51, .ref a52, .ref a53, .int l5])), (a51, .inl (cI, 256, .inl f51))]) [0, 1, 2, 3, 4] (by decide +kernel) rfl
            have hFc := va_free (wc := [(oC, .inr (2, [.ref o4, .ref o5])), (o4, .inr (10, [.ref a41, .ref a42, .ref a43, .int l4])), (a41, .inl (cI, 256, .inl f41)), (o5, .inr (10, [.ref a51, .ref a52, .ref a53, .int l5])), (a51, .inl (cI, 256, .inl f51))]) hD hS hA [0, 1, 2, 3, 4] rfl
            refine va_calli (va_runV (As := [.int b, .int v]) (rest := []) ⟨hx, hb, hml, hown, hts⟩ (m_X2_letterAlone l dC dI cI cS H.size oC o4 o5 a41 a42 a43 a51 a52 a53 l4 f41 l5 f51 b v ) (cwV 2 hts gX2_neverLost_X2_letterAlone rfl rfl rfl (by decide +kernel) ⟨Nat.le_of_ble_eq_true rfl, Nat.le_of_ble_eq_true rfl⟩) ⟨fun a U g mk q => by obtain ⟨q0, q1, qP, qK, qD⟩ := q; exact ⟨q0, q1, qP, va_K.moved (u := U) (U := U.calling g mk a) (Vm.Alike.refl U.vm) qK, qD⟩, va_recv hK hPc (ci := 2) (q0 := 0) rfl rfl, fun U hU hW => ⟨rfl, by rw [hU], by rw [hU]; exact hPc, va_K.moved hW.alike hK, hDc.weaken (fun _ _ _ _ => trivial)⟩⟩ rfl rfl hl.1 rfl (lv_room (Nat.le_of_ble_eq_true rfl)) dX2_neverLost_28 ⟨Nat.le_of_ble_eq_true rfl, Nat.le_of_ble_eq_true rfl⟩) hS (fun q _ h => hFc q h) hFc (fun r_6 u t H1 locs ht hvm hw hB hz1 hk1 hSn => ?_)
            subst hw
            obtain ⟨hP1, hD1⟩ := hB
            rw [ht] at hP1
            obtain ⟨hPn, hDn⟩ := va_join (wr := []) (w1 := [(oC, .inr (2, [.ref o4, .ref o5])), (o4, .inr (10, [.ref a41, .ref a42, .ref a43, .int l4])), (a41, .inl (cI, 256, .inl f41)), (o5, .inr (10, [.ref a51, .ref a52, .ref a53, .int l5])), (a51, .inl (cI, 256, .inl f51))]) hP hD [0, 1, 2, 3, 4] [] rfl rfl (by decide +kernel) (by decide +kernel) hk1 hFc hP1 hD1
            clear hP hD hS hPc hDc hFc hk1 hz1 hvm ht hP1 hD1
            generalize H1 = H at hPn hSn ⊢
            have hP : va_P (dC, dI) vwCl [(oC, .inr (2, [.ref o4, .ref o5])), (o4, .inr (10, [.ref a41, .ref a42, .ref a43, .int l4])), (a41, .inl (cI, 256, .inl f41)), (o5, .inr (10, [.ref a51, .ref a52, .ref a53, .int l5])), (a51, .inl (cI, 256, .inl f51))] H := hPn
            have hD : va_D A [(oC, .inr (2, [.ref o4, .ref o5])), (o4, .inr (10, [.ref a41, .ref a42, .ref a43, .int l4])), (a41, .inl (cI, 256, .inl f41)), (o5, .inr (10, [.ref a51, .ref a52, .ref a53, .int l5])), (a51, .inl (cI, 256, .inl f51))] := hDn
            have hS := hSn
            clear hPn hDn hSn
            refine lv_iconst (v := (-1)) hx hb dX2_neverLost_31 (by decide) ?_
            refine lv_icmp_ne (tgt := 37) hx hb dX2_neverLost_32 (by decide) (fun c_7 => ?_) (fun c_7 => ?_)
            · have tc_7 : ¬ r_6.toInt = (-1) := v_ne c_7
              obtain ⟨x_8, ex_8⟩ : ∃ y : Int32, y = v + 1 := ⟨_, rfl⟩
              have tx_8 : x_8.toInt = v.toInt + 1 := v_add ex_8 (by show -2147483648 ≤ v.toInt + 1; omega) (by show v.toInt + 1 < 2147483648; omega)
              refine lv_iinc (v := x_8) (lv' := [(3, .int x_8), (0, .ref oC), (1, .int a), (2, .int b)]) hx hb dX2_neverLost_37 hl (k := 0) rfl (by rw [ex_8]; rfl) (by decide) rfl (fun ls hl => ?_)
              refine lv_goto (tgt := 9) hx hb dX2_neverLost_40 (by decide) ?_
              exact ih_9 x_8 _ _ _ (ms_lt hm_9 (by show ((256 - x_8.toInt : Int)) < 256 - v.toInt; omega) (by show (0 : Int) < 256 - v.toInt; omega)) (by show 0 ≤ x_8.toInt ∧ x_8.toInt ≤ 256; omega) hP hD hS (lv_sub hl [0, 1, 2, 3] rfl)
            · have tc_7 : r_6.toInt = (-1) := v_eq c_7
              refine lv_iconst (v := 0) hx hb dX2_neverLost_35 (by decide) ?_
              have hP9 := hP.sub (ws' := [(oC, .inr (2, [.ref o4, .ref o5])), (o4, .inr (10, [.ref a41, .ref a42, .ref a43, .int l4])), (a41, .inl (cI, 256, .inl f41)), (o5, .inr (10, [.ref a51, .ref a52, .ref a53, .int l5])), (a51, .inl (cI, 256, .inl f51))]) [0, 1, 2, 3, 4] rfl
              have hD9 := hD.sub (ws' := [(oC, .inr (2, [.ref o4, .ref o5])), (o4, .inr (10, [.ref a41, .ref a42, .ref a43, .int l4])), (a41, .inl (cI, 256, .inl f41)), (o5, .inr (10, [.ref a51, .ref a52, .ref a53, .int l5])), (a51, .inl (cI, 256, .inl f51))]) [0, 1, 2, 3, 4] (by decide +kernel) rfl
              rw [hQQ]
              exact W.zret (v := 0) (ty := .boolean) hx hb hr (rfl) (fun t ht hW => ⟨⟨0, 0, rfl, rfl, ⟨by rw [ht]; exact hP9, hD9, by decide⟩⟩, hS.F ht⟩) hS.2.2 dX2_neverLost_36
    exact LOOP_9 _ 0 _ _ _ (ms_s _) (by decide) hP hD hS (lv_sub hl [0, 1, 2, 3] rfl)
  · have tc_1 : a.toInt = b.toInt := v_eq c_1
    have rw1_0 := v_rng a
    have rw1_1 := v_rng b
    refine lv_iconst (v := 1) hx hb dX2_neverLost_5 (by decide) ?_
    have hP9 := hP.sub (ws' := [(oC, .inr (2, [.ref o4, .ref o5])), (o4, .inr (10, [.ref a41, .ref a42, .ref a43, .int l4])), (a41, .inl (cI, 256, .inl f41)), (o5, .inr (10, [.ref a51, .ref a52, .ref a53, .int l5])), (a51, .inl (cI, 256, .inl f51))]) [0, 1, 2, 3, 4] rfl
    have hD9 := hD.sub (ws' := [(oC, .inr (2, [.ref o4, .ref o5])), (o4, .inr (10, [.ref a41, .ref a42, .ref a43, .int l4])), (a41, .inl (cI, 256, .inl f41)), (o5, .inr (10, [.ref a51, .ref a52, .ref a53, .int l5])), (a51, .inl (cI, 256, .inl f51))]) [0, 1, 2, 3, 4] (by decide +kernel) rfl
    rw [hQQ]
    exact W.zret (v := 1) (ty := .boolean) hx hb hr (rfl) (fun t ht hW => ⟨⟨1, 1, rfl, rfl, ⟨by rw [ht]; exact hP9, hD9, by decide⟩⟩, hS.F ht⟩) hS.2.2 dX2_neverLost_6

end

/-! 26.a.rows -/
section
theorem dX7_fault_0 : decode cX7_fault 0 = .ok (.aload_n 0, 1) := by decide +kernel
theorem dX7_fault_1 : decode cX7_fault 1 = .ok (.getfield 24, 3) := by decide +kernel
theorem dX7_fault_4 : decode cX7_fault 4 = .ok (.ireturn, 1) := by decide +kernel
theorem dX7_bytes_0 : decode cX7_bytes 0 = .ok (.aload_n 0, 1) := by decide +kernel
theorem dX7_bytes_1 : decode cX7_bytes 1 = .ok (.getfield 14, 3) := by decide +kernel
theorem dX7_bytes_4 : decode cX7_bytes 4 = .ok (.areturn, 1) := by decide +kernel
theorem dX7_write_0 : decode cX7_write 0 = .ok (.aload_n 0, 1) := by decide +kernel
theorem dX7_write_1 : decode cX7_write 1 = .ok (.iconst (-1), 1) := by decide +kernel
theorem dX7_write_2 : decode cX7_write 2 = .ok (.putfield 24, 3) := by decide +kernel
theorem dX7_write_5 : decode cX7_write 5 = .ok (.aload_n 0, 1) := by decide +kernel
theorem dX7_write_6 : decode cX7_write 6 = .ok (.getfield 14, 3) := by decide +kernel
theorem dX7_write_9 : decode cX7_write 9 = .ok (.iconst 0, 1) := by decide +kernel
set_option maxRecDepth 20000 in
theorem ggX7_write_X5_cut : GoodIn wsX7_write wsX5_cut := goodIn_r _ [8, 9, 58, 59] rfl (by decide +kernel)
set_option maxRecDepth 20000 in
theorem gX7_write_X5_cut : GoodIn wsX7_write (wsV RX7 28 RX5 yX5_cut wsX5_cut) := goodIn_app (goodIn_r _ [4, 5, 6, 7] rfl (by decide +kernel)) ggX7_write_X5_cut
theorem dX7_write_10 : decode cX7_write 10 = .ok (.invokevirtual 28, 3) := by decide +kernel
theorem dX7_write_13 : decode cX7_write 13 = .ok (.iconst 0, 1) := by decide +kernel
theorem dX7_write_14 : decode cX7_write 14 = .ok (.istore_n 3, 1) := by decide +kernel
theorem dX7_write_15 : decode cX7_write 15 = .ok (.iload_n 3, 1) := by decide +kernel
theorem dX7_write_16 : decode cX7_write 16 = .ok (.aload_n 2, 1) := by decide +kernel
set_option maxRecDepth 20000 in
theorem ggX7_write_X5_length : GoodIn wsX7_write wsX5_length := goodIn_r _ [13, 9, 58, 59] rfl (by decide +kernel)
set_option maxRecDepth 20000 in
theorem gX7_write_X5_length : GoodIn wsX7_write (wsV RX7 31 RX5 yX5_length wsX5_length) := goodIn_app (goodIn_r _ [10, 11, 12, 7] rfl (by decide +kernel)) ggX7_write_X5_length
theorem dX7_write_17 : decode cX7_write 17 = .ok (.invokevirtual 31, 3) := by decide +kernel
theorem dX7_write_20 : decode cX7_write 20 = .ok (.if_icmp .ge 36, 3) := by decide +kernel
theorem dX7_write_56 : decode cX7_write 56 = .ok (.iconst 1, 1) := by decide +kernel
theorem dX7_write_57 : decode cX7_write 57 = .ok (.ireturn, 1) := by decide +kernel
theorem dX7_write_23 : decode cX7_write 23 = .ok (.aload_n 0, 1) := by decide +kernel
theorem dX7_write_24 : decode cX7_write 24 = .ok (.getfield 20, 3) := by decide +kernel
theorem dX7_write_27 : decode cX7_write 27 = .ok (.iload_n 1, 1) := by decide +kernel
theorem dX7_write_28 : decode cX7_write 28 = .ok (.aload_n 2, 1) := by decide +kernel
theorem dX7_write_29 : decode cX7_write 29 = .ok (.iload_n 3, 1) := by decide +kernel
set_option maxRecDepth 20000 in
theorem ggX7_write_X5_get : GoodIn wsX7_write wsX5_get := goodIn_r _ [17, 9, 18, 58, 59] rfl (by decide +kernel)
set_option maxRecDepth 20000 in
theorem gX7_write_X5_get : GoodIn wsX7_write (wsV RX7 35 RX5 yX5_get wsX5_get) := goodIn_app (goodIn_r _ [14, 15, 16, 7] rfl (by decide +kernel)) ggX7_write_X5_get
theorem dX7_write_30 : decode cX7_write 30 = .ok (.invokevirtual 35, 3) := by decide +kernel
theorem dX7_write_33 : decode cX7_write 33 = .ok (.aload_n 0, 1) := by decide +kernel
theorem dX7_write_34 : decode cX7_write 34 = .ok (.getfield 14, 3) := by decide +kernel
set_option maxRecDepth 20000 in
theorem ggX7_write_X2_encode : GoodIn wsX7_write wsX2_encode := goodIn_r _ [23, 24, 25, 26, 7, 27, 9, 18, 28, 29, 22, 30, 31, 32, 33, 34, 35, 36, 37, 38, 39, 40, 41, 42, 43, 44, 45, 46, 47, 48, 49, 50, 51, 52, 53, 54, 58, 59, 60, 61, 62, 63, 64, 65] rfl (by decide +kernel)
set_option maxRecDepth 20000 in
theorem gX7_write_X2_encode : GoodIn wsX7_write (wsV RX7 39 RX2 yX2_encode wsX2_encode) := goodIn_app (goodIn_r _ [19, 20, 21, 22] rfl (by decide +kernel)) ggX7_write_X2_encode
theorem dX7_write_37 : decode cX7_write 37 = .ok (.invokevirtual 39, 3) := by decide +kernel
theorem dX7_write_40 : decode cX7_write 40 = .ok (.ifCond .ne 10, 3) := by decide +kernel
theorem dX7_write_50 : decode cX7_write 50 = .ok (.iinc 3 1, 3) := by decide +kernel
theorem dX7_write_53 : decode cX7_write 53 = .ok (.goto (-38), 3) := by decide +kernel
theorem dX7_write_43 : decode cX7_write 43 = .ok (.aload_n 0, 1) := by decide +kernel
theorem dX7_write_44 : decode cX7_write 44 = .ok (.iload_n 3, 1) := by decide +kernel
theorem dX7_write_45 : decode cX7_write 45 = .ok (.putfield 24, 3) := by decide +kernel
theorem dX7_write_48 : decode cX7_write 48 = .ok (.iconst 0, 1) := by decide +kernel
theorem dX7_write_49 : decode cX7_write 49 = .ok (.ireturn, 1) := by decide +kernel
theorem dX7_readExactly_0 : decode cX7_readExactly 0 = .ok (.aload_n 0, 1) := by decide +kernel
theorem dX7_readExactly_1 : decode cX7_readExactly 1 = .ok (.iconst (-1), 1) := by decide +kernel
theorem dX7_readExactly_2 : decode cX7_readExactly 2 = .ok (.putfield 24, 3) := by decide +kernel
theorem dX7_readExactly_5 : decode cX7_readExactly 5 = .ok (.aload_n 3, 1) := by decide +kernel
theorem dX7_readExactly_6 : decode cX7_readExactly 6 = .ok (.iconst 0, 1) := by decide +kernel
set_option maxRecDepth 20000 in
theorem ggX7_readExactly_X5_cut : GoodIn wsX7_readExactly wsX5_cut := goodIn_r _ [11, 12, 74, 75] rfl (by decide +kernel)
set_option maxRecDepth 20000 in
theorem gX7_readExactly_X5_cut : GoodIn wsX7_readExactly (wsV RX7 28 RX5 yX5_cut wsX5_cut) := goodIn_app (goodIn_r _ [7, 8, 9, 10] rfl (by decide +kernel)) ggX7_readExactly_X5_cut
theorem dX7_readExactly_7 : decode cX7_readExactly 7 = .ok (.invokevirtual 28, 3) := by decide +kernel
theorem dX7_readExactly_10 : decode cX7_readExactly 10 = .ok (.iconst 1, 1) := by decide +kernel
theorem dX7_readExactly_11 : decode cX7_readExactly 11 = .ok (.istore 4, 2) := by decide +kernel
theorem dX7_readExactly_13 : decode cX7_readExactly 13 = .ok (.iconst 0, 1) := by decide +kernel
theorem dX7_readExactly_14 : decode cX7_readExactly 14 = .ok (.istore 5, 2) := by decide +kernel
theorem dX7_readExactly_16 : decode cX7_readExactly 16 = .ok (.iload 5, 2) := by decide +kernel
theorem dX7_readExactly_18 : decode cX7_readExactly 18 = .ok (.aload_n 2, 1) := by decide +kernel
set_option maxRecDepth 20000 in
theorem ggX7_readExactly_X5_length : GoodIn wsX7_readExactly wsX5_length := goodIn_r _ [16, 12, 74, 75] rfl (by decide +kernel)
set_option maxRecDepth 20000 in
theorem gX7_readExactly_X5_length : GoodIn wsX7_readExactly (wsV RX7 31 RX5 yX5_length wsX5_length) := goodIn_app (goodIn_r _ [13, 14, 15, 10] rfl (by decide +kernel)) ggX7_readExactly_X5_length
theorem dX7_readExactly_19 : decode cX7_readExactly 19 = .ok (.invokevirtual 31, 3) := by decide +kernel
theorem dX7_readExactly_22 : decode cX7_readExactly 22 = .ok (.if_icmp .ge 75, 3) := by decide +kernel
theorem dX7_readExactly_97 : decode cX7_readExactly 97 = .ok (.iload 4, 2) := by decide +kernel
theorem dX7_readExactly_99 : decode cX7_readExactly 99 = .ok (.ireturn, 1) := by decide +kernel
theorem dX7_readExactly_25 : decode cX7_readExactly 25 = .ok (.aload_n 0, 1) := by decide +kernel
theorem dX7_readExactly_26 : decode cX7_readExactly 26 = .ok (.getfield 20, 3) := by decide +kernel
theorem dX7_readExactly_29 : decode cX7_readExactly 29 = .ok (.iload_n 1, 1) := by decide +kernel
theorem dX7_readExactly_30 : decode cX7_readExactly 30 = .ok (.aload_n 2, 1) := by decide +kernel
theorem dX7_readExactly_31 : decode cX7_readExactly 31 = .ok (.iload 5, 2) := by decide +kernel
theorem dX7_readExactly_33 : decode cX7_readExactly 33 = .ok (.aload_n 2, 1) := by decide +kernel
theorem dX7_readExactly_34 : decode cX7_readExactly 34 = .ok (.invokevirtual 31, 3) := by decide +kernel
set_option maxRecDepth 20000 in
theorem ggX7_readExactly_X2_decode : GoodIn wsX7_readExactly wsX2_decode := goodIn_r _ [21, 22, 23, 24, 10, 25, 12, 26, 27, 28, 29, 20, 30, 31, 32, 33, 34, 35, 36, 37, 38, 39, 40, 41, 42, 43, 44, 45, 46, 47, 48, 49, 50, 51, 52, 53, 54, 55, 56, 57, 58, 59, 60, 74, 75, 76, 77, 78, 79, 80, 81] rfl (by decide +kernel)
set_option maxRecDepth 20000 in
theorem gX7_readExactly_X2_decode : GoodIn wsX7_readExactly (wsV RX7 45 RX2 yX2_decode wsX2_decode) := goodIn_app (goodIn_r _ [17, 18, 19, 20] rfl (by decide +kernel)) ggX7_readExactly_X2_decode
theorem dX7_readExactly_37 : decode cX7_readExactly 37 = .ok (.invokevirtual 45, 3) := by decide +kernel
theorem dX7_readExactly_40 : decode cX7_readExactly 40 = .ok (.istore 6, 2) := by decide +kernel
theorem dX7_readExactly_42 : decode cX7_readExactly 42 = .ok (.iload 6, 2) := by decide +kernel
theorem dX7_readExactly_44 : decode cX7_readExactly 44 = .ok (.iconst (-1), 1) := by decide +kernel
theorem dX7_readExactly_45 : decode cX7_readExactly 45 = .ok (.if_icmp .ne 11, 3) := by decide +kernel
theorem dX7_readExactly_56 : decode cX7_readExactly 56 = .ok (.aload_n 3, 1) := by decide +kernel
theorem dX7_readExactly_57 : decode cX7_readExactly 57 = .ok (.iload 6, 2) := by decide +kernel
set_option maxRecDepth 20000 in
theorem ggX7_readExactly_X2_letterIn : GoodIn wsX7_readExactly wsX2_letterIn := goodIn_r _ [63] rfl (by decide +kernel)
set_option maxRecDepth 20000 in
theorem gX7_readExactly_X2_letterIn : GoodIn wsX7_readExactly (va_wsS RX7 49 yX2_letterIn wsX2_letterIn) := goodIn_app (goodIn_r _ [61, 62, 20] rfl (by decide +kernel)) ggX7_readExactly_X2_letterIn
theorem dX7_readExactly_59 : decode cX7_readExactly 59 = .ok (.invokestatic 49, 3) := by decide +kernel
set_option maxRecDepth 20000 in
theorem ggX7_readExactly_X5_add : GoodIn wsX7_readExactly wsX5_add := goodIn_r _ [67, 12, 26, 74, 75] rfl (by decide +kernel)
set_option maxRecDepth 20000 in
theorem gX7_readExactly_X5_add : GoodIn wsX7_readExactly (wsV RX7 52 RX5 yX5_add wsX5_add) := goodIn_app (goodIn_r _ [64, 65, 66, 10] rfl (by decide +kernel)) ggX7_readExactly_X5_add
theorem dX7_readExactly_62 : decode cX7_readExactly 62 = .ok (.invokevirtual 52, 3) := by decide +kernel
theorem dX7_readExactly_65 : decode cX7_readExactly 65 = .ok (.ifCond .eq 12, 3) := by decide +kernel
theorem dX7_readExactly_77 : decode cX7_readExactly 77 = .ok (.iconst 0, 1) := by decide +kernel
theorem dX7_readExactly_78 : decode cX7_readExactly 78 = .ok (.istore 4, 2) := by decide +kernel
theorem dX7_readExactly_80 : decode cX7_readExactly 80 = .ok (.iload 5, 2) := by decide +kernel
theorem dX7_readExactly_82 : decode cX7_readExactly 82 = .ok (.iconst 1, 1) := by decide +kernel
theorem dX7_readExactly_83 : decode cX7_readExactly 83 = .ok (.iload 6, 2) := by decide +kernel
set_option maxRecDepth 20000 in
theorem ggX7_readExactly_X2_bytesIn : GoodIn wsX7_readExactly wsX2_bytesIn := goodIn_r _ [70] rfl (by decide +kernel)
set_option maxRecDepth 20000 in
theorem gX7_readExactly_X2_bytesIn : GoodIn wsX7_readExactly (va_wsS RX7 56 yX2_bytesIn wsX2_bytesIn) := goodIn_app (goodIn_r _ [68, 69, 20] rfl (by decide +kernel)) ggX7_readExactly_X2_bytesIn
theorem dX7_readExactly_85 : decode cX7_readExactly 85 = .ok (.invokestatic 56, 3) := by decide +kernel
theorem dX7_readExactly_88 : decode cX7_readExactly 88 = .ok (.invokestatic 59, 3) := by decide +kernel
theorem dX7_readExactly_91 : decode cX7_readExactly 91 = .ok (.iadd, 1) := by decide +kernel
theorem dX7_readExactly_92 : decode cX7_readExactly 92 = .ok (.istore 5, 2) := by decide +kernel
theorem dX7_readExactly_94 : decode cX7_readExactly 94 = .ok (.goto (-78), 3) := by decide +kernel
theorem dX7_readExactly_68 : decode cX7_readExactly 68 = .ok (.iload 4, 2) := by decide +kernel
theorem dX7_readExactly_70 : decode cX7_readExactly 70 = .ok (.ifCond .eq 7, 3) := by decide +kernel
theorem dX7_readExactly_73 : decode cX7_readExactly 73 = .ok (.iconst 1, 1) := by decide +kernel
theorem dX7_readExactly_74 : decode cX7_readExactly 74 = .ok (.goto 4, 3) := by decide +kernel
theorem dX7_readExactly_48 : decode cX7_readExactly 48 = .ok (.aload_n 0, 1) := by decide +kernel
theorem dX7_readExactly_49 : decode cX7_readExactly 49 = .ok (.iload 5, 2) := by decide +kernel
theorem dX7_readExactly_51 : decode cX7_readExactly 51 = .ok (.putfield 24, 3) := by decide +kernel
theorem dX7_readExactly_54 : decode cX7_readExactly 54 = .ok (.iconst 0, 1) := by decide +kernel
theorem dX7_readExactly_55 : decode cX7_readExactly 55 = .ok (.ireturn, 1) := by decide +kernel
theorem dX7_pass_0 : decode cX7_pass 0 = .ok (.aload_n 0, 1) := by decide +kernel
theorem dX7_pass_1 : decode cX7_pass 1 = .ok (.iload_n 1, 1) := by decide +kernel
theorem dX7_pass_2 : decode cX7_pass 2 = .ok (.aload_n 3, 1) := by decide +kernel
set_option maxRecDepth 20000 in
theorem ggX7_pass_X7_write : GoodIn wsX7_pass wsX7_write := goodIn_r _ [6, 7, 1, 8, 9, 10, 11, 12, 13, 14, 15, 16, 17, 18, 19, 20, 21, 22, 23, 24, 25, 26, 27, 28, 29, 30, 31, 32, 33, 34, 35, 36, 37, 38, 39, 40, 41, 42, 43, 44, 45, 46, 47, 48, 49, 50, 51, 52, 53, 54, 55, 56, 57, 58, 59, 104, 105, 106, 107, 108, 109, 110, 111, 112, 113, 114] rfl (by decide +kernel)
set_option maxRecDepth 20000 in
theorem gX7_pass_X7_write : GoodIn wsX7_pass (wsV RX7 65 RX7 yX7_write wsX7_write) := goodIn_app (goodIn_r _ [2, 3, 4, 5] rfl (by decide +kernel)) ggX7_pass_X7_write
theorem dX7_pass_3 : decode cX7_pass 3 = .ok (.invokevirtual 65, 3) := by decide +kernel
theorem dX7_pass_6 : decode cX7_pass 6 = .ok (.ifCond .eq 34, 3) := by decide +kernel
theorem dX7_pass_40 : decode cX7_pass 40 = .ok (.iconst 0, 1) := by decide +kernel
theorem dX7_pass_41 : decode cX7_pass 41 = .ok (.ireturn, 1) := by decide +kernel
theorem dX7_pass_9 : decode cX7_pass 9 = .ok (.aload_n 0, 1) := by decide +kernel
theorem dX7_pass_10 : decode cX7_pass 10 = .ok (.iload_n 2, 1) := by decide +kernel
theorem dX7_pass_11 : decode cX7_pass 11 = .ok (.aload_n 0, 1) := by decide +kernel
theorem dX7_pass_12 : decode cX7_pass 12 = .ok (.getfield 14, 3) := by decide +kernel
theorem dX7_pass_15 : decode cX7_pass 15 = .ok (.aload 4, 2) := by decide +kernel
set_option maxRecDepth 20000 in
theorem ggX7_pass_X7_readExactly : GoodIn wsX7_pass wsX7_readExactly := goodIn_r _ [63, 7, 8, 64, 65, 66, 67, 9, 10, 11, 12, 13, 14, 15, 16, 17, 18, 68, 69, 70, 27, 71, 72, 20, 21, 22, 23, 73, 74, 75, 76, 42, 43, 44, 45, 46, 47, 77, 78, 79, 51, 80, 81, 82, 83, 84, 85, 86, 87, 88, 89, 90, 91, 92, 93, 94, 95, 96, 36, 37, 38, 97, 98, 99, 100, 30, 31, 32, 101, 102, 103, 104, 105, 106, 107, 108, 109, 110, 111, 112, 113, 114] rfl (by decide +kernel)
set_option maxRecDepth 20000 in
theorem gX7_pass_X7_readExactly : GoodIn wsX7_pass (wsV RX7 69 RX7 yX7_readExactly wsX7_readExactly) := goodIn_app (goodIn_r _ [60, 61, 62, 5] rfl (by decide +kernel)) ggX7_pass_X7_readExactly
theorem dX7_pass_17 : decode cX7_pass 17 = .ok (.invokevirtual 69, 3) := by decide +kernel
theorem dX7_pass_20 : decode cX7_pass 20 = .ok (.ifCond .eq 20, 3) := by decide +kernel
theorem dX7_pass_23 : decode cX7_pass 23 = .ok (.aload_n 0, 1) := by decide +kernel
theorem dX7_pass_24 : decode cX7_pass 24 = .ok (.getfield 14, 3) := by decide +kernel
set_option maxRecDepth 20000 in
theorem ggX7_pass_X5_length : GoodIn wsX7_pass wsX5_length := goodIn_r _ [18, 14, 107, 108] rfl (by decide +kernel)
set_option maxRecDepth 20000 in
theorem gX7_pass_X5_length : GoodIn wsX7_pass (wsV RX7 31 RX5 yX5_length wsX5_length) := goodIn_app (goodIn_r _ [15, 16, 17, 12] rfl (by decide +kernel)) ggX7_pass_X5_length
theorem dX7_pass_27 : decode cX7_pass 27 = .ok (.invokevirtual 31, 3) := by decide +kernel
theorem dX7_pass_30 : decode cX7_pass 30 = .ok (.sipush 900, 3) := by decide +kernel
theorem dX7_pass_33 : decode cX7_pass 33 = .ok (.if_icmp .gt 7, 3) := by decide +kernel
theorem dX7_pass_36 : decode cX7_pass 36 = .ok (.iconst 1, 1) := by decide +kernel
theorem dX7_pass_37 : decode cX7_pass 37 = .ok (.goto 4, 3) := by decide +kernel

end
