set_option maxHeartbeats 4000000 in
set_option maxRecDepth 100000 in
theorem m_X2_known (l : Launch) (dC : Nat → ClassId) (dI : Nat → Nat → Nat) (cI cS : ClassId) (sz : Nat) (cd : Int32)  : Met l yX2_known wsX2_known ({ frames := 0, cells := 0, slots := 0, locals := 0 } : Room) (va_Pc [.int cd] (fun U => U.heap.size = sz ∧ va_P (dC, dI) vwCl [] U.heap ∧ va_K (dC, dI) vwCl [(cI, .int), (cS, .short)] U ∧ va_D (fun _ => True) [])) (va_Qi (fun (r : Int32) (_ : Unit) => r = f_known cd) (fun _ t => va_P (dC, dI) vwCl [] t.heap ∧ va_D (va_A [] sz) []) (va_A [] sz)) 0 0 (va_A [] sz) := by
  refine Met.ofW (cc := cX2_known) (maxL := 1) (ret := (some .boolean)) (by decide) rfl ?_
  intro p e s m args below meth c s₁ B hml hv
  obtain ⟨rfl, hsz, hP, hK, hD0⟩ := hv
  have hx := B.exec
  have hb := B.bytes
  have hr := B.returns
  have hts := atoms_spec (ws := wsX2_known) B.pre
  have hown : s.vm.findClass RX2 = some m.cls := findClass_of_methodNamed B.named
  have hlocks := B.notSynchronized
  subst hsz
  have hD := hD0.self (sz := s.heap.size)
  generalize hAe : va_A [] s.heap.size = A at hD ⊢
  have hA : ∀ q : Nat, s.heap.size ≤ q → A q := fun q h => by rw [← hAe]; exact Or.inr h
  have hS : va_S A s.heap s.heap [] := va_S.rf
  have hP : va_P (dC, dI) vwCl [] s.heap := hP
  have hl := lv_entry ([.int cd]) (n := 1) (Nat.le_of_ble_eq_true rfl)
  rw [lg_entry_eq]
  generalize (lg_sl ([.int cd]) ++ List.replicate (1 - (lg_sl ([.int cd])).length) Slot.unset).toArray = ls at hl ⊢
  have hl : lv_has ls 1 [(0, .int cd)] := hl
  refine lv_iload_n hx hb dX2_known_0 rfl (lv_at hl 0 rfl) ?_
  refine lv_if_lt (tgt := 13) hx hb dX2_known_1 (by decide) (fun c_1 => ?_) (fun c_1 => ?_)
  · refine lv_iconst (v := 0) hx hb dX2_known_13 (by decide) ?_
    have hP9 := hP.sub (ws' := []) [] rfl
    have hD9 := hD.sub (ws' := []) [] (by decide) rfl
    exact W.zret (v := 0) (ty := .boolean) hx hb hr (rfl) (fun t ht hW => ⟨⟨0, (), rfl, by first | rfl | assumption | simp [f_known, c_1], by rw [ht]; exact hP9, hD9⟩, hS.F ht⟩) (hS.2.2) dX2_known_14
  · refine lv_iload_n hx hb dX2_known_4 rfl (lv_at hl 0 rfl) ?_
    refine lv_iconst (v := 5) hx hb dX2_known_5 (by decide) ?_
    refine lv_icmp_gt (tgt := 13) hx hb dX2_known_6 (by decide) (fun c_2 => ?_) (fun c_2 => ?_)
    · refine lv_iconst (v := 0) hx hb dX2_known_13 (by decide) ?_
      have hP9 := hP.sub (ws' := []) [] rfl
      have hD9 := hD.sub (ws' := []) [] (by decide) rfl
      exact W.zret (v := 0) (ty := .boolean) hx hb hr (rfl) (fun t ht hW => ⟨⟨0, (), rfl, by first | rfl | assumption | simp [f_known, c_1, c_2], by rw [ht]; exact hP9, hD9⟩, hS.F ht⟩) (hS.2.2) dX2_known_14
    · refine lv_iconst (v := 1) hx hb dX2_known_9 (by decide) ?_
      refine lv_goto (tgt := 14) hx hb dX2_known_10 (by decide) ?_
      have hP9 := hP.sub (ws' := []) [] rfl
      have hD9 := hD.sub (ws' := []) [] (by decide) rfl
      exact W.zret (v := 1) (ty := .boolean) hx hb hr (rfl) (fun t ht hW => ⟨⟨1, (), rfl, by first | rfl | assumption | simp [f_known, c_1, c_2], by rw [ht]; exact hP9, hD9⟩, hS.F ht⟩) (hS.2.2) dX2_known_14

set_option maxHeartbeats 4000000 in
set_option maxRecDepth 100000 in
theorem m_X11_isLetter (l : Launch) (dC : Nat → ClassId) (dI : Nat → Nat → Nat) (cI cS : ClassId) (sz : Nat) (x : Int32)  : Met l yX11_isLetter wsX11_isLetter ({ frames := 0, cells := 0, slots := 0, locals := 0 } : Room) (va_Pc [.int x] (fun U => U.heap.size = sz ∧ va_P (dC, dI) vwCl [] U.heap ∧ va_K (dC, dI) vwCl [(cI, .int), (cS, .short)] U ∧ va_D (fun _ => True) [])) (va_Qi (fun (r : Int32) (_ : Unit) => r = f_isL x) (fun _ t => va_P (dC, dI) vwCl [] t.heap ∧ va_D (va_A [] sz) []) (va_A [] sz)) 0 0 (va_A [] sz) := by
  refine Met.ofW (cc := cX11_isLetter) (maxL := 1) (ret := (some .boolean)) (by decide) rfl ?_
  intro p e s m args below meth c s₁ B hml hv
  obtain ⟨rfl, hsz, hP, hK, hD0⟩ := hv
  have hx := B.exec
  have hb := B.bytes
  have hr := B.returns
  have hts := atoms_spec (ws := wsX11_isLetter) B.pre
  have hown : s.vm.findClass RX11 = some m.cls := findClass_of_methodNamed B.named
  have hlocks := B.notSynchronized
  subst hsz
  have hD := hD0.self (sz := s.heap.size)
  generalize hAe : va_A [] s.heap.size = A at hD ⊢
  have hA : ∀ q : Nat, s.heap.size ≤ q → A q := fun q h => by rw [← hAe]; exact Or.inr h
  have hS : va_S A s.heap s.heap [] := va_S.rf
  have hP : va_P (dC, dI) vwCl [] s.heap := hP
  have hl := lv_entry ([.int x]) (n := 1) (Nat.le_of_ble_eq_true rfl)
  rw [lg_entry_eq]
  generalize (lg_sl ([.int x]) ++ List.replicate (1 - (lg_sl ([.int x])).length) Slot.unset).toArray = ls at hl ⊢
  have hl : lv_has ls 1 [(0, .int x)] := hl
  refine lv_iload_n hx hb dX11_isLetter_0 rfl (lv_at hl 0 rfl) ?_
  refine lv_if_lt (tgt := 29) hx hb dX11_isLetter_1 (by decide) (fun c_1 => ?_) (fun c_1 => ?_)
  · refine lv_iconst (v := 0) hx hb dX11_isLetter_29 (by decide) ?_
    have hP9 := hP.sub (ws' := []) [] rfl
    have hD9 := hD.sub (ws' := []) [] (by decide) rfl
    exact W.zret (v := 0) (ty := .boolean) hx hb hr (rfl) (fun t ht hW => ⟨⟨0, (), rfl, by first | rfl | assumption | simp [f_isL, c_1], by rw [ht]; exact hP9, hD9⟩, hS.F ht⟩) (hS.2.2) dX11_isLetter_30
  · refine lv_iload_n hx hb dX11_isLetter_4 rfl (lv_at hl 0 rfl) ?_
    refine lv_ldcw hx hb hown (hts (.constant RX11 262 (65535)) (List.mem_of_getElem? (i := 1) rfl)) dX11_isLetter_5 ?_
    refine lv_icmp_gt (tgt := 29) hx hb dX11_isLetter_8 (by decide) (fun c_2 => ?_) (fun c_2 => ?_)
    · refine lv_iconst (v := 0) hx hb dX11_isLetter_29 (by decide) ?_
      have hP9 := hP.sub (ws' := []) [] rfl
      have hD9 := hD.sub (ws' := []) [] (by decide) rfl
      exact W.zret (v := 0) (ty := .boolean) hx hb hr (rfl) (fun t ht hW => ⟨⟨0, (), rfl, by first | rfl | assumption | simp [f_isL, c_1, c_2], by rw [ht]; exact hP9, hD9⟩, hS.F ht⟩) (hS.2.2) dX11_isLetter_30
    · refine lv_iload_n hx hb dX11_isLetter_11 rfl (lv_at hl 0 rfl) ?_
      refine lv_ldcw hx hb hown (hts (.constant RX11 263 (55296)) (List.mem_of_getElem? (i := 2) rfl)) dX11_isLetter_12 ?_
      refine lv_icmp_lt (tgt := 25) hx hb dX11_isLetter_15 (by decide) (fun c_3 => ?_) (fun c_3 => ?_)
      · refine lv_iconst (v := 1) hx hb dX11_isLetter_25 (by decide) ?_
        refine lv_goto (tgt := 30) hx hb dX11_isLetter_26 (by decide) ?_
        have hP9 := hP.sub (ws' := []) [] rfl
        have hD9 := hD.sub (ws' := []) [] (by decide) rfl
        exact W.zret (v := 1) (ty := .boolean) hx hb hr (rfl) (fun t ht hW => ⟨⟨1, (), rfl, by first | rfl | assumption | simp [f_isL, c_1, c_2, c_3], by rw [ht]; exact hP9, hD9⟩, hS.F ht⟩) (hS.2.2) dX11_isLetter_30
      · refine lv_iload_n hx hb dX11_isLetter_18 rfl (lv_at hl 0 rfl) ?_
        refine lv_ldcw hx hb hown (hts (.constant RX11 264 (57343)) (List.mem_of_getElem? (i := 3) rfl)) dX11_isLetter_19 ?_
        refine lv_icmp_le (tgt := 29) hx hb dX11_isLetter_22 (by decide) (fun c_4 => ?_) (fun c_4 => ?_)
        · refine lv_iconst (v := 0) hx hb dX11_isLetter_29 (by decide) ?_
          have hP9 := hP.sub (ws' := []) [] rfl
          have hD9 := hD.sub (ws' := []) [] (by decide) rfl
          exact W.zret (v := 0) (ty := .boolean) hx hb hr (rfl) (fun t ht hW => ⟨⟨0, (), rfl, by first | rfl | assumption | simp [f_isL, c_1, c_2, c_3, c_4], by rw [ht]; exact hP9, hD9⟩, hS.F ht⟩) (hS.2.2) dX11_isLetter_30
        · refine lv_iconst (v := 1) hx hb dX11_isLetter_25 (by decide) ?_
          refine lv_goto (tgt := 30) hx hb dX11_isLetter_26 (by decide) ?_
          have hP9 := hP.sub (ws' := []) [] rfl
          have hD9 := hD.sub (ws' := []) [] (by decide) rfl
          exact W.zret (v := 1) (ty := .boolean) hx hb hr (rfl) (fun t ht hW => ⟨⟨1, (), rfl, by first | rfl | assumption | simp [f_isL, c_1, c_2, c_3, c_4], by rw [ht]; exact hP9, hD9⟩, hS.F ht⟩) (hS.2.2) dX11_isLetter_30

set_option maxHeartbeats 4000000 in
set_option maxRecDepth 100000 in
theorem m_X0_length (l : Launch) (dC : Nat → ClassId) (dI : Nat → Nat → Nat) (cI cS : ClassId) (sz : Nat) (oG : Nat) (g1 : Nat) (g2 : Nat)  : Met l yX0_length wsX0_length ({ frames := 0, cells := 0, slots := 0, locals := 0 } : Room) (va_Pc [.ref oG] (fun U => U.heap.size = sz ∧ va_P (dC, dI) vwCl [(oG, .inr (0, [.ref g1, .ref g2, .int 0, .int 0]))] U.heap ∧ va_K (dC, dI) vwCl [(cI, .int), (cS, .short)] U ∧ va_D (fun _ => True) [(oG, .inr (0, [.ref g1, .ref g2, .int 0, .int 0]))])) (va_Qi (fun (r : Int32) (_ : Unit) => r = 0) (fun _ t => va_P (dC, dI) vwCl [(oG, .inr (0, [.ref g1, .ref g2, .int 0, .int 0]))] t.heap ∧ va_D (va_A [(oG, .inr (0, [.ref g1, .ref g2, .int 0, .int 0]))] sz) [(oG, .inr (0, [.ref g1, .ref g2, .int 0, .int 0]))]) (va_A [(oG, .inr (0, [.ref g1, .ref g2, .int 0, .int 0]))] sz)) 0 0 (va_A [(oG, .inr (0, [.ref g1, .ref g2, .int 0, .int 0]))] sz) := by
  refine Met.ofW (cc := cX0_length) (maxL := 1) (ret := (some .int)) (by decide) rfl ?_
  intro p e s m args below meth c s₁ B hml hv
  obtain ⟨rfl, hsz, hP, hK, hD0⟩ := hv
  have hx := B.exec
  have hb := B.bytes
  have hr := B.returns
  have hts := atoms_spec (ws := wsX0_length) B.pre
  have hown : s.vm.findClass RX0 = some m.cls := findClass_of_methodNamed B.named
  have hlocks := B.notSynchronized
  have in_X0 : ∀ w ∈ wsX00, w ∈ wsX0_length := fun _ h => List.mem_cons_of_mem _ (List.mem_append_right _ (h))
  subst hsz
  have hD := hD0.self (sz := s.heap.size)
  generalize hAe : va_A [(oG, .inr (0, [.ref g1, .ref g2, .int 0, .int 0]))] s.heap.size = A at hD ⊢
  have hA : ∀ q : Nat, s.heap.size ≤ q → A q := fun q h => by rw [← hAe]; exact Or.inr h
  have hS : va_S A s.heap s.heap [] := va_S.rf
  have hP : va_P (dC, dI) vwCl [(oG, .inr (0, [.ref g1, .ref g2, .int 0, .int 0]))] s.heap := hP
  have hl := lv_entry ([.ref oG]) (n := 1) (Nat.le_of_ble_eq_true rfl)
  rw [lg_entry_eq]
  generalize (lg_sl ([.ref oG]) ++ List.replicate (1 - (lg_sl ([.ref oG])).length) Slot.unset).toArray = ls at hl ⊢
  have hl : lv_has ls 1 [(0, .ref oG)] := hl
  refine lv_aload_n hx hb dX0_length_0 rfl (lv_at hl 0 rfl) ?_
  refine va_get (D := (dC, dI)) (ci := 0) (v := .int 0) (C := RX0) (T := TX0) (N := 4) hx hb hts in_X0 hown hK hP 0 rfl rfl 3 (by decide) (hts (.fieldLink RX0 22 "TextMender$Changes" "length" "I") (List.mem_of_getElem? (i := 1) rfl)) (fun _ h9 => h9) rfl dX0_length_1 ?_
  have hP9 := hP.sub (ws' := [(oG, .inr (0, [.ref g1, .ref g2, .int 0, .int 0]))]) [0] rfl
  have hD9 := hD.sub (ws' := [(oG, .inr (0, [.ref g1, .ref g2, .int 0, .int 0]))]) [0] (by decide) rfl
  exact W.iret (v := 0) hx hb hr (fun t ht hW => ⟨⟨0, (), rfl, rfl, by rw [ht]; exact hP9, hD9⟩, hS.F ht⟩) (hS.2.2) dX0_length_4

set_option maxHeartbeats 4000000 in
set_option maxRecDepth 100000 in
theorem m_X3_length (l : Launch) (dC : Nat → ClassId) (dI : Nat → Nat → Nat) (cI cS : ClassId) (sz : Nat) (oK : Nat) (k1 : Nat) (k2 : Nat)  : Met l yX3_length wsX3_length ({ frames := 0, cells := 0, slots := 0, locals := 0 } : Room) (va_Pc [.ref oK] (fun U => U.heap.size = sz ∧ va_P (dC, dI) vwCl [(oK, .inr (3, [.ref k1, .ref k2, .int 0]))] U.heap ∧ va_K (dC, dI) vwCl [(cI, .int), (cS, .short)] U ∧ va_D (fun _ => True) [(oK, .inr (3, [.ref k1, .ref k2, .int 0]))])) (va_Qi (fun (r : Int32) (_ : Unit) => r = 0) (fun _ t => va_P (dC, dI) vwCl [(oK, .inr (3, [.ref k1, .ref k2, .int 0]))] t.heap ∧ va_D (va_A [(oK, .inr (3, [.ref k1, .ref k2, .int 0]))] sz) [(oK, .inr (3, [.ref k1, .ref k2, .int 0]))]) (va_A [(oK, .inr (3, [.ref k1, .ref k2, .int 0]))] sz)) 0 0 (va_A [(oK, .inr (3, [.ref k1, .ref k2, .int 0]))] sz) := by
  refine Met.ofW (cc := cX3_length) (maxL := 1) (ret := (some .int)) (by decide) rfl ?_
  intro p e s m args below meth c s₁ B hml hv
  obtain ⟨rfl, hsz, hP, hK, hD0⟩ := hv
  have hx := B.exec
  have hb := B.bytes
  have hr := B.returns
  have hts := atoms_spec (ws := wsX3_length) B.pre
  have hown : s.vm.findClass RX3 = some m.cls := findClass_of_methodNamed B.named
  have hlocks := B.notSynchronized
  have in_X3 : ∀ w ∈ wsX30, w ∈ wsX3_length := fun _ h => List.mem_cons_of_mem _ (List.mem_append_right _ (h))
  subst hsz
  have hD := hD0.self (sz := s.heap.size)
  generalize hAe : va_A [(oK, .inr (3, [.ref k1, .ref k2, .int 0]))] s.heap.size = A at hD ⊢
  have hA : ∀ q : Nat, s.heap.size ≤ q → A q := fun q h => by rw [← hAe]; exact Or.inr h
  have hS : va_S A s.heap s.heap [] := va_S.rf
  have hP : va_P (dC, dI) vwCl [(oK, .inr (3, [.ref k1, .ref k2, .int 0]))] s.heap := hP
  have hl := lv_entry ([.ref oK]) (n := 1) (Nat.le_of_ble_eq_true rfl)
  rw [lg_entry_eq]
  generalize (lg_sl ([.ref oK]) ++ List.replicate (1 - (lg_sl ([.ref oK])).length) Slot.unset).toArray = ls at hl ⊢
  have hl : lv_has ls 1 [(0, .ref oK)] := hl
  refine lv_aload_n hx hb dX3_length_0 rfl (lv_at hl 0 rfl) ?_
  refine va_get (D := (dC, dI)) (ci := 3) (v := .int 0) (C := RX3) (T := TX3) (N := 3) hx hb hts in_X3 hown hK hP 0 rfl rfl 2 (by decide) (hts (.fieldLink RX3 24 "TextMender$Costs" "length" "I") (List.mem_of_getElem? (i := 1) rfl)) (fun _ h9 => h9) rfl dX3_length_1 ?_
  have hP9 := hP.sub (ws' := [(oK, .inr (3, [.ref k1, .ref k2, .int 0]))]) [0] rfl
  have hD9 := hD.sub (ws' := [(oK, .inr (3, [.ref k1, .ref k2, .int 0]))]) [0] (by decide) rfl
  exact W.iret (v := 0) hx hb hr (fun t ht hW => ⟨⟨0, (), rfl, rfl, by rw [ht]; exact hP9, hD9⟩, hS.F ht⟩) (hS.2.2) dX3_length_4

set_option maxHeartbeats 4000000 in
set_option maxRecDepth 100000 in
theorem m_X4_length (l : Launch) (dC : Nat → ClassId) (dI : Nat → Nat → Nat) (cI cS : ClassId) (sz : Nat) (oH : Nat) (oP : Nat) (h1 : Nat) (h2 : Nat)  : Met l yX4_length wsX4_length ({ frames := 0, cells := 0, slots := 0, locals := 0 } : Room) (va_Pc [.ref oH] (fun U => U.heap.size = sz ∧ va_P (dC, dI) vwCl [(oH, .inr (4, [.ref oP, .ref h1, .ref h2, .int 0]))] U.heap ∧ va_K (dC, dI) vwCl [(cI, .int), (cS, .short)] U ∧ va_D (fun _ => True) [(oH, .inr (4, [.ref oP, .ref h1, .ref h2, .int 0]))])) (va_Qi (fun (r : Int32) (_ : Unit) => r = 0) (fun _ t => va_P (dC, dI) vwCl [(oH, .inr (4, [.ref oP, .ref h1, .ref h2, .int 0]))] t.heap ∧ va_D (va_A [(oH, .inr (4, [.ref oP, .ref h1, .ref h2, .int 0]))] sz) [(oH, .inr (4, [.ref oP, .ref h1, .ref h2, .int 0]))]) (va_A [(oH, .inr (4, [.ref oP, .ref h1, .ref h2, .int 0]))] sz)) 0 0 (va_A [(oH, .inr (4, [.ref oP, .ref h1, .ref h2, .int 0]))] sz) := by
  refine Met.ofW (cc := cX4_length) (maxL := 1) (ret := (some .int)) (by decide) rfl ?_
  intro p e s m args below meth c s₁ B hml hv
  obtain ⟨rfl, hsz, hP, hK, hD0⟩ := hv
  have hx := B.exec
  have hb := B.bytes
  have hr := B.returns
  have hts := atoms_spec (ws := wsX4_length) B.pre
  have hown : s.vm.findClass RX4 = some m.cls := findClass_of_methodNamed B.named
  have hlocks := B.notSynchronized
  have in_X4 : ∀ w ∈ wsX40, w ∈ wsX4_length := fun _ h => List.mem_cons_of_mem _ (List.mem_append_right _ (h))
  subst hsz
  have hD := hD0.self (sz := s.heap.size)
  generalize hAe : va_A [(oH, .inr (4, [.ref oP, .ref h1, .ref h2, .int 0]))] s.heap.size = A at hD ⊢
  have hA : ∀ q : Nat, s.heap.size ≤ q → A q := fun q h => by rw [← hAe]; exact Or.inr h
  have hS : va_S A s.heap s.heap [] := va_S.rf
  have hP : va_P (dC, dI) vwCl [(oH, .inr (4, [.ref oP, .ref h1, .ref h2, .int 0]))] s.heap := hP
  have hl := lv_entry ([.ref oH]) (n := 1) (Nat.le_of_ble_eq_true rfl)
  rw [lg_entry_eq]
  generalize (lg_sl ([.ref oH]) ++ List.replicate (1 - (lg_sl ([.ref oH])).length) Slot.unset).toArray = ls at hl ⊢
  have hl : lv_has ls 1 [(0, .ref oH)] := hl
  refine lv_aload_n hx hb dX4_length_0 rfl (lv_at hl 0 rfl) ?_
  refine va_get (D := (dC, dI)) (ci := 4) (v := .int 0) (C := RX4) (T := TX4) (N := 4) hx hb hts in_X4 hown hK hP 0 rfl rfl 3 (by decide) (hts (.fieldLink RX4 22 "TextMender$Harms" "length" "I") (List.mem_of_getElem? (i := 1) rfl)) (fun _ h9 => h9) rfl dX4_length_1 ?_
  have hP9 := hP.sub (ws' := [(oH, .inr (4, [.ref oP, .ref h1, .ref h2, .int 0]))]) [0] rfl
  have hD9 := hD.sub (ws' := [(oH, .inr (4, [.ref oP, .ref h1, .ref h2, .int 0]))]) [0] (by decide) rfl
  exact W.iret (v := 0) hx hb hr (fun t ht hW => ⟨⟨0, (), rfl, rfl, by rw [ht]; exact hP9, hD9⟩, hS.F ht⟩) (hS.2.2) dX4_length_4

set_option maxHeartbeats 4000000 in
set_option maxRecDepth 100000 in
theorem m_X4_empty (l : Launch) (dC : Nat → ClassId) (dI : Nat → Nat → Nat) (cI cS : ClassId) (sz : Nat) (oH : Nat) (oP : Nat) (h1 : Nat) (h2 : Nat)  : Met l yX4_empty wsX4_empty ({ frames := 0, cells := 0, slots := 0, locals := 0 } : Room) (va_Pc [.ref oH] (fun U => U.heap.size = sz ∧ va_P (dC, dI) vwCl [(oH, .inr (4, [.ref oP, .ref h1, .ref h2, .int 0]))] U.heap ∧ va_K (dC, dI) vwCl [(cI, .int), (cS, .short)] U ∧ va_D (fun _ => True) [(oH, .inr (4, [.ref oP, .ref h1, .ref h2, .int 0]))])) (va_Qv (fun (_ : Unit) => True) (fun _ t => va_P (dC, dI) vwCl [(oH, .inr (4, [.ref oP, .ref h1, .ref h2, .int 0]))] t.heap ∧ va_D (va_A [(oH, .inr (4, [.ref oP, .ref h1, .ref h2, .int 0]))] sz) [(oH, .inr (4, [.ref oP, .ref h1, .ref h2, .int 0]))]) (va_A [(oH, .inr (4, [.ref oP, .ref h1, .ref h2, .int 0]))] sz)) 0 0 (va_A [(oH, .inr (4, [.ref oP, .ref h1, .ref h2, .int 0]))] sz) := by
  refine Met.ofW (cc := cX4_empty) (maxL := 1) (ret := none) (by decide) rfl ?_
  intro p e s m args below meth c s₁ B hml hv
  obtain ⟨rfl, hsz, hP, hK, hD0⟩ := hv
  have hx := B.exec
  have hb := B.bytes
  have hr := B.returns
  have hts := atoms_spec (ws := wsX4_empty) B.pre
  have hown : s.vm.findClass RX4 = some m.cls := findClass_of_methodNamed B.named
  have hlocks := B.notSynchronized
  have in_X4 : ∀ w ∈ wsX40, w ∈ wsX4_empty := fun _ h => List.mem_cons_of_mem _ (List.mem_append_right _ (h))
  subst hsz
  have hD := hD0.self (sz := s.heap.size)
  generalize hAe : va_A [(oH, .inr (4, [.ref oP, .ref h1, .ref h2, .int 0]))] s.heap.size = A at hD ⊢
  have hA : ∀ q : Nat, s.heap.size ≤ q → A q := fun q h => by rw [← hAe]; exact Or.inr h
  have hS : va_S A s.heap s.heap [] := va_S.rf
  have hP : va_P (dC, dI) vwCl [(oH, .inr (4, [.ref oP, .ref h1, .ref h2, .int 0]))] s.heap := hP
  have hl := lv_entry ([.ref oH]) (n := 1) (Nat.le_of_ble_eq_true rfl)
  rw [lg_entry_eq]
  generalize (lg_sl ([.ref oH]) ++ List.replicate (1 - (lg_sl ([.ref oH])).length) Slot.unset).toArray = ls at hl ⊢
  have hl : lv_has ls 1 [(0, .ref oH)] := hl
  refine lv_aload_n hx hb dX4_empty_0 rfl (lv_at hl 0 rfl) ?_
  refine lv_iconst (v := 0) hx hb dX4_empty_1 (by decide) ?_
  refine va_put (D := (dC, dI)) (ci := 4) (v := .int 0) (ty := .int) (C := RX4) (T := TX4) (N := 4) hx hb hts in_X4 tyX4 tyX4_ok nmX4 hown hK hP hD hS 0 rfl rfl 3 (by decide) (hts (.fieldLink RX4 22 "TextMender$Harms" "length" "I") (List.mem_of_getElem? (i := 1) rfl)) (fun _ h9 => h9) rfl (by decide +kernel) rfl rfl (Nat.le_of_ble_eq_true rfl) dX4_empty_2 (fun H locs hP hD hS => ?_)
  have hP : va_P (dC, dI) vwCl [(oH, .inr (4, [.ref oP, .ref h1, .ref h2, .int 0]))] H := hP
  have hD : va_D A [(oH, .inr (4, [.ref oP, .ref h1, .ref h2, .int 0]))] := hD
  have hP9 := hP.sub (ws' := [(oH, .inr (4, [.ref oP, .ref h1, .ref h2, .int 0]))]) [0] rfl
  have hD9 := hD.sub (ws' := [(oH, .inr (4, [.ref oP, .ref h1, .ref h2, .int 0]))]) [0] (by decide) rfl
  exact W.vret hx hb hr (fun t ht hW => ⟨⟨(), rfl, trivial, by rw [ht]; exact hP9, hD9⟩, hS.F ht⟩) (hS.2.2) dX4_empty_5

set_option maxHeartbeats 4000000 in
set_option maxRecDepth 100000 in
theorem m_X4_tell (l : Launch) (dC : Nat → ClassId) (dI : Nat → Nat → Nat) (cI cS : ClassId) (sz : Nat) (oH : Nat) (oP : Nat) (h1 : Nat) (h2 : Nat) (a : Int32) (b : Int32)  : Met l yX4_tell wsX4_tell ({ frames := 0, cells := 0, slots := 0, locals := 0 } : Room) (va_Pc [.ref oH, .int a, .int b] (fun U => U.heap.size = sz ∧ va_P (dC, dI) vwCl [(oH, .inr (4, [.ref oP, .ref h1, .ref h2, .int 0])), (h1, .inl (cI, 6, .inl (fun _ => 0))), (h2, .inl (cI, 6, .inl (fun _ => 0)))] U.heap ∧ va_K (dC, dI) vwCl [(cI, .int), (cS, .short)] U ∧ va_D (fun _ => True) [(oH, .inr (4, [.ref oP, .ref h1, .ref h2, .int 0])), (h1, .inl (cI, 6, .inl (fun _ => 0))), (h2, .inl (cI, 6, .inl (fun _ => 0)))])) (va_Qi (fun (r : Int32) (_ : Unit) => r = 1) (fun _ t => va_P (dC, dI) vwCl [(oH, .inr (4, [.ref oP, .ref h1, .ref h2, .int 1]))] t.heap ∧ va_D (va_A [(oH, .inr (4, [.ref oP, .ref h1, .ref h2, .int 0])), (h1, .inl (cI, 6, .inl (fun _ => 0))), (h2, .inl (cI, 6, .inl (fun _ => 0)))] sz) [(oH, .inr (4, [.ref oP, .ref h1, .ref h2, .int 1]))]) (va_A [(oH, .inr (4, [.ref oP, .ref h1, .ref h2, .int 0])), (h1, .inl (cI, 6, .inl (fun _ => 0))), (h2, .inl (cI, 6, .inl (fun _ => 0)))] sz)) 0 0 (va_A [(oH, .inr (4, [.ref oP, .ref h1, .ref h2, .int 0])), (h1, .inl (cI, 6, .inl (fun _ => 0))), (h2, .inl (cI, 6, .inl (fun _ => 0)))] sz) := by
  refine Met.ofW (cc := cX4_tell) (maxL := 4) (ret := (some .boolean)) (by decide) rfl ?_
  intro p e s m args below meth c s₁ B hml hv
  obtain ⟨rfl, hsz, hP, hK, hD0⟩ := hv
  have hx := B.exec
  have hb := B.bytes
  have hr := B.returns
  have hts := atoms_spec (ws := wsX4_tell) B.pre
  have hown : s.vm.findClass RX4 = some m.cls := findClass_of_methodNamed B.named
  have hlocks := B.notSynchronized
  have in_X4 : ∀ w ∈ wsX40, w ∈ wsX4_tell := fun _ h => List.mem_cons_of_mem _ (List.mem_append_right _ (h))
  subst hsz
  have hD := hD0.self (sz := s.heap.size)
  generalize hAe : va_A [(oH, .inr (4, [.ref oP, .ref h1, .ref h2, .int 0])), (h1, .inl (cI, 6, .inl (fun _ => 0))), (h2, .inl (cI, 6, .inl (fun _ => 0)))] s.heap.size = A at hD ⊢
  have hA : ∀ q : Nat, s.heap.size ≤ q → A q := fun q h => by rw [← hAe]; exact Or.inr h
  have hS : va_S A s.heap s.heap [] := va_S.rf
  have hP : va_P (dC, dI) vwCl [(oH, .inr (4, [.ref oP, .ref h1, .ref h2, .int 0])), (h1, .inl (cI, 6, .inl (fun _ => 0))), (h2, .inl (cI, 6, .inl (fun _ => 0)))] s.heap := hP
  have hl := lv_entry ([.ref oH, .int a, .int b]) (n := 4) (Nat.le_of_ble_eq_true rfl)
  rw [lg_entry_eq]
  generalize (lg_sl ([.ref oH, .int a, .int b]) ++ List.replicate (4 - (lg_sl ([.ref oH, .int a, .int b])).length) Slot.unset).toArray = ls at hl ⊢
  have hl : lv_has ls 4 [(0, .ref oH), (1, .int a), (2, .int b)] := hl
  refine lv_iconst (v := 0) hx hb dX4_tell_0 (by decide) ?_
  refine lv_istore_n (lv' := [(3, .int 0), (0, .ref oH), (1, .int a), (2, .int b)]) hx hb dX4_tell_1 rfl hl (by decide) rfl (fun ls hl => ?_)
  refine lv_iload_n hx hb dX4_tell_2 rfl (lv_at hl 0 rfl) ?_
  refine lv_aload_n hx hb dX4_tell_3 rfl (lv_at hl 1 rfl) ?_
  refine va_get (D := (dC, dI)) (ci := 4) (v := .int 0) (C := RX4) (T := TX4) (N := 4) hx hb hts in_X4 hown hK hP 0 rfl rfl 3 (by decide) (hts (.fieldLink RX4 22 "TextMender$Harms" "length" "I") (List.mem_of_getElem? (i := 1) rfl)) (fun _ h9 => h9) rfl dX4_tell_4 ?_
  refine lv_icmp_ge (tgt := 38) hx hb dX4_tell_7 (by decide) (fun c_1 => ?_) (fun c_1 => absurd (by decide) c_1)
  refine lv_aload_n hx hb dX4_tell_38 rfl (lv_at hl 1 rfl) ?_
  refine va_get (D := (dC, dI)) (ci := 4) (v := .int 0) (C := RX4) (T := TX4) (N := 4) hx hb hts in_X4 hown hK hP 0 rfl rfl 3 (by decide) (hts (.fieldLink RX4 22 "TextMender$Harms" "length" "I") (List.mem_of_getElem? (i := 1) rfl)) (fun _ h9 => h9) rfl dX4_tell_39 ?_
  refine lv_bipush (v := 6) hx hb dX4_tell_42 (by decide) ?_
  refine lv_icmp_lt (tgt := 49) hx hb dX4_tell_44 (by decide) (fun c_2 => ?_) (fun c_2 => absurd (by decide) c_2)
  refine lv_aload_n hx hb dX4_tell_49 rfl (lv_at hl 1 rfl) ?_
  refine va_get (D := (dC, dI)) (ci := 4) (v := .ref h1) (C := RX4) (T := TX4) (N := 4) hx hb hts in_X4 hown hK hP 0 rfl rfl 1 (by decide) (hts (.fieldLink RX4 9 "TextMender$Harms" "writtenIn" "[I") (List.mem_of_getElem? (i := 2) rfl)) (fun _ h9 => h9) rfl dX4_tell_50 ?_
  refine lv_aload_n hx hb dX4_tell_53 rfl (lv_at hl 1 rfl) ?_
  refine va_get (D := (dC, dI)) (ci := 4) (v := .int 0) (C := RX4) (T := TX4) (N := 4) hx hb hts in_X4 hown hK hP 0 rfl rfl 3 (by decide) (hts (.fieldLink RX4 22 "TextMender$Harms" "length" "I") (List.mem_of_getElem? (i := 1) rfl)) (fun _ h9 => h9) rfl dX4_tell_54 ?_
  refine lv_iload_n hx hb dX4_tell_57 rfl (lv_at hl 2 rfl) ?_
  refine va_iast hx hb hK hP hD hS 1 0 rfl rfl (by unfold vp_in; decide) dX4_tell_58 (fun H locs hP hD hS => ?_)
  have hP : va_P (dC, dI) vwCl [(oH, .inr (4, [.ref oP, .ref h1, .ref h2, .int 0])), (h1, .inl (cI, 6, .inl (upd (fun _ => 0) (0 : Int32).toNatClampNeg a))), (h2, .inl (cI, 6, .inl (fun _ => 0)))] H := hP
  have hD : va_D A [(oH, .inr (4, [.ref oP, .ref h1, .ref h2, .int 0])), (h1, .inl (cI, 6, .inl (upd (fun _ => 0) (0 : Int32).toNatClampNeg a))), (h2, .inl (cI, 6, .inl (fun _ => 0)))] := hD
  refine lv_aload_n hx hb dX4_tell_59 rfl (lv_at hl 1 rfl) ?_
  refine va_get (D := (dC, dI)) (ci := 4) (v := .ref h2) (C := RX4) (T := TX4) (N := 4) hx hb hts in_X4 hown hK hP 0 rfl rfl 2 (by decide) (hts (.fieldLink RX4 15 "TextMender$Harms" "readIn" "[I") (List.mem_of_getElem? (i := 3) rfl)) (fun _ h9 => h9) rfl dX4_tell_60 ?_
  refine lv_aload_n hx hb dX4_tell_63 rfl (lv_at hl 1 rfl) ?_
  refine va_get (D := (dC, dI)) (ci := 4) (v := .int 0) (C := RX4) (T := TX4) (N := 4) hx hb hts in_X4 hown hK hP 0 rfl rfl 3 (by decide) (hts (.fieldLink RX4 22 "TextMender$Harms" "length" "I") (List.mem_of_getElem? (i := 1) rfl)) (fun _ h9 => h9) rfl dX4_tell_64 ?_
  refine lv_iload_n hx hb dX4_tell_67 rfl (lv_at hl 3 rfl) ?_
  refine va_iast hx hb hK hP hD hS 2 0 rfl rfl (by unfold vp_in; decide) dX4_tell_68 (fun H locs hP hD hS => ?_)
  have hP : va_P (dC, dI) vwCl [(oH, .inr (4, [.ref oP, .ref h1, .ref h2, .int 0])), (h1, .inl (cI, 6, .inl (upd (fun _ => 0) (0 : Int32).toNatClampNeg a))), (h2, .inl (cI, 6, .inl (upd (fun _ => 0) (0 : Int32).toNatClampNeg b)))] H := hP
  have hD : va_D A [(oH, .inr (4, [.ref oP, .ref h1, .ref h2, .int 0])), (h1, .inl (cI, 6, .inl (upd (fun _ => 0) (0 : Int32).toNatClampNeg a))), (h2, .inl (cI, 6, .inl (upd (fun _ => 0) (0 : Int32).toNatClampNeg b)))] := hD
  refine lv_aload_n hx hb dX4_tell_69 rfl (lv_at hl 1 rfl) ?_
  refine lv_dup hx hb dX4_tell_70 rfl ?_
  refine va_get (D := (dC, dI)) (ci := 4) (v := .int 0) (C := RX4) (T := TX4) (N := 4) hx hb hts in_X4 hown hK hP 0 rfl rfl 3 (by decide) (hts (.fieldLink RX4 22 "TextMender$Harms" "length" "I") (List.mem_of_getElem? (i := 1) rfl)) (fun _ h9 => h9) rfl dX4_tell_71 ?_
  refine lv_iconst (v := 1) hx hb dX4_tell_74 (by decide) ?_
  refine lv_iadd hx hb dX4_tell_75 ?_
  refine k_i (y := 1) (by decide) ?_
  refine va_put (D := (dC, dI)) (ci := 4) (v := .int 1) (ty := .int) (C := RX4) (T := TX4) (N := 4) hx hb hts in_X4 tyX4 tyX4_ok nmX4 hown hK hP hD hS 0 rfl rfl 3 (by decide) (hts (.fieldLink RX4 22 "TextMender$Harms" "length" "I") (List.mem_of_getElem? (i := 1) rfl)) (fun _ h9 => h9) rfl (by decide +kernel) rfl rfl (Nat.le_of_ble_eq_true rfl) dX4_tell_76 (fun H locs hP hD hS => ?_)
  have hP : va_P (dC, dI) vwCl [(oH, .inr (4, [.ref oP, .ref h1, .ref h2, .int 1])), (h1, .inl (cI, 6, .inl (upd (fun _ => 0) (0 : Int32).toNatClampNeg a))), (h2, .inl (cI, 6, .inl (upd (fun _ => 0) (0 : Int32).toNatClampNeg b)))] H := hP
  have hD : va_D A [(oH, .inr (4, [.ref oP, .ref h1, .ref h2, .int 1])), (h1, .inl (cI, 6, .inl (upd (fun _ => 0) (0 : Int32).toNatClampNeg a))), (h2, .inl (cI, 6, .inl (upd (fun _ => 0) (0 : Int32).toNatClampNeg b)))] := hD
  refine lv_iconst (v := 1) hx hb dX4_tell_79 (by decide) ?_
  have hP9 := hP.sub (ws' := [(oH, .inr (4, [.ref oP, .ref h1, .ref h2, .int 1]))]) [0] rfl
  have hD9 := hD.sub (ws' := [(oH, .inr (4, [.ref oP, .ref h1, .ref h2, .int 1]))]) [0] (by decide) rfl
  exact W.zret (v := 1) (ty := .boolean) hx hb hr (rfl) (fun t ht hW => ⟨⟨1, (), rfl, rfl, by rw [ht]; exact hP9, hD9⟩, hS.F ht⟩) (hS.2.2) dX4_tell_80

set_option maxHeartbeats 4000000 in
set_option maxRecDepth 100000 in
theorem m_X4_length_1 (l : Launch) (dC : Nat → ClassId) (dI : Nat → Nat → Nat) (cI cS : ClassId) (sz : Nat) (oH : Nat) (oP : Nat) (h1 : Nat) (h2 : Nat)  : Met l yX4_length wsX4_length ({ frames := 0, cells := 0, slots := 0, locals := 0 } : Room) (va_Pc [.ref oH] (fun U => U.heap.size = sz ∧ va_P (dC, dI) vwCl [(oH, .inr (4, [.ref oP, .ref h1, .ref h2, .int 1]))] U.heap ∧ va_K (dC, dI) vwCl [(cI, .int), (cS, .short)] U ∧ va_D (fun _ => True) [(oH, .inr (4, [.ref oP, .ref h1, .ref h2, .int 1]))])) (va_Qi (fun (r : Int32) (_ : Unit) => r = 1) (fun _ _ => True) (va_A [(oH, .inr (4, [.ref oP, .ref h1, .ref h2, .int 1]))] sz)) 0 0 (va_A [(oH, .inr (4, [.ref oP, .ref h1, .ref h2, .int 1]))] sz) := by
  refine Met.ofW (cc := cX4_length) (maxL := 1) (ret := (some .int)) (by decide) rfl ?_
  intro p e s m args below meth c s₁ B hml hv
  obtain ⟨rfl, hsz, hP, hK, hD0⟩ := hv
  have hx := B.exec
  have hb := B.bytes
  have hr := B.returns
  have hts := atoms_spec (ws := wsX4_length) B.pre
  have hown : s.vm.findClass RX4 = some m.cls := findClass_of_methodNamed B.named
  have hlocks := B.notSynchronized
  have in_X4 : ∀ w ∈ wsX40, w ∈ wsX4_length := fun _ h => List.mem_cons_of_mem _ (List.mem_append_right _ (h))
  subst hsz
  have hD := hD0.self (sz := s.heap.size)
  generalize hAe : va_A [(oH, .inr (4, [.ref oP, .ref h1, .ref h2, .int 1]))] s.heap.size = A at hD ⊢
  have hA : ∀ q : Nat, s.heap.size ≤ q → A q := fun q h => by rw [← hAe]; exact Or.inr h
  have hS : va_S A s.heap s.heap [] := va_S.rf
  have hP : va_P (dC, dI) vwCl [(oH, .inr (4, [.ref oP, .ref h1, .ref h2, .int 1]))] s.heap := hP
  have hl := lv_entry ([.ref oH]) (n := 1) (Nat.le_of_ble_eq_true rfl)
  rw [lg_entry_eq]
  generalize (lg_sl ([.ref oH]) ++ List.replicate (1 - (lg_sl ([.ref oH])).length) Slot.unset).toArray = ls at hl ⊢
  have hl : lv_has ls 1 [(0, .ref oH)] := hl
  refine lv_aload_n hx hb dX4_length_0 rfl (lv_at hl 0 rfl) ?_
  refine va_get (D := (dC, dI)) (ci := 4) (v := .int 1) (C := RX4) (T := TX4) (N := 4) hx hb hts in_X4 hown hK hP 0 rfl rfl 3 (by decide) (hts (.fieldLink RX4 22 "TextMender$Harms" "length" "I") (List.mem_of_getElem? (i := 1) rfl)) (fun _ h9 => h9) rfl dX4_length_1 ?_
  exact W.iret (v := 1) hx hb hr (fun t ht hW => ⟨⟨1, (), rfl, rfl, trivial⟩, hS.F ht⟩) (hS.2.2) dX4_length_4

set_option maxHeartbeats 4000000 in
set_option maxRecDepth 100000 in
theorem m_X1_forgetFreshness (l : Launch) (dC : Nat → ClassId) (dI : Nat → Nat → Nat) (cI cS : ClassId) (sz : Nat) (oW : Nat) (oC : Nat) (oK : Nat) (w0 : Nat) (w1 : Nat) (w2 : Nat) (w3 : Nat) (w4 : Nat) (w5 : Nat) (w6 : Nat) (w7 : Nat) (w8 : Nat) (w9 : Nat) (w10 : Nat)  : Met l yX1_forgetFreshness wsX1_forgetFreshness ({ frames := 0, cells := 0, slots := 0, locals := 0 } : Room) (va_Pc [.ref oW] (fun U => U.heap.size = sz ∧ va_P (dC, dI) vwCl [(oW, .inr (1, [.ref oC, .ref oK, .ref w0, .ref w1, .ref w2, .ref w3, .ref w4, .ref w5, .ref w6, .ref w7, .ref w8, .ref w9, .ref w10, .int 0, .int 0, .int 0, .int (-1), .int (-1), .int (-1), .int (-1)]))] U.heap ∧ va_K (dC, dI) vwCl [(cI, .int), (cS, .short)] U ∧ va_D (fun _ => True) [(oW, .inr (1, [.ref oC, .ref oK, .ref w0, .ref w1, .ref w2, .ref w3, .ref w4, .ref w5, .ref w6, .ref w7, .ref w8, .ref w9, .ref w10, .int 0, .int 0, .int 0, .int (-1), .int (-1), .int (-1), .int (-1)]))])) (va_Qv (fun (_ : Unit) => True) (fun _ t => va_P (dC, dI) vwCl [(oW, .inr (1, [.ref oC, .ref oK, .ref w0, .ref w1, .ref w2, .ref w3, .ref w4, .ref w5, .ref w6, .ref w7, .ref w8, .ref w9, .ref w10, .int 0, .int 0, .int 0, .int (-1), .int (-1), .int (-1), .int (-1)]))] t.heap ∧ va_D (va_A [(oW, .inr (1, [.ref oC, .ref oK, .ref w0, .ref w1, .ref w2, .ref w3, .ref w4, .ref w5, .ref w6, .ref w7, .ref w8, .ref w9, .ref w10, .int 0, .int 0, .int 0, .int (-1), .int (-1), .int (-1), .int (-1)]))] sz) [(oW, .inr (1, [.ref oC, .ref oK, .ref w0, .ref w1, .ref w2, .ref w3, .ref w4, .ref w5, .ref w6, .ref w7, .ref w8, .ref w9, .ref w10, .int 0, .int 0, .int 0, .int (-1), .int (-1), .int (-1), .int (-1)]))]) (va_A [(oW, .inr (1, [.ref oC, .ref oK, .ref w0, .ref w1, .ref w2, .ref w3, .ref w4, .ref w5, .ref w6, .ref w7, .ref w8, .ref w9, .ref w10, .int 0, .int 0, .int 0, .int (-1), .int (-1), .int (-1), .int (-1)]))] sz)) 0 0 (va_A [(oW, .inr (1, [.ref oC, .ref oK, .ref w0, .ref w1, .ref w2, .ref w3, .ref w4, .ref w5, .ref w6, .ref w7, .ref w8, .ref w9, .ref w10, .int 0, .int 0, .int 0, .int (-1), .int (-1), .int (-1), .int (-1)]))] sz) := by
  refine Met.ofW (cc := cX1_forgetFreshness) (maxL := 1) (ret := none) (by decide) rfl ?_
  intro p e s m args below meth c s₁ B hml hv
  obtain ⟨rfl, hsz, hP, hK, hD0⟩ := hv
  have hx := B.exec
  have hb := B.bytes
  have hr := B.returns
  have hts := atoms_spec (ws := wsX1_forgetFreshness) B.pre
  have hown : s.vm.findClass RX1 = some m.cls := findClass_of_methodNamed B.named
  have hlocks := B.notSynchronized
  have in_X1 : ∀ w ∈ wsX10, w ∈ wsX1_forgetFreshness := fun _ h => List.mem_cons_of_mem _ (List.mem_append_right _ (h))
  subst hsz
  have hD := hD0.self (sz := s.heap.size)
  generalize hAe : va_A [(oW, .inr (1, [.ref oC, .ref oK, .ref w0, .ref w1, .ref w2, .ref w3, .ref w4, .ref w5, .ref w6, .ref w7, .ref w8, .ref w9, .ref w10, .int 0, .int 0, .int 0, .int (-1), .int (-1), .int (-1), .int (-1)]))] s.heap.size = A at hD ⊢
  have hA : ∀ q : Nat, s.heap.size ≤ q → A q := fun q h => by rw [← hAe]; exact Or.inr h
  have hS : va_S A s.heap s.heap [] := va_S.rf
  have hP : va_P (dC, dI) vwCl [(oW, .inr (1, [.ref oC, .ref oK, .ref w0, .ref w1, .ref w2, .ref w3, .ref w4, .ref w5, .ref w6, .ref w7, .ref w8, .ref w9, .ref w10, .int 0, .int 0, .int 0, .int (-1), .int (-1), .int (-1), .int (-1)]))] s.heap := hP
  have hl := lv_entry ([.ref oW]) (n := 1) (Nat.le_of_ble_eq_true rfl)
  rw [lg_entry_eq]
  generalize (lg_sl ([.ref oW]) ++ List.replicate (1 - (lg_sl ([.ref oW])).length) Slot.unset).toArray = ls at hl ⊢
  have hl : lv_has ls 1 [(0, .ref oW)] := hl
  refine lv_aload_n hx hb dX1_forgetFreshness_0 rfl (lv_at hl 0 rfl) ?_
  refine lv_iconst (v := 0) hx hb dX1_forgetFreshness_1 (by decide) ?_
  refine va_put (D := (dC, dI)) (ci := 1) (v := .int 0) (ty := .boolean) (C := RX1) (T := TX1) (N := 20) hx hb hts in_X1 tyX1 tyX1_ok nmX1 hown hK hP hD hS 0 rfl rfl 15 (by decide) (hts (.fieldLink RX1 72 "TextMender$Choices" "fresh" "Z") (List.mem_of_getElem? (i := 1) rfl)) (fun _ h9 => h9) rfl (by decide +kernel) rfl rfl (Nat.le_of_ble_eq_true rfl) dX1_forgetFreshness_2 (fun H locs hP hD hS => ?_)
  have hP : va_P (dC, dI) vwCl [(oW, .inr (1, [.ref oC, .ref oK, .ref w0, .ref w1, .ref w2, .ref w3, .ref w4, .ref w5, .ref w6, .ref w7, .ref w8, .ref w9, .ref w10, .int 0, .int 0, .int 0, .int (-1), .int (-1), .int (-1), .int (-1)]))] H := hP
  have hD : va_D A [(oW, .inr (1, [.ref oC, .ref oK, .ref w0, .ref w1, .ref w2, .ref w3, .ref w4, .ref w5, .ref w6, .ref w7, .ref w8, .ref w9, .ref w10, .int 0, .int 0, .int 0, .int (-1), .int (-1), .int (-1), .int (-1)]))] := hD
  have hP9 := hP.sub (ws' := [(oW, .inr (1, [.ref oC, .ref oK, .ref w0, .ref w1, .ref w2, .ref w3, .ref w4, .ref w5, .ref w6, .ref w7, .ref w8, .ref w9, .ref w10, .int 0, .int 0, .int 0, .int (-1), .int (-1), .int (-1), .int (-1)]))]) [0] rfl
  have hD9 := hD.sub (ws' := [(oW, .inr (1, [.ref oC, .ref oK, .ref w0, .ref w1, .ref w2, .ref w3, .ref w4, .ref w5, .ref w6, .ref w7, .ref w8, .ref w9, .ref w10, .int 0, .int 0, .int 0, .int (-1), .int (-1), .int (-1), .int (-1)]))]) [0] (by decide) rfl
  exact W.vret hx hb hr (fun t ht hW => ⟨⟨(), rfl, trivial, by rw [ht]; exact hP9, hD9⟩, hS.F ht⟩) (hS.2.2) dX1_forgetFreshness_5

set_option maxHeartbeats 4000000 in
set_option maxRecDepth 100000 in
theorem m_X1_isFresh (l : Launch) (dC : Nat → ClassId) (dI : Nat → Nat → Nat) (cI cS : ClassId) (sz : Nat) (oW : Nat) (oC : Nat) (oK : Nat) (w0 : Nat) (w1 : Nat) (w2 : Nat) (w3 : Nat) (w4 : Nat) (w5 : Nat) (w6 : Nat) (w7 : Nat) (w8 : Nat) (w9 : Nat) (w10 : Nat) (i : Int32)  : Met l yX1_isFresh wsX1_isFresh ({ frames := 0, cells := 0, slots := 0, locals := 0 } : Room) (va_Pc [.ref oW, .int i] (fun U => U.heap.size = sz ∧ va_P (dC, dI) vwCl [(oW, .inr (1, [.ref oC, .ref oK, .ref w0, .ref w1, .ref w2, .ref w3, .ref w4, .ref w5, .ref w6, .ref w7, .ref w8, .ref w9, .ref w10, .int 0, .int 0, .int 0, .int (-1), .int (-1), .int (-1), .int (-1)]))] U.heap ∧ va_K (dC, dI) vwCl [(cI, .int), (cS, .short)] U ∧ va_D (fun _ => True) [(oW, .inr (1, [.ref oC, .ref oK, .ref w0, .ref w1, .ref w2, .ref w3, .ref w4, .ref w5, .ref w6, .ref w7, .ref w8, .ref w9, .ref w10, .int 0, .int 0, .int 0, .int (-1), .int (-1), .int (-1), .int (-1)]))])) (va_Qi (fun (r : Int32) (_ : Unit) => r = 0) (fun _ t => va_P (dC, dI) vwCl [(oW, .inr (1, [.ref oC, .ref oK, .ref w0, .ref w1, .ref w2, .ref w3, .ref w4, .ref w5, .ref w6, .ref w7, .ref w8, .ref w9, .ref w10, .int 0, .int 0, .int 0, .int (-1), .int (-1), .int (-1), .int (-1)]))] t.heap ∧ va_D (va_A [(oW, .inr (1, [.ref oC, .ref oK, .ref w0, .ref w1, .ref w2, .ref w3, .ref w4, .ref w5, .ref w6, .ref w7, .ref w8, .ref w9, .ref w10, .int 0, .int 0, .int 0, .int (-1), .int (-1), .int (-1), .int (-1)]))] sz) [(oW, .inr (1, [.ref oC, .ref oK, .ref w0, .ref w1, .ref w2, .ref w3, .ref w4, .ref w5, .ref w6, .ref w7, .ref w8, .ref w9, .ref w10, .int 0, .int 0, .int 0, .int (-1), .int (-1), .int (-1), .int (-1)]))]) (va_A [(oW, .inr (1, [.ref oC, .ref oK, .ref w0, .ref w1, .ref w2, .ref w3, .ref w4, .ref w5, .ref w6, .ref w7, .ref w8, .ref w9, .ref w10, .int 0, .int 0, .int 0, .int (-1), .int (-1), .int (-1), .int (-1)]))] sz)) 0 0 (va_A [(oW, .inr (1, [.ref oC, .ref oK, .ref w0, .ref w1, .ref w2, .ref w3, .ref w4, .ref w5, .ref w6, .ref w7, .ref w8, .ref w9, .ref w10, .int 0, .int 0, .int 0, .int (-1), .int (-1), .int (-1), .int (-1)]))] sz) := by
  refine Met.ofW (cc := cX1_isFresh) (maxL := 2) (ret := (some .boolean)) (by decide) rfl ?_
  intro p e s m args below meth c s₁ B hml hv
  obtain ⟨rfl, hsz, hP, hK, hD0⟩ := hv
  have hx := B.exec
  have hb := B.bytes
  have hr := B.returns
  have hts := atoms_spec (ws := wsX1_isFresh) B.pre
  have hown : s.vm.findClass RX1 = some m.cls := findClass_of_methodNamed B.named
  have hlocks := B.notSynchronized
  have in_X1 : ∀ w ∈ wsX10, w ∈ wsX1_isFresh := fun _ h => List.mem_cons_of_mem _ (List.mem_append_right _ (h))
  subst hsz
  have hD := hD0.self (sz := s.heap.size)
  generalize hAe : va_A [(oW, .inr (1, [.ref oC, .ref oK, .ref w0, .ref w1, .ref w2, .ref w3, .ref w4, .ref w5, .ref w6, .ref w7, .ref w8, .ref w9, .ref w10, .int 0, .int 0, .int 0, .int (-1), .int (-1), .int (-1), .int (-1)]))] s.heap.size = A at hD ⊢
  have hA : ∀ q : Nat, s.heap.size ≤ q → A q := fun q h => by rw [← hAe]; exact Or.inr h
  have hS : va_S A s.heap s.heap [] := va_S.rf
  have hP : va_P (dC, dI) vwCl [(oW, .inr (1, [.ref oC, .ref oK, .ref w0, .ref w1, .ref w2, .ref w3, .ref w4, .ref w5, .ref w6, .ref w7, .ref w8, .ref w9, .ref w10, .int 0, .int 0, .int 0, .int (-1), .int (-1), .int (-1), .int (-1)]))] s.heap := hP
  have hl := lv_entry ([.ref oW, .int i]) (n := 2) (Nat.le_of_ble_eq_true rfl)
  rw [lg_entry_eq]
  generalize (lg_sl ([.ref oW, .int i]) ++ List.replicate (2 - (lg_sl ([.ref oW, .int i])).length) Slot.unset).toArray = ls at hl ⊢
  have hl : lv_has ls 2 [(0, .ref oW), (1, .int i)] := hl
  refine lv_aload_n hx hb dX1_isFresh_0 rfl (lv_at hl 0 rfl) ?_
  refine va_get (D := (dC, dI)) (ci := 1) (v := .int 0) (C := RX1) (T := TX1) (N := 20) hx hb hts in_X1 hown hK hP 0 rfl rfl 15 (by decide) (hts (.fieldLink RX1 72 "TextMender$Choices" "fresh" "Z") (List.mem_of_getElem? (i := 1) rfl)) (fun _ h9 => h9) rfl dX1_isFresh_1 ?_
  refine lv_if_eq (tgt := 23) hx hb dX1_isFresh_4 (by decide) (fun c_1 => ?_) (fun c_1 => absurd (by decide) c_1)
  refine lv_iconst (v := 0) hx hb dX1_isFresh_23 (by decide) ?_
  have hP9 := hP.sub (ws' := [(oW, .inr (1, [.ref oC, .ref oK, .ref w0, .ref w1, .ref w2, .ref w3, .ref w4, .ref w5, .ref w6, .ref w7, .ref w8, .ref w9, .ref w10, .int 0, .int 0, .int 0, .int (-1), .int (-1), .int (-1), .int (-1)]))]) [0] rfl
  have hD9 := hD.sub (ws' := [(oW, .inr (1, [.ref oC, .ref oK, .ref w0, .ref w1, .ref w2, .ref w3, .ref w4, .ref w5, .ref w6, .ref w7, .ref w8, .ref w9, .ref w10, .int 0, .int 0, .int 0, .int (-1), .int (-1), .int (-1), .int (-1)]))]) [0] (by decide) rfl
  exact W.zret (v := 0) (ty := .boolean) hx hb hr (rfl) (fun t ht hW => ⟨⟨0, (), rfl, rfl, by rw [ht]; exact hP9, hD9⟩, hS.F ht⟩) (hS.2.2) dX1_isFresh_24

set_option maxHeartbeats 4000000 in
set_option maxRecDepth 100000 in
theorem m_X1_told (l : Launch) (dC : Nat → ClassId) (dI : Nat → Nat → Nat) (cI cS : ClassId) (sz : Nat) (oW : Nat) (oC : Nat) (oK : Nat) (w0 : Nat) (w1 : Nat) (w2 : Nat) (w3 : Nat) (w4 : Nat) (w5 : Nat) (w6 : Nat) (w7 : Nat) (w8 : Nat) (w9 : Nat) (w10 : Nat) (i : Int32) (wh : Int32)  : Met l yX1_told wsX1_told ({ frames := 0, cells := 0, slots := 0, locals := 0 } : Room) (va_Pc [.ref oW, .int i, .int wh] (fun U => U.heap.size = sz ∧ va_P (dC, dI) vwCl [(oW, .inr (1, [.ref oC, .ref oK, .ref w0, .ref w1, .ref w2, .ref w3, .ref w4, .ref w5, .ref w6, .ref w7, .ref w8, .ref w9, .ref w10, .int 0, .int 0, .int 0, .int (-1), .int (-1), .int (-1), .int (-1)]))] U.heap ∧ va_K (dC, dI) vwCl [(cI, .int), (cS, .short)] U ∧ va_D (fun _ => True) [(oW, .inr (1, [.ref oC, .ref oK, .ref w0, .ref w1, .ref w2, .ref w3, .ref w4, .ref w5, .ref w6, .ref w7, .ref w8, .ref w9, .ref w10, .int 0, .int 0, .int 0, .int (-1), .int (-1), .int (-1), .int (-1)]))])) (va_Qi (fun (r : Int32) (_ : Unit) => r = (-1)) (fun _ _ => True) (va_A [(oW, .inr (1, [.ref oC, .ref oK, .ref w0, .ref w1, .ref w2, .ref w3, .ref w4, .ref w5, .ref w6, .ref w7, .ref w8, .ref w9, .ref w10, .int 0, .int 0, .int 0, .int (-1), .int (-1), .int (-1), .int (-1)]))] sz)) 0 0 (va_A [(oW, .inr (1, [.ref oC, .ref oK, .ref w0, .ref w1, .ref w2, .ref w3, .ref w4, .ref w5, .ref w6, .ref w7, .ref w8, .ref w9, .ref w10, .int 0, .int 0, .int 0, .int (-1), .int (-1), .int (-1), .int (-1)]))] sz) := by
  refine Met.ofW (cc := cX1_told) (maxL := 3) (ret := (some .int)) (by decide) rfl ?_
  intro p e s m args below meth c s₁ B hml hv
  obtain ⟨rfl, hsz, hP, hK, hD0⟩ := hv
  have hx := B.exec
  have hb := B.bytes
  have hr := B.returns
  have hts := atoms_spec (ws := wsX1_told) B.pre
  have hown : s.vm.findClass RX1 = some m.cls := findClass_of_methodNamed B.named
  have hlocks := B.notSynchronized
  have in_X1 : ∀ w ∈ wsX10, w ∈ wsX1_told := fun _ h => List.mem_cons_of_mem _ (List.mem_append_right _ (h))
  subst hsz
  have hD := hD0.self (sz := s.heap.size)
  generalize hAe : va_A [(oW, .inr (1, [.ref oC, .ref oK, .ref w0, .ref w1, .ref w2, .ref w3, .ref w4, .ref w5, .ref w6, .ref w7, .ref w8, .ref w9, .ref w10, .int 0, .int 0, .int 0, .int (-1), .int (-1), .int (-1), .int (-1)]))] s.heap.size = A at hD ⊢
  have hA : ∀ q : Nat, s.heap.size ≤ q → A q := fun q h => by rw [← hAe]; exact Or.inr h
  have hS : va_S A s.heap s.heap [] := va_S.rf
  have hP : va_P (dC, dI) vwCl [(oW, .inr (1, [.ref oC, .ref oK, .ref w0, .ref w1, .ref w2, .ref w3, .ref w4, .ref w5, .ref w6, .ref w7, .ref w8, .ref w9, .ref w10, .int 0, .int 0, .int 0, .int (-1), .int (-1), .int (-1), .int (-1)]))] s.heap := hP
  have hl := lv_entry ([.ref oW, .int i, .int wh]) (n := 3) (Nat.le_of_ble_eq_true rfl)
  rw [lg_entry_eq]
  generalize (lg_sl ([.ref oW, .int i, .int wh]) ++ List.replicate (3 - (lg_sl ([.ref oW, .int i, .int wh])).length) Slot.unset).toArray = ls at hl ⊢
  have hl : lv_has ls 3 [(0, .ref oW), (1, .int i), (2, .int wh)] := hl
  refine lv_iload_n hx hb dX1_told_0 rfl (lv_at hl 1 rfl) ?_
  refine lv_if_lt (tgt := 12) hx hb dX1_told_1 (by decide) (fun c_1 => ?_) (fun c_1 => ?_)
  · refine lv_iconst (v := (-1)) hx hb dX1_told_12 (by decide) ?_
    exact W.iret (v := (-1)) hx hb hr (fun t ht hW => ⟨⟨(-1), (), rfl, rfl, trivial⟩, hS.F ht⟩) (hS.2.2) dX1_told_13
  · refine lv_iload_n hx hb dX1_told_4 rfl (lv_at hl 1 rfl) ?_
    refine lv_aload_n hx hb dX1_told_5 rfl (lv_at hl 0 rfl) ?_
    refine va_get (D := (dC, dI)) (ci := 1) (v := .int 0) (C := RX1) (T := TX1) (N := 20) hx hb hts in_X1 hown hK hP 0 rfl rfl 13 (by decide) (hts (.fieldLink RX1 65 "TextMender$Choices" "kept" "I") (List.mem_of_getElem? (i := 1) rfl)) (fun _ h9 => h9) rfl dX1_told_6 ?_
    refine lv_icmp_lt (tgt := 14) hx hb dX1_told_9 (by decide) (fun c_2 => absurd c_2 (c_1)) (fun c_2 => ?_)
    refine lv_iconst (v := (-1)) hx hb dX1_told_12 (by decide) ?_
    exact W.iret (v := (-1)) hx hb hr (fun t ht hW => ⟨⟨(-1), (), rfl, rfl, trivial⟩, hS.F ht⟩) (hS.2.2) dX1_told_13

set_option maxHeartbeats 4000000 in
set_option maxRecDepth 100000 in
theorem m_X9_told (l : Launch) (dC : Nat → ClassId) (dI : Nat → Nat → Nat) (cI cS : ClassId) (sz : Nat) (oR : Nat) (oH : Nat) (oK : Nat) (n1 : Nat) (n2 : Nat) (n3 : Nat) (f1 : Nat) (f2 : Nat) (f3 : Nat) (f4 : Nat) (f5 : Nat) (f6 : Nat) (i : Int32) (wh : Int32)  : Met l yX9_told wsX9_told ({ frames := 0, cells := 0, slots := 0, locals := 0 } : Room) (va_Pc [.ref oR, .int i, .int wh] (fun U => U.heap.size = sz ∧ va_P (dC, dI) vwCl [(oR, .inr (9, [.ref oH, .ref oK, .ref n1, .ref n2, .ref n3, .ref f1, .ref f2, .ref f3, .ref f4, .ref f5, .ref f6, .int 0]))] U.heap ∧ va_K (dC, dI) vwCl [(cI, .int), (cS, .short)] U ∧ va_D (fun _ => True) [(oR, .inr (9, [.ref oH, .ref oK, .ref n1, .ref n2, .ref n3, .ref f1, .ref f2, .ref f3, .ref f4, .ref f5, .ref f6, .int 0]))])) (va_Qi (fun (r : Int32) (_ : Unit) => r = (-1)) (fun _ _ => True) (va_A [(oR, .inr (9, [.ref oH, .ref oK, .ref n1, .ref n2, .ref n3, .ref f1, .ref f2, .ref f3, .ref f4, .ref f5, .ref f6, .int 0]))] sz)) 0 0 (va_A [(oR, .inr (9, [.ref oH, .ref oK, .ref n1, .ref n2, .ref n3, .ref f1, .ref f2, .ref f3, .ref f4, .ref f5, .ref f6, .int 0]))] sz) := by
  refine Met.ofW (cc := cX9_told) (maxL := 4) (ret := (some .int)) (by decide) rfl ?_
  intro p e s m args below meth c s₁ B hml hv
  obtain ⟨rfl, hsz, hP, hK, hD0⟩ := hv
  have hx := B.exec
  have hb := B.bytes
  have hr := B.returns
  have hts := atoms_spec (ws := wsX9_told) B.pre
  have hown : s.vm.findClass RX9 = some m.cls := findClass_of_methodNamed B.named
  have hlocks := B.notSynchronized
  have in_X9 : ∀ w ∈ wsX90, w ∈ wsX9_told := fun _ h => List.mem_cons_of_mem _ (List.mem_append_right _ (h))
  subst hsz
  have hD := hD0.self (sz := s.heap.size)
  generalize hAe : va_A [(oR, .inr (9, [.ref oH, .ref oK, .ref n1, .ref n2, .ref n3, .ref f1, .ref f2, .ref f3, .ref f4, .ref f5, .ref f6, .int 0]))] s.heap.size = A at hD ⊢
  have hA : ∀ q : Nat, s.heap.size ≤ q → A q := fun q h => by rw [← hAe]; exact Or.inr h
  have hS : va_S A s.heap s.heap [] := va_S.rf
  have hP : va_P (dC, dI) vwCl [(oR, .inr (9, [.ref oH, .ref oK, .ref n1, .ref n2, .ref n3, .ref f1, .ref f2, .ref f3, .ref f4, .ref f5, .ref f6, .int 0]))] s.heap := hP
  have hl := lv_entry ([.ref oR, .int i, .int wh]) (n := 4) (Nat.le_of_ble_eq_true rfl)
  rw [lg_entry_eq]
  generalize (lg_sl ([.ref oR, .int i, .int wh]) ++ List.replicate (4 - (lg_sl ([.ref oR, .int i, .int wh])).length) Slot.unset).toArray = ls at hl ⊢
  have hl : lv_has ls 4 [(0, .ref oR), (1, .int i), (2, .int wh)] := hl
  refine lv_iload_n hx hb dX9_told_0 rfl (lv_at hl 1 rfl) ?_
  refine lv_if_lt (tgt := 12) hx hb dX9_told_1 (by decide) (fun c_1 => ?_) (fun c_1 => ?_)
  · refine lv_iconst (v := (-1)) hx hb dX9_told_12 (by decide) ?_
    exact W.iret (v := (-1)) hx hb hr (fun t ht hW => ⟨⟨(-1), (), rfl, rfl, trivial⟩, hS.F ht⟩) (hS.2.2) dX9_told_13
  · refine lv_iload_n hx hb dX9_told_4 rfl (lv_at hl 1 rfl) ?_
    refine lv_aload_n hx hb dX9_told_5 rfl (lv_at hl 0 rfl) ?_
    refine va_get (D := (dC, dI)) (ci := 9) (v := .int 0) (C := RX9) (T := TX9) (N := 12) hx hb hts in_X9 hown hK hP 0 rfl rfl 11 (by decide) (hts (.fieldLink RX9 59 "TextMender$Rows" "told" "I") (List.mem_of_getElem? (i := 1) rfl)) (fun _ h9 => h9) rfl dX9_told_6 ?_
    refine lv_icmp_lt (tgt := 14) hx hb dX9_told_9 (by decide) (fun c_2 => absurd c_2 (c_1)) (fun c_2 => ?_)
    refine lv_iconst (v := (-1)) hx hb dX9_told_12 (by decide) ?_
    exact W.iret (v := (-1)) hx hb hr (fun t ht hW => ⟨⟨(-1), (), rfl, rfl, trivial⟩, hS.F ht⟩) (hS.2.2) dX9_told_13

set_option maxHeartbeats 4000000 in
set_option maxRecDepth 100000 in
theorem m_X0_remember (l : Launch) (dC : Nat → ClassId) (dI : Nat → Nat → Nat) (cI cS : ClassId) (sz : Nat) (oG : Nat) (g1 : Nat) (g2 : Nat) (nL : Nat) (aL : Nat)  : Met l yX0_remember wsX0_remember ({ frames := 1, cells := 0, slots := 0, locals := 21 } : Room) (va_Pc [.ref oG, .ref nL] (fun U => U.heap.size = sz ∧ va_P (dC, dI) vwCl [(oG, .inr (0, [.ref g1, .ref g2, .int 0, .int 0])), (g1, .inl (cI, 6000, .inl (fun _ => 0))), (g2, .inl (cI, 20, .inl (fun _ => 0))), (nL, .inr (5, [.ref aL, .int 0]))] U.heap ∧ va_K (dC, dI) vwCl [(cI, .int), (cS, .short)] U ∧ va_D (fun _ => True) [(oG, .inr (0, [.ref g1, .ref g2, .int 0, .int 0])), (g1, .inl (cI, 6000, .inl (fun _ => 0))), (g2, .inl (cI, 20, .inl (fun _ => 0))), (nL, .inr (5, [.ref aL, .int 0]))])) (va_Qv (fun (_ : Unit) => True) (fun _ t => va_P (dC, dI) vwCl [(nL, .inr (5, [.ref aL, .int 0]))] t.heap ∧ va_D (va_A [(oG, .inr (0, [.ref g1, .ref g2, .int 0, .int 0])), (g1, .inl (cI, 6000, .inl (fun _ => 0))), (g2, .inl (cI, 20, .inl (fun _ => 0))), (nL, .inr (5, [.ref aL, .int 0]))] sz) [(nL, .inr (5, [.ref aL, .int 0]))]) (va_A [(oG, .inr (0, [.ref g1, .ref g2, .int 0, .int 0])), (g1, .inl (cI, 6000, .inl (fun _ => 0))), (g2, .inl (cI, 20, .inl (fun _ => 0))), (nL, .inr (5, [.ref aL, .int 0]))] sz)) 0 0 (va_A [(oG, .inr (0, [.ref g1, .ref g2, .int 0, .int 0])), (g1, .inl (cI, 6000, .inl (fun _ => 0))), (g2, .inl (cI, 20, .inl (fun _ => 0))), (nL, .inr (5, [.ref aL, .int 0]))] sz) := by
  refine Met.ofW (cc := cX0_remember) (maxL := 4) (ret := none) (by decide) rfl ?_
  intro p e s m args below meth c s₁ B hml hv
  obtain ⟨rfl, hsz, hP, hK, hD0⟩ := hv
  have hx := B.exec
  have hb := B.bytes
  have hr := B.returns
  have hts := atoms_spec (ws := wsX0_remember) B.pre
  have hown : s.vm.findClass RX0 = some m.cls := findClass_of_methodNamed B.named
  have hlocks := B.notSynchronized
  have in_X0 : ∀ w ∈ wsX00, w ∈ wsX0_remember := fun _ h => List.mem_cons_of_mem _ (List.mem_append_left _ (List.mem_append_right _ (h)))
  subst hsz
  have hD := hD0.self (sz := s.heap.size)
  generalize hAe : va_A [(oG, .inr (0, [.ref g1, .ref g2, .int 0, .int 0])), (g1, .inl (cI, 6000, .inl (fun _ => 0))), (g2, .inl (cI, 20, .inl (fun _ => 0))), (nL, .inr (5, [.ref aL, .int 0]))] s.heap.size = A at hD ⊢
  have hA : ∀ q : Nat, s.heap.size ≤ q → A q := fun q h => by rw [← hAe]; exact Or.inr h
  have hS : va_S A s.heap s.heap [] := va_S.rf
  have hP : va_P (dC, dI) vwCl [(oG, .inr (0, [.ref g1, .ref g2, .int 0, .int 0])), (g1, .inl (cI, 6000, .inl (fun _ => 0))), (g2, .inl (cI, 20, .inl (fun _ => 0))), (nL, .inr (5, [.ref aL, .int 0]))] s.heap := hP
  have hl := lv_entry ([.ref oG, .ref nL]) (n := 4) (Nat.le_of_ble_eq_true rfl)
  rw [lg_entry_eq]
  generalize (lg_sl ([.ref oG, .ref nL]) ++ List.replicate (4 - (lg_sl ([.ref oG, .ref nL])).length) Slot.unset).toArray = ls at hl ⊢
  have hl : lv_has ls 4 [(0, .ref oG), (1, .ref nL)] := hl
  refine lv_aload_n hx hb dX0_remember_0 rfl (lv_at hl 1 rfl) ?_
  have hPc := hP.sub (ws' := [(nL, .inr (5, [.ref aL, .int 0]))]) [3] rfl
  have hDc := hD.sub (ws' := [(nL, .inr (5, [.ref aL, .int 0]))]) [3] (by decide) rfl
  have hFc := va_free (wc := [(nL, .inr (5, [.ref aL, .int 0]))]) hD hS hA [3] rfl
  refine va_calli (va_runV (As := []) (rest := []) ⟨hx, hb, hml, hown, hts⟩ (m_X5_length l dC dI cI cS s.heap.size nL aL 0 ) (cwV 0 hts gX0_remember_X5_length rfl rfl rfl (by decide +kernel) ⟨Nat.le_of_ble_eq_true rfl, Nat.le_of_ble_eq_true rfl⟩) ⟨fun a U g mk q => by obtain ⟨q0, q1, qP, qK, qD⟩ := q; exact ⟨q0, q1, qP, va_K.moved (u := U) (U := U.calling g mk a) (Vm.Alike.refl U.vm) qK, qD⟩, va_recv hK hPc (ci := 5) (q0 := 0) rfl rfl, fun U hU hW => ⟨rfl, by rw [hU], by rw [hU]; exact hPc, va_K.moved hW.alike hK, hDc.weaken (fun _ _ _ _ => trivial)⟩⟩ rfl rfl hl.1 rfl (lv_room (Nat.le_of_ble_eq_true rfl)) dX0_remember_1 ⟨Nat.le_of_ble_eq_true rfl, Nat.le_of_ble_eq_true rfl⟩) hS (fun q _ h => hFc q h) hFc (fun r_1 u t H1 locs ht hvm hw hB hz1 hk1 hS => ?_)
  obtain ⟨hP1, hD1⟩ := hB
  rw [ht] at hP1
  obtain ⟨hP, hD⟩ := va_join (wr := [(oG, .inr (0, [.ref g1, .ref g2, .int 0, .int 0])), (g1, .inl (cI, 6000, .inl (fun _ => 0))), (g2, .inl (cI, 20, .inl (fun _ => 0)))]) (w1 := [(nL, .inr (5, [.ref aL, .int 0]))]) hP hD [3] [0, 1, 2] rfl rfl (by decide) (by decide) hk1 hFc hP1 hD1
  generalize H1 = H at hP hS ⊢
  have hP : va_P (dC, dI) vwCl [(oG, .inr (0, [.ref g1, .ref g2, .int 0, .int 0])), (g1, .inl (cI, 6000, .inl (fun _ => 0))), (g2, .inl (cI, 20, .inl (fun _ => 0))), (nL, .inr (5, [.ref aL, .int 0]))] H := hP
  have hD : va_D A [(oG, .inr (0, [.ref g1, .ref g2, .int 0, .int 0])), (g1, .inl (cI, 6000, .inl (fun _ => 0))), (g2, .inl (cI, 20, .inl (fun _ => 0))), (nL, .inr (5, [.ref aL, .int 0]))] := hD
  subst hw
  refine lv_sipush (v := 300) hx hb dX0_remember_4 (by decide) ?_
  refine va_mmin hx hb (by rw [hml]; exact hl.1.symm) hown (hts (.methodLink RX0 30 Lib.Math.min.name) (List.mem_of_getElem? (i := 1) rfl)) (hts (.static Lib.Math.min.name) (List.mem_of_getElem? (i := 2) rfl)) (hts (.initialized "java/lang/Math") (List.mem_of_getElem? (i := 3) rfl)) (hts (.code Lib.Math.min.name Lib.Math.min.code 2 (some .int)) (List.mem_of_getElem? (i := 4) rfl)) (Nat.le_of_ble_eq_true rfl) (Nat.le_of_ble_eq_true rfl) (Nat.zero_le _) (Nat.zero_le _) dX0_remember_7 ?_
  refine k_i (y := 0) (by decide) ?_
  refine lv_istore_n (lv' := [(2, .int 0), (0, .ref oG), (1, .ref nL)]) hx hb dX0_remember_10 rfl hl (by decide) rfl (fun ls hl => ?_)
  refine lv_iconst (v := 0) hx hb dX0_remember_11 (by decide) ?_
  refine lv_istore_n (lv' := [(3, .int 0), (2, .int 0), (0, .ref oG), (1, .ref nL)]) hx hb dX0_remember_12 rfl hl (by decide) rfl (fun ls hl => ?_)
  refine lv_iload_n hx hb dX0_remember_13 rfl (lv_at hl 0 rfl) ?_
  refine lv_iload_n hx hb dX0_remember_14 rfl (lv_at hl 1 rfl) ?_
  refine lv_icmp_ge (tgt := 44) hx hb dX0_remember_15 (by decide) (fun c_2 => ?_) (fun c_2 => absurd (by decide) c_2)
  refine lv_aload_n hx hb dX0_remember_44 rfl (lv_at hl 2 rfl) ?_
  refine va_get (D := (dC, dI)) (ci := 0) (v := .ref g2) (C := RX0) (T := TX0) (N := 4) hx hb hts in_X0 hown hK hP 0 rfl rfl 1 (by decide) (hts (.fieldLink RX0 15 "TextMender$Changes" "keptLength" "[I") (List.mem_of_getElem? (i := 7) rfl)) (fun _ h9 => h9) rfl dX0_remember_45 ?_
  refine lv_aload_n hx hb dX0_remember_48 rfl (lv_at hl 2 rfl) ?_
  refine va_get (D := (dC, dI)) (ci := 0) (v := .int 0) (C := RX0) (T := TX0) (N := 4) hx hb hts in_X0 hown hK hP 0 rfl rfl 2 (by decide) (hts (.fieldLink RX0 18 "TextMender$Changes" "next" "I") (List.mem_of_getElem? (i := 6) rfl)) (fun _ h9 => h9) rfl dX0_remember_49 ?_
  refine lv_iload_n hx hb dX0_remember_52 rfl (lv_at hl 1 rfl) ?_
  refine va_iast hx hb hK hP hD hS 2 0 rfl rfl (by unfold vp_in; decide) dX0_remember_53 (fun H locs hP hD hS => ?_)
  have hP : va_P (dC, dI) vwCl [(oG, .inr (0, [.ref g1, .ref g2, .int 0, .int 0])), (g1, .inl (cI, 6000, .inl (fun _ => 0))), (g2, .inl (cI, 20, .inl (upd (fun _ => 0) (0 : Int32).toNatClampNeg 0))), (nL, .inr (5, [.ref aL, .int 0]))] H := hP
  have hD : va_D A [(oG, .inr (0, [.ref g1, .ref g2, .int 0, .int 0])), (g1, .inl (cI, 6000, .inl (fun _ => 0))), (g2, .inl (cI, 20, .inl (upd (fun _ => 0) (0 : Int32).toNatClampNeg 0))), (nL, .inr (5, [.ref aL, .int 0]))] := hD
  refine lv_aload_n hx hb dX0_remember_54 rfl (lv_at hl 2 rfl) ?_
  refine lv_aload_n hx hb dX0_remember_55 rfl (lv_at hl 2 rfl) ?_
  refine va_get (D := (dC, dI)) (ci := 0) (v := .int 0) (C := RX0) (T := TX0) (N := 4) hx hb hts in_X0 hown hK hP 0 rfl rfl 2 (by decide) (hts (.fieldLink RX0 18 "TextMender$Changes" "next" "I") (List.mem_of_getElem? (i := 6) rfl)) (fun _ h9 => h9) rfl dX0_remember_56 ?_
  refine lv_bipush (v := 19) hx hb dX0_remember_59 (by decide) ?_
  refine lv_icmp_ne (tgt := 68) hx hb dX0_remember_61 (by decide) (fun c_3 => ?_) (fun c_3 => absurd c_3 (by decide))
  refine lv_aload_n hx hb dX0_remember_68 rfl (lv_at hl 2 rfl) ?_
  refine va_get (D := (dC, dI)) (ci := 0) (v := .int 0) (C := RX0) (T := TX0) (N := 4) hx hb hts in_X0 hown hK hP 0 rfl rfl 2 (by decide) (hts (.fieldLink RX0 18 "TextMender$Changes" "next" "I") (List.mem_of_getElem? (i := 6) rfl)) (fun _ h9 => h9) rfl dX0_remember_69 ?_
  refine lv_iconst (v := 1) hx hb dX0_remember_72 (by decide) ?_
  refine lv_iadd hx hb dX0_remember_73 ?_
  refine k_i (y := 1) (by decide) ?_
  refine va_put (D := (dC, dI)) (ci := 0) (v := .int 1) (ty := .int) (C := RX0) (T := TX0) (N := 4) hx hb hts in_X0 tyX0 tyX0_ok nmX0 hown hK hP hD hS 0 rfl rfl 2 (by decide) (hts (.fieldLink RX0 18 "TextMender$Changes" "next" "I") (List.mem_of_getElem? (i := 6) rfl)) (fun _ h9 => h9) rfl (by decide +kernel) rfl rfl (Nat.le_of_ble_eq_true rfl) dX0_remember_74 (fun H locs hP hD hS => ?_)
  have hP : va_P (dC, dI) vwCl [(oG, .inr (0, [.ref g1, .ref g2, .int 1, .int 0])), (g1, .inl (cI, 6000, .inl (fun _ => 0))), (g2, .inl (cI, 20, .inl (upd (fun _ => 0) (0 : Int32).toNatClampNeg 0))), (nL, .inr (5, [.ref aL, .int 0]))] H := hP
  have hD : va_D A [(oG, .inr (0, [.ref g1, .ref g2, .int 1, .int 0])), (g1, .inl (cI, 6000, .inl (fun _ => 0))), (g2, .inl (cI, 20, .inl (upd (fun _ => 0) (0 : Int32).toNatClampNeg 0))), (nL, .inr (5, [.ref aL, .int 0]))] := hD
  refine lv_aload_n hx hb dX0_remember_77 rfl (lv_at hl 2 rfl) ?_
  refine lv_aload_n hx hb dX0_remember_78 rfl (lv_at hl 2 rfl) ?_
  refine va_get (D := (dC, dI)) (ci := 0) (v := .int 0) (C := RX0) (T := TX0) (N := 4) hx hb hts in_X0 hown hK hP 0 rfl rfl 3 (by decide) (hts (.fieldLink RX0 22 "TextMender$Changes" "length" "I") (List.mem_of_getElem? (i := 8) rfl)) (fun _ h9 => h9) rfl dX0_remember_79 ?_
  refine lv_iconst (v := 1) hx hb dX0_remember_82 (by decide) ?_
  refine lv_iadd hx hb dX0_remember_83 ?_
  refine k_i (y := 1) (by decide) ?_
  refine lv_bipush (v := 20) hx hb dX0_remember_84 (by decide) ?_
  refine va_mmin hx hb (by rw [hml]; exact hl.1.symm) hown (hts (.methodLink RX0 30 Lib.Math.min.name) (List.mem_of_getElem? (i := 1) rfl)) (hts (.static Lib.Math.min.name) (List.mem_of_getElem? (i := 2) rfl)) (hts (.initialized "java/lang/Math") (List.mem_of_getElem? (i := 3) rfl)) (hts (.code Lib.Math.min.name Lib.Math.min.code 2 (some .int)) (List.mem_of_getElem? (i := 4) rfl)) (Nat.le_of_ble_eq_true rfl) (Nat.le_of_ble_eq_true rfl) (Nat.zero_le _) (Nat.zero_le _) dX0_remember_86 ?_
  refine k_i (y := 1) (by decide) ?_
  refine va_put (D := (dC, dI)) (ci := 0) (v := .int 1) (ty := .int) (C := RX0) (T := TX0) (N := 4) hx hb hts in_X0 tyX0 tyX0_ok nmX0 hown hK hP hD hS 0 rfl rfl 3 (by decide) (hts (.fieldLink RX0 22 "TextMender$Changes" "length" "I") (List.mem_of_getElem? (i := 8) rfl)) (fun _ h9 => h9) rfl (by decide +kernel) rfl rfl (Nat.le_of_ble_eq_true rfl) dX0_remember_89 (fun H locs hP hD hS => ?_)
  have hP : va_P (dC, dI) vwCl [(oG, .inr (0, [.ref g1, .ref g2, .int 1, .int 1])), (g1, .inl (cI, 6000, .inl (fun _ => 0))), (g2, .inl (cI, 20, .inl (upd (fun _ => 0) (0 : Int32).toNatClampNeg 0))), (nL, .inr (5, [.ref aL, .int 0]))] H := hP
  have hD : va_D A [(oG, .inr (0, [.ref g1, .ref g2, .int 1, .int 1])), (g1, .inl (cI, 6000, .inl (fun _ => 0))), (g2, .inl (cI, 20, .inl (upd (fun _ => 0) (0 : Int32).toNatClampNeg 0))), (nL, .inr (5, [.ref aL, .int 0]))] := hD
  have hP9 := hP.sub (ws' := [(nL, .inr (5, [.ref aL, .int 0]))]) [3] rfl
  have hD9 := hD.sub (ws' := [(nL, .inr (5, [.ref aL, .int 0]))]) [3] (by decide) rfl
  exact W.vret hx hb hr (fun t ht hW => ⟨⟨(), rfl, trivial, by rw [ht]; exact hP9, hD9⟩, hS.F ht⟩) (hS.2.2) dX0_remember_92

set_option maxHeartbeats 4000000 in
set_option maxRecDepth 100000 in
theorem m_X0_takeBack (l : Launch) (dC : Nat → ClassId) (dI : Nat → Nat → Nat) (cI cS : ClassId) (sz : Nat) (oG : Nat) (g1 : Nat) (g2 : Nat) (nL : Nat)  : Met l yX0_takeBack wsX0_takeBack ({ frames := 0, cells := 0, slots := 0, locals := 0 } : Room) (va_Pc [.ref oG, .ref nL] (fun U => U.heap.size = sz ∧ va_P (dC, dI) vwCl [(oG, .inr (0, [.ref g1, .ref g2, .int 0, .int 0]))] U.heap ∧ va_K (dC, dI) vwCl [(cI, .int), (cS, .short)] U ∧ va_D (fun _ => True) [(oG, .inr (0, [.ref g1, .ref g2, .int 0, .int 0]))])) (va_Qi (fun (r : Int32) (_ : Unit) => r = 0) (fun _ _ => True) (va_A [(oG, .inr (0, [.ref g1, .ref g2, .int 0, .int 0]))] sz)) 0 0 (va_A [(oG, .inr (0, [.ref g1, .ref g2, .int 0, .int 0]))] sz) := by
  refine Met.ofW (cc := cX0_takeBack) (maxL := 3) (ret := (some .boolean)) (by decide) rfl ?_
  intro p e s m args below meth c s₁ B hml hv
  obtain ⟨rfl, hsz, hP, hK, hD0⟩ := hv
  have hx := B.exec
  have hb := B.bytes
  have hr := B.returns
  have hts := atoms_spec (ws := wsX0_takeBack) B.pre
  have hown : s.vm.findClass RX0 = some m.cls := findClass_of_methodNamed B.named
  have hlocks := B.notSynchronized
  have in_X0 : ∀ w ∈ wsX00, w ∈ wsX0_takeBack := fun _ h => List.mem_cons_of_mem _ (List.mem_append_left _ (List.mem_append_right _ (h)))
  subst hsz
  have hD := hD0.self (sz := s.heap.size)
  generalize hAe : va_A [(oG, .inr (0, [.ref g1, .ref g2, .int 0, .int 0]))] s.heap.size = A at hD ⊢
  have hA : ∀ q : Nat, s.heap.size ≤ q → A q := fun q h => by rw [← hAe]; exact Or.inr h
  have hS : va_S A s.heap s.heap [] := va_S.rf
  have hP : va_P (dC, dI) vwCl [(oG, .inr (0, [.ref g1, .ref g2, .int 0, .int 0]))] s.heap := hP
  have hl := lv_entry ([.ref oG, .ref nL]) (n := 3) (Nat.le_of_ble_eq_true rfl)
  rw [lg_entry_eq]
  generalize (lg_sl ([.ref oG, .ref nL]) ++ List.replicate (3 - (lg_sl ([.ref oG, .ref nL])).length) Slot.unset).toArray = ls at hl ⊢
  have hl : lv_has ls 3 [(0, .ref oG), (1, .ref nL)] := hl
  refine lv_aload_n hx hb dX0_takeBack_0 rfl (lv_at hl 0 rfl) ?_
  refine va_get (D := (dC, dI)) (ci := 0) (v := .int 0) (C := RX0) (T := TX0) (N := 4) hx hb hts in_X0 hown hK hP 0 rfl rfl 3 (by decide) (hts (.fieldLink RX0 22 "TextMender$Changes" "length" "I") (List.mem_of_getElem? (i := 1) rfl)) (fun _ h9 => h9) rfl dX0_takeBack_1 ?_
  refine lv_if_ne (tgt := 9) hx hb dX0_takeBack_4 (by decide) (fun c_1 => absurd (by decide) c_1) (fun c_1 => ?_)
  refine lv_iconst (v := 0) hx hb dX0_takeBack_7 (by decide) ?_
  exact W.zret (v := 0) (ty := .boolean) hx hb hr (rfl) (fun t ht hW => ⟨⟨0, (), rfl, rfl, trivial⟩, hS.F ht⟩) (hS.2.2) dX0_takeBack_8

set_option maxHeartbeats 4000000 in
set_option maxRecDepth 100000 in
theorem m_X7_fault (l : Launch) (dC : Nat → ClassId) (dI : Nat → Nat → Nat) (cI cS : ClassId) (sz : Nat) (oP : Nat) (oC : Nat) (nB : Nat)  : Met l yX7_fault wsX7_fault ({ frames := 0, cells := 0, slots := 0, locals := 0 } : Room) (va_Pc [.ref oP] (fun U => U.heap.size = sz ∧ va_P (dC, dI) vwCl [(oP, .inr (7, [.ref oC, .ref nB, .int (-1)]))] U.heap ∧ va_K (dC, dI) vwCl [(cI, .int), (cS, .short)] U ∧ va_D (fun _ => True) [(oP, .inr (7, [.ref oC, .ref nB, .int (-1)]))])) (va_Qi (fun (r : Int32) (_ : Unit) => r = (-1)) (fun _ t => va_P (dC, dI) vwCl [(oP, .inr (7, [.ref oC, .ref nB, .int (-1)]))] t.heap ∧ va_D (va_A [(oP, .inr (7, [.ref oC, .ref nB, .int (-1)]))] sz) [(oP, .inr (7, [.ref oC, .ref nB, .int (-1)]))]) (va_A [(oP, .inr (7, [.ref oC, .ref nB, .int (-1)]))] sz)) 0 0 (va_A [(oP, .inr (7, [.ref oC, .ref nB, .int (-1)]))] sz) := by
  refine Met.ofW (cc := cX7_fault) (maxL := 1) (ret := (some .int)) (by decide) rfl ?_
  intro p e s m args below meth c s₁ B hml hv
  obtain ⟨rfl, hsz, hP, hK, hD0⟩ := hv
  have hx := B.exec
  have hb := B.bytes
  have hr := B.returns
  have hts := atoms_spec (ws := wsX7_fault) B.pre
  have hown : s.vm.findClass RX7 = some m.cls := findClass_of_methodNamed B.named
  have hlocks := B.notSynchronized
  have in_X7 : ∀ w ∈ wsX70, w ∈ wsX7_fault := fun _ h => List.mem_cons_of_mem _ (List.mem_append_right _ (h))
  subst hsz
  have hD := hD0.self (sz := s.heap.size)
  generalize hAe : va_A [(oP, .inr (7, [.ref oC, .ref nB, .int (-1)]))] s.heap.size = A at hD ⊢
  have hA : ∀ q : Nat, s.heap.size ≤ q → A q := fun q h => by rw [← hAe]; exact Or.inr h
  have hS : va_S A s.heap s.heap [] := va_S.rf
  have hP : va_P (dC, dI) vwCl [(oP, .inr (7, [.ref oC, .ref nB, .int (-1)]))] s.heap := hP
  have hl := lv_entry ([.ref oP]) (n := 1) (Nat.le_of_ble_eq_true rfl)
  rw [lg_entry_eq]
  generalize (lg_sl ([.ref oP]) ++ List.replicate (1 - (lg_sl ([.ref oP])).length) Slot.unset).toArray = ls at hl ⊢
  have hl : lv_has ls 1 [(0, .ref oP)] := hl
  refine lv_aload_n hx hb dX7_fault_0 rfl (lv_at hl 0 rfl) ?_
  refine va_get (D := (dC, dI)) (ci := 7) (v := .int (-1)) (C := RX7) (T := TX7) (N := 3) hx hb hts in_X7 hown hK hP 0 rfl rfl 2 (by decide) (hts (.fieldLink RX7 24 "TextMender$Passage" "fault" "I") (List.mem_of_getElem? (i := 1) rfl)) (fun _ h9 => h9) rfl dX7_fault_1 ?_
  have hP9 := hP.sub (ws' := [(oP, .inr (7, [.ref oC, .ref nB, .int (-1)]))]) [0] rfl
  have hD9 := hD.sub (ws' := [(oP, .inr (7, [.ref oC, .ref nB, .int (-1)]))]) [0] (by decide) rfl
  exact W.iret (v := (-1)) hx hb hr (fun t ht hW => ⟨⟨(-1), (), rfl, rfl, by rw [ht]; exact hP9, hD9⟩, hS.F ht⟩) (hS.2.2) dX7_fault_4

set_option maxHeartbeats 4000000 in
set_option maxRecDepth 100000 in
theorem m_X7_bytes (l : Launch) (dC : Nat → ClassId) (dI : Nat → Nat → Nat) (cI cS : ClassId) (sz : Nat) (oP : Nat) (oC : Nat) (nB : Nat)  : Met l yX7_bytes wsX7_bytes ({ frames := 0, cells := 0, slots := 0, locals := 0 } : Room) (va_Pc [.ref oP] (fun U => U.heap.size = sz ∧ va_P (dC, dI) vwCl [(oP, .inr (7, [.ref oC, .ref nB, .int (-1)]))] U.heap ∧ va_K (dC, dI) vwCl [(cI, .int), (cS, .short)] U ∧ va_D (fun _ => True) [(oP, .inr (7, [.ref oC, .ref nB, .int (-1)]))])) (va_Qr (fun (_ : Unit) => True) (fun _ ra t => ra = nB ∧ va_P (dC, dI) vwCl [(oP, .inr (7, [.ref oC, .ref nB, .int (-1)]))] t.heap ∧ va_D (va_A [(oP, .inr (7, [.ref oC, .ref nB, .int (-1)]))] sz) [(oP, .inr (7, [.ref oC, .ref nB, .int (-1)]))]) (va_A [(oP, .inr (7, [.ref oC, .ref nB, .int (-1)]))] sz)) 0 0 (va_A [(oP, .inr (7, [.ref oC, .ref nB, .int (-1)]))] sz) := by
  refine Met.ofW (cc := cX7_bytes) (maxL := 1) (ret := (some (.object "TextMender$Numbers"))) (by decide) rfl ?_
  intro p e s m args below meth c s₁ B hml hv
  obtain ⟨rfl, hsz, hP, hK, hD0⟩ := hv
  have hx := B.exec
  have hb := B.bytes
  have hr := B.returns
  have hts := atoms_spec (ws := wsX7_bytes) B.pre
  have hown : s.vm.findClass RX7 = some m.cls := findClass_of_methodNamed B.named
  have hlocks := B.notSynchronized
  have in_X7 : ∀ w ∈ wsX70, w ∈ wsX7_bytes := fun _ h => List.mem_cons_of_mem _ (List.mem_append_right _ (h))
  subst hsz
  have hD := hD0.self (sz := s.heap.size)
  generalize hAe : va_A [(oP, .inr (7, [.ref oC, .ref nB, .int (-1)]))] s.heap.size = A at hD ⊢
  have hA : ∀ q : Nat, s.heap.size ≤ q → A q := fun q h => by rw [← hAe]; exact Or.inr h
  have hS : va_S A s.heap s.heap [] := va_S.rf
  have hP : va_P (dC, dI) vwCl [(oP, .inr (7, [.ref oC, .ref nB, .int (-1)]))] s.heap := hP
  have hl := lv_entry ([.ref oP]) (n := 1) (Nat.le_of_ble_eq_true rfl)
  rw [lg_entry_eq]
  generalize (lg_sl ([.ref oP]) ++ List.replicate (1 - (lg_sl ([.ref oP])).length) Slot.unset).toArray = ls at hl ⊢
  have hl : lv_has ls 1 [(0, .ref oP)] := hl
  refine lv_aload_n hx hb dX7_bytes_0 rfl (lv_at hl 0 rfl) ?_
  refine va_get (D := (dC, dI)) (ci := 7) (v := .ref nB) (C := RX7) (T := TX7) (N := 3) hx hb hts in_X7 hown hK hP 0 rfl rfl 1 (by decide) (hts (.fieldLink RX7 14 "TextMender$Passage" "bytes" "LTextMender$Numbers;") (List.mem_of_getElem? (i := 1) rfl)) (fun _ h9 => h9) rfl dX7_bytes_1 ?_
  have hP9 := hP.sub (ws' := [(oP, .inr (7, [.ref oC, .ref nB, .int (-1)]))]) [0] rfl
  have hD9 := hD.sub (ws' := [(oP, .inr (7, [.ref oC, .ref nB, .int (-1)]))]) [0] (by decide) rfl
  exact W.aret (v := .ref nB) hx hb hr (Or.inl ⟨_, rfl⟩) (Or.inr ⟨_, rfl⟩) (fun t ht hW => ⟨⟨(), nB, rfl, trivial, ⟨rfl, by rw [ht]; exact hP9, hD9⟩⟩, hS.F ht⟩) (hS.2.2) dX7_bytes_4

set_option maxHeartbeats 4000000 in
set_option maxRecDepth 100000 in
theorem m_X7_write (l : Launch) (dC : Nat → ClassId) (dI : Nat → Nat → Nat) (cI cS : ClassId) (sz : Nat) (oP : Nat) (oC : Nat) (nB : Nat) (aB : Nat) (nL : Nat) (aL : Nat) (cd : Int32)  : Met l yX7_write wsX7_write ({ frames := 1, cells := 0, slots := 0, locals := 21 } : Room) (va_Pc [.ref oP, .int cd, .ref nL] (fun U => U.heap.size = sz ∧ va_P (dC, dI) vwCl [(oP, .inr (7, [.ref oC, .ref nB, .int (-1)])), (nB, .inr (5, [.ref aB, .int 0])), (nL, .inr (5, [.ref aL, .int 0]))] U.heap ∧ va_K (dC, dI) vwCl [(cI, .int), (cS, .short)] U ∧ va_D (fun _ => True) [(oP, .inr (7, [.ref oC, .ref nB, .int (-1)])), (nB, .inr (5, [.ref aB, .int 0])), (nL, .inr (5, [.ref aL, .int 0]))])) (va_Qi (fun (r : Int32) (_ : Unit) => r = 1) (fun _ t => va_P (dC, dI) vwCl [(oP, .inr (7, [.ref oC, .ref nB, .int (-1)])), (nB, .inr (5, [.ref aB, .int 0])), (nL, .inr (5, [.ref aL, .int 0]))] t.heap ∧ va_D (va_A [(oP, .inr (7, [.ref oC, .ref nB, .int (-1)])), (nB, .inr (5, [.ref aB, .int 0])), (nL, .inr (5, [.ref aL, .int 0]))] sz) [(oP, .inr (7, [.ref oC, .ref nB, .int (-1)])), (nB, .inr (5, [.ref aB, .int 0])), (nL, .inr (5, [.ref aL, .int 0]))]) (va_A [(oP, .inr (7, [.ref oC, .ref nB, .int (-1)])), (nB, .inr (5, [.ref aB, .int 0])), (nL, .inr (5, [.ref aL, .int 0]))] sz)) 0 0 (va_A [(oP, .inr (7, [.ref oC, .ref nB, .int (-1)])), (nB, .inr (5, [.ref aB, .int 0])), (nL, .inr (5, [.ref aL, .int 0]))] sz) := by
  refine Met.ofW (cc := cX7_write) (maxL := 4) (ret := (some .boolean)) (by decide) rfl ?_
  intro p e s m args below meth c s₁ B hml hv
  obtain ⟨rfl, hsz, hP, hK, hD0⟩ := hv
  have hx := B.exec
  have hb := B.bytes
  have hr := B.returns
  have hts := atoms_spec (ws := wsX7_write) B.pre
  have hown : s.vm.findClass RX7 = some m.cls := findClass_of_methodNamed B.named
  have hlocks := B.notSynchronized
  have in_X7 : ∀ w ∈ wsX70, w ∈ wsX7_write := fun _ h => List.mem_cons_of_mem _ (List.mem_append_left _ (List.mem_append_left _ (List.mem_append_left _ (List.mem_append_right _ (h)))))
  subst hsz
  have hD := hD0.self (sz := s.heap.size)
  generalize hAe : va_A [(oP, .inr (7, [.ref oC, .ref nB, .int (-1)])), (nB, .inr (5, [.ref aB, .int 0])), (nL, .inr (5, [.ref aL, .int 0]))] s.heap.size = A at hD ⊢
  have hA : ∀ q : Nat, s.heap.size ≤ q → A q := fun q h => by rw [← hAe]; exact Or.inr h
  have hS : va_S A s.heap s.heap [] := va_S.rf
  have hP : va_P (dC, dI) vwCl [(oP, .inr (7, [.ref oC, .ref nB, .int (-1)])), (nB, .inr (5, [.ref aB, .int 0])), (nL, .inr (5, [.ref aL, .int 0]))] s.heap := hP
  have hl := lv_entry ([.ref oP, .int cd, .ref nL]) (n := 4) (Nat.le_of_ble_eq_true rfl)
  rw [lg_entry_eq]
  generalize (lg_sl ([.ref oP, .int cd, .ref nL]) ++ List.replicate (4 - (lg_sl ([.ref oP, .int cd, .ref nL])).length) Slot.unset).toArray = ls at hl ⊢
  have hl : lv_has ls 4 [(0, .ref oP), (1, .int cd), (2, .ref nL)] := hl
  refine lv_aload_n hx hb dX7_write_0 rfl (lv_at hl 0 rfl) ?_
  refine lv_iconst (v := (-1)) hx hb dX7_write_1 (by decide) ?_
  refine va_put (D := (dC, dI)) (ci := 7) (v := .int (-1)) (ty := .int) (C := RX7) (T := TX7) (N := 3) hx hb hts in_X7 tyX7 tyX7_ok nmX7 hown hK hP hD hS 0 rfl rfl 2 (by decide) (hts (.fieldLink RX7 24 "TextMender$Passage" "fault" "I") (List.mem_of_getElem? (i := 1) rfl)) (fun _ h9 => h9) rfl (by decide +kernel) rfl rfl (Nat.le_of_ble_eq_true rfl) dX7_write_2 (fun H locs hP hD hS => ?_)
  have hP : va_P (dC, dI) vwCl [(oP, .inr (7, [.ref oC, .ref nB, .int (-1)])), (nB, .inr (5, [.ref aB, .int 0])), (nL, .inr (5, [.ref aL, .int 0]))] H := hP
  have hD : va_D A [(oP, .inr (7, [.ref oC, .ref nB, .int (-1)])), (nB, .inr (5, [.ref aB, .int 0])), (nL, .inr (5, [.ref aL, .int 0]))] := hD
  refine lv_aload_n hx hb dX7_write_5 rfl (lv_at hl 0 rfl) ?_
  refine va_get (D := (dC, dI)) (ci := 7) (v := .ref nB) (C := RX7) (T := TX7) (N := 3) hx hb hts in_X7 hown hK hP 0 rfl rfl 1 (by decide) (hts (.fieldLink RX7 14 "TextMender$Passage" "bytes" "LTextMender$Numbers;") (List.mem_of_getElem? (i := 2) rfl)) (fun _ h9 => h9) rfl dX7_write_6 ?_
  refine lv_iconst (v := 0) hx hb dX7_write_9 (by decide) ?_
  have hPc := hP.sub (ws' := [(nB, .inr (5, [.ref aB, .int 0]))]) [1] rfl
  have hDc := hD.sub (ws' := [(nB, .inr (5, [.ref aB, .int 0]))]) [1] (by decide) rfl
  have hFc := va_free (wc := [(nB, .inr (5, [.ref aB, .int 0]))]) hD hS hA [1] rfl
  refine va_callv (va_runV (As := [.int 0]) (rest := []) ⟨hx, hb, hml, hown, hts⟩ (m_X5_cut l dC dI cI cS H.size nB aB 0 ) (cwV 1 hts gX7_write_X5_cut rfl rfl rfl (by decide +kernel) ⟨Nat.le_of_ble_eq_true rfl, Nat.le_of_ble_eq_true rfl⟩) ⟨fun a U g mk q => by obtain ⟨q0, q1, qP, qK, qD⟩ := q; exact ⟨q0, q1, qP, va_K.moved (u := U) (U := U.calling g mk a) (Vm.Alike.refl U.vm) qK, qD⟩, va_recv hK hPc (ci := 5) (q0 := 0) rfl rfl, fun U hU hW => ⟨rfl, by rw [hU], by rw [hU]; exact hPc, va_K.moved hW.alike hK, hDc.weaken (fun _ _ _ _ => trivial)⟩⟩ rfl rfl hl.1 rfl (lv_room (Nat.le_of_ble_eq_true rfl)) dX7_write_10 ⟨Nat.le_of_ble_eq_true rfl, Nat.le_of_ble_eq_true rfl⟩) hS (fun q _ h => hFc q h) hFc (fun u t H1 locs ht hvm hw hB hz1 hk1 hS => ?_)
  obtain ⟨hP1, hD1⟩ := hB
  rw [ht] at hP1
  obtain ⟨hP, hD⟩ := va_join (wr := [(oP, .inr (7, [.ref oC, .ref nB, .int (-1)])), (nL, .inr (5, [.ref aL, .int 0]))]) (w1 := [(nB, .inr (5, [.ref aB, .int 0]))]) hP hD [1] [0, 2] rfl rfl (by decide) (by decide) hk1 hFc hP1 hD1
  generalize H1 = H at hP hS ⊢
  have hP : va_P (dC, dI) vwCl [(oP, .inr (7, [.ref oC, .ref nB, .int (-1)])), (nL, .inr (5, [.ref aL, .int 0])), (nB, .inr (5, [.ref aB, .int 0]))] H := hP
  have hD : va_D A [(oP, .inr (7, [.ref oC, .ref nB, .int (-1)])), (nL, .inr (5, [.ref aL, .int 0])), (nB, .inr (5, [.ref aB, .int 0]))] := hD
  refine lv_iconst (v := 0) hx hb dX7_write_13 (by decide) ?_
  refine lv_istore_n (lv' := [(3, .int 0), (0, .ref oP), (1, .int cd), (2, .ref nL)]) hx hb dX7_write_14 rfl hl (by decide) rfl (fun ls hl => ?_)
  refine lv_iload_n hx hb dX7_write_15 rfl (lv_at hl 0 rfl) ?_
  refine lv_aload_n hx hb dX7_write_16 rfl (lv_at hl 3 rfl) ?_
  have hPc := hP.sub (ws' := [(nL, .inr (5, [.ref aL, .int 0]))]) [1] rfl
  have hDc := hD.sub (ws' := [(nL, .inr (5, [.ref aL, .int 0]))]) [1] (by decide) rfl
  have hFc := va_free (wc := [(nL, .inr (5, [.ref aL, .int 0]))]) hD hS hA [1] rfl
  refine va_calli (va_runV (As := []) (rest := [.int 0]) ⟨hx, hb, hml, hown, hts⟩ (m_X5_length l dC dI cI cS H.size nL aL 0 ) (cwV 0 hts gX7_write_X5_length rfl rfl rfl (by decide +kernel) ⟨Nat.le_of_ble_eq_true rfl, Nat.le_of_ble_eq_true rfl⟩) ⟨fun a U g mk q => by obtain ⟨q0, q1, qP, qK, qD⟩ := q; exact ⟨q0, q1, qP, va_K.moved (u := U) (U := U.calling g mk a) (Vm.Alike.refl U.vm) qK, qD⟩, va_recv hK hPc (ci := 5) (q0 := 0) rfl rfl, fun U hU hW => ⟨rfl, by rw [hU], by rw [hU]; exact hPc, va_K.moved hW.alike hK, hDc.weaken (fun _ _ _ _ => trivial)⟩⟩ rfl rfl hl.1 rfl (lv_room (Nat.le_of_ble_eq_true rfl)) dX7_write_17 ⟨Nat.le_of_ble_eq_true rfl, Nat.le_of_ble_eq_true rfl⟩) hS (fun q _ h => hFc q h) hFc (fun r_2 u t H1 locs ht hvm hw hB hz1 hk1 hS => ?_)
  obtain ⟨hP1, hD1⟩ := hB
  rw [ht] at hP1
  obtain ⟨hP, hD⟩ := va_join (wr := [(oP, .inr (7, [.ref oC, .ref nB, .int (-1)])), (nB, .inr (5, [.ref aB, .int 0]))]) (w1 := [(nL, .inr (5, [.ref aL, .int 0]))]) hP hD [1] [0, 2] rfl rfl (by decide) (by decide) hk1 hFc hP1 hD1
  generalize H1 = H at hP hS ⊢
  have hP : va_P (dC, dI) vwCl [(oP, .inr (7, [.ref oC, .ref nB, .int (-1)])), (nB, .inr (5, [.ref aB, .int 0])), (nL, .inr (5, [.ref aL, .int 0]))] H := hP
  have hD : va_D A [(oP, .inr (7, [.ref oC, .ref nB, .int (-1)])), (nB, .inr (5, [.ref aB, .int 0])), (nL, .inr (5, [.ref aL, .int 0]))] := hD
  subst hw
  refine lv_icmp_ge (tgt := 56) hx hb dX7_write_20 (by decide) (fun c_3 => ?_) (fun c_3 => absurd (by decide) c_3)
  refine lv_iconst (v := 1) hx hb dX7_write_56 (by decide) ?_
  have hP9 := hP.sub (ws' := [(oP, .inr (7, [.ref oC, .ref nB, .int (-1)])), (nB, .inr (5, [.ref aB, .int 0])), (nL, .inr (5, [.ref aL, .int 0]))]) [0, 1, 2] rfl
  have hD9 := hD.sub (ws' := [(oP, .inr (7, [.ref oC, .ref nB, .int (-1)])), (nB, .inr (5, [.ref aB, .int 0])), (nL, .inr (5, [.ref aL, .int 0]))]) [0, 1, 2] (by decide) rfl
  exact W.zret (v := 1) (ty := .boolean) hx hb hr (rfl) (fun t ht hW => ⟨⟨1, (), rfl, rfl, by rw [ht]; exact hP9, hD9⟩, hS.F ht⟩) (hS.2.2) dX7_write_57

set_option maxHeartbeats 4000000 in
set_option maxRecDepth 100000 in
theorem m_X7_readExactly (l : Launch) (dC : Nat → ClassId) (dI : Nat → Nat → Nat) (cI cS : ClassId) (sz : Nat) (oP : Nat) (oC : Nat) (nB : Nat) (n1 : Nat) (a1 : Nat) (n2 : Nat) (a2 : Nat) (cd : Int32)  : Met l yX7_readExactly wsX7_readExactly ({ frames := 1, cells := 0, slots := 0, locals := 21 } : Room) (va_Pc [.ref oP, .int cd, .ref n1, .ref n2] (fun U => U.heap.size = sz ∧ va_P (dC, dI) vwCl [(oP, .inr (7, [.ref oC, .ref nB, .int (-1)])), (n1, .inr (5, [.ref a1, .int 0])), (n2, .inr (5, [.ref a2, .int 0]))] U.heap ∧ va_K (dC, dI) vwCl [(cI, .int), (cS, .short)] U ∧ va_D (fun _ => True) [(oP, .inr (7, [.ref oC, .ref nB, .int (-1)])), (n1, .inr (5, [.ref a1, .int 0])), (n2, .inr (5, [.ref a2, .int 0]))])) (va_Qi (fun (r : Int32) (_ : Unit) => r = 1) (fun _ t => va_P (dC, dI) vwCl [(oP, .inr (7, [.ref oC, .ref nB, .int (-1)])), (n1, .inr (5, [.ref a1, .int 0])), (n2, .inr (5, [.ref a2, .int 0]))] t.heap ∧ va_D (va_A [(oP, .inr (7, [.ref oC, .ref nB, .int (-1)])), (n1, .inr (5, [.ref a1, .int 0])), (n2, .inr (5, [.ref a2, .int 0]))] sz) [(oP, .inr (7, [.ref oC, .ref nB, .int (-1)])), (n1, .inr (5, [.ref a1, .int 0])), (n2, .inr (5, [.ref a2, .int 0]))]) (va_A [(oP, .inr (7, [.ref oC, .ref nB, .int (-1)])), (n1, .inr (5, [.ref a1, .int 0])), (n2, .inr (5, [.ref a2, .int 0]))] sz)) 0 0 (va_A [(oP, .inr (7, [.ref oC, .ref nB, .int (-1)])), (n1, .inr (5, [.ref a1, .int 0])), (n2, .inr (5, [.ref a2, .int 0]))] sz) := by
  refine Met.ofW (cc := cX7_readExactly) (maxL := 7) (ret := (some .boolean)) (by decide) rfl ?_
  intro p e s m args below meth c s₁ B hml hv
  obtain ⟨rfl, hsz, hP, hK, hD0⟩ := hv
  have hx := B.exec
  have hb := B.bytes
  have hr := B.returns
  have hts := atoms_spec (ws := wsX7_readExactly) B.pre
  have hown : s.vm.findClass RX7 = some m.cls := findClass_of_methodNamed B.named
  have hlocks := B.notSynchronized
  have in_X7 : ∀ w ∈ wsX70, w ∈ wsX7_readExactly := fun _ h => List.mem_cons_of_mem _ (List.mem_append_left _ (List.mem_append_left _ (List.mem_append_left _ (List.mem_append_right _ (h)))))
  subst hsz
  have hD := hD0.self (sz := s.heap.size)
  generalize hAe : va_A [(oP, .inr (7, [.ref oC, .ref nB, .int (-1)])), (n1, .inr (5, [.ref a1, .int 0])), (n2, .inr (5, [.ref a2, .int 0]))] s.heap.size = A at hD ⊢
  have hA : ∀ q : Nat, s.heap.size ≤ q → A q := fun q h => by rw [← hAe]; exact Or.inr h
  have hS : va_S A s.heap s.heap [] := va_S.rf
  have hP : va_P (dC, dI) vwCl [(oP, .inr (7, [.ref oC, .ref nB, .int (-1)])), (n1, .inr (5, [.ref a1, .int 0])), (n2, .inr (5, [.ref a2, .int 0]))] s.heap := hP
  have hl := lv_entry ([.ref oP, .int cd, .ref n1, .ref n2]) (n := 7) (Nat.le_of_ble_eq_true rfl)
  rw [lg_entry_eq]
  generalize (lg_sl ([.ref oP, .int cd, .ref n1, .ref n2]) ++ List.replicate (7 - (lg_sl ([.ref oP, .int cd, .ref n1, .ref n2])).length) Slot.unset).toArray = ls at hl ⊢
  have hl : lv_has ls 7 [(0, .ref oP), (1, .int cd), (2, .ref n1), (3, .ref n2)] := hl
  refine lv_aload_n hx hb dX7_readExactly_0 rfl (lv_at hl 0 rfl) ?_
  refine lv_iconst (v := (-1)) hx hb dX7_readExactly_1 (by decide) ?_
  refine va_put (D := (dC, dI)) (ci := 7) (v := .int (-1)) (ty := .int) (C := RX7) (T := TX7) (N := 3) hx hb hts in_X7 tyX7 tyX7_ok nmX7 hown hK hP hD hS 0 rfl rfl 2 (by decide) (hts (.fieldLink RX7 24 "TextMender$Passage" "fault" "I") (List.mem_of_getElem? (i := 1) rfl)) (fun _ h9 => h9) rfl (by decide +kernel) rfl rfl (Nat.le_of_ble_eq_true rfl) dX7_readExactly_2 (fun H locs hP hD hS => ?_)
  have hP : va_P (dC, dI) vwCl [(oP, .inr (7, [.ref oC, .ref nB, .int (-1)])), (n1, .inr (5, [.ref a1, .int 0])), (n2, .inr (5, [.ref a2, .int 0]))] H := hP
  have hD : va_D A [(oP, .inr (7, [.ref oC, .ref nB, .int (-1)])), (n1, .inr (5, [.ref a1, .int 0])), (n2, .inr (5, [.ref a2, .int 0]))] := hD
  refine lv_aload_n hx hb dX7_readExactly_5 rfl (lv_at hl 3 rfl) ?_
  refine lv_iconst (v := 0) hx hb dX7_readExactly_6 (by decide) ?_
  have hPc := hP.sub (ws' := [(n2, .inr (5, [.ref a2, .int 0]))]) [2] rfl
  have hDc := hD.sub (ws' := [(n2, .inr (5, [.ref a2, .int 0]))]) [2] (by decide) rfl
  have hFc := va_free (wc := [(n2, .inr (5, [.ref a2, .int 0]))]) hD hS hA [2] rfl
  refine va_callv (va_runV (As := [.int 0]) (rest := []) ⟨hx, hb, hml, hown, hts⟩ (m_X5_cut l dC dI cI cS H.size n2 a2 0 ) (cwV 1 hts gX7_readExactly_X5_cut rfl rfl rfl (by decide +kernel) ⟨Nat.le_of_ble_eq_true rfl, Nat.le_of_ble_eq_true rfl⟩) ⟨fun a U g mk q => by obtain ⟨q0, q1, qP, qK, qD⟩ := q; exact ⟨q0, q1, qP, va_K.moved (u := U) (U := U.calling g mk a) (Vm.Alike.refl U.vm) qK, qD⟩, va_recv hK hPc (ci := 5) (q0 := 0) rfl rfl, fun U hU hW => ⟨rfl, by rw [hU], by rw [hU]; exact hPc, va_K.moved hW.alike hK, hDc.weaken (fun _ _ _ _ => trivial)⟩⟩ rfl rfl hl.1 rfl (lv_room (Nat.le_of_ble_eq_true rfl)) dX7_readExactly_7 ⟨Nat.le_of_ble_eq_true rfl, Nat.le_of_ble_eq_true rfl⟩) hS (fun q _ h => hFc q h) hFc (fun u t H1 locs ht hvm hw hB hz1 hk1 hS => ?_)
  obtain ⟨hP1, hD1⟩ := hB
  rw [ht] at hP1
  obtain ⟨hP, hD⟩ := va_join (wr := [(oP, .inr (7, [.ref oC, .ref nB, .int (-1)])), (n1, .inr (5, [.ref a1, .int 0]))]) (w1 := [(n2, .inr (5, [.ref a2, .int 0]))]) hP hD [2] [0, 1] rfl rfl (by decide) (by decide) hk1 hFc hP1 hD1
  generalize H1 = H at hP hS ⊢
  have hP : va_P (dC, dI) vwCl [(oP, .inr (7, [.ref oC, .ref nB, .int (-1)])), (n1, .inr (5, [.ref a1, .int 0])), (n2, .inr (5, [.ref a2, .int 0]))] H := hP
  have hD : va_D A [(oP, .inr (7, [.ref oC, .ref nB, .int (-1)])), (n1, .inr (5, [.ref a1, .int 0])), (n2, .inr (5, [.ref a2, .int 0]))] := hD
  refine lv_iconst (v := 1) hx hb dX7_readExactly_10 (by decide) ?_
  refine lv_istore (lv' := [(4, .int 1), (0, .ref oP), (1, .int cd), (2, .ref n1), (3, .ref n2)]) hx hb dX7_readExactly_11 hl (by decide) rfl (fun ls hl => ?_)
  refine lv_iconst (v := 0) hx hb dX7_readExactly_13 (by decide) ?_
  refine lv_istore (lv' := [(5, .int 0), (4, .int 1), (0, .ref oP), (1, .int cd), (2, .ref n1), (3, .ref n2)]) hx hb dX7_readExactly_14 hl (by decide) rfl (fun ls hl => ?_)
  refine lv_iload hx hb dX7_readExactly_16 (lv_at hl 0 rfl) ?_
  refine lv_aload_n hx hb dX7_readExactly_18 rfl (lv_at hl 4 rfl) ?_
  have hPc := hP.sub (ws' := [(n1, .inr (5, [.ref a1, .int 0]))]) [1] rfl
  have hDc := hD.sub (ws' := [(n1, .inr (5, [.ref a1, .int 0]))]) [1] (by decide) rfl
  have hFc := va_free (wc := [(n1, .inr (5, [.ref a1, .int 0]))]) hD hS hA [1] rfl
  refine va_calli (va_runV (As := []) (rest := [.int 0]) ⟨hx, hb, hml, hown, hts⟩ (m_X5_length l dC dI cI cS H.size n1 a1 0 ) (cwV 0 hts gX7_readExactly_X5_length rfl rfl rfl (by decide +kernel) ⟨Nat.le_of_ble_eq_true rfl, Nat.le_of_ble_eq_true rfl⟩) ⟨fun a U g mk q => by obtain ⟨q0, q1, qP, qK, qD⟩ := q; exact ⟨q0, q1, qP, va_K.moved (u := U) (U := U.calling g mk a) (Vm.Alike.refl U.vm) qK, qD⟩, va_recv hK hPc (ci := 5) (q0 := 0) rfl rfl, fun U hU hW => ⟨rfl, by rw [hU], by rw [hU]; exact hPc, va_K.moved hW.alike hK, hDc.weaken (fun _ _ _ _ => trivial)⟩⟩ rfl rfl hl.1 rfl (lv_room (Nat.le_of_ble_eq_true rfl)) dX7_readExactly_19 ⟨Nat.le_of_ble_eq_true rfl, Nat.le_of_ble_eq_true rfl⟩) hS (fun q _ h => hFc q h) hFc (fun r_2 u t H1 locs ht hvm hw hB hz1 hk1 hS => ?_)
  obtain ⟨hP1, hD1⟩ := hB
  rw [ht] at hP1
  obtain ⟨hP, hD⟩ := va_join (wr := [(oP, .inr (7, [.ref oC, .ref nB, .int (-1)])), (n2, .inr (5, [.ref a2, .int 0]))]) (w1 := [(n1, .inr (5, [.ref a1, .int 0]))]) hP hD [1] [0, 2] rfl rfl (by decide) (by decide) hk1 hFc hP1 hD1
  generalize H1 = H at hP hS ⊢
  have hP : va_P (dC, dI) vwCl [(oP, .inr (7, [.ref oC, .ref nB, .int (-1)])), (n2, .inr (5, [.ref a2, .int 0])), (n1, .inr (5, [.ref a1, .int 0]))] H := hP
  have hD : va_D A [(oP, .inr (7, [.ref oC, .ref nB, .int (-1)])), (n2, .inr (5, [.ref a2, .int 0])), (n1, .inr (5, [.ref a1, .int 0]))] := hD
  subst hw
  refine lv_icmp_ge (tgt := 97) hx hb dX7_readExactly_22 (by decide) (fun c_3 => ?_) (fun c_3 => absurd (by decide) c_3)
  refine lv_iload hx hb dX7_readExactly_97 (lv_at hl 1 rfl) ?_
  have hP9 := hP.sub (ws' := [(oP, .inr (7, [.ref oC, .ref nB, .int (-1)])), (n1, .inr (5, [.ref a1, .int 0])), (n2, .inr (5, [.ref a2, .int 0]))]) [0, 2, 1] rfl
  have hD9 := hD.sub (ws' := [(oP, .inr (7, [.ref oC, .ref nB, .int (-1)])), (n1, .inr (5, [.ref a1, .int 0])), (n2, .inr (5, [.ref a2, .int 0]))]) [0, 2, 1] (by decide) rfl
  exact W.zret (v := 1) (ty := .boolean) hx hb hr (rfl) (fun t ht hW => ⟨⟨1, (), rfl, rfl, by rw [ht]; exact hP9, hD9⟩, hS.F ht⟩) (hS.2.2) dX7_readExactly_99

set_option maxHeartbeats 4000000 in
set_option maxRecDepth 100000 in
theorem m_X7_pass (l : Launch) (dC : Nat → ClassId) (dI : Nat → Nat → Nat) (cI cS : ClassId) (sz : Nat) (oP : Nat) (oC : Nat) (nB : Nat) (aB : Nat) (nL : Nat) (aL : Nat) (nM : Nat) (aM : Nat) (a : Int32) (b : Int32)  : Met l yX7_pass wsX7_pass ({ frames := 2, cells := 0, slots := 0, locals := 47 } : Room) (va_Pc [.ref oP, .int a, .int b, .ref nL, .ref nM] (fun U => U.heap.size = sz ∧ va_P (dC, dI) vwCl [(oP, .inr (7, [.ref oC, .ref nB, .int (-1)])), (nB, .inr (5, [.ref aB, .int 0])), (nL, .inr (5, [.ref aL, .int 0])), (nM, .inr (5, [.ref aM, .int 0]))] U.heap ∧ va_K (dC, dI) vwCl [(cI, .int), (cS, .short)] U ∧ va_D (fun _ => True) [(oP, .inr (7, [.ref oC, .ref nB, .int (-1)])), (nB, .inr (5, [.ref aB, .int 0])), (nL, .inr (5, [.ref aL, .int 0])), (nM, .inr (5, [.ref aM, .int 0]))])) (va_Qi (fun (r : Int32) (_ : Unit) => r = 1) (fun _ t => va_P (dC, dI) vwCl [(oP, .inr (7, [.ref oC, .ref nB, .int (-1)])), (nB, .inr (5, [.ref aB, .int 0])), (nL, .inr (5, [.ref aL, .int 0])), (nM, .inr (5, [.ref aM, .int 0]))] t.heap ∧ va_D (va_A [(oP, .inr (7, [.ref oC, .ref nB, .int (-1)])), (nB, .inr (5, [.ref aB, .int 0])), (nL, .inr (5, [.ref aL, .int 0])), (nM, .inr (5, [.ref aM, .int 0]))] sz) [(oP, .inr (7, [.ref oC, .ref nB, .int (-1)])), (nB, .inr (5, [.ref aB, .int 0])), (nL, .inr (5, [.ref aL, .int 0])), (nM, .inr (5, [.ref aM, .int 0]))]) (va_A [(oP, .inr (7, [.ref oC, .ref nB, .int (-1)])), (nB, .inr (5, [.ref aB, .int 0])), (nL, .inr (5, [.ref aL, .int 0])), (nM, .inr (5, [.ref aM, .int 0]))] sz)) 0 0 (va_A [(oP, .inr (7, [.ref oC, .ref nB, .int (-1)])), (nB, .inr (5, [.ref aB, .int 0])), (nL, .inr (5, [.ref aL, .int 0])), (nM, .inr (5, [.ref aM, .int 0]))] sz) := by
  refine Met.ofW (cc := cX7_pass) (maxL := 5) (ret := (some .boolean)) (by decide) rfl ?_
  intro p e s m args below meth c s₁ B hml hv
  obtain ⟨rfl, hsz, hP, hK, hD0⟩ := hv
  have hx := B.exec
  have hb := B.bytes
  have hr := B.returns
  have hts := atoms_spec (ws := wsX7_pass) B.pre
  have hown : s.vm.findClass RX7 = some m.cls := findClass_of_methodNamed B.named
  have hlocks := B.notSynchronized
  have in_X7 : ∀ w ∈ wsX70, w ∈ wsX7_pass := fun _ h => List.mem_cons_of_mem _ (List.mem_append_left _ (List.mem_append_left _ (List.mem_append_left _ (List.mem_append_right _ (h)))))
  subst hsz
  have hD := hD0.self (sz := s.heap.size)
  generalize hAe : va_A [(oP, .inr (7, [.ref oC, .ref nB, .int (-1)])), (nB, .inr (5, [.ref aB, .int 0])), (nL, .inr (5, [.ref aL, .int 0])), (nM, .inr (5, [.ref aM, .int 0]))] s.heap.size = A at hD ⊢
  have hA : ∀ q : Nat, s.heap.size ≤ q → A q := fun q h => by rw [← hAe]; exact Or.inr h
  have hS : va_S A s.heap s.heap [] := va_S.rf
  have hP : va_P (dC, dI) vwCl [(oP, .inr (7, [.ref oC, .ref nB, .int (-1)])), (nB, .inr (5, [.ref aB, .int 0])), (nL, .inr (5, [.ref aL, .int 0])), (nM, .inr (5, [.ref aM, .int 0]))] s.heap := hP
  have hl := lv_entry ([.ref oP, .int a, .int b, .ref nL, .ref nM]) (n := 5) (Nat.le_of_ble_eq_true rfl)
  rw [lg_entry_eq]
  generalize (lg_sl ([.ref oP, .int a, .int b, .ref nL, .ref nM]) ++ List.replicate (5 - (lg_sl ([.ref oP, .int a, .int b, .ref nL, .ref nM])).length) Slot.unset).toArray = ls at hl ⊢
  have hl : lv_has ls 5 [(0, .ref oP), (1, .int a), (2, .int b), (3, .ref nL), (4, .ref nM)] := hl
  refine lv_aload_n hx hb dX7_pass_0 rfl (lv_at hl 0 rfl) ?_
  refine lv_iload_n hx hb dX7_pass_1 rfl (lv_at hl 1 rfl) ?_
  refine lv_aload_n hx hb dX7_pass_2 rfl (lv_at hl 3 rfl) ?_
  have hPc := hP.sub (ws' := [(oP, .inr (7, [.ref oC, .ref nB, .int (-1)])), (nB, .inr (5, [.ref aB, .int 0])), (nL, .inr (5, [.ref aL, .int 0]))]) [0, 1, 2] rfl
  have hDc := hD.sub (ws' := [(oP, .inr (7, [.ref oC, .ref nB, .int (-1)])), (nB, .inr (5, [.ref aB, .int 0])), (nL, .inr (5, [.ref aL, .int 0]))]) [0, 1, 2] (by decide) rfl
  have hFc := va_free (wc := [(oP, .inr (7, [.ref oC, .ref nB, .int (-1)])), (nB, .inr (5, [.ref aB, .int 0])), (nL, .inr (5, [.ref aL, .int 0]))]) hD hS hA [0, 1, 2] rfl
  refine va_calli (va_runV (As := [.int a, .ref nL]) (rest := []) ⟨hx, hb, hml, hown, hts⟩ (m_X7_write l dC dI cI cS s.heap.size oP oC nB aB nL aL a ) (cwV 2 hts gX7_pass_X7_write rfl rfl rfl (by decide +kernel) ⟨Nat.le_of_ble_eq_true rfl, Nat.le_of_ble_eq_true rfl⟩) ⟨fun a U g mk q => by obtain ⟨q0, q1, qP, qK, qD⟩ := q; exact ⟨q0, q1, qP, va_K.moved (u := U) (U := U.calling g mk a) (Vm.Alike.refl U.vm) qK, qD⟩, va_recv hK hPc (ci := 7) (q0 := 0) rfl rfl, fun U hU hW => ⟨rfl, by rw [hU], by rw [hU]; exact hPc, va_K.moved hW.alike hK, hDc.weaken (fun _ _ _ _ => trivial)⟩⟩ rfl rfl hl.1 rfl (lv_room (Nat.le_of_ble_eq_true rfl)) dX7_pass_3 ⟨Nat.le_of_ble_eq_true rfl, Nat.le_of_ble_eq_true rfl⟩) hS (fun q _ h => hFc q h) hFc (fun r_1 u t H1 locs ht hvm hw hB hz1 hk1 hS => ?_)
  obtain ⟨hP1, hD1⟩ := hB
  rw [ht] at hP1
  obtain ⟨hP, hD⟩ := va_join (wr := [(nM, .inr (5, [.ref aM, .int 0]))]) (w1 := [(oP, .inr (7, [.ref oC, .ref nB, .int (-1)])), (nB, .inr (5, [.ref aB, .int 0])), (nL, .inr (5, [.ref aL, .int 0]))]) hP hD [0, 1, 2] [3] rfl rfl (by decide) (by decide) hk1 hFc hP1 hD1
  generalize H1 = H at hP hS ⊢
  have hP : va_P (dC, dI) vwCl [(nM, .inr (5, [.ref aM, .int 0])), (oP, .inr (7, [.ref oC, .ref nB, .int (-1)])), (nB, .inr (5, [.ref aB, .int 0])), (nL, .inr (5, [.ref aL, .int 0]))] H := hP
  have hD : va_D A [(nM, .inr (5, [.ref aM, .int 0])), (oP, .inr (7, [.ref oC, .ref nB, .int (-1)])), (nB, .inr (5, [.ref aB, .int 0])), (nL, .inr (5, [.ref aL, .int 0]))] := hD
  subst hw
  refine lv_if_eq (tgt := 40) hx hb dX7_pass_6 (by decide) (fun c_2 => absurd c_2 (by decide)) (fun c_2 => ?_)
  refine lv_aload_n hx hb dX7_pass_9 rfl (lv_at hl 0 rfl) ?_
  refine lv_iload_n hx hb dX7_pass_10 rfl (lv_at hl 2 rfl) ?_
  refine lv_aload_n hx hb dX7_pass_11 rfl (lv_at hl 0 rfl) ?_
  refine va_get (D := (dC, dI)) (ci := 7) (v := .ref nB) (C := RX7) (T := TX7) (N := 3) hx hb hts in_X7 hown hK hP 1 rfl rfl 1 (by decide) (hts (.fieldLink RX7 14 "TextMender$Passage" "bytes" "LTextMender$Numbers;") (List.mem_of_getElem? (i := 1) rfl)) (fun _ h9 => h9) rfl dX7_pass_12 ?_
  refine lv_aload hx hb dX7_pass_15 (lv_at hl 4 rfl) ?_
  have hPc := hP.sub (ws' := [(oP, .inr (7, [.ref oC, .ref nB, .int (-1)])), (nB, .inr (5, [.ref aB, .int 0])), (nM, .inr (5, [.ref aM, .int 0]))]) [1, 2, 0] rfl
  have hDc := hD.sub (ws' := [(oP, .inr (7, [.ref oC, .ref nB, .int (-1)])), (nB, .inr (5, [.ref aB, .int 0])), (nM, .inr (5, [.ref aM, .int 0]))]) [1, 2, 0] (by decide) rfl
  have hFc := va_free (wc := [(oP, .inr (7, [.ref oC, .ref nB, .int (-1)])), (nB, .inr (5, [.ref aB, .int 0])), (nM, .inr (5, [.ref aM, .int 0]))]) hD hS hA [1, 2, 0] rfl
  refine va_calli (va_runV (As := [.int b, .ref nB, .ref nM]) (rest := []) ⟨hx, hb, hml, hown, hts⟩ (m_X7_readExactly l dC dI cI cS H.size oP oC nB nB aB nM aM b ) (cwV 3 hts gX7_pass_X7_readExactly rfl rfl rfl (by decide +kernel) ⟨Nat.le_of_ble_eq_true rfl, Nat.le_of_ble_eq_true rfl⟩) ⟨fun a U g mk q => by obtain ⟨q0, q1, qP, qK, qD⟩ := q; exact ⟨q0, q1, qP, va_K.moved (u := U) (U := U.calling g mk a) (Vm.Alike.refl U.vm) qK, qD⟩, va_recv hK hPc (ci := 7) (q0 := 0) rfl rfl, fun U hU hW => ⟨rfl, by rw [hU], by rw [hU]; exact hPc, va_K.moved hW.alike hK, hDc.weaken (fun _ _ _ _ => trivial)⟩⟩ rfl rfl hl.1 rfl (lv_room (Nat.le_of_ble_eq_true rfl)) dX7_pass_17 ⟨Nat.le_of_ble_eq_true rfl, Nat.le_of_ble_eq_true rfl⟩) hS (fun q _ h => hFc q h) hFc (fun r_3 u t H1 locs ht hvm hw hB hz1 hk1 hS => ?_)
  obtain ⟨hP1, hD1⟩ := hB
  rw [ht] at hP1
  obtain ⟨hP, hD⟩ := va_join (wr := [(nL, .inr (5, [.ref aL, .int 0]))]) (w1 := [(oP, .inr (7, [.ref oC, .ref nB, .int (-1)])), (nB, .inr (5, [.ref aB, .int 0])), (nM, .inr (5, [.ref aM, .int 0]))]) hP hD [1, 2, 0] [3] rfl rfl (by decide) (by decide) hk1 hFc hP1 hD1
  generalize H1 = H at hP hS ⊢
  have hP : va_P (dC, dI) vwCl [(nL, .inr (5, [.ref aL, .int 0])), (oP, .inr (7, [.ref oC, .ref nB, .int (-1)])), (nB, .inr (5, [.ref aB, .int 0])), (nM, .inr (5, [.ref aM, .int 0]))] H := hP
  have hD : va_D A [(nL, .inr (5, [.ref aL, .int 0])), (oP, .inr (7, [.ref oC, .ref nB, .int (-1)])), (nB, .inr (5, [.ref aB, .int 0])), (nM, .inr (5, [.ref aM, .int 0]))] := hD
  subst hw
  refine lv_if_eq (tgt := 40) hx hb dX7_pass_20 (by decide) (fun c_4 => absurd c_4 (by decide)) (fun c_4 => ?_)
  refine lv_aload_n hx hb dX7_pass_23 rfl (lv_at hl 0 rfl) ?_
  refine va_get (D := (dC, dI)) (ci := 7) (v := .ref nB) (C := RX7) (T := TX7) (N := 3) hx hb hts in_X7 hown hK hP 1 rfl rfl 1 (by decide) (hts (.fieldLink RX7 14 "TextMender$Passage" "bytes" "LTextMender$Numbers;") (List.mem_of_getElem? (i := 1) rfl)) (fun _ h9 => h9) rfl dX7_pass_24 ?_
  have hPc := hP.sub (ws' := [(nB, .inr (5, [.ref aB, .int 0]))]) [2] rfl
  have hDc := hD.sub (ws' := [(nB, .inr (5, [.ref aB, .int 0]))]) [2] (by decide) rfl
  have hFc := va_free (wc := [(nB, .inr (5, [.ref aB, .int 0]))]) hD hS hA [2] rfl
  refine va_calli (va_runV (As := []) (rest := []) ⟨hx, hb, hml, hown, hts⟩ (m_X5_length l dC dI cI cS H.size nB aB 0 ) (cwV 0 hts gX7_pass_X5_length rfl rfl rfl (by decide +kernel) ⟨Nat.le_of_ble_eq_true rfl, Nat.le_of_ble_eq_true rfl⟩) ⟨fun a U g mk q => by obtain ⟨q0, q1, qP, qK, qD⟩ := q; exact ⟨q0, q1, qP, va_K.moved (u := U) (U := U.calling g mk a) (Vm.Alike.refl U.vm) qK, qD⟩, va_recv hK hPc (ci := 5) (q0 := 0) rfl rfl, fun U hU hW => ⟨rfl, by rw [hU], by rw [hU]; exact hPc, va_K.moved hW.alike hK, hDc.weaken (fun _ _ _ _ => trivial)⟩⟩ rfl rfl hl.1 rfl (lv_room (Nat.le_of_ble_eq_true rfl)) dX7_pass_27 ⟨Nat.le_of_ble_eq_true rfl, Nat.le_of_ble_eq_true rfl⟩) hS (fun q _ h => hFc q h) hFc (fun r_5 u t H1 locs ht hvm hw hB hz1 hk1 hS => ?_)
  obtain ⟨hP1, hD1⟩ := hB
  rw [ht] at hP1
  obtain ⟨hP, hD⟩ := va_join (wr := [(nL, .inr (5, [.ref aL, .int 0])), (oP, .inr (7, [.ref oC, .ref nB, .int (-1)])), (nM, .inr (5, [.ref aM, .int 0]))]) (w1 := [(nB, .inr (5, [.ref aB, .int 0]))]) hP hD [2] [0, 1, 3] rfl rfl (by decide) (by decide) hk1 hFc hP1 hD1
  generalize H1 = H at hP hS ⊢
  have hP : va_P (dC, dI) vwCl [(nL, .inr (5, [.ref aL, .int 0])), (oP, .inr (7, [.ref oC, .ref nB, .int (-1)])), (nM, .inr (5, [.ref aM, .int 0])), (nB, .inr (5, [.ref aB, .int 0]))] H := hP
  have hD : va_D A [(nL, .inr (5, [.ref aL, .int 0])), (oP, .inr (7, [.ref oC, .ref nB, .int (-1)])), (nM, .inr (5, [.ref aM, .int 0])), (nB, .inr (5, [.ref aB, .int 0]))] := hD
  subst hw
  refine lv_sipush (v := 900) hx hb dX7_pass_30 (by decide) ?_
  refine lv_icmp_gt (tgt := 40) hx hb dX7_pass_33 (by decide) (fun c_6 => absurd c_6 (by decide)) (fun c_6 => ?_)
  refine lv_iconst (v := 1) hx hb dX7_pass_36 (by decide) ?_
  refine lv_goto (tgt := 41) hx hb dX7_pass_37 (by decide) ?_
  have hP9 := hP.sub (ws' := [(oP, .inr (7, [.ref oC, .ref nB, .int (-1)])), (nB, .inr (5, [.ref aB, .int 0])), (nL, .inr (5, [.ref aL, .int 0])), (nM, .inr (5, [.ref aM, .int 0]))]) [1, 3, 0, 2] rfl
  have hD9 := hD.sub (ws' := [(oP, .inr (7, [.ref oC, .ref nB, .int (-1)])), (nB, .inr (5, [.ref aB, .int 0])), (nL, .inr (5, [.ref aL, .int 0])), (nM, .inr (5, [.ref aM, .int 0]))]) [1, 3, 0, 2] (by decide) rfl
  exact W.zret (v := 1) (ty := .boolean) hx hb hr (rfl) (fun t ht hW => ⟨⟨1, (), rfl, rfl, by rw [ht]; exact hP9, hD9⟩, hS.F ht⟩) (hS.2.2) dX7_pass_41

set_option maxHeartbeats 4000000 in
set_option maxRecDepth 100000 in
theorem m_X7_passRoughly (l : Launch) (dC : Nat → ClassId) (dI : Nat → Nat → Nat) (cI cS : ClassId) (sz : Nat) (oP : Nat) (oC : Nat) (nB : Nat) (aB : Nat) (nL : Nat) (aL : Nat) (nM : Nat) (aM : Nat) (a : Int32) (b : Int32)  : Met l yX7_passRoughly wsX7_passRoughly ({ frames := 2, cells := 0, slots := 0, locals := 44 } : Room) (va_Pc [.ref oP, .int a, .int b, .ref nL, .ref nM] (fun U => U.heap.size = sz ∧ va_P (dC, dI) vwCl [(oP, .inr (7, [.ref oC, .ref nB, .int (-1)])), (nB, .inr (5, [.ref aB, .int 0])), (nL, .inr (5, [.ref aL, .int 0])), (nM, .inr (5, [.ref aM, .int 0]))] U.heap ∧ va_K (dC, dI) vwCl [(cI, .int), (cS, .short)] U ∧ va_D (fun _ => True) [(oP, .inr (7, [.ref oC, .ref nB, .int (-1)])), (nB, .inr (5, [.ref aB, .int 0])), (nL, .inr (5, [.ref aL, .int 0])), (nM, .inr (5, [.ref aM, .int 0]))])) (va_Qi (fun (r : Int32) (_ : Unit) => r = 0) (fun _ t => va_P (dC, dI) vwCl [(oP, .inr (7, [.ref oC, .ref nB, .int (-1)])), (nB, .inr (5, [.ref aB, .int 0])), (nL, .inr (5, [.ref aL, .int 0])), (nM, .inr (5, [.ref aM, .int 0]))] t.heap ∧ va_D (va_A [(oP, .inr (7, [.ref oC, .ref nB, .int (-1)])), (nB, .inr (5, [.ref aB, .int 0])), (nL, .inr (5, [.ref aL, .int 0])), (nM, .inr (5, [.ref aM, .int 0]))] sz) [(oP, .inr (7, [.ref oC, .ref nB, .int (-1)])), (nB, .inr (5, [.ref aB, .int 0])), (nL, .inr (5, [.ref aL, .int 0])), (nM, .inr (5, [.ref aM, .int 0]))]) (va_A [(oP, .inr (7, [.ref oC, .ref nB, .int (-1)])), (nB, .inr (5, [.ref aB, .int 0])), (nL, .inr (5, [.ref aL, .int 0])), (nM, .inr (5, [.ref aM, .int 0]))] sz)) 0 0 (va_A [(oP, .inr (7, [.ref oC, .ref nB, .int (-1)])), (nB, .inr (5, [.ref aB, .int 0])), (nL, .inr (5, [.ref aL, .int 0])), (nM, .inr (5, [.ref aM, .int 0]))] sz) := by
  refine Met.ofW (cc := cX7_passRoughly) (maxL := 8) (ret := (some .int)) (by decide) rfl ?_
  intro p e s m args below meth c s₁ B hml hv
  obtain ⟨rfl, hsz, hP, hK, hD0⟩ := hv
  have hx := B.exec
  have hb := B.bytes
  have hr := B.returns
  have hts := atoms_spec (ws := wsX7_passRoughly) B.pre
  have hown : s.vm.findClass RX7 = some m.cls := findClass_of_methodNamed B.named
  have hlocks := B.notSynchronized
  have in_X7 : ∀ w ∈ wsX70, w ∈ wsX7_passRoughly := fun _ h => List.mem_cons_of_mem _ (List.mem_append_left _ (List.mem_append_left _ (List.mem_append_left _ (List.mem_append_right _ (h)))))
  subst hsz
  have hD := hD0.self (sz := s.heap.size)
  generalize hAe : va_A [(oP, .inr (7, [.ref oC, .ref nB, .int (-1)])), (nB, .inr (5, [.ref aB, .int 0])), (nL, .inr (5, [.ref aL, .int 0])), (nM, .inr (5, [.ref aM, .int 0]))] s.heap.size = A at hD ⊢
  have hA : ∀ q : Nat, s.heap.size ≤ q → A q := fun q h => by rw [← hAe]; exact Or.inr h
  have hS : va_S A s.heap s.heap [] := va_S.rf
  have hP : va_P (dC, dI) vwCl [(oP, .inr (7, [.ref oC, .ref nB, .int (-1)])), (nB, .inr (5, [.ref aB, .int 0])), (nL, .inr (5, [.ref aL, .int 0])), (nM, .inr (5, [.ref aM, .int 0]))] s.heap := hP
  have hl := lv_entry ([.ref oP, .int a, .int b, .ref nL, .ref nM]) (n := 8) (Nat.le_of_ble_eq_true rfl)
  rw [lg_entry_eq]
  generalize (lg_sl ([.ref oP, .int a, .int b, .ref nL, .ref nM]) ++ List.replicate (8 - (lg_sl ([.ref oP, .int a, .int b, .ref nL, .ref nM])).length) Slot.unset).toArray = ls at hl ⊢
  have hl : lv_has ls 8 [(0, .ref oP), (1, .int a), (2, .int b), (3, .ref nL), (4, .ref nM)] := hl
  refine lv_aload_n hx hb dX7_passRoughly_0 rfl (lv_at hl 0 rfl) ?_
  refine lv_iload_n hx hb dX7_passRoughly_1 rfl (lv_at hl 1 rfl) ?_
  refine lv_aload_n hx hb dX7_passRoughly_2 rfl (lv_at hl 3 rfl) ?_
  have hPc := hP.sub (ws' := [(oP, .inr (7, [.ref oC, .ref nB, .int (-1)])), (nB, .inr (5, [.ref aB, .int 0])), (nL, .inr (5, [.ref aL, .int 0]))]) [0, 1, 2] rfl
  have hDc := hD.sub (ws' := [(oP, .inr (7, [.ref oC, .ref nB, .int (-1)])), (nB, .inr (5, [.ref aB, .int 0])), (nL, .inr (5, [.ref aL, .int 0]))]) [0, 1, 2] (by decide) rfl
  have hFc := va_free (wc := [(oP, .inr (7, [.ref oC, .ref nB, .int (-1)])), (nB, .inr (5, [.ref aB, .int 0])), (nL, .inr (5, [.ref aL, .int 0]))]) hD hS hA [0, 1, 2] rfl
  refine va_calli (va_runV (As := [.int a, .ref nL]) (rest := []) ⟨hx, hb, hml, hown, hts⟩ (m_X7_write l dC dI cI cS s.heap.size oP oC nB aB nL aL a ) (cwV 2 hts gX7_passRoughly_X7_write rfl rfl rfl (by decide +kernel) ⟨Nat.le_of_ble_eq_true rfl, Nat.le_of_ble_eq_true rfl⟩) ⟨fun a U g mk q => by obtain ⟨q0, q1, qP, qK, qD⟩ := q; exact ⟨q0, q1, qP, va_K.moved (u := U) (U := U.calling g mk a) (Vm.Alike.refl U.vm) qK, qD⟩, va_recv hK hPc (ci := 7) (q0 := 0) rfl rfl, fun U hU hW => ⟨rfl, by rw [hU], by rw [hU]; exact hPc, va_K.moved hW.alike hK, hDc.weaken (fun _ _ _ _ => trivial)⟩⟩ rfl rfl hl.1 rfl (lv_room (Nat.le_of_ble_eq_true rfl)) dX7_passRoughly_3 ⟨Nat.le_of_ble_eq_true rfl, Nat.le_of_ble_eq_true rfl⟩) hS (fun q _ h => hFc q h) hFc (fun r_1 u t H1 locs ht hvm hw hB hz1 hk1 hS => ?_)
  obtain ⟨hP1, hD1⟩ := hB
  rw [ht] at hP1
  obtain ⟨hP, hD⟩ := va_join (wr := [(nM, .inr (5, [.ref aM, .int 0]))]) (w1 := [(oP, .inr (7, [.ref oC, .ref nB, .int (-1)])), (nB, .inr (5, [.ref aB, .int 0])), (nL, .inr (5, [.ref aL, .int 0]))]) hP hD [0, 1, 2] [3] rfl rfl (by decide) (by decide) hk1 hFc hP1 hD1
  generalize H1 = H at hP hS ⊢
  have hP : va_P (dC, dI) vwCl [(nM, .inr (5, [.ref aM, .int 0])), (oP, .inr (7, [.ref oC, .ref nB, .int (-1)])), (nB, .inr (5, [.ref aB, .int 0])), (nL, .inr (5, [.ref aL, .int 0]))] H := hP
  have hD : va_D A [(nM, .inr (5, [.ref aM, .int 0])), (oP, .inr (7, [.ref oC, .ref nB, .int (-1)])), (nB, .inr (5, [.ref aB, .int 0])), (nL, .inr (5, [.ref aL, .int 0]))] := hD
  subst hw
  refine lv_if_eq (tgt := 22) hx hb dX7_passRoughly_6 (by decide) (fun c_2 => absurd c_2 (by decide)) (fun c_2 => ?_)
  refine lv_aload_n hx hb dX7_passRoughly_9 rfl (lv_at hl 0 rfl) ?_
  refine va_get (D := (dC, dI)) (ci := 7) (v := .ref nB) (C := RX7) (T := TX7) (N := 3) hx hb hts in_X7 hown hK hP 1 rfl rfl 1 (by decide) (hts (.fieldLink RX7 14 "TextMender$Passage" "bytes" "LTextMender$Numbers;") (List.mem_of_getElem? (i := 1) rfl)) (fun _ h9 => h9) rfl dX7_passRoughly_10 ?_
  have hPc := hP.sub (ws' := [(nB, .inr (5, [.ref aB, .int 0]))]) [2] rfl
  have hDc := hD.sub (ws' := [(nB, .inr (5, [.ref aB, .int 0]))]) [2] (by decide) rfl
  have hFc := va_free (wc := [(nB, .inr (5, [.ref aB, .int 0]))]) hD hS hA [2] rfl
  refine va_calli (va_runV (As := []) (rest := []) ⟨hx, hb, hml, hown, hts⟩ (m_X5_length l dC dI cI cS H.size nB aB 0 ) (cwV 0 hts gX7_passRoughly_X5_length rfl rfl rfl (by decide +kernel) ⟨Nat.le_of_ble_eq_true rfl, Nat.le_of_ble_eq_true rfl⟩) ⟨fun a U g mk q => by obtain ⟨q0, q1, qP, qK, qD⟩ := q; exact ⟨q0, q1, qP, va_K.moved (u := U) (U := U.calling g mk a) (Vm.Alike.refl U.vm) qK, qD⟩, va_recv hK hPc (ci := 5) (q0 := 0) rfl rfl, fun U hU hW => ⟨rfl, by rw [hU], by rw [hU]; exact hPc, va_K.moved hW.alike hK, hDc.weaken (fun _ _ _ _ => trivial)⟩⟩ rfl rfl hl.1 rfl (lv_room (Nat.le_of_ble_eq_true rfl)) dX7_passRoughly_13 ⟨Nat.le_of_ble_eq_true rfl, Nat.le_of_ble_eq_true rfl⟩) hS (fun q _ h => hFc q h) hFc (fun r_3 u t H1 locs ht hvm hw hB hz1 hk1 hS => ?_)
  obtain ⟨hP1, hD1⟩ := hB
  rw [ht] at hP1
  obtain ⟨hP, hD⟩ := va_join (wr := [(nM, .inr (5, [.ref aM, .int 0])), (oP, .inr (7, [.ref oC, .ref nB, .int (-1)])), (nL, .inr (5, [.ref aL, .int 0]))]) (w1 := [(nB, .inr (5, [.ref aB, .int 0]))]) hP hD [2] [0, 1, 3] rfl rfl (by decide) (by decide) hk1 hFc hP1 hD1
  generalize H1 = H at hP hS ⊢
  have hP : va_P (dC, dI) vwCl [(nM, .inr (5, [.ref aM, .int 0])), (oP, .inr (7, [.ref oC, .ref nB, .int (-1)])), (nL, .inr (5, [.ref aL, .int 0])), (nB, .inr (5, [.ref aB, .int 0]))] H := hP
  have hD : va_D A [(nM, .inr (5, [.ref aM, .int 0])), (oP, .inr (7, [.ref oC, .ref nB, .int (-1)])), (nL, .inr (5, [.ref aL, .int 0])), (nB, .inr (5, [.ref aB, .int 0]))] := hD
  subst hw
  refine lv_sipush (v := 900) hx hb dX7_passRoughly_16 (by decide) ?_
  refine lv_icmp_le (tgt := 24) hx hb dX7_passRoughly_19 (by decide) (fun c_4 => ?_) (fun c_4 => absurd (by decide) c_4)
  refine lv_aload hx hb dX7_passRoughly_24 (lv_at hl 4 rfl) ?_
  refine lv_iconst (v := 0) hx hb dX7_passRoughly_26 (by decide) ?_
  have hPc := hP.sub (ws' := [(nM, .inr (5, [.ref aM, .int 0]))]) [0] rfl
  have hDc := hD.sub (ws' := [(nM, .inr (5, [.ref aM, .int 0]))]) [0] (by decide) rfl
  have hFc := va_free (wc := [(nM, .inr (5, [.ref aM, .int 0]))]) hD hS hA [0] rfl
  refine va_callv (va_runV (As := [.int 0]) (rest := []) ⟨hx, hb, hml, hown, hts⟩ (m_X5_cut l dC dI cI cS H.size nM aM 0 ) (cwV 1 hts gX7_passRoughly_X5_cut rfl rfl rfl (by decide +kernel) ⟨Nat.le_of_ble_eq_true rfl, Nat.le_of_ble_eq_true rfl⟩) ⟨fun a U g mk q => by obtain ⟨q0, q1, qP, qK, qD⟩ := q; exact ⟨q0, q1, qP, va_K.moved (u := U) (U := U.calling g mk a) (Vm.Alike.refl U.vm) qK, qD⟩, va_recv hK hPc (ci := 5) (q0 := 0) rfl rfl, fun U hU hW => ⟨rfl, by rw [hU], by rw [hU]; exact hPc, va_K.moved hW.alike hK, hDc.weaken (fun _ _ _ _ => trivial)⟩⟩ rfl rfl hl.1 rfl (lv_room (Nat.le_of_ble_eq_true rfl)) dX7_passRoughly_27 ⟨Nat.le_of_ble_eq_true rfl, Nat.le_of_ble_eq_true rfl⟩) hS (fun q _ h => hFc q h) hFc (fun u t H1 locs ht hvm hw hB hz1 hk1 hS => ?_)
  obtain ⟨hP1, hD1⟩ := hB
  rw [ht] at hP1
  obtain ⟨hP, hD⟩ := va_join (wr := [(oP, .inr (7, [.ref oC, .ref nB, .int (-1)])), (nL, .inr (5, [.ref aL, .int 0])), (nB, .inr (5, [.ref aB, .int 0]))]) (w1 := [(nM, .inr (5, [.ref aM, .int 0]))]) hP hD [0] [1, 2, 3] rfl rfl (by decide) (by decide) hk1 hFc hP1 hD1
  generalize H1 = H at hP hS ⊢
  have hP : va_P (dC, dI) vwCl [(oP, .inr (7, [.ref oC, .ref nB, .int (-1)])), (nL, .inr (5, [.ref aL, .int 0])), (nB, .inr (5, [.ref aB, .int 0])), (nM, .inr (5, [.ref aM, .int 0]))] H := hP
  have hD : va_D A [(oP, .inr (7, [.ref oC, .ref nB, .int (-1)])), (nL, .inr (5, [.ref aL, .int 0])), (nB, .inr (5, [.ref aB, .int 0])), (nM, .inr (5, [.ref aM, .int 0]))] := hD
  refine lv_iconst (v := 0) hx hb dX7_passRoughly_30 (by decide) ?_
  refine lv_istore (lv' := [(5, .int 0), (0, .ref oP), (1, .int a), (2, .int b), (3, .ref nL), (4, .ref nM)]) hx hb dX7_passRoughly_31 hl (by decide) rfl (fun ls hl => ?_)
  refine lv_iconst (v := 0) hx hb dX7_passRoughly_33 (by decide) ?_
  refine lv_istore (lv' := [(6, .int 0), (5, .int 0), (0, .ref oP), (1, .int a), (2, .int b), (3, .ref nL), (4, .ref nM)]) hx hb dX7_passRoughly_34 hl (by decide) rfl (fun ls hl => ?_)
  refine lv_iload hx hb dX7_passRoughly_36 (lv_at hl 0 rfl) ?_
  refine lv_aload_n hx hb dX7_passRoughly_38 rfl (lv_at hl 2 rfl) ?_
  refine va_get (D := (dC, dI)) (ci := 7) (v := .ref nB) (C := RX7) (T := TX7) (N := 3) hx hb hts in_X7 hown hK hP 0 rfl rfl 1 (by decide) (hts (.fieldLink RX7 14 "TextMender$Passage" "bytes" "LTextMender$Numbers;") (List.mem_of_getElem? (i := 1) rfl)) (fun _ h9 => h9) rfl dX7_passRoughly_39 ?_
  have hPc := hP.sub (ws' := [(nB, .inr (5, [.ref aB, .int 0]))]) [2] rfl
  have hDc := hD.sub (ws' := [(nB, .inr (5, [.ref aB, .int 0]))]) [2] (by decide) rfl
  have hFc := va_free (wc := [(nB, .inr (5, [.ref aB, .int 0]))]) hD hS hA [2] rfl
  refine va_calli (va_runV (As := []) (rest := [.int 0]) ⟨hx, hb, hml, hown, hts⟩ (m_X5_length l dC dI cI cS H.size nB aB 0 ) (cwV 0 hts gX7_passRoughly_X5_length rfl rfl rfl (by decide +kernel) ⟨Nat.le_of_ble_eq_true rfl, Nat.le_of_ble_eq_true rfl⟩) ⟨fun a U g mk q => by obtain ⟨q0, q1, qP, qK, qD⟩ := q; exact ⟨q0, q1, qP, va_K.moved (u := U) (U := U.calling g mk a) (Vm.Alike.refl U.vm) qK, qD⟩, va_recv hK hPc (ci := 5) (q0 := 0) rfl rfl, fun U hU hW => ⟨rfl, by rw [hU], by rw [hU]; exact hPc, va_K.moved hW.alike hK, hDc.weaken (fun _ _ _ _ => trivial)⟩⟩ rfl rfl hl.1 rfl (lv_room (Nat.le_of_ble_eq_true rfl)) dX7_passRoughly_42 ⟨Nat.le_of_ble_eq_true rfl, Nat.le_of_ble_eq_true rfl⟩) hS (fun q _ h => hFc q h) hFc (fun r_6 u t H1 locs ht hvm hw hB hz1 hk1 hS => ?_)
  obtain ⟨hP1, hD1⟩ := hB
  rw [ht] at hP1
  obtain ⟨hP, hD⟩ := va_join (wr := [(oP, .inr (7, [.ref oC, .ref nB, .int (-1)])), (nL, .inr (5, [.ref aL, .int 0])), (nM, .inr (5, [.ref aM, .int 0]))]) (w1 := [(nB, .inr (5, [.ref aB, .int 0]))]) hP hD [2] [0, 1, 3] rfl rfl (by decide) (by decide) hk1 hFc hP1 hD1
  generalize H1 = H at hP hS ⊢
  have hP : va_P (dC, dI) vwCl [(oP, .inr (7, [.ref oC, .ref nB, .int (-1)])), (nL, .inr (5, [.ref aL, .int 0])), (nM, .inr (5, [.ref aM, .int 0])), (nB, .inr (5, [.ref aB, .int 0]))] H := hP
  have hD : va_D A [(oP, .inr (7, [.ref oC, .ref nB, .int (-1)])), (nL, .inr (5, [.ref aL, .int 0])), (nM, .inr (5, [.ref aM, .int 0])), (nB, .inr (5, [.ref aB, .int 0]))] := hD
  subst hw
  refine lv_icmp_ge (tgt := 140) hx hb dX7_passRoughly_45 (by decide) (fun c_7 => ?_) (fun c_7 => absurd (by decide) c_7)
  refine lv_iload hx hb dX7_passRoughly_140 (lv_at hl 1 rfl) ?_
  have hP9 := hP.sub (ws' := [(oP, .inr (7, [.ref oC, .ref nB, .int (-1)])), (nB, .inr (5, [.ref aB, .int 0])), (nL, .inr (5, [.ref aL, .int 0])), (nM, .inr (5, [.ref aM, .int 0]))]) [0, 3, 1, 2] rfl
  have hD9 := hD.sub (ws' := [(oP, .inr (7, [.ref oC, .ref nB, .int (-1)])), (nB, .inr (5, [.ref aB, .int 0])), (nL, .inr (5, [.ref aL, .int 0])), (nM, .inr (5, [.ref aM, .int 0]))]) [0, 3, 1, 2] (by decide) rfl
  exact W.iret (v := 0) hx hb hr (fun t ht hW => ⟨⟨0, (), rfl, rfl, by rw [ht]; exact hP9, hD9⟩, hS.F ht⟩) (hS.2.2) dX7_passRoughly_142

set_option maxHeartbeats 4000000 in
set_option maxRecDepth 100000 in
theorem m_X3_sortOutside (l : Launch) (dC : Nat → ClassId) (dI : Nat → Nat → Nat) (cI cS : ClassId) (sz : Nat)   : Met l yX3_sortOutside wsX3_sortOutside ({ frames := 0, cells := 0, slots := 0, locals := 0 } : Room) (va_Pc [.int 32] (fun U => U.heap.size = sz ∧ va_P (dC, dI) vwCl [] U.heap ∧ va_K (dC, dI) vwCl [(cI, .int), (cS, .short)] U ∧ va_D (fun _ => True) [])) (va_Qi (fun (r : Int32) (_ : Unit) => r = 4) (fun _ t => va_P (dC, dI) vwCl [] t.heap ∧ va_D (va_A [] sz) []) (va_A [] sz)) 0 0 (va_A [] sz) := by
  refine Met.ofW (cc := cX3_sortOutside) (maxL := 1) (ret := (some .int)) (by decide) rfl ?_
  intro p e s m args below meth c s₁ B hml hv
  obtain ⟨rfl, hsz, hP, hK, hD0⟩ := hv
  have hx := B.exec
  have hb := B.bytes
  have hr := B.returns
  have hts := atoms_spec (ws := wsX3_sortOutside) B.pre
  have hown : s.vm.findClass RX3 = some m.cls := findClass_of_methodNamed B.named
  have hlocks := B.notSynchronized
  subst hsz
  have hD := hD0.self (sz := s.heap.size)
  generalize hAe : va_A [] s.heap.size = A at hD ⊢
  have hA : ∀ q : Nat, s.heap.size ≤ q → A q := fun q h => by rw [← hAe]; exact Or.inr h
  have hS : va_S A s.heap s.heap [] := va_S.rf
  have hP : va_P (dC, dI) vwCl [] s.heap := hP
  have hl := lv_entry ([.int 32]) (n := 1) (Nat.le_of_ble_eq_true rfl)
  rw [lg_entry_eq]
  generalize (lg_sl ([.int 32]) ++ List.replicate (1 - (lg_sl ([.int 32])).length) Slot.unset).toArray = ls at hl ⊢
  have hl : lv_has ls 1 [(0, .int 32)] := hl
  refine lv_iload_n hx hb dX3_sortOutside_0 rfl (lv_at hl 0 rfl) ?_
  refine lv_bipush (v := 32) hx hb dX3_sortOutside_1 (by decide) ?_
  refine lv_icmp_ne (tgt := 8) hx hb dX3_sortOutside_3 (by decide) (fun c_1 => absurd (by decide) c_1) (fun c_1 => ?_)
  refine lv_iconst (v := 4) hx hb dX3_sortOutside_6 (by decide) ?_
  have hP9 := hP.sub (ws' := []) [] rfl
  have hD9 := hD.sub (ws' := []) [] (by decide) rfl
  exact W.iret (v := 4) hx hb hr (fun t ht hW => ⟨⟨4, (), rfl, rfl, by rw [ht]; exact hP9, hD9⟩, hS.F ht⟩) (hS.2.2) dX3_sortOutside_7

set_option maxHeartbeats 4000000 in
set_option maxRecDepth 100000 in
theorem m_X3_sortOf (l : Launch) (dC : Nat → ClassId) (dI : Nat → Nat → Nat) (cI cS : ClassId) (sz : Nat)   : Met l yX3_sortOf wsX3_sortOf ({ frames := 1, cells := 0, slots := 0, locals := 20 } : Room) (va_Pc [.int 32] (fun U => U.heap.size = sz ∧ va_P (dC, dI) vwCl [] U.heap ∧ va_K (dC, dI) vwCl [(cI, .int), (cS, .short)] U ∧ va_D (fun _ => True) [])) (va_Qi (fun (r : Int32) (_ : Unit) => r = 4) (fun _ t => va_P (dC, dI) vwCl [] t.heap ∧ va_D (va_A [] sz) []) (va_A [] sz)) 0 0 (va_A [] sz) := by
  refine Met.ofW (cc := cX3_sortOf) (maxL := 1) (ret := (some .int)) (by decide) rfl ?_
  intro p e s m args below meth c s₁ B hml hv
  obtain ⟨rfl, hsz, hP, hK, hD0⟩ := hv
  have hx := B.exec
  have hb := B.bytes
  have hr := B.returns
  have hts := atoms_spec (ws := wsX3_sortOf) B.pre
  have hown : s.vm.findClass RX3 = some m.cls := findClass_of_methodNamed B.named
  have hlocks := B.notSynchronized
  subst hsz
  have hD := hD0.self (sz := s.heap.size)
  generalize hAe : va_A [] s.heap.size = A at hD ⊢
  have hA : ∀ q : Nat, s.heap.size ≤ q → A q := fun q h => by rw [← hAe]; exact Or.inr h
  have hS : va_S A s.heap s.heap [] := va_S.rf
  have hP : va_P (dC, dI) vwCl [] s.heap := hP
  have hl := lv_entry ([.int 32]) (n := 1) (Nat.le_of_ble_eq_true rfl)
  rw [lg_entry_eq]
  generalize (lg_sl ([.int 32]) ++ List.replicate (1 - (lg_sl ([.int 32])).length) Slot.unset).toArray = ls at hl ⊢
  have hl : lv_has ls 1 [(0, .int 32)] := hl
  refine lv_iload_n hx hb dX3_sortOf_0 rfl (lv_at hl 0 rfl) ?_
  refine lv_bipush (v := 33) hx hb dX3_sortOf_1 (by decide) ?_
  refine lv_icmp_lt (tgt := 12) hx hb dX3_sortOf_3 (by decide) (fun c_1 => ?_) (fun c_1 => absurd (by decide) c_1)
  refine lv_iload_n hx hb dX3_sortOf_12 rfl (lv_at hl 0 rfl) ?_
  have hPc := hP.sub (ws' := []) [] rfl
  have hDc := hD.sub (ws' := []) [] (by decide) rfl
  have hFc := va_free (wc := []) hD hS hA [] rfl
  refine va_calli (va_runS (As := [.int 32]) (rest := []) ⟨hx, hb, hml, hown, hts⟩ (m_X3_sortOutside l dC dI cI cS s.heap.size  ) (va_cwS 1 hts gX3_sortOf_X3_sortOutside rfl rfl rfl (by decide +kernel) ⟨Nat.le_of_ble_eq_true rfl, Nat.le_of_ble_eq_true rfl⟩) ⟨fun a U g mk q => by obtain ⟨q0, q1, qP, qK, qD⟩ := q; exact ⟨q0, q1, qP, va_K.moved (u := U) (U := U.calling g mk a) (Vm.Alike.refl U.vm) qK, qD⟩, fun U hU hW => ⟨rfl, by rw [hU], by rw [hU]; exact hPc, va_K.moved hW.alike hK, hDc.weaken (fun _ _ _ _ => trivial)⟩⟩ rfl rfl hl.1 rfl (lv_room (Nat.le_of_ble_eq_true rfl)) dX3_sortOf_13 ⟨Nat.le_of_ble_eq_true rfl, Nat.le_of_ble_eq_true rfl⟩) hS (fun q _ h => hFc q h) hFc (fun r_2 u t H1 locs ht hvm hw hB hz1 hk1 hS => ?_)
  obtain ⟨hP1, hD1⟩ := hB
  rw [ht] at hP1
  obtain ⟨hP, hD⟩ := va_join (wr := []) (w1 := []) hP hD [] [] rfl rfl (by decide) (by decide) hk1 hFc hP1 hD1
  generalize H1 = H at hP hS ⊢
  have hP : va_P (dC, dI) vwCl [] H := hP
  have hD : va_D A [] := hD
  subst hw
  have hP9 := hP.sub (ws' := []) [] rfl
  have hD9 := hD.sub (ws' := []) [] (by decide) rfl
  exact W.iret (v := 4) hx hb hr (fun t ht hW => ⟨⟨4, (), rfl, rfl, by rw [ht]; exact hP9, hD9⟩, hS.F ht⟩) (hS.2.2) dX3_sortOf_16

set_option maxHeartbeats 4000000 in
set_option maxRecDepth 100000 in
theorem m_X3_of (l : Launch) (dC : Nat → ClassId) (dI : Nat → Nat → Nat) (cI cS : ClassId) (sz : Nat) (oK : Nat) (k1 : Nat) (k2 : Nat)  : Met l yX3_of wsX3_of ({ frames := 2, cells := 0, slots := 0, locals := 40 } : Room) (va_Pc [.ref oK, .int 32, .int 32] (fun U => U.heap.size = sz ∧ va_P (dC, dI) vwCl [(oK, .inr (3, [.ref k1, .ref k2, .int 0]))] U.heap ∧ va_K (dC, dI) vwCl [(cI, .int), (cS, .short)] U ∧ va_D (fun _ => True) [(oK, .inr (3, [.ref k1, .ref k2, .int 0]))])) (va_Qi (fun (r : Int32) (_ : Unit) => r = 4) (fun _ t => va_P (dC, dI) vwCl [(oK, .inr (3, [.ref k1, .ref k2, .int 0]))] t.heap ∧ va_D (va_A [(oK, .inr (3, [.ref k1, .ref k2, .int 0]))] sz) [(oK, .inr (3, [.ref k1, .ref k2, .int 0]))]) (va_A [(oK, .inr (3, [.ref k1, .ref k2, .int 0]))] sz)) 0 0 (va_A [(oK, .inr (3, [.ref k1, .ref k2, .int 0]))] sz) := by
  refine Met.ofW (cc := cX3_of) (maxL := 7) (ret := (some .int)) (by decide) rfl ?_
  intro p e s m args below meth c s₁ B hml hv
  obtain ⟨rfl, hsz, hP, hK, hD0⟩ := hv
  have hx := B.exec
  have hb := B.bytes
  have hr := B.returns
  have hts := atoms_spec (ws := wsX3_of) B.pre
  have hown : s.vm.findClass RX3 = some m.cls := findClass_of_methodNamed B.named
  have hlocks := B.notSynchronized
  have in_X3 : ∀ w ∈ wsX30, w ∈ wsX3_of := fun _ h => List.mem_cons_of_mem _ (List.mem_append_right _ (h))
  subst hsz
  have hD := hD0.self (sz := s.heap.size)
  generalize hAe : va_A [(oK, .inr (3, [.ref k1, .ref k2, .int 0]))] s.heap.size = A at hD ⊢
  have hA : ∀ q : Nat, s.heap.size ≤ q → A q := fun q h => by rw [← hAe]; exact Or.inr h
  have hS : va_S A s.heap s.heap [] := va_S.rf
  have hP : va_P (dC, dI) vwCl [(oK, .inr (3, [.ref k1, .ref k2, .int 0]))] s.heap := hP
  have hl := lv_entry ([.ref oK, .int 32, .int 32]) (n := 7) (Nat.le_of_ble_eq_true rfl)
  rw [lg_entry_eq]
  generalize (lg_sl ([.ref oK, .int 32, .int 32]) ++ List.replicate (7 - (lg_sl ([.ref oK, .int 32, .int 32])).length) Slot.unset).toArray = ls at hl ⊢
  have hl : lv_has ls 7 [(0, .ref oK), (1, .int 32), (2, .int 32)] := hl
  refine lv_aload_n hx hb dX3_of_0 rfl (lv_at hl 0 rfl) ?_
  refine va_get (D := (dC, dI)) (ci := 3) (v := .int 0) (C := RX3) (T := TX3) (N := 3) hx hb hts in_X3 hown hK hP 0 rfl rfl 2 (by decide) (hts (.fieldLink RX3 24 "TextMender$Costs" "length" "I") (List.mem_of_getElem? (i := 1) rfl)) (fun _ h9 => h9) rfl dX3_of_1 ?_
  refine lv_if_ne (tgt := 11) hx hb dX3_of_4 (by decide) (fun c_1 => absurd (by decide) c_1) (fun c_1 => ?_)
  refine lv_iconst (v := (-1)) hx hb dX3_of_7 (by decide) ?_
  refine lv_goto (tgt := 17) hx hb dX3_of_8 (by decide) ?_
  refine lv_istore_n (lv' := [(3, .int (-1)), (0, .ref oK), (1, .int 32), (2, .int 32)]) hx hb dX3_of_17 rfl hl (by decide) rfl (fun ls hl => ?_)
  refine lv_iload_n hx hb dX3_of_18 rfl (lv_at hl 0 rfl) ?_
  refine lv_iconst (v := (-1)) hx hb dX3_of_19 (by decide) ?_
  refine lv_icmp_eq (tgt := 40) hx hb dX3_of_20 (by decide) (fun c_2 => ?_) (fun c_2 => absurd (by decide) c_2)
  refine lv_iload_n hx hb dX3_of_40 rfl (lv_at hl 2 rfl) ?_
  have hPc := hP.sub (ws' := []) [] rfl
  have hDc := hD.sub (ws' := []) [] (by decide) rfl
  have hFc := va_free (wc := []) hD hS hA [] rfl
  refine va_calli (va_runS (As := [.int 32]) (rest := []) ⟨hx, hb, hml, hown, hts⟩ (m_X3_sortOf l dC dI cI cS s.heap.size  ) (va_cwS 1 hts gX3_of_X3_sortOf rfl rfl rfl (by decide +kernel) ⟨Nat.le_of_ble_eq_true rfl, Nat.le_of_ble_eq_true rfl⟩) ⟨fun a U g mk q => by obtain ⟨q0, q1, qP, qK, qD⟩ := q; exact ⟨q0, q1, qP, va_K.moved (u := U) (U := U.calling g mk a) (Vm.Alike.refl U.vm) qK, qD⟩, fun U hU hW => ⟨rfl, by rw [hU], by rw [hU]; exact hPc, va_K.moved hW.alike hK, hDc.weaken (fun _ _ _ _ => trivial)⟩⟩ rfl rfl hl.1 rfl (lv_room (Nat.le_of_ble_eq_true rfl)) dX3_of_41 ⟨Nat.le_of_ble_eq_true rfl, Nat.le_of_ble_eq_true rfl⟩) hS (fun q _ h => hFc q h) hFc (fun r_3 u t H1 locs ht hvm hw hB hz1 hk1 hS => ?_)
  obtain ⟨hP1, hD1⟩ := hB
  rw [ht] at hP1
  obtain ⟨hP, hD⟩ := va_join (wr := [(oK, .inr (3, [.ref k1, .ref k2, .int 0]))]) (w1 := []) hP hD [] [0] rfl rfl (by decide) (by decide) hk1 hFc hP1 hD1
  generalize H1 = H at hP hS ⊢
  have hP : va_P (dC, dI) vwCl [(oK, .inr (3, [.ref k1, .ref k2, .int 0]))] H := hP
  have hD : va_D A [(oK, .inr (3, [.ref k1, .ref k2, .int 0]))] := hD
  subst hw
  refine lv_istore (lv' := [(4, .int 4), (3, .int (-1)), (0, .ref oK), (1, .int 32), (2, .int 32)]) hx hb dX3_of_44 hl (by decide) rfl (fun ls hl => ?_)
  refine lv_iload_n hx hb dX3_of_46 rfl (lv_at hl 4 rfl) ?_
  have hPc := hP.sub (ws' := []) [] rfl
  have hDc := hD.sub (ws' := []) [] (by decide) rfl
  have hFc := va_free (wc := []) hD hS hA [] rfl
  refine va_calli (va_runS (As := [.int 32]) (rest := []) ⟨hx, hb, hml, hown, hts⟩ (m_X3_sortOf l dC dI cI cS H.size  ) (va_cwS 1 hts gX3_of_X3_sortOf rfl rfl rfl (by decide +kernel) ⟨Nat.le_of_ble_eq_true rfl, Nat.le_of_ble_eq_true rfl⟩) ⟨fun a U g mk q => by obtain ⟨q0, q1, qP, qK, qD⟩ := q; exact ⟨q0, q1, qP, va_K.moved (u := U) (U := U.calling g mk a) (Vm.Alike.refl U.vm) qK, qD⟩, fun U hU hW => ⟨rfl, by rw [hU], by rw [hU]; exact hPc, va_K.moved hW.alike hK, hDc.weaken (fun _ _ _ _ => trivial)⟩⟩ rfl rfl hl.1 rfl (lv_room (Nat.le_of_ble_eq_true rfl)) dX3_of_47 ⟨Nat.le_of_ble_eq_true rfl, Nat.le_of_ble_eq_true rfl⟩) hS (fun q _ h => hFc q h) hFc (fun r_4 u t H1 locs ht hvm hw hB hz1 hk1 hS => ?_)
  obtain ⟨hP1, hD1⟩ := hB
  rw [ht] at hP1
  obtain ⟨hP, hD⟩ := va_join (wr := [(oK, .inr (3, [.ref k1, .ref k2, .int 0]))]) (w1 := []) hP hD [] [0] rfl rfl (by decide) (by decide) hk1 hFc hP1 hD1
  generalize H1 = H at hP hS ⊢
  have hP : va_P (dC, dI) vwCl [(oK, .inr (3, [.ref k1, .ref k2, .int 0]))] H := hP
  have hD : va_D A [(oK, .inr (3, [.ref k1, .ref k2, .int 0]))] := hD
  subst hw
  refine lv_istore (lv' := [(5, .int 4), (4, .int 4), (3, .int (-1)), (0, .ref oK), (1, .int 32), (2, .int 32)]) hx hb dX3_of_50 hl (by decide) rfl (fun ls hl => ?_)
  refine lv_iload hx hb dX3_of_52 (lv_at hl 1 rfl) ?_
  refine lv_iload hx hb dX3_of_54 (lv_at hl 0 rfl) ?_
  refine lv_icmp_ne (tgt := 63) hx hb dX3_of_56 (by decide) (fun c_5 => absurd (by decide) c_5) (fun c_5 => ?_)
  refine lv_iconst (v := 4) hx hb dX3_of_59 (by decide) ?_
  refine lv_goto (tgt := 65) hx hb dX3_of_60 (by decide) ?_
  refine lv_istore (lv' := [(6, .int 4), (5, .int 4), (4, .int 4), (3, .int (-1)), (0, .ref oK), (1, .int 32), (2, .int 32)]) hx hb dX3_of_65 hl (by decide) rfl (fun ls hl => ?_)
  refine lv_iload hx hb dX3_of_67 (lv_at hl 0 rfl) ?_
  refine lv_iload hx hb dX3_of_69 (lv_at hl 2 rfl) ?_
  refine lv_if_ne (tgt := 79) hx hb dX3_of_71 (by decide) (fun c_6 => ?_) (fun c_6 => absurd c_6 (by decide))
  refine lv_iconst (v := 0) hx hb dX3_of_79 (by decide) ?_
  refine lv_iadd hx hb dX3_of_80 ?_
  refine k_i (y := 4) (by decide) ?_
  refine lv_istore (lv' := [(6, .int 4), (5, .int 4), (4, .int 4), (3, .int (-1)), (0, .ref oK), (1, .int 32), (2, .int 32)]) hx hb dX3_of_81 hl (by decide) rfl (fun ls hl => ?_)
  refine lv_iload hx hb dX3_of_83 (lv_at hl 0 rfl) ?_
  refine lv_iload hx hb dX3_of_85 (lv_at hl 1 rfl) ?_
  refine lv_if_ne (tgt := 95) hx hb dX3_of_87 (by decide) (fun c_7 => ?_) (fun c_7 => absurd c_7 (by decide))
  refine lv_iconst (v := 0) hx hb dX3_of_95 (by decide) ?_
  refine lv_iadd hx hb dX3_of_96 ?_
  refine k_i (y := 4) (by decide) ?_
  have hP9 := hP.sub (ws' := [(oK, .inr (3, [.ref k1, .ref k2, .int 0]))]) [0] rfl
  have hD9 := hD.sub (ws' := [(oK, .inr (3, [.ref k1, .ref k2, .int 0]))]) [0] (by decide) rfl
  exact W.iret (v := 4) hx hb hr (fun t ht hW => ⟨⟨4, (), rfl, rfl, by rw [ht]; exact hP9, hD9⟩, hS.F ht⟩) (hS.2.2) dX3_of_97

set_option maxHeartbeats 4000000 in
set_option maxRecDepth 100000 in
theorem m_X3_ofText (l : Launch) (dC : Nat → ClassId) (dI : Nat → Nat → Nat) (cI cS : ClassId) (sz : Nat) (oK : Nat) (k1 : Nat) (k2 : Nat) (nL : Nat) (aL : Nat)  : Met l yX3_ofText wsX3_ofText ({ frames := 3, cells := 0, slots := 0, locals := 66 } : Room) (va_Pc [.ref oK, .ref nL] (fun U => U.heap.size = sz ∧ va_P (dC, dI) vwCl [(oK, .inr (3, [.ref k1, .ref k2, .int 0])), (nL, .inr (5, [.ref aL, .int 0]))] U.heap ∧ va_K (dC, dI) vwCl [(cI, .int), (cS, .short)] U ∧ va_D (fun _ => True) [(oK, .inr (3, [.ref k1, .ref k2, .int 0])), (nL, .inr (5, [.ref aL, .int 0]))])) (va_Qi (fun (r : Int32) (_ : Unit) => r = 4) (fun _ _ => True) (va_A [(oK, .inr (3, [.ref k1, .ref k2, .int 0])), (nL, .inr (5, [.ref aL, .int 0]))] sz)) 0 0 (va_A [(oK, .inr (3, [.ref k1, .ref k2, .int 0])), (nL, .inr (5, [.ref aL, .int 0]))] sz) := by
  refine Met.ofW (cc := cX3_ofText) (maxL := 6) (ret := (some .int)) (by decide) rfl ?_
  intro p e s m args below meth c s₁ B hml hv
  obtain ⟨rfl, hsz, hP, hK, hD0⟩ := hv
  have hx := B.exec
  have hb := B.bytes
  have hr := B.returns
  have hts := atoms_spec (ws := wsX3_ofText) B.pre
  have hown : s.vm.findClass RX3 = some m.cls := findClass_of_methodNamed B.named
  have hlocks := B.notSynchronized
  subst hsz
  have hD := hD0.self (sz := s.heap.size)
  generalize hAe : va_A [(oK, .inr (3, [.ref k1, .ref k2, .int 0])), (nL, .inr (5, [.ref aL, .int 0]))] s.heap.size = A at hD ⊢
  have hA : ∀ q : Nat, s.heap.size ≤ q → A q := fun q h => by rw [← hAe]; exact Or.inr h
  have hS : va_S A s.heap s.heap [] := va_S.rf
  have hP : va_P (dC, dI) vwCl [(oK, .inr (3, [.ref k1, .ref k2, .int 0])), (nL, .inr (5, [.ref aL, .int 0]))] s.heap := hP
  have hl := lv_entry ([.ref oK, .ref nL]) (n := 6) (Nat.le_of_ble_eq_true rfl)
  rw [lg_entry_eq]
  generalize (lg_sl ([.ref oK, .ref nL]) ++ List.replicate (6 - (lg_sl ([.ref oK, .ref nL])).length) Slot.unset).toArray = ls at hl ⊢
  have hl : lv_has ls 6 [(0, .ref oK), (1, .ref nL)] := hl
  refine lv_iconst (v := 0) hx hb dX3_ofText_0 (by decide) ?_
  refine lv_istore_n (lv' := [(2, .int 0), (0, .ref oK), (1, .ref nL)]) hx hb dX3_ofText_1 rfl hl (by decide) rfl (fun ls hl => ?_)
  refine lv_bipush (v := 32) hx hb dX3_ofText_2 (by decide) ?_
  refine lv_istore_n (lv' := [(3, .int 32), (2, .int 0), (0, .ref oK), (1, .ref nL)]) hx hb dX3_ofText_4 rfl hl (by decide) rfl (fun ls hl => ?_)
  refine lv_iconst (v := 0) hx hb dX3_ofText_5 (by decide) ?_
  refine lv_istore (lv' := [(4, .int 0), (3, .int 32), (2, .int 0), (0, .ref oK), (1, .ref nL)]) hx hb dX3_ofText_6 hl (by decide) rfl (fun ls hl => ?_)
  refine lv_iload hx hb dX3_ofText_8 (lv_at hl 0 rfl) ?_
  refine lv_aload_n hx hb dX3_ofText_10 rfl (lv_at hl 4 rfl) ?_
  have hPc := hP.sub (ws' := [(nL, .inr (5, [.ref aL, .int 0]))]) [1] rfl
  have hDc := hD.sub (ws' := [(nL, .inr (5, [.ref aL, .int 0]))]) [1] (by decide) rfl
  have hFc := va_free (wc := [(nL, .inr (5, [.ref aL, .int 0]))]) hD hS hA [1] rfl
  refine va_calli (va_runV (As := []) (rest := [.int 0]) ⟨hx, hb, hml, hown, hts⟩ (m_X5_length l dC dI cI cS s.heap.size nL aL 0 ) (cwV 0 hts gX3_ofText_X5_length rfl rfl rfl (by decide +kernel) ⟨Nat.le_of_ble_eq_true rfl, Nat.le_of_ble_eq_true rfl⟩) ⟨fun a U g mk q => by obtain ⟨q0, q1, qP, qK, qD⟩ := q; exact ⟨q0, q1, qP, va_K.moved (u := U) (U := U.calling g mk a) (Vm.Alike.refl U.vm) qK, qD⟩, va_recv hK hPc (ci := 5) (q0 := 0) rfl rfl, fun U hU hW => ⟨rfl, by rw [hU], by rw [hU]; exact hPc, va_K.moved hW.alike hK, hDc.weaken (fun _ _ _ _ => trivial)⟩⟩ rfl rfl hl.1 rfl (lv_room (Nat.le_of_ble_eq_true rfl)) dX3_ofText_11 ⟨Nat.le_of_ble_eq_true rfl, Nat.le_of_ble_eq_true rfl⟩) hS (fun q _ h => hFc q h) hFc (fun r_1 u t H1 locs ht hvm hw hB hz1 hk1 hS => ?_)
  obtain ⟨hP1, hD1⟩ := hB
  rw [ht] at hP1
  obtain ⟨hP, hD⟩ := va_join (wr := [(oK, .inr (3, [.ref k1, .ref k2, .int 0]))]) (w1 := [(nL, .inr (5, [.ref aL, .int 0]))]) hP hD [1] [0] rfl rfl (by decide) (by decide) hk1 hFc hP1 hD1
  generalize H1 = H at hP hS ⊢
  have hP : va_P (dC, dI) vwCl [(oK, .inr (3, [.ref k1, .ref k2, .int 0])), (nL, .inr (5, [.ref aL, .int 0]))] H := hP
  have hD : va_D A [(oK, .inr (3, [.ref k1, .ref k2, .int 0])), (nL, .inr (5, [.ref aL, .int 0]))] := hD
  subst hw
  refine lv_icmp_ge (tgt := 44) hx hb dX3_ofText_14 (by decide) (fun c_2 => ?_) (fun c_2 => absurd (by decide) c_2)
  refine lv_iload_n hx hb dX3_ofText_44 rfl (lv_at hl 2 rfl) ?_
  refine lv_aload_n hx hb dX3_ofText_45 rfl (lv_at hl 3 rfl) ?_
  refine lv_iload_n hx hb dX3_ofText_46 rfl (lv_at hl 1 rfl) ?_
  refine lv_bipush (v := 32) hx hb dX3_ofText_47 (by decide) ?_
  have hPc := hP.sub (ws' := [(oK, .inr (3, [.ref k1, .ref k2, .int 0]))]) [0] rfl
  have hDc := hD.sub (ws' := [(oK, .inr (3, [.ref k1, .ref k2, .int 0]))]) [0] (by decide) rfl
  have hFc := va_free (wc := [(oK, .inr (3, [.ref k1, .ref k2, .int 0]))]) hD hS hA [0] rfl
  refine va_calli (va_runV (As := [.int 32, .int 32]) (rest := [.int 0]) ⟨hx, hb, hml, hown, hts⟩ (m_X3_of l dC dI cI cS H.size oK k1 k2 ) (cwV 2 hts gX3_ofText_X3_of rfl rfl rfl (by decide +kernel) ⟨Nat.le_of_ble_eq_true rfl, Nat.le_of_ble_eq_true rfl⟩) ⟨fun a U g mk q => by obtain ⟨q0, q1, qP, qK, qD⟩ := q; exact ⟨q0, q1, qP, va_K.moved (u := U) (U := U.calling g mk a) (Vm.Alike.refl U.vm) qK, qD⟩, va_recv hK hPc (ci := 3) (q0 := 0) rfl rfl, fun U hU hW => ⟨rfl, by rw [hU], by rw [hU]; exact hPc, va_K.moved hW.alike hK, hDc.weaken (fun _ _ _ _ => trivial)⟩⟩ rfl rfl hl.1 rfl (lv_room (Nat.le_of_ble_eq_true rfl)) dX3_ofText_49 ⟨Nat.le_of_ble_eq_true rfl, Nat.le_of_ble_eq_true rfl⟩) hS (fun q _ h => hFc q h) hFc (fun r_3 u t H1 locs ht hvm hw hB hz1 hk1 hS => ?_)
  obtain ⟨hP1, hD1⟩ := hB
  rw [ht] at hP1
  obtain ⟨hP, hD⟩ := va_join (wr := [(nL, .inr (5, [.ref aL, .int 0]))]) (w1 := [(oK, .inr (3, [.ref k1, .ref k2, .int 0]))]) hP hD [0] [1] rfl rfl (by decide) (by decide) hk1 hFc hP1 hD1
  generalize H1 = H at hP hS ⊢
  have hP : va_P (dC, dI) vwCl [(nL, .inr (5, [.ref aL, .int 0])), (oK, .inr (3, [.ref k1, .ref k2, .int 0]))] H := hP
  have hD : va_D A [(nL, .inr (5, [.ref aL, .int 0])), (oK, .inr (3, [.ref k1, .ref k2, .int 0]))] := hD
  subst hw
  refine lv_iadd hx hb dX3_ofText_52 ?_
  refine k_i (y := 4) (by decide) ?_
  exact W.iret (v := 4) hx hb hr (fun t ht hW => ⟨⟨4, (), rfl, rfl, trivial⟩, hS.F ht⟩) (hS.2.2) dX3_ofText_53

set_option maxHeartbeats 4000000 in
set_option maxRecDepth 100000 in
theorem m_X3_pairOf (l : Launch) (dC : Nat → ClassId) (dI : Nat → Nat → Nat) (cI cS : ClassId) (sz : Nat) (x : Int32) (y : Int32)  : Met l yX3_pairOf wsX3_pairOf ({ frames := 0, cells := 0, slots := 0, locals := 0 } : Room) (va_Pc [.int x, .int y] (fun U => U.heap.size = sz ∧ va_P (dC, dI) vwCl [] U.heap ∧ va_K (dC, dI) vwCl [(cI, .int), (cS, .short)] U ∧ va_D (fun _ => True) [])) (va_Qi (fun (r : Int32) (_ : Unit) => r = p_pair x y) (fun _ t => va_P (dC, dI) vwCl [] t.heap ∧ va_D (va_A [] sz) []) (va_A [] sz)) 0 0 (va_A [] sz) := by
  refine Met.ofW (cc := cX3_pairOf) (maxL := 2) (ret := (some .int)) (by decide) rfl ?_
  intro p e s m args below meth c s₁ B hml hv
  obtain ⟨rfl, hsz, hP, hK, hD0⟩ := hv
  have hx := B.exec
  have hb := B.bytes
  have hr := B.returns
  have hts := atoms_spec (ws := wsX3_pairOf) B.pre
  have hown : s.vm.findClass RX3 = some m.cls := findClass_of_methodNamed B.named
  have hlocks := B.notSynchronized
  subst hsz
  have hD := hD0.self (sz := s.heap.size)
  generalize hAe : va_A [] s.heap.size = A at hD ⊢
  have hA : ∀ q : Nat, s.heap.size ≤ q → A q := fun q h => by rw [← hAe]; exact Or.inr h
  have hS : va_S A s.heap s.heap [] := va_S.rf
  have hP : va_P (dC, dI) vwCl [] s.heap := hP
  have hl := lv_entry ([.int x, .int y]) (n := 2) (Nat.le_of_ble_eq_true rfl)
  rw [lg_entry_eq]
  generalize (lg_sl ([.int x, .int y]) ++ List.replicate (2 - (lg_sl ([.int x, .int y])).length) Slot.unset).toArray = ls at hl ⊢
  have hl : lv_has ls 2 [(0, .int x), (1, .int y)] := hl
  refine lv_iload_n hx hb dX3_pairOf_0 rfl (lv_at hl 0 rfl) ?_
  refine lv_bipush (v := 16) hx hb dX3_pairOf_1 (by decide) ?_
  refine lv_ishl hx hb dX3_pairOf_3 ?_
  refine lv_topi (fun x_1 ex_1 => ?_)
  refine lv_iload_n hx hb dX3_pairOf_4 rfl (lv_at hl 1 rfl) ?_
  refine lv_ior hx hb dX3_pairOf_5 ?_
  refine lv_topi (fun x_2 ex_2 => ?_)
  have hP9 := hP.sub (ws' := []) [] rfl
  have hD9 := hD.sub (ws' := []) [] (by decide) rfl
  exact W.iret (v := x_2) hx hb hr (fun t ht hW => ⟨⟨x_2, (), rfl, by rw [ex_2, ex_1]; rfl, by rw [ht]; exact hP9, hD9⟩, hS.F ht⟩) (hS.2.2) dX3_pairOf_6
