set_option maxHeartbeats 40000000 in
set_option maxRecDepth 100000 in
theorem m_X8_reached (l : Launch) (dC : Nat → ClassId) (dI : Nat → Nat → Nat) (cI cS : ClassId) (sz : Nat) (oE : Nat) (oC : Nat) (oK : Nat) (reE : Int32) (laE : Int32) (suE : Int32) (leE : Int32)  : Met l yX8_reached wsX8_reached ({ frames := 0, cells := 0, slots := 0, locals := 0 } : Room) (va_Pc [.ref oE] (fun U => U.heap.size = sz ∧ va_P (dC, dI) vwCl [(oE, .inr (8, [.ref oC, .ref oK, .int reE, .int laE, .int suE, .int leE]))] U.heap ∧ va_K (dC, dI) vwCl [(cI, .int), (cS, .short)] U ∧ va_D (fun _ => True) [(oE, .inr (8, [.ref oC, .ref oK, .int reE, .int laE, .int suE, .int leE]))])) (va_Qi (fun (r : Int32) (u : Int32) => r = u) (fun (r : Int32) t => va_P (dC, dI) vwCl [(oE, .inr (8, [.ref oC, .ref oK, .int reE, .int laE, .int suE, .int leE]))] t.heap ∧ va_D (va_A [(oE, .inr (8, [.ref oC, .ref oK, .int reE, .int laE, .int suE, .int leE]))] sz) [(oE, .inr (8, [.ref oC, .ref oK, .int reE, .int laE, .int suE, .int leE]))] ∧ (r = reE)) (va_A [(oE, .inr (8, [.ref oC, .ref oK, .int reE, .int laE, .int suE, .int leE]))] sz)) 0 0 (va_A [(oE, .inr (8, [.ref oC, .ref oK, .int reE, .int laE, .int suE, .int leE]))] sz) := by
  refine Met.ofW (cc := cX8_reached) (maxL := 1) (ret := (some .int)) (by decide) rfl ?_
  intro p e s m args below meth c s₁ B hml hv
  obtain ⟨rfl, hsz, hP, hK, hD0⟩ := hv
  have hx := B.exec
  have hb := B.bytes
  have hr := B.returns
  have hts := atoms_spec (ws := wsX8_reached) B.pre
  have hown : s.vm.findClass RX8 = some m.cls := findClass_of_methodNamed B.named
  have hlocks := B.notSynchronized
  have in_X8 : ∀ w ∈ wsX80, w ∈ wsX8_reached := fun _ h => List.mem_cons_of_mem _ (List.mem_append_right _ (h))
  subst hsz
  have hD := hD0.self (sz := s.heap.size)
  generalize hAe : va_A [(oE, .inr (8, [.ref oC, .ref oK, .int reE, .int laE, .int suE, .int leE]))] s.heap.size = A at hD ⊢
  have hA : ∀ q : Nat, s.heap.size ≤ q → A q := fun q h => by rw [← hAe]; exact Or.inr h
  have hS : va_S A s.heap s.heap [] := va_S.rf
  have hP : va_P (dC, dI) vwCl [(oE, .inr (8, [.ref oC, .ref oK, .int reE, .int laE, .int suE, .int leE]))] s.heap := hP
  have hl := lv_entry ([.ref oE]) (n := 1) (Nat.le_of_ble_eq_true rfl)
  rw [lg_entry_eq]
  generalize (lg_sl ([.ref oE]) ++ List.replicate (1 - (lg_sl ([.ref oE])).length) Slot.unset).toArray = ls at hl ⊢
  have hl : lv_has ls 1 [(0, .ref oE)] := hl
  obtain ⟨QQ, hQQ⟩ : ∃ QQ : Array Value → State → Outcome → State → Prop, QQ = va_Qi (fun (r : Int32) (u : Int32) => r = u) (fun (r : Int32) t => va_P (dC, dI) vwCl [(oE, .inr (8, [.ref oC, .ref oK, .int reE, .int laE, .int suE, .int leE]))] t.heap ∧ va_D A [(oE, .inr (8, [.ref oC, .ref oK, .int reE, .int laE, .int suE, .int leE]))] ∧ (r = reE)) A := ⟨_, rfl⟩
  rw [← hQQ]
  refine lv_aload_n hx hb dX8_reached_0 rfl (lv_at hl 0 rfl) ?_
  refine va_get (D := (dC, dI)) (ci := 8) (v := .int reE) (C := RX8) (T := TX8) (N := 6) hx hb hts in_X8 hown hK hP 0 rfl rfl 2 (by decide) (hts (.fieldLink RX8 19 "TextMender$Reading" "reached" "I") (List.mem_of_getElem? (i := 1) rfl)) (fun _ h9 => h9) rfl dX8_reached_1 ?_
  have hP9 := hP.sub (ws' := [(oE, .inr (8, [.ref oC, .ref oK, .int reE, .int laE, .int suE, .int leE]))]) [0] rfl
  have hD9 := hD.sub (ws' := [(oE, .inr (8, [.ref oC, .ref oK, .int reE, .int laE, .int suE, .int leE]))]) [0] (by decide) rfl
  rw [hQQ]
  exact W.iret (v := reE) hx hb hr (fun t ht hW => ⟨⟨reE, reE, rfl, rfl, ⟨by rw [ht]; exact hP9, hD9, rfl⟩⟩, hS.F ht⟩) hS.2.2 dX8_reached_4

set_option maxHeartbeats 40000000 in
set_option maxRecDepth 100000 in
theorem m_X8_letters (l : Launch) (dC : Nat → ClassId) (dI : Nat → Nat → Nat) (cI cS : ClassId) (sz : Nat) (oE : Nat) (oC : Nat) (oK : Nat) (reE : Int32) (laE : Int32) (suE : Int32) (leE : Int32)  : Met l yX8_letters wsX8_letters ({ frames := 0, cells := 0, slots := 0, locals := 0 } : Room) (va_Pc [.ref oE] (fun U => U.heap.size = sz ∧ va_P (dC, dI) vwCl [(oE, .inr (8, [.ref oC, .ref oK, .int reE, .int laE, .int suE, .int leE]))] U.heap ∧ va_K (dC, dI) vwCl [(cI, .int), (cS, .short)] U ∧ va_D (fun _ => True) [(oE, .inr (8, [.ref oC, .ref oK, .int reE, .int laE, .int suE, .int leE]))])) (va_Qi (fun (r : Int32) (u : Int32) => r = u) (fun (r : Int32) t => va_P (dC, dI) vwCl [(oE, .inr (8, [.ref oC, .ref oK, .int reE, .int laE, .int suE, .int leE]))] t.heap ∧ va_D (va_A [(oE, .inr (8, [.ref oC, .ref oK, .int reE, .int laE, .int suE, .int leE]))] sz) [(oE, .inr (8, [.ref oC, .ref oK, .int reE, .int laE, .int suE, .int leE]))] ∧ (r = leE)) (va_A [(oE, .inr (8, [.ref oC, .ref oK, .int reE, .int laE, .int suE, .int leE]))] sz)) 0 0 (va_A [(oE, .inr (8, [.ref oC, .ref oK, .int reE, .int laE, .int suE, .int leE]))] sz) := by
  refine Met.ofW (cc := cX8_letters) (maxL := 1) (ret := (some .int)) (by decide) rfl ?_
  intro p e s m args below meth c s₁ B hml hv
  obtain ⟨rfl, hsz, hP, hK, hD0⟩ := hv
  have hx := B.exec
  have hb := B.bytes
  have hr := B.returns
  have hts := atoms_spec (ws := wsX8_letters) B.pre
  have hown : s.vm.findClass RX8 = some m.cls := findClass_of_methodNamed B.named
  have hlocks := B.notSynchronized
  have in_X8 : ∀ w ∈ wsX80, w ∈ wsX8_letters := fun _ h => List.mem_cons_of_mem _ (List.mem_append_right _ (h))
  subst hsz
  have hD := hD0.self (sz := s.heap.size)
  generalize hAe : va_A [(oE, .inr (8, [.ref oC, .ref oK, .int reE, .int laE, .int suE, .int leE]))] s.heap.size = A at hD ⊢
  have hA : ∀ q : Nat, s.heap.size ≤ q → A q := fun q h => by rw [← hAe]; exact Or.inr h
  have hS : va_S A s.heap s.heap [] := va_S.rf
  have hP : va_P (dC, dI) vwCl [(oE, .inr (8, [.ref oC, .ref oK, .int reE, .int laE, .int suE, .int leE]))] s.heap := hP
  have hl := lv_entry ([.ref oE]) (n := 1) (Nat.le_of_ble_eq_true rfl)
  rw [lg_entry_eq]
  generalize (lg_sl ([.ref oE]) ++ List.replicate (1 - (lg_sl ([.ref oE])).length) Slot.unset).toArray = ls at hl ⊢
  have hl : lv_has ls 1 [(0, .ref oE)] := hl
  obtain ⟨QQ, hQQ⟩ : ∃ QQ : Array Value → State → Outcome → State → Prop, QQ = va_Qi (fun (r : Int32) (u : Int32) => r = u) (fun (r : Int32) t => va_P (dC, dI) vwCl [(oE, .inr (8, [.ref oC, .ref oK, .int reE, .int laE, .int suE, .int leE]))] t.heap ∧ va_D A [(oE, .inr (8, [.ref oC, .ref oK, .int reE, .int laE, .int suE, .int leE]))] ∧ (r = leE)) A := ⟨_, rfl⟩
  rw [← hQQ]
  refine lv_aload_n hx hb dX8_letters_0 rfl (lv_at hl 0 rfl) ?_
  refine va_get (D := (dC, dI)) (ci := 8) (v := .int leE) (C := RX8) (T := TX8) (N := 6) hx hb hts in_X8 hown hK hP 0 rfl rfl 5 (by decide) (hts (.fieldLink RX8 29 "TextMender$Reading" "letters" "I") (List.mem_of_getElem? (i := 1) rfl)) (fun _ h9 => h9) rfl dX8_letters_1 ?_
  have hP9 := hP.sub (ws' := [(oE, .inr (8, [.ref oC, .ref oK, .int reE, .int laE, .int suE, .int leE]))]) [0] rfl
  have hD9 := hD.sub (ws' := [(oE, .inr (8, [.ref oC, .ref oK, .int reE, .int laE, .int suE, .int leE]))]) [0] (by decide) rfl
  rw [hQQ]
  exact W.iret (v := leE) hx hb hr (fun t ht hW => ⟨⟨leE, leE, rfl, rfl, ⟨by rw [ht]; exact hP9, hD9, rfl⟩⟩, hS.F ht⟩) hS.2.2 dX8_letters_4
