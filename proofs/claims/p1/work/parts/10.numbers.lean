set_option maxHeartbeats 4000000 in
set_option maxRecDepth 100000 in
theorem m_X5_length (l : Launch) (dC : Nat → ClassId) (dI : Nat → Nat → Nat) (cI cS : ClassId) (sz : Nat) (nu : Nat) (ar : Nat) (len : Int32)  : Met l yX5_length wsX5_length ({ frames := 0, cells := 0, slots := 0, locals := 0 } : Room) (va_Pc [.ref nu] (fun U => U.heap.size = sz ∧ va_P (dC, dI) vwCl [(nu, .inr (5, [.ref ar, .int len]))] U.heap ∧ va_K (dC, dI) vwCl [(cI, .int), (cS, .short)] U ∧ va_D (fun _ => True) [(nu, .inr (5, [.ref ar, .int len]))])) (va_Qi (fun (r : Int32) (_ : Unit) => r = len) (fun _ t => va_P (dC, dI) vwCl [(nu, .inr (5, [.ref ar, .int len]))] t.heap ∧ va_D (va_A [(nu, .inr (5, [.ref ar, .int len]))] sz) [(nu, .inr (5, [.ref ar, .int len]))]) (va_A [(nu, .inr (5, [.ref ar, .int len]))] sz)) 0 0 (va_A [(nu, .inr (5, [.ref ar, .int len]))] sz) := by
  refine Met.ofW (cc := cX5_length) (maxL := 1) (ret := (some .int)) (by decide) rfl ?_
  intro p e s m args below meth c s₁ B hml hv
  obtain ⟨rfl, hsz, hP, hK, hD0⟩ := hv
  have hx := B.exec
  have hb := B.bytes
  have hr := B.returns
  have hts := atoms_spec (ws := wsX5_length) B.pre
  have hown : s.vm.findClass RX5 = some m.cls := findClass_of_methodNamed B.named
  have hlocks := B.notSynchronized
  have in_X5 : ∀ w ∈ wsX50, w ∈ wsX5_length := fun _ h => List.mem_cons_of_mem _ (List.mem_append_right _ (h))
  subst hsz
  have hD := hD0.self (sz := s.heap.size)
  generalize hAe : va_A [(nu, .inr (5, [.ref ar, .int len]))] s.heap.size = A at hD ⊢
  have hA : ∀ q : Nat, s.heap.size ≤ q → A q := fun q h => by rw [← hAe]; exact Or.inr h
  have hS : va_S A s.heap s.heap [] := va_S.rf
  have hP : va_P (dC, dI) vwCl [(nu, .inr (5, [.ref ar, .int len]))] s.heap := hP
  have hl := lv_entry ([.ref nu]) (n := 1) (Nat.le_of_ble_eq_true rfl)
  rw [lg_entry_eq]
  generalize (lg_sl ([.ref nu]) ++ List.replicate (1 - (lg_sl ([.ref nu])).length) Slot.unset).toArray = ls at hl ⊢
  have hl : lv_has ls 1 [(0, .ref nu)] := hl
  refine lv_aload_n hx hb dX5_length_0 rfl (lv_at hl 0 rfl) ?_
  refine va_get (D := (dC, dI)) (ci := 5) (v := .int len) (C := RX5) (T := TX5) (N := 2) hx hb hts in_X5 hown hK hP 0 rfl rfl 1 (by decide) (hts (.fieldLink RX5 21 "TextMender$Numbers" "length" "I") (List.mem_of_getElem? (i := 1) rfl)) (fun _ h9 => h9) rfl dX5_length_1 ?_
  have hP9 := hP.sub (ws' := [(nu, .inr (5, [.ref ar, .int len]))]) [0] rfl
  have hD9 := hD.sub (ws' := [(nu, .inr (5, [.ref ar, .int len]))]) [0] (by decide) rfl
  exact W.iret (v := len) hx hb hr (fun t ht hW => ⟨⟨len, (), rfl, rfl, by rw [ht]; exact hP9, hD9⟩, hS.F ht⟩) (hS.2.2) dX5_length_4

set_option maxHeartbeats 4000000 in
set_option maxRecDepth 100000 in
theorem m_X5_cut (l : Launch) (dC : Nat → ClassId) (dI : Nat → Nat → Nat) (cI cS : ClassId) (sz : Nat) (nu : Nat) (ar : Nat) (n : Int32)  : Met l yX5_cut wsX5_cut ({ frames := 0, cells := 0, slots := 0, locals := 0 } : Room) (va_Pc [.ref nu, .int n] (fun U => U.heap.size = sz ∧ va_P (dC, dI) vwCl [(nu, .inr (5, [.ref ar, .int 0]))] U.heap ∧ va_K (dC, dI) vwCl [(cI, .int), (cS, .short)] U ∧ va_D (fun _ => True) [(nu, .inr (5, [.ref ar, .int 0]))])) (va_Qv (fun (_ : Unit) => True) (fun _ t => va_P (dC, dI) vwCl [(nu, .inr (5, [.ref ar, .int 0]))] t.heap ∧ va_D (va_A [(nu, .inr (5, [.ref ar, .int 0]))] sz) [(nu, .inr (5, [.ref ar, .int 0]))]) (va_A [(nu, .inr (5, [.ref ar, .int 0]))] sz)) 0 0 (va_A [(nu, .inr (5, [.ref ar, .int 0]))] sz) := by
  refine Met.ofW (cc := cX5_cut) (maxL := 2) (ret := none) (by decide) rfl ?_
  intro p e s m args below meth c s₁ B hml hv
  obtain ⟨rfl, hsz, hP, hK, hD0⟩ := hv
  have hx := B.exec
  have hb := B.bytes
  have hr := B.returns
  have hts := atoms_spec (ws := wsX5_cut) B.pre
  have hown : s.vm.findClass RX5 = some m.cls := findClass_of_methodNamed B.named
  have hlocks := B.notSynchronized
  have in_X5 : ∀ w ∈ wsX50, w ∈ wsX5_cut := fun _ h => List.mem_cons_of_mem _ (List.mem_append_right _ (h))
  subst hsz
  have hD := hD0.self (sz := s.heap.size)
  generalize hAe : va_A [(nu, .inr (5, [.ref ar, .int 0]))] s.heap.size = A at hD ⊢
  have hA : ∀ q : Nat, s.heap.size ≤ q → A q := fun q h => by rw [← hAe]; exact Or.inr h
  have hS : va_S A s.heap s.heap [] := va_S.rf
  have hP : va_P (dC, dI) vwCl [(nu, .inr (5, [.ref ar, .int 0]))] s.heap := hP
  have hl := lv_entry ([.ref nu, .int n]) (n := 2) (Nat.le_of_ble_eq_true rfl)
  rw [lg_entry_eq]
  generalize (lg_sl ([.ref nu, .int n]) ++ List.replicate (2 - (lg_sl ([.ref nu, .int n])).length) Slot.unset).toArray = ls at hl ⊢
  have hl : lv_has ls 2 [(0, .ref nu), (1, .int n)] := hl
  refine lv_iload_n hx hb dX5_cut_0 rfl (lv_at hl 1 rfl) ?_
  refine lv_if_lt (tgt := 17) hx hb dX5_cut_1 (by decide) (fun c_1 => ?_) (fun c_1 => ?_)
  · have hP9 := hP.sub (ws' := [(nu, .inr (5, [.ref ar, .int 0]))]) [0] rfl
    have hD9 := hD.sub (ws' := [(nu, .inr (5, [.ref ar, .int 0]))]) [0] (by decide) rfl
    exact W.vret hx hb hr (fun t ht hW => ⟨⟨(), rfl, trivial, by rw [ht]; exact hP9, hD9⟩, hS.F ht⟩) (hS.2.2) dX5_cut_17
  · refine lv_iload_n hx hb dX5_cut_4 rfl (lv_at hl 1 rfl) ?_
    refine lv_aload_n hx hb dX5_cut_5 rfl (lv_at hl 0 rfl) ?_
    refine va_get (D := (dC, dI)) (ci := 5) (v := .int 0) (C := RX5) (T := TX5) (N := 2) hx hb hts in_X5 hown hK hP 0 rfl rfl 1 (by decide) (hts (.fieldLink RX5 21 "TextMender$Numbers" "length" "I") (List.mem_of_getElem? (i := 1) rfl)) (fun _ h9 => h9) rfl dX5_cut_6 ?_
    refine lv_icmp_ge (tgt := 17) hx hb dX5_cut_9 (by decide) (fun c_2 => ?_) (fun c_2 => absurd (Int32.not_lt.mp c_1) c_2)
    have hP9 := hP.sub (ws' := [(nu, .inr (5, [.ref ar, .int 0]))]) [0] rfl
    have hD9 := hD.sub (ws' := [(nu, .inr (5, [.ref ar, .int 0]))]) [0] (by decide) rfl
    exact W.vret hx hb hr (fun t ht hW => ⟨⟨(), rfl, trivial, by rw [ht]; exact hP9, hD9⟩, hS.F ht⟩) (hS.2.2) dX5_cut_17

set_option maxHeartbeats 4000000 in
set_option maxRecDepth 100000 in
theorem m_X5_get (l : Launch) (dC : Nat → ClassId) (dI : Nat → Nat → Nat) (cI cS : ClassId) (sz : Nat) (nu : Nat) (ar : Nat) (i : Int32)  : Met l yX5_get wsX5_get ({ frames := 0, cells := 0, slots := 0, locals := 0 } : Room) (va_Pc [.ref nu, .int i] (fun U => U.heap.size = sz ∧ va_P (dC, dI) vwCl [(nu, .inr (5, [.ref ar, .int 0]))] U.heap ∧ va_K (dC, dI) vwCl [(cI, .int), (cS, .short)] U ∧ va_D (fun _ => True) [(nu, .inr (5, [.ref ar, .int 0]))])) (va_Qi (fun (r : Int32) (_ : Unit) => r = (-1)) (fun _ t => va_P (dC, dI) vwCl [(nu, .inr (5, [.ref ar, .int 0]))] t.heap ∧ va_D (va_A [(nu, .inr (5, [.ref ar, .int 0]))] sz) [(nu, .inr (5, [.ref ar, .int 0]))]) (va_A [(nu, .inr (5, [.ref ar, .int 0]))] sz)) 0 0 (va_A [(nu, .inr (5, [.ref ar, .int 0]))] sz) := by
  refine Met.ofW (cc := cX5_get) (maxL := 2) (ret := (some .int)) (by decide) rfl ?_
  intro p e s m args below meth c s₁ B hml hv
  obtain ⟨rfl, hsz, hP, hK, hD0⟩ := hv
  have hx := B.exec
  have hb := B.bytes
  have hr := B.returns
  have hts := atoms_spec (ws := wsX5_get) B.pre
  have hown : s.vm.findClass RX5 = some m.cls := findClass_of_methodNamed B.named
  have hlocks := B.notSynchronized
  have in_X5 : ∀ w ∈ wsX50, w ∈ wsX5_get := fun _ h => List.mem_cons_of_mem _ (List.mem_append_right _ (h))
  subst hsz
  have hD := hD0.self (sz := s.heap.size)
  generalize hAe : va_A [(nu, .inr (5, [.ref ar, .int 0]))] s.heap.size = A at hD ⊢
  have hA : ∀ q : Nat, s.heap.size ≤ q → A q := fun q h => by rw [← hAe]; exact Or.inr h
  have hS : va_S A s.heap s.heap [] := va_S.rf
  have hP : va_P (dC, dI) vwCl [(nu, .inr (5, [.ref ar, .int 0]))] s.heap := hP
  have hl := lv_entry ([.ref nu, .int i]) (n := 2) (Nat.le_of_ble_eq_true rfl)
  rw [lg_entry_eq]
  generalize (lg_sl ([.ref nu, .int i]) ++ List.replicate (2 - (lg_sl ([.ref nu, .int i])).length) Slot.unset).toArray = ls at hl ⊢
  have hl : lv_has ls 2 [(0, .ref nu), (1, .int i)] := hl
  refine lv_iload_n hx hb dX5_get_0 rfl (lv_at hl 1 rfl) ?_
  refine lv_if_lt (tgt := 21) hx hb dX5_get_1 (by decide) (fun c_1 => ?_) (fun c_1 => ?_)
  · refine lv_iconst (v := (-1)) hx hb dX5_get_21 (by decide) ?_
    have hP9 := hP.sub (ws' := [(nu, .inr (5, [.ref ar, .int 0]))]) [0] rfl
    have hD9 := hD.sub (ws' := [(nu, .inr (5, [.ref ar, .int 0]))]) [0] (by decide) rfl
    exact W.iret (v := (-1)) hx hb hr (fun t ht hW => ⟨⟨(-1), (), rfl, rfl, by rw [ht]; exact hP9, hD9⟩, hS.F ht⟩) (hS.2.2) dX5_get_22
  · refine lv_iload_n hx hb dX5_get_4 rfl (lv_at hl 1 rfl) ?_
    refine lv_aload_n hx hb dX5_get_5 rfl (lv_at hl 0 rfl) ?_
    refine va_get (D := (dC, dI)) (ci := 5) (v := .int 0) (C := RX5) (T := TX5) (N := 2) hx hb hts in_X5 hown hK hP 0 rfl rfl 1 (by decide) (hts (.fieldLink RX5 21 "TextMender$Numbers" "length" "I") (List.mem_of_getElem? (i := 1) rfl)) (fun _ h9 => h9) rfl dX5_get_6 ?_
    refine lv_icmp_ge (tgt := 21) hx hb dX5_get_9 (by decide) (fun c_2 => ?_) (fun c_2 => absurd (Int32.not_lt.mp c_1) c_2)
    refine lv_iconst (v := (-1)) hx hb dX5_get_21 (by decide) ?_
    have hP9 := hP.sub (ws' := [(nu, .inr (5, [.ref ar, .int 0]))]) [0] rfl
    have hD9 := hD.sub (ws' := [(nu, .inr (5, [.ref ar, .int 0]))]) [0] (by decide) rfl
    exact W.iret (v := (-1)) hx hb hr (fun t ht hW => ⟨⟨(-1), (), rfl, rfl, by rw [ht]; exact hP9, hD9⟩, hS.F ht⟩) (hS.2.2) dX5_get_22

set_option maxHeartbeats 4000000 in
set_option maxRecDepth 100000 in
theorem m_X5_add_0 (l : Launch) (dC : Nat → ClassId) (dI : Nat → Nat → Nat) (cI cS : ClassId) (sz : Nat) (nu : Nat) (ar : Nat) (v : Int32) (f : Nat → Int32)  : Met l yX5_add wsX5_add ({ frames := 0, cells := 0, slots := 0, locals := 0 } : Room) (va_Pc [.ref nu, .int v] (fun U => U.heap.size = sz ∧ va_P (dC, dI) vwCl [(nu, .inr (5, [.ref ar, .int 0])), (ar, .inl (cI, 900, .inl f))] U.heap ∧ va_K (dC, dI) vwCl [(cI, .int), (cS, .short)] U ∧ va_D (fun _ => True) [(nu, .inr (5, [.ref ar, .int 0])), (ar, .inl (cI, 900, .inl f))])) (va_Qi (fun (r : Int32) (_ : Unit) => r = 1) (fun _ t => va_P (dC, dI) vwCl [(nu, .inr (5, [.ref ar, .int 1])), (ar, .inl (cI, 900, .inl (upd f (0 : Int32).toNatClampNeg v)))] t.heap ∧ va_D (va_A [(nu, .inr (5, [.ref ar, .int 0])), (ar, .inl (cI, 900, .inl f))] sz) [(nu, .inr (5, [.ref ar, .int 1])), (ar, .inl (cI, 900, .inl (upd f (0 : Int32).toNatClampNeg v)))]) (va_A [(nu, .inr (5, [.ref ar, .int 0])), (ar, .inl (cI, 900, .inl f))] sz)) 0 0 (va_A [(nu, .inr (5, [.ref ar, .int 0])), (ar, .inl (cI, 900, .inl f))] sz) := by
  refine Met.ofW (cc := cX5_add) (maxL := 2) (ret := (some .boolean)) (by decide) rfl ?_
  intro p e s m args below meth c s₁ B hml hv
  obtain ⟨rfl, hsz, hP, hK, hD0⟩ := hv
  have hx := B.exec
  have hb := B.bytes
  have hr := B.returns
  have hts := atoms_spec (ws := wsX5_add) B.pre
  have hown : s.vm.findClass RX5 = some m.cls := findClass_of_methodNamed B.named
  have hlocks := B.notSynchronized
  have in_X5 : ∀ w ∈ wsX50, w ∈ wsX5_add := fun _ h => List.mem_cons_of_mem _ (List.mem_append_right _ (h))
  subst hsz
  have hD := hD0.self (sz := s.heap.size)
  generalize hAe : va_A [(nu, .inr (5, [.ref ar, .int 0])), (ar, .inl (cI, 900, .inl f))] s.heap.size = A at hD ⊢
  have hA : ∀ q : Nat, s.heap.size ≤ q → A q := fun q h => by rw [← hAe]; exact Or.inr h
  have hS : va_S A s.heap s.heap [] := va_S.rf
  have hP : va_P (dC, dI) vwCl [(nu, .inr (5, [.ref ar, .int 0])), (ar, .inl (cI, 900, .inl f))] s.heap := hP
  have hl := lv_entry ([.ref nu, .int v]) (n := 2) (Nat.le_of_ble_eq_true rfl)
  rw [lg_entry_eq]
  generalize (lg_sl ([.ref nu, .int v]) ++ List.replicate (2 - (lg_sl ([.ref nu, .int v])).length) Slot.unset).toArray = ls at hl ⊢
  have hl : lv_has ls 2 [(0, .ref nu), (1, .int v)] := hl
  refine lv_aload_n hx hb dX5_add_0 rfl (lv_at hl 0 rfl) ?_
  refine va_get (D := (dC, dI)) (ci := 5) (v := .int 0) (C := RX5) (T := TX5) (N := 2) hx hb hts in_X5 hown hK hP 0 rfl rfl 1 (by decide) (hts (.fieldLink RX5 21 "TextMender$Numbers" "length" "I") (List.mem_of_getElem? (i := 1) rfl)) (fun _ h9 => h9) rfl dX5_add_1 ?_
  refine lv_aload_n hx hb dX5_add_4 rfl (lv_at hl 0 rfl) ?_
  refine va_get (D := (dC, dI)) (ci := 5) (v := .ref ar) (C := RX5) (T := TX5) (N := 2) hx hb hts in_X5 hown hK hP 0 rfl rfl 0 (by decide) (hts (.fieldLink RX5 15 "TextMender$Numbers" "numbers" "[I") (List.mem_of_getElem? (i := 2) rfl)) (fun _ h9 => h9) rfl dX5_add_5 ?_
  refine va_alen hx hb hK hP 1 0 rfl rfl (v := 900) rfl dX5_add_8 ?_
  refine lv_icmp_lt (tgt := 14) hx hb dX5_add_9 (by decide) (fun c_1 => ?_) (fun c_1 => absurd (by decide) c_1)
  refine lv_aload_n hx hb dX5_add_14 rfl (lv_at hl 0 rfl) ?_
  refine va_get (D := (dC, dI)) (ci := 5) (v := .ref ar) (C := RX5) (T := TX5) (N := 2) hx hb hts in_X5 hown hK hP 0 rfl rfl 0 (by decide) (hts (.fieldLink RX5 15 "TextMender$Numbers" "numbers" "[I") (List.mem_of_getElem? (i := 2) rfl)) (fun _ h9 => h9) rfl dX5_add_15 ?_
  refine lv_aload_n hx hb dX5_add_18 rfl (lv_at hl 0 rfl) ?_
  refine va_get (D := (dC, dI)) (ci := 5) (v := .int 0) (C := RX5) (T := TX5) (N := 2) hx hb hts in_X5 hown hK hP 0 rfl rfl 1 (by decide) (hts (.fieldLink RX5 21 "TextMender$Numbers" "length" "I") (List.mem_of_getElem? (i := 1) rfl)) (fun _ h9 => h9) rfl dX5_add_19 ?_
  refine lv_iload_n hx hb dX5_add_22 rfl (lv_at hl 1 rfl) ?_
  refine va_iast hx hb hK hP hD hS 1 0 rfl rfl (by unfold vp_in; decide) dX5_add_23 (fun H locs hP hD hS => ?_)
  have hP : va_P (dC, dI) vwCl [(nu, .inr (5, [.ref ar, .int 0])), (ar, .inl (cI, 900, .inl (upd f (0 : Int32).toNatClampNeg v)))] H := hP
  have hD : va_D A [(nu, .inr (5, [.ref ar, .int 0])), (ar, .inl (cI, 900, .inl (upd f (0 : Int32).toNatClampNeg v)))] := hD
  refine lv_aload_n hx hb dX5_add_24 rfl (lv_at hl 0 rfl) ?_
  refine lv_dup hx hb dX5_add_25 rfl ?_
  refine va_get (D := (dC, dI)) (ci := 5) (v := .int 0) (C := RX5) (T := TX5) (N := 2) hx hb hts in_X5 hown hK hP 0 rfl rfl 1 (by decide) (hts (.fieldLink RX5 21 "TextMender$Numbers" "length" "I") (List.mem_of_getElem? (i := 1) rfl)) (fun _ h9 => h9) rfl dX5_add_26 ?_
  refine lv_iconst (v := 1) hx hb dX5_add_29 (by decide) ?_
  refine lv_iadd hx hb dX5_add_30 ?_
  refine k_i (y := 1) (by decide) ?_
  refine va_put (D := (dC, dI)) (ci := 5) (v := .int 1) (ty := .int) (C := RX5) (T := TX5) (N := 2) hx hb hts in_X5 tyX5 tyX5_ok nmX5 hown hK hP hD hS 0 rfl rfl 1 (by decide) (hts (.fieldLink RX5 21 "TextMender$Numbers" "length" "I") (List.mem_of_getElem? (i := 1) rfl)) (fun _ h9 => h9) rfl (by decide +kernel) rfl rfl (Nat.le_of_ble_eq_true rfl) dX5_add_31 (fun H locs hP hD hS => ?_)
  have hP : va_P (dC, dI) vwCl [(nu, .inr (5, [.ref ar, .int 1])), (ar, .inl (cI, 900, .inl (upd f (0 : Int32).toNatClampNeg v)))] H := hP
  have hD : va_D A [(nu, .inr (5, [.ref ar, .int 1])), (ar, .inl (cI, 900, .inl (upd f (0 : Int32).toNatClampNeg v)))] := hD
  refine lv_iconst (v := 1) hx hb dX5_add_34 (by decide) ?_
  have hP9 := hP.sub (ws' := [(nu, .inr (5, [.ref ar, .int 1])), (ar, .inl (cI, 900, .inl (upd f (0 : Int32).toNatClampNeg v)))]) [0, 1] rfl
  have hD9 := hD.sub (ws' := [(nu, .inr (5, [.ref ar, .int 1])), (ar, .inl (cI, 900, .inl (upd f (0 : Int32).toNatClampNeg v)))]) [0, 1] (by decide) rfl
  exact W.zret (v := 1) (ty := .boolean) hx hb hr (rfl) (fun t ht hW => ⟨⟨1, (), rfl, rfl, by rw [ht]; exact hP9, hD9⟩, hS.F ht⟩) (hS.2.2) dX5_add_35

set_option maxHeartbeats 4000000 in
set_option maxRecDepth 100000 in
theorem m_X5_add_1 (l : Launch) (dC : Nat → ClassId) (dI : Nat → Nat → Nat) (cI cS : ClassId) (sz : Nat) (nu : Nat) (ar : Nat) (v : Int32) (f : Nat → Int32)  : Met l yX5_add wsX5_add ({ frames := 0, cells := 0, slots := 0, locals := 0 } : Room) (va_Pc [.ref nu, .int v] (fun U => U.heap.size = sz ∧ va_P (dC, dI) vwCl [(nu, .inr (5, [.ref ar, .int 1])), (ar, .inl (cI, 900, .inl f))] U.heap ∧ va_K (dC, dI) vwCl [(cI, .int), (cS, .short)] U ∧ va_D (fun _ => True) [(nu, .inr (5, [.ref ar, .int 1])), (ar, .inl (cI, 900, .inl f))])) (va_Qi (fun (r : Int32) (_ : Unit) => r = 1) (fun _ t => va_P (dC, dI) vwCl [(nu, .inr (5, [.ref ar, .int 2])), (ar, .inl (cI, 900, .inl (upd f (1 : Int32).toNatClampNeg v)))] t.heap ∧ va_D (va_A [(nu, .inr (5, [.ref ar, .int 1])), (ar, .inl (cI, 900, .inl f))] sz) [(nu, .inr (5, [.ref ar, .int 2])), (ar, .inl (cI, 900, .inl (upd f (1 : Int32).toNatClampNeg v)))]) (va_A [(nu, .inr (5, [.ref ar, .int 1])), (ar, .inl (cI, 900, .inl f))] sz)) 0 0 (va_A [(nu, .inr (5, [.ref ar, .int 1])), (ar, .inl (cI, 900, .inl f))] sz) := by
  refine Met.ofW (cc := cX5_add) (maxL := 2) (ret := (some .boolean)) (by decide) rfl ?_
  intro p e s m args below meth c s₁ B hml hv
  obtain ⟨rfl, hsz, hP, hK, hD0⟩ := hv
  have hx := B.exec
  have hb := B.bytes
  have hr := B.returns
  have hts := atoms_spec (ws := wsX5_add) B.pre
  have hown : s.vm.findClass RX5 = some m.cls := findClass_of_methodNamed B.named
  have hlocks := B.notSynchronized
  have in_X5 : ∀ w ∈ wsX50, w ∈ wsX5_add := fun _ h => List.mem_cons_of_mem _ (List.mem_append_right _ (h))
  subst hsz
  have hD := hD0.self (sz := s.heap.size)
  generalize hAe : va_A [(nu, .inr (5, [.ref ar, .int 1])), (ar, .inl (cI, 900, .inl f))] s.heap.size = A at hD ⊢
  have hA : ∀ q : Nat, s.heap.size ≤ q → A q := fun q h => by rw [← hAe]; exact Or.inr h
  have hS : va_S A s.heap s.heap [] := va_S.rf
  have hP : va_P (dC, dI) vwCl [(nu, .inr (5, [.ref ar, .int 1])), (ar, .inl (cI, 900, .inl f))] s.heap := hP
  have hl := lv_entry ([.ref nu, .int v]) (n := 2) (Nat.le_of_ble_eq_true rfl)
  rw [lg_entry_eq]
  generalize (lg_sl ([.ref nu, .int v]) ++ List.replicate (2 - (lg_sl ([.ref nu, .int v])).length) Slot.unset).toArray = ls at hl ⊢
  have hl : lv_has ls 2 [(0, .ref nu), (1, .int v)] := hl
  refine lv_aload_n hx hb dX5_add_0 rfl (lv_at hl 0 rfl) ?_
  refine va_get (D := (dC, dI)) (ci := 5) (v := .int 1) (C := RX5) (T := TX5) (N := 2) hx hb hts in_X5 hown hK hP 0 rfl rfl 1 (by decide) (hts (.fieldLink RX5 21 "TextMender$Numbers" "length" "I") (List.mem_of_getElem? (i := 1) rfl)) (fun _ h9 => h9) rfl dX5_add_1 ?_
  refine lv_aload_n hx hb dX5_add_4 rfl (lv_at hl 0 rfl) ?_
  refine va_get (D := (dC, dI)) (ci := 5) (v := .ref ar) (C := RX5) (T := TX5) (N := 2) hx hb hts in_X5 hown hK hP 0 rfl rfl 0 (by decide) (hts (.fieldLink RX5 15 "TextMender$Numbers" "numbers" "[I") (List.mem_of_getElem? (i := 2) rfl)) (fun _ h9 => h9) rfl dX5_add_5 ?_
  refine va_alen hx hb hK hP 1 0 rfl rfl (v := 900) rfl dX5_add_8 ?_
  refine lv_icmp_lt (tgt := 14) hx hb dX5_add_9 (by decide) (fun c_1 => ?_) (fun c_1 => absurd (by decide) c_1)
  refine lv_aload_n hx hb dX5_add_14 rfl (lv_at hl 0 rfl) ?_
  refine va_get (D := (dC, dI)) (ci := 5) (v := .ref ar) (C := RX5) (T := TX5) (N := 2) hx hb hts in_X5 hown hK hP 0 rfl rfl 0 (by decide) (hts (.fieldLink RX5 15 "TextMender$Numbers" "numbers" "[I") (List.mem_of_getElem? (i := 2) rfl)) (fun _ h9 => h9) rfl dX5_add_15 ?_
  refine lv_aload_n hx hb dX5_add_18 rfl (lv_at hl 0 rfl) ?_
  refine va_get (D := (dC, dI)) (ci := 5) (v := .int 1) (C := RX5) (T := TX5) (N := 2) hx hb hts in_X5 hown hK hP 0 rfl rfl 1 (by decide) (hts (.fieldLink RX5 21 "TextMender$Numbers" "length" "I") (List.mem_of_getElem? (i := 1) rfl)) (fun _ h9 => h9) rfl dX5_add_19 ?_
  refine lv_iload_n hx hb dX5_add_22 rfl (lv_at hl 1 rfl) ?_
  refine va_iast hx hb hK hP hD hS 1 0 rfl rfl (by unfold vp_in; decide) dX5_add_23 (fun H locs hP hD hS => ?_)
  have hP : va_P (dC, dI) vwCl [(nu, .inr (5, [.ref ar, .int 1])), (ar, .inl (cI, 900, .inl (upd f (1 : Int32).toNatClampNeg v)))] H := hP
  have hD : va_D A [(nu, .inr (5, [.ref ar, .int 1])), (ar, .inl (cI, 900, .inl (upd f (1 : Int32).toNatClampNeg v)))] := hD
  refine lv_aload_n hx hb dX5_add_24 rfl (lv_at hl 0 rfl) ?_
  refine lv_dup hx hb dX5_add_25 rfl ?_
  refine va_get (D := (dC, dI)) (ci := 5) (v := .int 1) (C := RX5) (T := TX5) (N := 2) hx hb hts in_X5 hown hK hP 0 rfl rfl 1 (by decide) (hts (.fieldLink RX5 21 "TextMender$Numbers" "length" "I") (List.mem_of_getElem? (i := 1) rfl)) (fun _ h9 => h9) rfl dX5_add_26 ?_
  refine lv_iconst (v := 1) hx hb dX5_add_29 (by decide) ?_
  refine lv_iadd hx hb dX5_add_30 ?_
  refine k_i (y := 2) (by decide) ?_
  refine va_put (D := (dC, dI)) (ci := 5) (v := .int 2) (ty := .int) (C := RX5) (T := TX5) (N := 2) hx hb hts in_X5 tyX5 tyX5_ok nmX5 hown hK hP hD hS 0 rfl rfl 1 (by decide) (hts (.fieldLink RX5 21 "TextMender$Numbers" "length" "I") (List.mem_of_getElem? (i := 1) rfl)) (fun _ h9 => h9) rfl (by decide +kernel) rfl rfl (Nat.le_of_ble_eq_true rfl) dX5_add_31 (fun H locs hP hD hS => ?_)
  have hP : va_P (dC, dI) vwCl [(nu, .inr (5, [.ref ar, .int 2])), (ar, .inl (cI, 900, .inl (upd f (1 : Int32).toNatClampNeg v)))] H := hP
  have hD : va_D A [(nu, .inr (5, [.ref ar, .int 2])), (ar, .inl (cI, 900, .inl (upd f (1 : Int32).toNatClampNeg v)))] := hD
  refine lv_iconst (v := 1) hx hb dX5_add_34 (by decide) ?_
  have hP9 := hP.sub (ws' := [(nu, .inr (5, [.ref ar, .int 2])), (ar, .inl (cI, 900, .inl (upd f (1 : Int32).toNatClampNeg v)))]) [0, 1] rfl
  have hD9 := hD.sub (ws' := [(nu, .inr (5, [.ref ar, .int 2])), (ar, .inl (cI, 900, .inl (upd f (1 : Int32).toNatClampNeg v)))]) [0, 1] (by decide) rfl
  exact W.zret (v := 1) (ty := .boolean) hx hb hr (rfl) (fun t ht hW => ⟨⟨1, (), rfl, rfl, by rw [ht]; exact hP9, hD9⟩, hS.F ht⟩) (hS.2.2) dX5_add_35

set_option maxHeartbeats 4000000 in
set_option maxRecDepth 100000 in
theorem m_X5_add_2 (l : Launch) (dC : Nat → ClassId) (dI : Nat → Nat → Nat) (cI cS : ClassId) (sz : Nat) (nu : Nat) (ar : Nat) (v : Int32) (f : Nat → Int32)  : Met l yX5_add wsX5_add ({ frames := 0, cells := 0, slots := 0, locals := 0 } : Room) (va_Pc [.ref nu, .int v] (fun U => U.heap.size = sz ∧ va_P (dC, dI) vwCl [(nu, .inr (5, [.ref ar, .int 2])), (ar, .inl (cI, 900, .inl f))] U.heap ∧ va_K (dC, dI) vwCl [(cI, .int), (cS, .short)] U ∧ va_D (fun _ => True) [(nu, .inr (5, [.ref ar, .int 2])), (ar, .inl (cI, 900, .inl f))])) (va_Qi (fun (r : Int32) (_ : Unit) => r = 1) (fun _ t => va_P (dC, dI) vwCl [(nu, .inr (5, [.ref ar, .int 3])), (ar, .inl (cI, 900, .inl (upd f (2 : Int32).toNatClampNeg v)))] t.heap ∧ va_D (va_A [(nu, .inr (5, [.ref ar, .int 2])), (ar, .inl (cI, 900, .inl f))] sz) [(nu, .inr (5, [.ref ar, .int 3])), (ar, .inl (cI, 900, .inl (upd f (2 : Int32).toNatClampNeg v)))]) (va_A [(nu, .inr (5, [.ref ar, .int 2])), (ar, .inl (cI, 900, .inl f))] sz)) 0 0 (va_A [(nu, .inr (5, [.ref ar, .int 2])), (ar, .inl (cI, 900, .inl f))] sz) := by
  refine Met.ofW (cc := cX5_add) (maxL := 2) (ret := (some .boolean)) (by decide) rfl ?_
  intro p e s m args below meth c s₁ B hml hv
  obtain ⟨rfl, hsz, hP, hK, hD0⟩ := hv
  have hx := B.exec
  have hb := B.bytes
  have hr := B.returns
  have hts := atoms_spec (ws := wsX5_add) B.pre
  have hown : s.vm.findClass RX5 = some m.cls := findClass_of_methodNamed B.named
  have hlocks := B.notSynchronized
  have in_X5 : ∀ w ∈ wsX50, w ∈ wsX5_add := fun _ h => List.mem_cons_of_mem _ (List.mem_append_right _ (h))
  subst hsz
  have hD := hD0.self (sz := s.heap.size)
  generalize hAe : va_A [(nu, .inr (5, [.ref ar, .int 2])), (ar, .inl (cI, 900, .inl f))] s.heap.size = A at hD ⊢
  have hA : ∀ q : Nat, s.heap.size ≤ q → A q := fun q h => by rw [← hAe]; exact Or.inr h
  have hS : va_S A s.heap s.heap [] := va_S.rf
  have hP : va_P (dC, dI) vwCl [(nu, .inr (5, [.ref ar, .int 2])), (ar, .inl (cI, 900, .inl f))] s.heap := hP
  have hl := lv_entry ([.ref nu, .int v]) (n := 2) (Nat.le_of_ble_eq_true rfl)
  rw [lg_entry_eq]
  generalize (lg_sl ([.ref nu, .int v]) ++ List.replicate (2 - (lg_sl ([.ref nu, .int v])).length) Slot.unset).toArray = ls at hl ⊢
  have hl : lv_has ls 2 [(0, .ref nu), (1, .int v)] := hl
  refine lv_aload_n hx hb dX5_add_0 rfl (lv_at hl 0 rfl) ?_
  refine va_get (D := (dC, dI)) (ci := 5) (v := .int 2) (C := RX5) (T := TX5) (N := 2) hx hb hts in_X5 hown hK hP 0 rfl rfl 1 (by decide) (hts (.fieldLink RX5 21 "TextMender$Numbers" "length" "I") (List.mem_of_getElem? (i := 1) rfl)) (fun _ h9 => h9) rfl dX5_add_1 ?_
  refine lv_aload_n hx hb dX5_add_4 rfl (lv_at hl 0 rfl) ?_
  refine va_get (D := (dC, dI)) (ci := 5) (v := .ref ar) (C := RX5) (T := TX5) (N := 2) hx hb hts in_X5 hown hK hP 0 rfl rfl 0 (by decide) (hts (.fieldLink RX5 15 "TextMender$Numbers" "numbers" "[I") (List.mem_of_getElem? (i := 2) rfl)) (fun _ h9 => h9) rfl dX5_add_5 ?_
  refine va_alen hx hb hK hP 1 0 rfl rfl (v := 900) rfl dX5_add_8 ?_
  refine lv_icmp_lt (tgt := 14) hx hb dX5_add_9 (by decide) (fun c_1 => ?_) (fun c_1 => absurd (by decide) c_1)
  refine lv_aload_n hx hb dX5_add_14 rfl (lv_at hl 0 rfl) ?_
  refine va_get (D := (dC, dI)) (ci := 5) (v := .ref ar) (C := RX5) (T := TX5) (N := 2) hx hb hts in_X5 hown hK hP 0 rfl rfl 0 (by decide) (hts (.fieldLink RX5 15 "TextMender$Numbers" "numbers" "[I") (List.mem_of_getElem? (i := 2) rfl)) (fun _ h9 => h9) rfl dX5_add_15 ?_
  refine lv_aload_n hx hb dX5_add_18 rfl (lv_at hl 0 rfl) ?_
  refine va_get (D := (dC, dI)) (ci := 5) (v := .int 2) (C := RX5) (T := TX5) (N := 2) hx hb hts in_X5 hown hK hP 0 rfl rfl 1 (by decide) (hts (.fieldLink RX5 21 "TextMender$Numbers" "length" "I") (List.mem_of_getElem? (i := 1) rfl)) (fun _ h9 => h9) rfl dX5_add_19 ?_
  refine lv_iload_n hx hb dX5_add_22 rfl (lv_at hl 1 rfl) ?_
  refine va_iast hx hb hK hP hD hS 1 0 rfl rfl (by unfold vp_in; decide) dX5_add_23 (fun H locs hP hD hS => ?_)
  have hP : va_P (dC, dI) vwCl [(nu, .inr (5, [.ref ar, .int 2])), (ar, .inl (cI, 900, .inl (upd f (2 : Int32).toNatClampNeg v)))] H := hP
  have hD : va_D A [(nu, .inr (5, [.ref ar, .int 2])), (ar, .inl (cI, 900, .inl (upd f (2 : Int32).toNatClampNeg v)))] := hD
  refine lv_aload_n hx hb dX5_add_24 rfl (lv_at hl 0 rfl) ?_
  refine lv_dup hx hb dX5_add_25 rfl ?_
  refine va_get (D := (dC, dI)) (ci := 5) (v := .int 2) (C := RX5) (T := TX5) (N := 2) hx hb hts in_X5 hown hK hP 0 rfl rfl 1 (by decide) (hts (.fieldLink RX5 21 "TextMender$Numbers" "length" "I") (List.mem_of_getElem? (i := 1) rfl)) (fun _ h9 => h9) rfl dX5_add_26 ?_
  refine lv_iconst (v := 1) hx hb dX5_add_29 (by decide) ?_
  refine lv_iadd hx hb dX5_add_30 ?_
  refine k_i (y := 3) (by decide) ?_
  refine va_put (D := (dC, dI)) (ci := 5) (v := .int 3) (ty := .int) (C := RX5) (T := TX5) (N := 2) hx hb hts in_X5 tyX5 tyX5_ok nmX5 hown hK hP hD hS 0 rfl rfl 1 (by decide) (hts (.fieldLink RX5 21 "TextMender$Numbers" "length" "I") (List.mem_of_getElem? (i := 1) rfl)) (fun _ h9 => h9) rfl (by decide +kernel) rfl rfl (Nat.le_of_ble_eq_true rfl) dX5_add_31 (fun H locs hP hD hS => ?_)
  have hP : va_P (dC, dI) vwCl [(nu, .inr (5, [.ref ar, .int 3])), (ar, .inl (cI, 900, .inl (upd f (2 : Int32).toNatClampNeg v)))] H := hP
  have hD : va_D A [(nu, .inr (5, [.ref ar, .int 3])), (ar, .inl (cI, 900, .inl (upd f (2 : Int32).toNatClampNeg v)))] := hD
  refine lv_iconst (v := 1) hx hb dX5_add_34 (by decide) ?_
  have hP9 := hP.sub (ws' := [(nu, .inr (5, [.ref ar, .int 3])), (ar, .inl (cI, 900, .inl (upd f (2 : Int32).toNatClampNeg v)))]) [0, 1] rfl
  have hD9 := hD.sub (ws' := [(nu, .inr (5, [.ref ar, .int 3])), (ar, .inl (cI, 900, .inl (upd f (2 : Int32).toNatClampNeg v)))]) [0, 1] (by decide) rfl
  exact W.zret (v := 1) (ty := .boolean) hx hb hr (rfl) (fun t ht hW => ⟨⟨1, (), rfl, rfl, by rw [ht]; exact hP9, hD9⟩, hS.F ht⟩) (hS.2.2) dX5_add_35

set_option maxHeartbeats 4000000 in
set_option maxRecDepth 100000 in
theorem m_X5_add_3 (l : Launch) (dC : Nat → ClassId) (dI : Nat → Nat → Nat) (cI cS : ClassId) (sz : Nat) (nu : Nat) (ar : Nat) (v : Int32) (f : Nat → Int32)  : Met l yX5_add wsX5_add ({ frames := 0, cells := 0, slots := 0, locals := 0 } : Room) (va_Pc [.ref nu, .int v] (fun U => U.heap.size = sz ∧ va_P (dC, dI) vwCl [(nu, .inr (5, [.ref ar, .int 3])), (ar, .inl (cI, 900, .inl f))] U.heap ∧ va_K (dC, dI) vwCl [(cI, .int), (cS, .short)] U ∧ va_D (fun _ => True) [(nu, .inr (5, [.ref ar, .int 3])), (ar, .inl (cI, 900, .inl f))])) (va_Qi (fun (r : Int32) (_ : Unit) => r = 1) (fun _ t => va_P (dC, dI) vwCl [(nu, .inr (5, [.ref ar, .int 4])), (ar, .inl (cI, 900, .inl (upd f (3 : Int32).toNatClampNeg v)))] t.heap ∧ va_D (va_A [(nu, .inr (5, [.ref ar, .int 3])), (ar, .inl (cI, 900, .inl f))] sz) [(nu, .inr (5, [.ref ar, .int 4])), (ar, .inl (cI, 900, .inl (upd f (3 : Int32).toNatClampNeg v)))]) (va_A [(nu, .inr (5, [.ref ar, .int 3])), (ar, .inl (cI, 900, .inl f))] sz)) 0 0 (va_A [(nu, .inr (5, [.ref ar, .int 3])), (ar, .inl (cI, 900, .inl f))] sz) := by
  refine Met.ofW (cc := cX5_add) (maxL := 2) (ret := (some .boolean)) (by decide) rfl ?_
  intro p e s m args below meth c s₁ B hml hv
  obtain ⟨rfl, hsz, hP, hK, hD0⟩ := hv
  have hx := B.exec
  have hb := B.bytes
  have hr := B.returns
  have hts := atoms_spec (ws := wsX5_add) B.pre
  have hown : s.vm.findClass RX5 = some m.cls := findClass_of_methodNamed B.named
  have hlocks := B.notSynchronized
  have in_X5 : ∀ w ∈ wsX50, w ∈ wsX5_add := fun _ h => List.mem_cons_of_mem _ (List.mem_append_right _ (h))
  subst hsz
  have hD := hD0.self (sz := s.heap.size)
  generalize hAe : va_A [(nu, .inr (5, [.ref ar, .int 3])), (ar, .inl (cI, 900, .inl f))] s.heap.size = A at hD ⊢
  have hA : ∀ q : Nat, s.heap.size ≤ q → A q := fun q h => by rw [← hAe]; exact Or.inr h
  have hS : va_S A s.heap s.heap [] := va_S.rf
  have hP : va_P (dC, dI) vwCl [(nu, .inr (5, [.ref ar, .int 3])), (ar, .inl (cI, 900, .inl f))] s.heap := hP
  have hl := lv_entry ([.ref nu, .int v]) (n := 2) (Nat.le_of_ble_eq_true rfl)
  rw [lg_entry_eq]
  generalize (lg_sl ([.ref nu, .int v]) ++ List.replicate (2 - (lg_sl ([.ref nu, .int v])).length) Slot.unset).toArray = ls at hl ⊢
  have hl : lv_has ls 2 [(0, .ref nu), (1, .int v)] := hl
  refine lv_aload_n hx hb dX5_add_0 rfl (lv_at hl 0 rfl) ?_
  refine va_get (D := (dC, dI)) (ci := 5) (v := .int 3) (C := RX5) (T := TX5) (N := 2) hx hb hts in_X5 hown hK hP 0 rfl rfl 1 (by decide) (hts (.fieldLink RX5 21 "TextMender$Numbers" "length" "I") (List.mem_of_getElem? (i := 1) rfl)) (fun _ h9 => h9) rfl dX5_add_1 ?_
  refine lv_aload_n hx hb dX5_add_4 rfl (lv_at hl 0 rfl) ?_
  refine va_get (D := (dC, dI)) (ci := 5) (v := .ref ar) (C := RX5) (T := TX5) (N := 2) hx hb hts in_X5 hown hK hP 0 rfl rfl 0 (by decide) (hts (.fieldLink RX5 15 "TextMender$Numbers" "numbers" "[I") (List.mem_of_getElem? (i := 2) rfl)) (fun _ h9 => h9) rfl dX5_add_5 ?_
  refine va_alen hx hb hK hP 1 0 rfl rfl (v := 900) rfl dX5_add_8 ?_
  refine lv_icmp_lt (tgt := 14) hx hb dX5_add_9 (by decide) (fun c_1 => ?_) (fun c_1 => absurd (by decide) c_1)
  refine lv_aload_n hx hb dX5_add_14 rfl (lv_at hl 0 rfl) ?_
  refine va_get (D := (dC, dI)) (ci := 5) (v := .ref ar) (C := RX5) (T := TX5) (N := 2) hx hb hts in_X5 hown hK hP 0 rfl rfl 0 (by decide) (hts (.fieldLink RX5 15 "TextMender$Numbers" "numbers" "[I") (List.mem_of_getElem? (i := 2) rfl)) (fun _ h9 => h9) rfl dX5_add_15 ?_
  refine lv_aload_n hx hb dX5_add_18 rfl (lv_at hl 0 rfl) ?_
  refine va_get (D := (dC, dI)) (ci := 5) (v := .int 3) (C := RX5) (T := TX5) (N := 2) hx hb hts in_X5 hown hK hP 0 rfl rfl 1 (by decide) (hts (.fieldLink RX5 21 "TextMender$Numbers" "length" "I") (List.mem_of_getElem? (i := 1) rfl)) (fun _ h9 => h9) rfl dX5_add_19 ?_
  refine lv_iload_n hx hb dX5_add_22 rfl (lv_at hl 1 rfl) ?_
  refine va_iast hx hb hK hP hD hS 1 0 rfl rfl (by unfold vp_in; decide) dX5_add_23 (fun H locs hP hD hS => ?_)
  have hP : va_P (dC, dI) vwCl [(nu, .inr (5, [.ref ar, .int 3])), (ar, .inl (cI, 900, .inl (upd f (3 : Int32).toNatClampNeg v)))] H := hP
  have hD : va_D A [(nu, .inr (5, [.ref ar, .int 3])), (ar, .inl (cI, 900, .inl (upd f (3 : Int32).toNatClampNeg v)))] := hD
  refine lv_aload_n hx hb dX5_add_24 rfl (lv_at hl 0 rfl) ?_
  refine lv_dup hx hb dX5_add_25 rfl ?_
  refine va_get (D := (dC, dI)) (ci := 5) (v := .int 3) (C := RX5) (T := TX5) (N := 2) hx hb hts in_X5 hown hK hP 0 rfl rfl 1 (by decide) (hts (.fieldLink RX5 21 "TextMender$Numbers" "length" "I") (List.mem_of_getElem? (i := 1) rfl)) (fun _ h9 => h9) rfl dX5_add_26 ?_
  refine lv_iconst (v := 1) hx hb dX5_add_29 (by decide) ?_
  refine lv_iadd hx hb dX5_add_30 ?_
  refine k_i (y := 4) (by decide) ?_
  refine va_put (D := (dC, dI)) (ci := 5) (v := .int 4) (ty := .int) (C := RX5) (T := TX5) (N := 2) hx hb hts in_X5 tyX5 tyX5_ok nmX5 hown hK hP hD hS 0 rfl rfl 1 (by decide) (hts (.fieldLink RX5 21 "TextMender$Numbers" "length" "I") (List.mem_of_getElem? (i := 1) rfl)) (fun _ h9 => h9) rfl (by decide +kernel) rfl rfl (Nat.le_of_ble_eq_true rfl) dX5_add_31 (fun H locs hP hD hS => ?_)
  have hP : va_P (dC, dI) vwCl [(nu, .inr (5, [.ref ar, .int 4])), (ar, .inl (cI, 900, .inl (upd f (3 : Int32).toNatClampNeg v)))] H := hP
  have hD : va_D A [(nu, .inr (5, [.ref ar, .int 4])), (ar, .inl (cI, 900, .inl (upd f (3 : Int32).toNatClampNeg v)))] := hD
  refine lv_iconst (v := 1) hx hb dX5_add_34 (by decide) ?_
  have hP9 := hP.sub (ws' := [(nu, .inr (5, [.ref ar, .int 4])), (ar, .inl (cI, 900, .inl (upd f (3 : Int32).toNatClampNeg v)))]) [0, 1] rfl
  have hD9 := hD.sub (ws' := [(nu, .inr (5, [.ref ar, .int 4])), (ar, .inl (cI, 900, .inl (upd f (3 : Int32).toNatClampNeg v)))]) [0, 1] (by decide) rfl
  exact W.zret (v := 1) (ty := .boolean) hx hb hr (rfl) (fun t ht hW => ⟨⟨1, (), rfl, rfl, by rw [ht]; exact hP9, hD9⟩, hS.F ht⟩) (hS.2.2) dX5_add_35

set_option maxHeartbeats 4000000 in
set_option maxRecDepth 100000 in
theorem m_X5_add_4 (l : Launch) (dC : Nat → ClassId) (dI : Nat → Nat → Nat) (cI cS : ClassId) (sz : Nat) (nu : Nat) (ar : Nat) (v : Int32) (f : Nat → Int32)  : Met l yX5_add wsX5_add ({ frames := 0, cells := 0, slots := 0, locals := 0 } : Room) (va_Pc [.ref nu, .int v] (fun U => U.heap.size = sz ∧ va_P (dC, dI) vwCl [(nu, .inr (5, [.ref ar, .int 4])), (ar, .inl (cI, 900, .inl f))] U.heap ∧ va_K (dC, dI) vwCl [(cI, .int), (cS, .short)] U ∧ va_D (fun _ => True) [(nu, .inr (5, [.ref ar, .int 4])), (ar, .inl (cI, 900, .inl f))])) (va_Qi (fun (r : Int32) (_ : Unit) => r = 1) (fun _ t => va_P (dC, dI) vwCl [(nu, .inr (5, [.ref ar, .int 5])), (ar, .inl (cI, 900, .inl (upd f (4 : Int32).toNatClampNeg v)))] t.heap ∧ va_D (va_A [(nu, .inr (5, [.ref ar, .int 4])), (ar, .inl (cI, 900, .inl f))] sz) [(nu, .inr (5, [.ref ar, .int 5])), (ar, .inl (cI, 900, .inl (upd f (4 : Int32).toNatClampNeg v)))]) (va_A [(nu, .inr (5, [.ref ar, .int 4])), (ar, .inl (cI, 900, .inl f))] sz)) 0 0 (va_A [(nu, .inr (5, [.ref ar, .int 4])), (ar, .inl (cI, 900, .inl f))] sz) := by
  refine Met.ofW (cc := cX5_add) (maxL := 2) (ret := (some .boolean)) (by decide) rfl ?_
  intro p e s m args below meth c s₁ B hml hv
  obtain ⟨rfl, hsz, hP, hK, hD0⟩ := hv
  have hx := B.exec
  have hb := B.bytes
  have hr := B.returns
  have hts := atoms_spec (ws := wsX5_add) B.pre
  have hown : s.vm.findClass RX5 = some m.cls := findClass_of_methodNamed B.named
  have hlocks := B.notSynchronized
  have in_X5 : ∀ w ∈ wsX50, w ∈ wsX5_add := fun _ h => List.mem_cons_of_mem _ (List.mem_append_right _ (h))
  subst hsz
  have hD := hD0.self (sz := s.heap.size)
  generalize hAe : va_A [(nu, .inr (5, [.ref ar, .int 4])), (ar, .inl (cI, 900, .inl f))] s.heap.size = A at hD ⊢
  have hA : ∀ q : Nat, s.heap.size ≤ q → A q := fun q h => by rw [← hAe]; exact Or.inr h
  have hS : va_S A s.heap s.heap [] := va_S.rf
  have hP : va_P (dC, dI) vwCl [(nu, .inr (5, [.ref ar, .int 4])), (ar, .inl (cI, 900, .inl f))] s.heap := hP
  have hl := lv_entry ([.ref nu, .int v]) (n := 2) (Nat.le_of_ble_eq_true rfl)
  rw [lg_entry_eq]
  generalize (lg_sl ([.ref nu, .int v]) ++ List.replicate (2 - (lg_sl ([.ref nu, .int v])).length) Slot.unset).toArray = ls at hl ⊢
  have hl : lv_has ls 2 [(0, .ref nu), (1, .int v)] := hl
  refine lv_aload_n hx hb dX5_add_0 rfl (lv_at hl 0 rfl) ?_
  refine va_get (D := (dC, dI)) (ci := 5) (v := .int 4) (C := RX5) (T := TX5) (N := 2) hx hb hts in_X5 hown hK hP 0 rfl rfl 1 (by decide) (hts (.fieldLink RX5 21 "TextMender$Numbers" "length" "I") (List.mem_of_getElem? (i := 1) rfl)) (fun _ h9 => h9) rfl dX5_add_1 ?_
  refine lv_aload_n hx hb dX5_add_4 rfl (lv_at hl 0 rfl) ?_
  refine va_get (D := (dC, dI)) (ci := 5) (v := .ref ar) (C := RX5) (T := TX5) (N := 2) hx hb hts in_X5 hown hK hP 0 rfl rfl 0 (by decide) (hts (.fieldLink RX5 15 "TextMender$Numbers" "numbers" "[I") (List.mem_of_getElem? (i := 2) rfl)) (fun _ h9 => h9) rfl dX5_add_5 ?_
  refine va_alen hx hb hK hP 1 0 rfl rfl (v := 900) rfl dX5_add_8 ?_
  refine lv_icmp_lt (tgt := 14) hx hb dX5_add_9 (by decide) (fun c_1 => ?_) (fun c_1 => absurd (by decide) c_1)
  refine lv_aload_n hx hb dX5_add_14 rfl (lv_at hl 0 rfl) ?_
  refine va_get (D := (dC, dI)) (ci := 5) (v := .ref ar) (C := RX5) (T := TX5) (N := 2) hx hb hts in_X5 hown hK hP 0 rfl rfl 0 (by decide) (hts (.fieldLink RX5 15 "TextMender$Numbers" "numbers" "[I") (List.mem_of_getElem? (i := 2) rfl)) (fun _ h9 => h9) rfl dX5_add_15 ?_
  refine lv_aload_n hx hb dX5_add_18 rfl (lv_at hl 0 rfl) ?_
  refine va_get (D := (dC, dI)) (ci := 5) (v := .int 4) (C := RX5) (T := TX5) (N := 2) hx hb hts in_X5 hown hK hP 0 rfl rfl 1 (by decide) (hts (.fieldLink RX5 21 "TextMender$Numbers" "length" "I") (List.mem_of_getElem? (i := 1) rfl)) (fun _ h9 => h9) rfl dX5_add_19 ?_
  refine lv_iload_n hx hb dX5_add_22 rfl (lv_at hl 1 rfl) ?_
  refine va_iast hx hb hK hP hD hS 1 0 rfl rfl (by unfold vp_in; decide) dX5_add_23 (fun H locs hP hD hS => ?_)
  have hP : va_P (dC, dI) vwCl [(nu, .inr (5, [.ref ar, .int 4])), (ar, .inl (cI, 900, .inl (upd f (4 : Int32).toNatClampNeg v)))] H := hP
  have hD : va_D A [(nu, .inr (5, [.ref ar, .int 4])), (ar, .inl (cI, 900, .inl (upd f (4 : Int32).toNatClampNeg v)))] := hD
  refine lv_aload_n hx hb dX5_add_24 rfl (lv_at hl 0 rfl) ?_
  refine lv_dup hx hb dX5_add_25 rfl ?_
  refine va_get (D := (dC, dI)) (ci := 5) (v := .int 4) (C := RX5) (T := TX5) (N := 2) hx hb hts in_X5 hown hK hP 0 rfl rfl 1 (by decide) (hts (.fieldLink RX5 21 "TextMender$Numbers" "length" "I") (List.mem_of_getElem? (i := 1) rfl)) (fun _ h9 => h9) rfl dX5_add_26 ?_
  refine lv_iconst (v := 1) hx hb dX5_add_29 (by decide) ?_
  refine lv_iadd hx hb dX5_add_30 ?_
  refine k_i (y := 5) (by decide) ?_
  refine va_put (D := (dC, dI)) (ci := 5) (v := .int 5) (ty := .int) (C := RX5) (T := TX5) (N := 2) hx hb hts in_X5 tyX5 tyX5_ok nmX5 hown hK hP hD hS 0 rfl rfl 1 (by decide) (hts (.fieldLink RX5 21 "TextMender$Numbers" "length" "I") (List.mem_of_getElem? (i := 1) rfl)) (fun _ h9 => h9) rfl (by decide +kernel) rfl rfl (Nat.le_of_ble_eq_true rfl) dX5_add_31 (fun H locs hP hD hS => ?_)
  have hP : va_P (dC, dI) vwCl [(nu, .inr (5, [.ref ar, .int 5])), (ar, .inl (cI, 900, .inl (upd f (4 : Int32).toNatClampNeg v)))] H := hP
  have hD : va_D A [(nu, .inr (5, [.ref ar, .int 5])), (ar, .inl (cI, 900, .inl (upd f (4 : Int32).toNatClampNeg v)))] := hD
  refine lv_iconst (v := 1) hx hb dX5_add_34 (by decide) ?_
  have hP9 := hP.sub (ws' := [(nu, .inr (5, [.ref ar, .int 5])), (ar, .inl (cI, 900, .inl (upd f (4 : Int32).toNatClampNeg v)))]) [0, 1] rfl
  have hD9 := hD.sub (ws' := [(nu, .inr (5, [.ref ar, .int 5])), (ar, .inl (cI, 900, .inl (upd f (4 : Int32).toNatClampNeg v)))]) [0, 1] (by decide) rfl
  exact W.zret (v := 1) (ty := .boolean) hx hb hr (rfl) (fun t ht hW => ⟨⟨1, (), rfl, rfl, by rw [ht]; exact hP9, hD9⟩, hS.F ht⟩) (hS.2.2) dX5_add_35

set_option maxHeartbeats 4000000 in
set_option maxRecDepth 100000 in
theorem m_X5_addAll (l : Launch) (dC : Nat → ClassId) (dI : Nat → Nat → Nat) (cI cS : ClassId) (sz : Nat) (nu : Nat) (ar : Nat) (no : Nat) (ao : Nat) (n2 : Nat) (f : Nat → Int32) (g : Nat → Int32)  : Met l yX5_addAll wsX5_addAll ({ frames := 1, cells := 0, slots := 0, locals := 48 } : Room) (va_Pc [.ref nu, .ref no] (fun U => U.heap.size = sz ∧ va_P (dC, dI) vwCl [(nu, .inr (5, [.ref ar, .int 0])), (ar, .inl (cI, 300, .inl f)), (no, .inr (5, [.ref ao, .int 0])), (ao, .inl (cI, n2, .inl g))] U.heap ∧ va_K (dC, dI) vwCl [(cI, .int), (cS, .short)] U ∧ va_D (fun _ => True) [(nu, .inr (5, [.ref ar, .int 0])), (ar, .inl (cI, 300, .inl f)), (no, .inr (5, [.ref ao, .int 0])), (ao, .inl (cI, n2, .inl g))])) (va_Qi (fun (r : Int32) (_ : Unit) => r = 1) (fun _ t => va_P (dC, dI) vwCl [(nu, .inr (5, [.ref ar, .int 0])), (ar, .inl (cI, 300, .inl f)), (no, .inr (5, [.ref ao, .int 0])), (ao, .inl (cI, n2, .inl g))] t.heap ∧ va_D (va_A [(nu, .inr (5, [.ref ar, .int 0])), (ar, .inl (cI, 300, .inl f)), (no, .inr (5, [.ref ao, .int 0])), (ao, .inl (cI, n2, .inl g))] sz) [(nu, .inr (5, [.ref ar, .int 0])), (ar, .inl (cI, 300, .inl f)), (no, .inr (5, [.ref ao, .int 0])), (ao, .inl (cI, n2, .inl g))]) (va_A [(nu, .inr (5, [.ref ar, .int 0])), (ar, .inl (cI, 300, .inl f)), (no, .inr (5, [.ref ao, .int 0])), (ao, .inl (cI, n2, .inl g))] sz)) 0 0 (va_A [(nu, .inr (5, [.ref ar, .int 0])), (ar, .inl (cI, 300, .inl f)), (no, .inr (5, [.ref ao, .int 0])), (ao, .inl (cI, n2, .inl g))] sz) := by
  refine Met.ofW (cc := cX5_addAll) (maxL := 2) (ret := (some .boolean)) (by decide) rfl ?_
  intro p e s m args below meth c s₁ B hml hv
  obtain ⟨rfl, hsz, hP, hK, hD0⟩ := hv
  have hx := B.exec
  have hb := B.bytes
  have hr := B.returns
  have hts := atoms_spec (ws := wsX5_addAll) B.pre
  have hown : s.vm.findClass RX5 = some m.cls := findClass_of_methodNamed B.named
  have hlocks := B.notSynchronized
  have in_X5 : ∀ w ∈ wsX50, w ∈ wsX5_addAll := fun _ h => List.mem_cons_of_mem _ (List.mem_append_right _ (h))
  subst hsz
  have hD := hD0.self (sz := s.heap.size)
  generalize hAe : va_A [(nu, .inr (5, [.ref ar, .int 0])), (ar, .inl (cI, 300, .inl f)), (no, .inr (5, [.ref ao, .int 0])), (ao, .inl (cI, n2, .inl g))] s.heap.size = A at hD ⊢
  have hA : ∀ q : Nat, s.heap.size ≤ q → A q := fun q h => by rw [← hAe]; exact Or.inr h
  have hS : va_S A s.heap s.heap [] := va_S.rf
  have hP : va_P (dC, dI) vwCl [(nu, .inr (5, [.ref ar, .int 0])), (ar, .inl (cI, 300, .inl f)), (no, .inr (5, [.ref ao, .int 0])), (ao, .inl (cI, n2, .inl g))] s.heap := hP
  have hl := lv_entry ([.ref nu, .ref no]) (n := 2) (Nat.le_of_ble_eq_true rfl)
  rw [lg_entry_eq]
  generalize (lg_sl ([.ref nu, .ref no]) ++ List.replicate (2 - (lg_sl ([.ref nu, .ref no])).length) Slot.unset).toArray = ls at hl ⊢
  have hl : lv_has ls 2 [(0, .ref nu), (1, .ref no)] := hl
  refine lv_aload_n hx hb dX5_addAll_0 rfl (lv_at hl 1 rfl) ?_
  refine va_get (D := (dC, dI)) (ci := 5) (v := .int 0) (C := RX5) (T := TX5) (N := 2) hx hb hts in_X5 hown hK hP 2 rfl rfl 1 (by decide) (hts (.fieldLink RX5 21 "TextMender$Numbers" "length" "I") (List.mem_of_getElem? (i := 1) rfl)) (fun _ h9 => h9) rfl dX5_addAll_1 ?_
  refine lv_aload_n hx hb dX5_addAll_4 rfl (lv_at hl 0 rfl) ?_
  refine va_get (D := (dC, dI)) (ci := 5) (v := .ref ar) (C := RX5) (T := TX5) (N := 2) hx hb hts in_X5 hown hK hP 0 rfl rfl 0 (by decide) (hts (.fieldLink RX5 15 "TextMender$Numbers" "numbers" "[I") (List.mem_of_getElem? (i := 2) rfl)) (fun _ h9 => h9) rfl dX5_addAll_5 ?_
  refine va_alen hx hb hK hP 1 0 rfl rfl (v := 300) rfl dX5_addAll_8 ?_
  refine lv_aload_n hx hb dX5_addAll_9 rfl (lv_at hl 0 rfl) ?_
  refine va_get (D := (dC, dI)) (ci := 5) (v := .int 0) (C := RX5) (T := TX5) (N := 2) hx hb hts in_X5 hown hK hP 0 rfl rfl 1 (by decide) (hts (.fieldLink RX5 21 "TextMender$Numbers" "length" "I") (List.mem_of_getElem? (i := 1) rfl)) (fun _ h9 => h9) rfl dX5_addAll_10 ?_
  refine lv_isub hx hb dX5_addAll_13 ?_
  refine k_i (y := 300) (by decide) ?_
  refine lv_icmp_le (tgt := 19) hx hb dX5_addAll_14 (by decide) (fun c_1 => ?_) (fun c_1 => absurd (by decide) c_1)
  refine lv_aload_n hx hb dX5_addAll_19 rfl (lv_at hl 1 rfl) ?_
  refine va_get (D := (dC, dI)) (ci := 5) (v := .ref ao) (C := RX5) (T := TX5) (N := 2) hx hb hts in_X5 hown hK hP 2 rfl rfl 0 (by decide) (hts (.fieldLink RX5 15 "TextMender$Numbers" "numbers" "[I") (List.mem_of_getElem? (i := 2) rfl)) (fun _ h9 => h9) rfl dX5_addAll_20 ?_
  refine lv_iconst (v := 0) hx hb dX5_addAll_23 (by decide) ?_
  refine lv_aload_n hx hb dX5_addAll_24 rfl (lv_at hl 0 rfl) ?_
  refine va_get (D := (dC, dI)) (ci := 5) (v := .ref ar) (C := RX5) (T := TX5) (N := 2) hx hb hts in_X5 hown hK hP 0 rfl rfl 0 (by decide) (hts (.fieldLink RX5 15 "TextMender$Numbers" "numbers" "[I") (List.mem_of_getElem? (i := 2) rfl)) (fun _ h9 => h9) rfl dX5_addAll_25 ?_
  refine lv_aload_n hx hb dX5_addAll_28 rfl (lv_at hl 0 rfl) ?_
  refine va_get (D := (dC, dI)) (ci := 5) (v := .int 0) (C := RX5) (T := TX5) (N := 2) hx hb hts in_X5 hown hK hP 0 rfl rfl 1 (by decide) (hts (.fieldLink RX5 21 "TextMender$Numbers" "length" "I") (List.mem_of_getElem? (i := 1) rfl)) (fun _ h9 => h9) rfl dX5_addAll_29 ?_
  refine lv_aload_n hx hb dX5_addAll_32 rfl (lv_at hl 1 rfl) ?_
  refine va_get (D := (dC, dI)) (ci := 5) (v := .int 0) (C := RX5) (T := TX5) (N := 2) hx hb hts in_X5 hown hK hP 2 rfl rfl 1 (by decide) (hts (.fieldLink RX5 21 "TextMender$Numbers" "length" "I") (List.mem_of_getElem? (i := 1) rfl)) (fun _ h9 => h9) rfl dX5_addAll_33 ?_
  refine va_copyi hx hb (by rw [hml]; exact hl.1.symm) hown (hts (.methodLink RX5 25 arraycopyName) (List.mem_of_getElem? (i := 3) rfl)) (hts (.native arraycopyName) (List.mem_of_getElem? (i := 4) rfl)) (hts (.static arraycopyName) (List.mem_of_getElem? (i := 5) rfl)) (hts (.initialized "java/lang/System") (List.mem_of_getElem? (i := 6) rfl)) hK hP hD hS 3 1 0 0 rfl rfl rfl rfl rfl (by decide) (by decide) (by decide) (by show 0 + 0 ≤ _; omega) (by show 0 + 0 ≤ _; omega) (fun i hi => absurd hi (Nat.not_lt_zero i)) (Nat.le_of_ble_eq_true rfl) (Nat.le_of_ble_eq_true rfl) dX5_addAll_36 (fun H locs hP hD hS => ?_)
  rw [p_cpy0] at hP hD
  have hP : va_P (dC, dI) vwCl [(nu, .inr (5, [.ref ar, .int 0])), (ar, .inl (cI, 300, .inl f)), (no, .inr (5, [.ref ao, .int 0])), (ao, .inl (cI, n2, .inl g))] H := hP
  have hD : va_D A [(nu, .inr (5, [.ref ar, .int 0])), (ar, .inl (cI, 300, .inl f)), (no, .inr (5, [.ref ao, .int 0])), (ao, .inl (cI, n2, .inl g))] := hD
  refine lv_aload_n hx hb dX5_addAll_39 rfl (lv_at hl 0 rfl) ?_
  refine lv_dup hx hb dX5_addAll_40 rfl ?_
  refine va_get (D := (dC, dI)) (ci := 5) (v := .int 0) (C := RX5) (T := TX5) (N := 2) hx hb hts in_X5 hown hK hP 0 rfl rfl 1 (by decide) (hts (.fieldLink RX5 21 "TextMender$Numbers" "length" "I") (List.mem_of_getElem? (i := 1) rfl)) (fun _ h9 => h9) rfl dX5_addAll_41 ?_
  refine lv_aload_n hx hb dX5_addAll_44 rfl (lv_at hl 1 rfl) ?_
  refine va_get (D := (dC, dI)) (ci := 5) (v := .int 0) (C := RX5) (T := TX5) (N := 2) hx hb hts in_X5 hown hK hP 2 rfl rfl 1 (by decide) (hts (.fieldLink RX5 21 "TextMender$Numbers" "length" "I") (List.mem_of_getElem? (i := 1) rfl)) (fun _ h9 => h9) rfl dX5_addAll_45 ?_
  refine lv_iadd hx hb dX5_addAll_48 ?_
  refine k_i (y := 0) (by decide) ?_
  refine va_put (D := (dC, dI)) (ci := 5) (v := .int 0) (ty := .int) (C := RX5) (T := TX5) (N := 2) hx hb hts in_X5 tyX5 tyX5_ok nmX5 hown hK hP hD hS 0 rfl rfl 1 (by decide) (hts (.fieldLink RX5 21 "TextMender$Numbers" "length" "I") (List.mem_of_getElem? (i := 1) rfl)) (fun _ h9 => h9) rfl (by decide +kernel) rfl rfl (Nat.le_of_ble_eq_true rfl) dX5_addAll_49 (fun H locs hP hD hS => ?_)
  have hP : va_P (dC, dI) vwCl [(nu, .inr (5, [.ref ar, .int 0])), (ar, .inl (cI, 300, .inl f)), (no, .inr (5, [.ref ao, .int 0])), (ao, .inl (cI, n2, .inl g))] H := hP
  have hD : va_D A [(nu, .inr (5, [.ref ar, .int 0])), (ar, .inl (cI, 300, .inl f)), (no, .inr (5, [.ref ao, .int 0])), (ao, .inl (cI, n2, .inl g))] := hD
  refine lv_iconst (v := 1) hx hb dX5_addAll_52 (by decide) ?_
  have hP9 := hP.sub (ws' := [(nu, .inr (5, [.ref ar, .int 0])), (ar, .inl (cI, 300, .inl f)), (no, .inr (5, [.ref ao, .int 0])), (ao, .inl (cI, n2, .inl g))]) [0, 1, 2, 3] rfl
  have hD9 := hD.sub (ws' := [(nu, .inr (5, [.ref ar, .int 0])), (ar, .inl (cI, 300, .inl f)), (no, .inr (5, [.ref ao, .int 0])), (ao, .inl (cI, n2, .inl g))]) [0, 1, 2, 3] (by decide) rfl
  exact W.zret (v := 1) (ty := .boolean) hx hb hr (rfl) (fun t ht hW => ⟨⟨1, (), rfl, rfl, by rw [ht]; exact hP9, hD9⟩, hS.F ht⟩) (hS.2.2) dX5_addAll_53

set_option maxHeartbeats 4000000 in
set_option maxRecDepth 100000 in
theorem m_X5_takeAll (l : Launch) (dC : Nat → ClassId) (dI : Nat → Nat → Nat) (cI cS : ClassId) (sz : Nat) (nu : Nat) (ar : Nat) (no : Nat) (ao : Nat) (n2 : Nat) (f : Nat → Int32) (g : Nat → Int32)  : Met l yX5_takeAll wsX5_takeAll ({ frames := 2, cells := 0, slots := 0, locals := 69 } : Room) (va_Pc [.ref nu, .ref no] (fun U => U.heap.size = sz ∧ va_P (dC, dI) vwCl [(nu, .inr (5, [.ref ar, .int 0])), (ar, .inl (cI, 300, .inl f)), (no, .inr (5, [.ref ao, .int 0])), (ao, .inl (cI, n2, .inl g))] U.heap ∧ va_K (dC, dI) vwCl [(cI, .int), (cS, .short)] U ∧ va_D (fun _ => True) [(nu, .inr (5, [.ref ar, .int 0])), (ar, .inl (cI, 300, .inl f)), (no, .inr (5, [.ref ao, .int 0])), (ao, .inl (cI, n2, .inl g))])) (va_Qi (fun (r : Int32) (_ : Unit) => r = 1) (fun _ t => va_P (dC, dI) vwCl [(nu, .inr (5, [.ref ar, .int 0])), (ar, .inl (cI, 300, .inl f)), (no, .inr (5, [.ref ao, .int 0])), (ao, .inl (cI, n2, .inl g))] t.heap ∧ va_D (va_A [(nu, .inr (5, [.ref ar, .int 0])), (ar, .inl (cI, 300, .inl f)), (no, .inr (5, [.ref ao, .int 0])), (ao, .inl (cI, n2, .inl g))] sz) [(nu, .inr (5, [.ref ar, .int 0])), (ar, .inl (cI, 300, .inl f)), (no, .inr (5, [.ref ao, .int 0])), (ao, .inl (cI, n2, .inl g))]) (va_A [(nu, .inr (5, [.ref ar, .int 0])), (ar, .inl (cI, 300, .inl f)), (no, .inr (5, [.ref ao, .int 0])), (ao, .inl (cI, n2, .inl g))] sz)) 0 0 (va_A [(nu, .inr (5, [.ref ar, .int 0])), (ar, .inl (cI, 300, .inl f)), (no, .inr (5, [.ref ao, .int 0])), (ao, .inl (cI, n2, .inl g))] sz) := by
  refine Met.ofW (cc := cX5_takeAll) (maxL := 2) (ret := (some .boolean)) (by decide) rfl ?_
  intro p e s m args below meth c s₁ B hml hv
  obtain ⟨rfl, hsz, hP, hK, hD0⟩ := hv
  have hx := B.exec
  have hb := B.bytes
  have hr := B.returns
  have hts := atoms_spec (ws := wsX5_takeAll) B.pre
  have hown : s.vm.findClass RX5 = some m.cls := findClass_of_methodNamed B.named
  have hlocks := B.notSynchronized
  have in_X5 : ∀ w ∈ wsX50, w ∈ wsX5_takeAll := fun _ h => List.mem_cons_of_mem _ (List.mem_append_right _ (h))
  subst hsz
  have hD := hD0.self (sz := s.heap.size)
  generalize hAe : va_A [(nu, .inr (5, [.ref ar, .int 0])), (ar, .inl (cI, 300, .inl f)), (no, .inr (5, [.ref ao, .int 0])), (ao, .inl (cI, n2, .inl g))] s.heap.size = A at hD ⊢
  have hA : ∀ q : Nat, s.heap.size ≤ q → A q := fun q h => by rw [← hAe]; exact Or.inr h
  have hS : va_S A s.heap s.heap [] := va_S.rf
  have hP : va_P (dC, dI) vwCl [(nu, .inr (5, [.ref ar, .int 0])), (ar, .inl (cI, 300, .inl f)), (no, .inr (5, [.ref ao, .int 0])), (ao, .inl (cI, n2, .inl g))] s.heap := hP
  have hl := lv_entry ([.ref nu, .ref no]) (n := 2) (Nat.le_of_ble_eq_true rfl)
  rw [lg_entry_eq]
  generalize (lg_sl ([.ref nu, .ref no]) ++ List.replicate (2 - (lg_sl ([.ref nu, .ref no])).length) Slot.unset).toArray = ls at hl ⊢
  have hl : lv_has ls 2 [(0, .ref nu), (1, .ref no)] := hl
  refine lv_aload_n hx hb dX5_takeAll_0 rfl (lv_at hl 0 rfl) ?_
  refine lv_iconst (v := 0) hx hb dX5_takeAll_1 (by decide) ?_
  refine va_put (D := (dC, dI)) (ci := 5) (v := .int 0) (ty := .int) (C := RX5) (T := TX5) (N := 2) hx hb hts in_X5 tyX5 tyX5_ok nmX5 hown hK hP hD hS 0 rfl rfl 1 (by decide) (hts (.fieldLink RX5 21 "TextMender$Numbers" "length" "I") (List.mem_of_getElem? (i := 1) rfl)) (fun _ h9 => h9) rfl (by decide +kernel) rfl rfl (Nat.le_of_ble_eq_true rfl) dX5_takeAll_2 (fun H locs hP hD hS => ?_)
  have hP : va_P (dC, dI) vwCl [(nu, .inr (5, [.ref ar, .int 0])), (ar, .inl (cI, 300, .inl f)), (no, .inr (5, [.ref ao, .int 0])), (ao, .inl (cI, n2, .inl g))] H := hP
  have hD : va_D A [(nu, .inr (5, [.ref ar, .int 0])), (ar, .inl (cI, 300, .inl f)), (no, .inr (5, [.ref ao, .int 0])), (ao, .inl (cI, n2, .inl g))] := hD
  refine lv_aload_n hx hb dX5_takeAll_5 rfl (lv_at hl 0 rfl) ?_
  refine lv_aload_n hx hb dX5_takeAll_6 rfl (lv_at hl 1 rfl) ?_
  have hPc := hP.sub (ws' := [(nu, .inr (5, [.ref ar, .int 0])), (ar, .inl (cI, 300, .inl f)), (no, .inr (5, [.ref ao, .int 0])), (ao, .inl (cI, n2, .inl g))]) [0, 1, 2, 3] rfl
  have hDc := hD.sub (ws' := [(nu, .inr (5, [.ref ar, .int 0])), (ar, .inl (cI, 300, .inl f)), (no, .inr (5, [.ref ao, .int 0])), (ao, .inl (cI, n2, .inl g))]) [0, 1, 2, 3] (by decide) rfl
  have hFc := va_free (wc := [(nu, .inr (5, [.ref ar, .int 0])), (ar, .inl (cI, 300, .inl f)), (no, .inr (5, [.ref ao, .int 0])), (ao, .inl (cI, n2, .inl g))]) hD hS hA [0, 1, 2, 3] rfl
  refine va_calli (va_runV (As := [.ref no]) (rest := []) ⟨hx, hb, hml, hown, hts⟩ (m_X5_addAll l dC dI cI cS H.size nu ar no ao n2 f g ) (cwV 1 hts gX5_takeAll_X5_addAll rfl rfl rfl (by decide +kernel) ⟨Nat.le_of_ble_eq_true rfl, Nat.le_of_ble_eq_true rfl⟩) ⟨fun a U g mk q => by obtain ⟨q0, q1, qP, qK, qD⟩ := q; exact ⟨q0, q1, qP, va_K.moved (u := U) (U := U.calling g mk a) (Vm.Alike.refl U.vm) qK, qD⟩, va_recv hK hPc (ci := 5) (q0 := 0) rfl rfl, fun U hU hW => ⟨rfl, by rw [hU], by rw [hU]; exact hPc, va_K.moved hW.alike hK, hDc.weaken (fun _ _ _ _ => trivial)⟩⟩ rfl rfl hl.1 rfl (lv_room (Nat.le_of_ble_eq_true rfl)) dX5_takeAll_7 ⟨Nat.le_of_ble_eq_true rfl, Nat.le_of_ble_eq_true rfl⟩) hS (fun q _ h => hFc q h) hFc (fun r_1 u t H1 locs ht hvm hw hB hz1 hk1 hS => ?_)
  obtain ⟨hP1, hD1⟩ := hB
  rw [ht] at hP1
  obtain ⟨hP, hD⟩ := va_join (wr := []) (w1 := [(nu, .inr (5, [.ref ar, .int 0])), (ar, .inl (cI, 300, .inl f)), (no, .inr (5, [.ref ao, .int 0])), (ao, .inl (cI, n2, .inl g))]) hP hD [0, 1, 2, 3] [] rfl rfl (by decide) (by decide) hk1 hFc hP1 hD1
  generalize H1 = H at hP hS ⊢
  have hP : va_P (dC, dI) vwCl [(nu, .inr (5, [.ref ar, .int 0])), (ar, .inl (cI, 300, .inl f)), (no, .inr (5, [.ref ao, .int 0])), (ao, .inl (cI, n2, .inl g))] H := hP
  have hD : va_D A [(nu, .inr (5, [.ref ar, .int 0])), (ar, .inl (cI, 300, .inl f)), (no, .inr (5, [.ref ao, .int 0])), (ao, .inl (cI, n2, .inl g))] := hD
  subst hw
  have hP9 := hP.sub (ws' := [(nu, .inr (5, [.ref ar, .int 0])), (ar, .inl (cI, 300, .inl f)), (no, .inr (5, [.ref ao, .int 0])), (ao, .inl (cI, n2, .inl g))]) [0, 1, 2, 3] rfl
  have hD9 := hD.sub (ws' := [(nu, .inr (5, [.ref ar, .int 0])), (ar, .inl (cI, 300, .inl f)), (no, .inr (5, [.ref ao, .int 0])), (ao, .inl (cI, n2, .inl g))]) [0, 1, 2, 3] (by decide) rfl
  exact W.zret (v := 1) (ty := .boolean) hx hb hr (rfl) (fun t ht hW => ⟨⟨1, (), rfl, rfl, by rw [ht]; exact hP9, hD9⟩, hS.F ht⟩) (hS.2.2) dX5_takeAll_10

theorem p_pos {k : Int32} (h : 0 < k) : ¬ k < 0 := fun h2 => Int32.lt_irrefl (Int32.lt_trans h h2)

set_option maxHeartbeats 4000000 in
set_option maxRecDepth 100000 in
theorem m_X5_init (l : Launch) (dC : Nat → ClassId) (dI : Nat → Nat → Nat) (cI cS : ClassId) (sz : Nat) (nu : Nat) (n : Nat) (k : Int32) (hk0 : 0 < k) (hk1 : k.toNatClampNeg = n) (hn : n ≤ 2400) : Met l yX5_init wsX5_init ({ frames := 1, cells := 1, slots := n, locals := 21 } : Room) (va_Pc [.ref nu, .int k] (fun U => U.heap.size = sz ∧ va_P (dC, dI) vwCl [(nu, .inr (5, [.null, .int 0]))] U.heap ∧ va_K (dC, dI) vwCl [(cI, .int), (cS, .short)] U ∧ va_D (fun _ => True) [(nu, .inr (5, [.null, .int 0]))])) (va_Qv (fun (_ : Unit) => True) (fun _ t => ∃ (ar : Nat), va_P (dC, dI) vwCl [(nu, .inr (5, [.ref ar, .int 0])), (ar, .inl (cI, n, .inl (fun _ => 0)))] t.heap ∧ va_D (va_A [(nu, .inr (5, [.null, .int 0]))] sz) [(nu, .inr (5, [.ref ar, .int 0])), (ar, .inl (cI, n, .inl (fun _ => 0)))]) (va_A [(nu, .inr (5, [.null, .int 0]))] sz)) 1 n (va_A [(nu, .inr (5, [.null, .int 0]))] sz) := by
  refine Met.ofW (cc := cX5_init) (maxL := 2) (ret := none) (by decide) rfl ?_
  intro p e s m args below meth c s₁ B hml hv
  obtain ⟨rfl, hsz, hP, hK, hD0⟩ := hv
  have hx := B.exec
  have hb := B.bytes
  have hr := B.returns
  have hts := atoms_spec (ws := wsX5_init) B.pre
  have hown : s.vm.findClass RX5 = some m.cls := findClass_of_methodNamed B.named
  have hlocks := B.notSynchronized
  have hin : meth.name = "<init>" := (name_of_methodNamed B.named B.method).1
  have in_X5 : ∀ w ∈ wsX50, w ∈ wsX5_init := fun _ h => List.mem_cons_of_mem _ (List.mem_append_right _ (h))
  subst hsz
  have hD := hD0.self (sz := s.heap.size)
  generalize hAe : va_A [(nu, .inr (5, [.null, .int 0]))] s.heap.size = A at hD ⊢
  have hA : ∀ q : Nat, s.heap.size ≤ q → A q := fun q h => by rw [← hAe]; exact Or.inr h
  have hS : va_S A s.heap s.heap [] := va_S.rf
  have hP : va_P (dC, dI) vwCl [(nu, .inr (5, [.null, .int 0]))] s.heap := hP
  have hl := lv_entry ([.ref nu, .int k]) (n := 2) (Nat.le_of_ble_eq_true rfl)
  rw [lg_entry_eq]
  generalize (lg_sl ([.ref nu, .int k]) ++ List.replicate (2 - (lg_sl ([.ref nu, .int k])).length) Slot.unset).toArray = ls at hl ⊢
  have hl : lv_has ls 2 [(0, .ref nu), (1, .int k)] := hl
  refine lv_aload_n hx hb dX5_init_0 rfl (lv_at hl 0 rfl) ?_
  refine W.objInit hx hb hown (hts (.methodLink RX5 3 objectInit) (List.mem_of_getElem? (i := 1) rfl)) (hts (.instanceMethod objectInit) (List.mem_of_getElem? (i := 2) rfl)) (hts (.code objectInit ⟨#[0xb1]⟩ 1 none) (List.mem_of_getElem? (i := 3) rfl)) rfl (by rw [hml]; exact hl.1) rfl dX5_init_1 (Nat.le_of_ble_eq_true rfl) (Nat.le_of_ble_eq_true rfl) ?_
  refine W.eq (g2 := F0 m 4 ls []) rfl ?_
  refine lv_aload_n hx hb dX5_init_4 rfl (lv_at hl 0 rfl) ?_
  refine lv_iconst (v := 0) hx hb dX5_init_5 (by decide) ?_
  refine lv_iload_n hx hb dX5_init_6 rfl (lv_at hl 1 rfl) ?_
  refine va_mmax hx hb (by rw [hml]; exact hl.1.symm) hown (hts (.methodLink RX5 9 Lib.Math.max.name) (List.mem_of_getElem? (i := 4) rfl)) (hts (.static Lib.Math.max.name) (List.mem_of_getElem? (i := 5) rfl)) (hts (.initialized "java/lang/Math") (List.mem_of_getElem? (i := 6) rfl)) (hts (.code Lib.Math.max.name Lib.Math.max.code 2 (some .int)) (List.mem_of_getElem? (i := 7) rfl)) (Nat.le_of_ble_eq_true rfl) (Nat.le_of_ble_eq_true rfl) (Nat.zero_le _) (Nat.zero_le _) dX5_init_7 ?_
  refine k_i (y := k) (if_pos hk0) ?_
  refine p_newint hx hb (hts (.arrayClass .int) (List.mem_of_getElem? (i := 8) rfl)) hK hP hD hS hA (n := k) (N := n) (p_pos hk0) hk1 (by omega) (Nat.le_of_ble_eq_true rfl) (by show 0 + n ≤ n; omega) dX5_init_10 (fun q_1 H hP hD hS => ?_)
  have hP : va_P (dC, dI) vwCl [(nu, .inr (5, [.null, .int 0])), (q_1, .inl (cI, n, .inl (fun _ => 0)))] H := hP
  have hD : va_D A [(nu, .inr (5, [.null, .int 0])), (q_1, .inl (cI, n, .inl (fun _ => 0)))] := hD
  refine W.widen (k := 1) (n := n) (by omega) (by omega) ?_
  refine va_putF (D := (dC, dI)) (ci := 5) (v := .ref q_1) (ty := .array .int) (C := RX5) (T := TX5) (N := 2) hx hb hts in_X5 tyX5 tyX5_ok nmX5 hown hK hP hD hS 0 rfl rfl 0 (by decide) (hts (.fieldLink RX5 15 "TextMender$Numbers" "numbers" "[I") (List.mem_of_getElem? (i := 9) rfl)) (fun _ h9 => h9) rfl hin rfl (by decide +kernel) rfl rfl (Nat.le_of_ble_eq_true rfl) dX5_init_12 (fun H locs hP hD hS => ?_)
  have hP : va_P (dC, dI) vwCl [(nu, .inr (5, [.ref q_1, .int 0])), (q_1, .inl (cI, n, .inl (fun _ => 0)))] H := hP
  have hD : va_D A [(nu, .inr (5, [.ref q_1, .int 0])), (q_1, .inl (cI, n, .inl (fun _ => 0)))] := hD
  refine lv_aload_n hx hb dX5_init_15 rfl (lv_at hl 0 rfl) ?_
  refine lv_iconst (v := 0) hx hb dX5_init_16 (by decide) ?_
  refine va_put (D := (dC, dI)) (ci := 5) (v := .int 0) (ty := .int) (C := RX5) (T := TX5) (N := 2) hx hb hts in_X5 tyX5 tyX5_ok nmX5 hown hK hP hD hS 0 rfl rfl 1 (by decide) (hts (.fieldLink RX5 21 "TextMender$Numbers" "length" "I") (List.mem_of_getElem? (i := 10) rfl)) (fun _ h9 => h9) rfl (by decide +kernel) rfl rfl (Nat.le_of_ble_eq_true rfl) dX5_init_17 (fun H locs hP hD hS => ?_)
  have hP : va_P (dC, dI) vwCl [(nu, .inr (5, [.ref q_1, .int 0])), (q_1, .inl (cI, n, .inl (fun _ => 0)))] H := hP
  have hD : va_D A [(nu, .inr (5, [.ref q_1, .int 0])), (q_1, .inl (cI, n, .inl (fun _ => 0)))] := hD
  have hP9 := hP.sub (ws' := [(nu, .inr (5, [.ref q_1, .int 0])), (q_1, .inl (cI, n, .inl (fun _ => 0)))]) [0, 1] rfl
  have hD9 := hD.sub (ws' := [(nu, .inr (5, [.ref q_1, .int 0])), (q_1, .inl (cI, n, .inl (fun _ => 0)))]) [0, 1] (by decide) rfl
  refine W.widen (k := 1) (n := n) (by omega) (by omega) ?_
  exact W.vret hx hb hr (fun t ht hW => ⟨⟨(), rfl, trivial, q_1, by rw [ht]; exact hP9, hD9⟩, hS.F ht⟩) (hS.2.2) dX5_init_20

theorem p_fill {f : Nat → Int32} {v x : Int32} {i : Nat} (hx : x = nI i) (hi : i < 2 ^ 31) (h : ∀ j, j < i → f j = v) : ∀ j, j < i + 1 → upd f x.toNatClampNeg v j = v := by
  intro j hj
  rw [hx, nI_clamp hi]
  by_cases e : j = i
  · subst e; exact pk_us
  · rw [pk_un e]; exact h j (by omega)

set_option maxHeartbeats 4000000 in
set_option maxRecDepth 100000 in
theorem m_J7_fill_53178 (l : Launch) (dC : Nat → ClassId) (dI : Nat → Nat → Nat) (cI cS : ClassId) (sz : Nat) (ar : Nat) (n : Nat) (v : Int32) (f : Nat → Int32) (hn : n < 2 ^ 31) : Met l yJ7_fill_53178 wsJ7_fill_53178 ({ frames := 0, cells := 0, slots := 0, locals := 0 } : Room) (va_Pc [.ref ar, .int v] (fun U => U.heap.size = sz ∧ va_P (dC, dI) vwCl [(ar, .inl (cI, n, .inl f))] U.heap ∧ va_K (dC, dI) vwCl [(cI, .int), (cS, .short)] U ∧ va_D (fun _ => True) [(ar, .inl (cI, n, .inl f))])) (va_Qv (fun (_ : Unit) => True) (fun _ t => va_P (dC, dI) vwCl [(ar, .inl (cI, n, .inl (fun _ => v)))] t.heap ∧ va_D (va_A [(ar, .inl (cI, n, .inl f))] sz) [(ar, .inl (cI, n, .inl (fun _ => v)))]) (va_A [(ar, .inl (cI, n, .inl f))] sz)) 0 0 (va_A [(ar, .inl (cI, n, .inl f))] sz) := by
  refine Met.ofW (cc := cJ7_fill_53178) (maxL := 4) (ret := none) (by decide) rfl ?_
  intro p e s m args below meth c s₁ B hml hv
  obtain ⟨rfl, hsz, hP, hK, hD0⟩ := hv
  have hx := B.exec
  have hb := B.bytes
  have hr := B.returns
  have hts := atoms_spec (ws := wsJ7_fill_53178) B.pre
  have hown : s.vm.findClass RJ7 = some m.cls := findClass_of_methodNamed B.named
  have hlocks := B.notSynchronized
  subst hsz
  have hD := hD0.self (sz := s.heap.size)
  generalize hAe : va_A [(ar, .inl (cI, n, .inl f))] s.heap.size = A at hD ⊢
  have hA : ∀ q : Nat, s.heap.size ≤ q → A q := fun q h => by rw [← hAe]; exact Or.inr h
  have hS : va_S A s.heap s.heap [] := va_S.rf
  have hP : va_P (dC, dI) vwCl [(ar, .inl (cI, n, .inl f))] s.heap := hP
  have hl := lv_entry ([.ref ar, .int v]) (n := 4) (Nat.le_of_ble_eq_true rfl)
  rw [lg_entry_eq]
  generalize (lg_sl ([.ref ar, .int v]) ++ List.replicate (4 - (lg_sl ([.ref ar, .int v])).length) Slot.unset).toArray = ls at hl ⊢
  have hl : lv_has ls 4 [(0, .ref ar), (1, .int v)] := hl
  refine lv_iconst (v := 0) hx hb dJ7_fill_53178_0 (by decide) ?_
  refine lv_istore_n (lv' := [(2, .int 0), (0, .ref ar), (1, .int v)]) hx hb dJ7_fill_53178_1 rfl hl (by decide) rfl (fun ls hl => ?_)
  refine lv_aload_n hx hb dJ7_fill_53178_2 rfl (lv_at hl 1 rfl) ?_
  refine va_alen hx hb hK hP 0 0 rfl rfl (v := Int32.ofNat n) rfl dJ7_fill_53178_3 ?_
  refine lv_istore_n (lv' := [(3, .int (Int32.ofNat n)), (2, .int 0), (0, .ref ar), (1, .int v)]) hx hb dJ7_fill_53178_4 rfl hl (by decide) rfl (fun ls hl => ?_)
  have LOOP_5 : ∀ (k_5 i_5 : Nat) (xc_5 : Int32) (f2 : Nat → Int32) (H : Heap) (locs : List Loc) (ls : Array Slot), i_5 + k_5 = n → xc_5 = nI i_5 → (∀ j, j < i_5 → f2 j = v) → va_P (dC, dI) vwCl [(ar, .inl (cI, n, .inl f2))] H → va_D A [(ar, .inl (cI, n, .inl f2))] → va_S A s.heap H locs → lv_has ls 4 [(3, .int (Int32.ofNat n)), (2, .int xc_5), (0, .ref ar), (1, .int v)] → W p l e (headSpec wsJ7_fill_53178 ({ frames := 0, cells := 0, slots := 0, locals := 0 } : Room)).room s m ([.ref ar, .int v] : List Value).toArray below meth c H locs 0 0 (MQ below (va_Qv (fun (_ : Unit) => True) (fun _ t => va_P (dC, dI) vwCl [(ar, .inl (cI, n, .inl (fun _ => v)))] t.heap ∧ va_D A [(ar, .inl (cI, n, .inl (fun _ => v)))]) A) ([.ref ar, .int v] : List Value).toArray s 0 0 A) (F0 m 5 ls []) := by
    intro k_5
    induction k_5 with
    | zero =>
      intro i_5 xc_5 f2 H locs ls hi_5 hxc_5 hf2 hP hD hS hl
      have hi2_5 : i_5 = n := by omega
      have hP := p_Prow hP 0 (g := fun _ => v) rfl (fun j hj => hf2 j (by omega))
      have hD := p_Drow hD 0 (g := fun _ => v) rfl
      have hP : va_P (dC, dI) vwCl [(ar, .inl (cI, n, .inl (fun _ => v)))] H := hP
      have hD : va_D A [(ar, .inl (cI, n, .inl (fun _ => v)))] := hD
      refine lv_iload_n hx hb dJ7_fill_53178_5 rfl (lv_at hl 1 rfl) ?_
      refine lv_iload_n hx hb dJ7_fill_53178_6 rfl (lv_at hl 0 rfl) ?_
      refine lv_icmp_ge (tgt := 20) hx hb dJ7_fill_53178_7 (by decide) (fun c_1 => ?_) (fun c_1 => absurd (by rw [hxc_5]; exact nI_le (a := n) (b := i_5) (by omega) (by rw [hi2_5]; exact (hn))) c_1)
      have hP9 := hP.sub (ws' := [(ar, .inl (cI, n, .inl (fun _ => v)))]) [0] rfl
      have hD9 := hD.sub (ws' := [(ar, .inl (cI, n, .inl (fun _ => v)))]) [0] (by decide) rfl
      exact W.vret hx hb hr (fun t ht hW => ⟨⟨(), rfl, trivial, by rw [ht]; exact hP9, hD9⟩, hS.F ht⟩) (hS.2.2) dJ7_fill_53178_20
    | succ k_5 ih_5 =>
      intro i_5 xc_5 f2 H locs ls hi_5 hxc_5 hf2 hP hD hS hl
      refine lv_iload_n hx hb dJ7_fill_53178_5 rfl (lv_at hl 1 rfl) ?_
      refine lv_iload_n hx hb dJ7_fill_53178_6 rfl (lv_at hl 0 rfl) ?_
      refine lv_icmp_ge (tgt := 20) hx hb dJ7_fill_53178_7 (by decide) (fun c_2 => absurd c_2 (by rw [hxc_5]; exact nI_ge (a := i_5) (b := n) (by omega) (hn))) (fun c_2 => ?_)
      refine lv_aload_n hx hb dJ7_fill_53178_10 rfl (lv_at hl 2 rfl) ?_
      refine lv_iload_n hx hb dJ7_fill_53178_11 rfl (lv_at hl 1 rfl) ?_
      refine lv_iload_n hx hb dJ7_fill_53178_12 rfl (lv_at hl 3 rfl) ?_
      refine va_iast hx hb hK hP hD hS 0 0 rfl rfl (by rw [hxc_5]; exact vp_in_nI (by omega) (hn)) dJ7_fill_53178_13 (fun H locs hP hD hS => ?_)
      have hP : va_P (dC, dI) vwCl [(ar, .inl (cI, n, .inl (upd f2 (xc_5 : Int32).toNatClampNeg v)))] H := hP
      have hD : va_D A [(ar, .inl (cI, n, .inl (upd f2 (xc_5 : Int32).toNatClampNeg v)))] := hD
      obtain ⟨x_3, ex_3⟩ : ∃ y : Int32, y = xc_5 + 1 := ⟨_, rfl⟩
      refine lv_iinc (v := x_3) (lv' := [(2, .int x_3), (3, .int (Int32.ofNat n)), (0, .ref ar), (1, .int v)]) hx hb dJ7_fill_53178_14 hl (k := 1) rfl (by rw [ex_3]; rfl) (by decide) rfl (fun ls hl => ?_)
      refine lv_goto (tgt := 5) hx hb dJ7_fill_53178_17 (by decide) ?_
      exact ih_5 (i_5 + 1) x_3 (upd f2 (xc_5 : Int32).toNatClampNeg v) _ _ _ (by omega) (by rw [ex_3, hxc_5]; exact nI_1 i_5) (p_fill hxc_5 (by omega) hf2) hP hD hS (lv_sub hl [1, 0, 2, 3] rfl)
  exact LOOP_5 n 0 0 f _ _ _ (by omega) nI_0.symm (fun j hj => absurd hj (Nat.not_lt_zero j)) hP hD hS (lv_sub hl [0, 1, 2, 3] rfl)
