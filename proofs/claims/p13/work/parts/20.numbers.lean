set_option maxHeartbeats 40000000 in
set_option maxRecDepth 100000 in
theorem m_X5_length (l : Launch) (dC : Nat → ClassId) (dI : Nat → Nat → Nat) (cI cS : ClassId) (sz : Nat) (nu : Nat) (au : Nat) (lu : Int32)  : Met l yX5_length wsX5_length ({ frames := 0, cells := 0, slots := 0, locals := 0 } : Room) (va_Pc [.ref nu] (fun U => U.heap.size = sz ∧ va_P (dC, dI) vwCl [(nu, .inr (5, [.ref au, .int lu]))] U.heap ∧ va_K (dC, dI) vwCl [(cI, .int), (cS, .short)] U ∧ va_D (fun _ => True) [(nu, .inr (5, [.ref au, .int lu]))])) (va_Qi (fun (r : Int32) (u : Int32) => r = u) (fun (r : Int32) t => va_P (dC, dI) vwCl [(nu, .inr (5, [.ref au, .int lu]))] t.heap ∧ va_D (va_A [(nu, .inr (5, [.ref au, .int lu]))] sz) [(nu, .inr (5, [.ref au, .int lu]))] ∧ (r = lu)) (va_A [(nu, .inr (5, [.ref au, .int lu]))] sz)) 0 0 (va_A [(nu, .inr (5, [.ref au, .int lu]))] sz) := by
  refine Met.ofW (cc := cX5_length) (maxL := 1) (ret := (some .int)) (by decide) rfl ?_
  intro p e s m args below meth c s₁ B hml hv
  obtain ⟨rfl, hsz, hP, hK, hD0⟩ := hv
  have hx := B.exec
  have hb := B.bytes
  have hr := B.returns
  have hts := atoms_spec (ws := wsX5_length) B.pre
  have hown : s.vm.findClass RX5 = some m.cls := findClass_of_methodNamed B.named
  have hlocks := B.notSynchronized
  have in_X5 : ∀ w ∈ wsX50, w ∈ wsX5_length := fun _ h => List.mem_cons_of_mem _ (List.mem_append_right _ (h))
  subst hsz
  have hD := hD0.self (sz := s.heap.size)
  generalize hAe : va_A [(nu, .inr (5, [.ref au, .int lu]))] s.heap.size = A at hD ⊢
  have hA : ∀ q : Nat, s.heap.size ≤ q → A q := fun q h => by rw [← hAe]; exact Or.inr h
  have hS : va_S A s.heap s.heap [] := va_S.rf
  have hP : va_P (dC, dI) vwCl [(nu, .inr (5, [.ref au, .int lu]))] s.heap := hP
  have hl := lv_entry ([.ref nu]) (n := 1) (Nat.le_of_ble_eq_true rfl)
  rw [lg_entry_eq]
  generalize (lg_sl ([.ref nu]) ++ List.replicate (1 - (lg_sl ([.ref nu])).length) Slot.unset).toArray = ls at hl ⊢
  have hl : lv_has ls 1 [(0, .ref nu)] := hl
  obtain ⟨QQ, hQQ⟩ : ∃ QQ : Array Value → State → Outcome → State → Prop, QQ = va_Qi (fun (r : Int32) (u : Int32) => r = u) (fun (r : Int32) t => va_P (dC, dI) vwCl [(nu, .inr (5, [.ref au, .int lu]))] t.heap ∧ va_D A [(nu, .inr (5, [.ref au, .int lu]))] ∧ (r = lu)) A := ⟨_, rfl⟩
  rw [← hQQ]
  refine lv_aload_n hx hb dX5_length_0 rfl (lv_at hl 0 rfl) ?_
  refine va_get (D := (dC, dI)) (ci := 5) (v := .int lu) (C := RX5) (T := TX5) (N := 2) hx hb hts in_X5 hown hK hP 0 rfl rfl 1 (by decide) (hts (.fieldLink RX5 21 "TextMender$Numbers" "length" "I") (List.mem_of_getElem? (i := 1) rfl)) (fun _ h9 => h9) rfl dX5_length_1 ?_
  have hP9 := hP.sub (ws' := [(nu, .inr (5, [.ref au, .int lu]))]) [0] rfl
  have hD9 := hD.sub (ws' := [(nu, .inr (5, [.ref au, .int lu]))]) [0] (by decide) rfl
  rw [hQQ]
  exact W.iret (v := lu) hx hb hr (fun t ht hW => ⟨⟨lu, lu, rfl, rfl, ⟨by rw [ht]; exact hP9, hD9, rfl⟩⟩, hS.F ht⟩) hS.2.2 dX5_length_4

set_option maxHeartbeats 40000000 in
set_option maxRecDepth 100000 in
theorem m_X5_get (l : Launch) (dC : Nat → ClassId) (dI : Nat → Nat → Nat) (cI cS : ClassId) (sz : Nat) (nu : Nat) (au : Nat) (cap : Nat) (lu : Int32) (fu : Nat → Int32) (i : Int32) (g_lu : 0 ≤ lu.toInt ∧ lu.toInt ≤ (cap : Int)) (hcap : cap ≤ 2400) : Met l yX5_get wsX5_get ({ frames := 0, cells := 0, slots := 0, locals := 0 } : Room) (va_Pc [.ref nu, .int i] (fun U => U.heap.size = sz ∧ va_P (dC, dI) vwCl [(nu, .inr (5, [.ref au, .int lu])), (au, .inl (cI, cap, .inl fu))] U.heap ∧ va_K (dC, dI) vwCl [(cI, .int), (cS, .short)] U ∧ va_D (fun _ => True) [(nu, .inr (5, [.ref au, .int lu])), (au, .inl (cI, cap, .inl fu))])) (va_Qi (fun (r : Int32) (u : Int32) => r = u) (fun (r : Int32) t => va_P (dC, dI) vwCl [(nu, .inr (5, [.ref au, .int lu])), (au, .inl (cI, cap, .inl fu))] t.heap ∧ va_D (va_A [(nu, .inr (5, [.ref au, .int lu])), (au, .inl (cI, cap, .inl fu))] sz) [(nu, .inr (5, [.ref au, .int lu])), (au, .inl (cI, cap, .inl fu))] ∧ (F_get lu i r fu)) (va_A [(nu, .inr (5, [.ref au, .int lu])), (au, .inl (cI, cap, .inl fu))] sz)) 0 0 (va_A [(nu, .inr (5, [.ref au, .int lu])), (au, .inl (cI, cap, .inl fu))] sz) := by
  refine Met.ofW (cc := cX5_get) (maxL := 2) (ret := (some .int)) (by decide) rfl ?_
  intro p e s m args below meth c s₁ B hml hv
  obtain ⟨rfl, hsz, hP, hK, hD0⟩ := hv
  have hx := B.exec
  have hb := B.bytes
  have hr := B.returns
  have hts := atoms_spec (ws := wsX5_get) B.pre
  have hown : s.vm.findClass RX5 = some m.cls := findClass_of_methodNamed B.named
  have hlocks := B.notSynchronized
  have in_X5 : ∀ w ∈ wsX50, w ∈ wsX5_get := fun _ h => List.mem_cons_of_mem _ (List.mem_append_right _ (h))
  subst hsz
  have hD := hD0.self (sz := s.heap.size)
  generalize hAe : va_A [(nu, .inr (5, [.ref au, .int lu])), (au, .inl (cI, cap, .inl fu))] s.heap.size = A at hD ⊢
  have hA : ∀ q : Nat, s.heap.size ≤ q → A q := fun q h => by rw [← hAe]; exact Or.inr h
  have hS : va_S A s.heap s.heap [] := va_S.rf
  have hP : va_P (dC, dI) vwCl [(nu, .inr (5, [.ref au, .int lu])), (au, .inl (cI, cap, .inl fu))] s.heap := hP
  have hl := lv_entry ([.ref nu, .int i]) (n := 2) (Nat.le_of_ble_eq_true rfl)
  rw [lg_entry_eq]
  generalize (lg_sl ([.ref nu, .int i]) ++ List.replicate (2 - (lg_sl ([.ref nu, .int i])).length) Slot.unset).toArray = ls at hl ⊢
  have hl : lv_has ls 2 [(0, .ref nu), (1, .int i)] := hl
  obtain ⟨QQ, hQQ⟩ : ∃ QQ : Array Value → State → Outcome → State → Prop, QQ = va_Qi (fun (r : Int32) (u : Int32) => r = u) (fun (r : Int32) t => va_P (dC, dI) vwCl [(nu, .inr (5, [.ref au, .int lu])), (au, .inl (cI, cap, .inl fu))] t.heap ∧ va_D A [(nu, .inr (5, [.ref au, .int lu])), (au, .inl (cI, cap, .inl fu))] ∧ (F_get lu i r fu)) A := ⟨_, rfl⟩
  rw [← hQQ]
  refine lv_iload_n hx hb dX5_get_0 rfl (lv_at hl 1 rfl) ?_
  refine lv_if_lt (tgt := 21) hx hb dX5_get_1 (by decide) (fun c_1 => ?_) (fun c_1 => ?_)
  · have tc_1 : i.toInt < 0 := v_lt c_1
    refine lv_iconst (v := (-1)) hx hb dX5_get_21 (by decide) ?_
    have hP9 := hP.sub (ws' := [(nu, .inr (5, [.ref au, .int lu])), (au, .inl (cI, cap, .inl fu))]) [0, 1] rfl
    have hD9 := hD.sub (ws' := [(nu, .inr (5, [.ref au, .int lu])), (au, .inl (cI, cap, .inl fu))]) [0, 1] (by decide) rfl
    rw [hQQ]
    exact W.iret (v := (-1)) hx hb hr (fun t ht hW => ⟨⟨(-1), (-1), rfl, rfl, ⟨by rw [ht]; exact hP9, hD9, by first | exact Or.inl ⟨by omega, by omega, by assumption⟩ | exact Or.inr ⟨by omega, rfl⟩⟩⟩, hS.F ht⟩) hS.2.2 dX5_get_22
  · have tc_1 : 0 ≤ i.toInt := v_nlt c_1
    refine lv_iload_n hx hb dX5_get_4 rfl (lv_at hl 1 rfl) ?_
    refine lv_aload_n hx hb dX5_get_5 rfl (lv_at hl 0 rfl) ?_
    refine va_get (D := (dC, dI)) (ci := 5) (v := .int lu) (C := RX5) (T := TX5) (N := 2) hx hb hts in_X5 hown hK hP 0 rfl rfl 1 (by decide) (hts (.fieldLink RX5 21 "TextMender$Numbers" "length" "I") (List.mem_of_getElem? (i := 1) rfl)) (fun _ h9 => h9) rfl dX5_get_6 ?_
    refine lv_icmp_ge (tgt := 21) hx hb dX5_get_9 (by decide) (fun c_2 => ?_) (fun c_2 => ?_)
    · have tc_2 : lu.toInt ≤ i.toInt := v_le c_2
      have rw2_0 := v_rng i
      refine lv_iconst (v := (-1)) hx hb dX5_get_21 (by decide) ?_
      have hP9 := hP.sub (ws' := [(nu, .inr (5, [.ref au, .int lu])), (au, .inl (cI, cap, .inl fu))]) [0, 1] rfl
      have hD9 := hD.sub (ws' := [(nu, .inr (5, [.ref au, .int lu])), (au, .inl (cI, cap, .inl fu))]) [0, 1] (by decide) rfl
      rw [hQQ]
      exact W.iret (v := (-1)) hx hb hr (fun t ht hW => ⟨⟨(-1), (-1), rfl, rfl, ⟨by rw [ht]; exact hP9, hD9, by first | exact Or.inl ⟨by omega, by omega, by assumption⟩ | exact Or.inr ⟨by omega, rfl⟩⟩⟩, hS.F ht⟩) hS.2.2 dX5_get_22
    · have tc_2 : i.toInt < lu.toInt := v_nle c_2
      have rw2_0 := v_rng i
      refine lv_aload_n hx hb dX5_get_12 rfl (lv_at hl 0 rfl) ?_
      refine va_get (D := (dC, dI)) (ci := 5) (v := .ref au) (C := RX5) (T := TX5) (N := 2) hx hb hts in_X5 hown hK hP 0 rfl rfl 0 (by decide) (hts (.fieldLink RX5 15 "TextMender$Numbers" "numbers" "[I") (List.mem_of_getElem? (i := 2) rfl)) (fun _ h9 => h9) rfl dX5_get_13 ?_
      refine lv_iload_n hx hb dX5_get_16 rfl (lv_at hl 1 rfl) ?_
      refine va_iald hx hb hK hP 1 0 rfl rfl (v_in (by omega)) dX5_get_17 ?_
      refine lv_topi (fun x_3 ex_3 => ?_)
      refine lv_goto (tgt := 22) hx hb dX5_get_18 (by decide) ?_
      have hP9 := hP.sub (ws' := [(nu, .inr (5, [.ref au, .int lu])), (au, .inl (cI, cap, .inl fu))]) [0, 1] rfl
      have hD9 := hD.sub (ws' := [(nu, .inr (5, [.ref au, .int lu])), (au, .inl (cI, cap, .inl fu))]) [0, 1] (by decide) rfl
      rw [hQQ]
      exact W.iret (v := x_3) hx hb hr (fun t ht hW => ⟨⟨x_3, x_3, rfl, rfl, ⟨by rw [ht]; exact hP9, hD9, by first | exact Or.inl ⟨by omega, by omega, by assumption⟩ | exact Or.inr ⟨by omega, rfl⟩⟩⟩, hS.F ht⟩) hS.2.2 dX5_get_22

set_option maxHeartbeats 40000000 in
set_option maxRecDepth 100000 in
theorem m_X5_add (l : Launch) (dC : Nat → ClassId) (dI : Nat → Nat → Nat) (cI cS : ClassId) (sz : Nat) (nu : Nat) (au : Nat) (cap : Nat) (lu : Int32) (fu : Nat → Int32) (v : Int32) (g_lu : 0 ≤ lu.toInt ∧ lu.toInt ≤ (cap : Int)) (hcap : cap ≤ 2400) : Met l yX5_add wsX5_add ({ frames := 0, cells := 0, slots := 0, locals := 0 } : Room) (va_Pc [.ref nu, .int v] (fun U => U.heap.size = sz ∧ va_P (dC, dI) vwCl [(nu, .inr (5, [.ref au, .int lu])), (au, .inl (cI, cap, .inl fu))] U.heap ∧ va_K (dC, dI) vwCl [(cI, .int), (cS, .short)] U ∧ va_D (fun _ => True) [(nu, .inr (5, [.ref au, .int lu])), (au, .inl (cI, cap, .inl fu))])) (va_Qi (fun (r : Int32) (u : Int32) => r = u) (fun (r : Int32) t => ∃ (lu' : Int32) (fu' : Nat → Int32), va_P (dC, dI) vwCl [(nu, .inr (5, [.ref au, .int lu'])), (au, .inl (cI, cap, .inl fu'))] t.heap ∧ va_D (va_A [(nu, .inr (5, [.ref au, .int lu])), (au, .inl (cI, cap, .inl fu))] sz) [(nu, .inr (5, [.ref au, .int lu'])), (au, .inl (cI, cap, .inl fu'))] ∧ (0 ≤ lu'.toInt ∧ lu'.toInt ≤ (cap : Int)) ∧ (0 ≤ r.toInt ∧ r.toInt ≤ 1) ∧ (F_add cap lu lu' r fu fu' v)) (va_A [(nu, .inr (5, [.ref au, .int lu])), (au, .inl (cI, cap, .inl fu))] sz)) 0 0 (va_A [(nu, .inr (5, [.ref au, .int lu])), (au, .inl (cI, cap, .inl fu))] sz) := by
  refine Met.ofW (cc := cX5_add) (maxL := 2) (ret := (some .boolean)) (by decide) rfl ?_
  intro p e s m args below meth c s₁ B hml hv
  obtain ⟨rfl, hsz, hP, hK, hD0⟩ := hv
  have hx := B.exec
  have hb := B.bytes
  have hr := B.returns
  have hts := atoms_spec (ws := wsX5_add) B.pre
  have hown : s.vm.findClass RX5 = some m.cls := findClass_of_methodNamed B.named
  have hlocks := B.notSynchronized
  have in_X5 : ∀ w ∈ wsX50, w ∈ wsX5_add := fun _ h => List.mem_cons_of_mem _ (List.mem_append_right _ (h))
  subst hsz
  have hD := hD0.self (sz := s.heap.size)
  generalize hAe : va_A [(nu, .inr (5, [.ref au, .int lu])), (au, .inl (cI, cap, .inl fu))] s.heap.size = A at hD ⊢
  have hA : ∀ q : Nat, s.heap.size ≤ q → A q := fun q h => by rw [← hAe]; exact Or.inr h
  have hS : va_S A s.heap s.heap [] := va_S.rf
  have hP : va_P (dC, dI) vwCl [(nu, .inr (5, [.ref au, .int lu])), (au, .inl (cI, cap, .inl fu))] s.heap := hP
  have hl := lv_entry ([.ref nu, .int v]) (n := 2) (Nat.le_of_ble_eq_true rfl)
  rw [lg_entry_eq]
  generalize (lg_sl ([.ref nu, .int v]) ++ List.replicate (2 - (lg_sl ([.ref nu, .int v])).length) Slot.unset).toArray = ls at hl ⊢
  have hl : lv_has ls 2 [(0, .ref nu), (1, .int v)] := hl
  obtain ⟨QQ, hQQ⟩ : ∃ QQ : Array Value → State → Outcome → State → Prop, QQ = va_Qi (fun (r : Int32) (u : Int32) => r = u) (fun (r : Int32) t => ∃ (lu' : Int32) (fu' : Nat → Int32), va_P (dC, dI) vwCl [(nu, .inr (5, [.ref au, .int lu'])), (au, .inl (cI, cap, .inl fu'))] t.heap ∧ va_D A [(nu, .inr (5, [.ref au, .int lu'])), (au, .inl (cI, cap, .inl fu'))] ∧ (0 ≤ lu'.toInt ∧ lu'.toInt ≤ (cap : Int)) ∧ (0 ≤ r.toInt ∧ r.toInt ≤ 1) ∧ (F_add cap lu lu' r fu fu' v)) A := ⟨_, rfl⟩
  rw [← hQQ]
  refine lv_aload_n hx hb dX5_add_0 rfl (lv_at hl 0 rfl) ?_
  refine va_get (D := (dC, dI)) (ci := 5) (v := .int lu) (C := RX5) (T := TX5) (N := 2) hx hb hts in_X5 hown hK hP 0 rfl rfl 1 (by decide) (hts (.fieldLink RX5 21 "TextMender$Numbers" "length" "I") (List.mem_of_getElem? (i := 1) rfl)) (fun _ h9 => h9) rfl dX5_add_1 ?_
  refine lv_aload_n hx hb dX5_add_4 rfl (lv_at hl 0 rfl) ?_
  refine va_get (D := (dC, dI)) (ci := 5) (v := .ref au) (C := RX5) (T := TX5) (N := 2) hx hb hts in_X5 hown hK hP 0 rfl rfl 0 (by decide) (hts (.fieldLink RX5 15 "TextMender$Numbers" "numbers" "[I") (List.mem_of_getElem? (i := 2) rfl)) (fun _ h9 => h9) rfl dX5_add_5 ?_
  refine va_alen hx hb hK hP 1 0 rfl rfl (v := Int32.ofNat cap) rfl dX5_add_8 ?_
  refine lv_topi (fun x_1 ex_1 => ?_)
  have tx_1 : x_1.toInt = (cap : Int) := by rw [ex_1]; exact v_nat (by omega)
  refine lv_icmp_lt (tgt := 14) hx hb dX5_add_9 (by decide) (fun c_2 => ?_) (fun c_2 => ?_)
  · have tc_2 : lu.toInt < x_1.toInt := v_lt c_2
    refine lv_aload_n hx hb dX5_add_14 rfl (lv_at hl 0 rfl) ?_
    refine va_get (D := (dC, dI)) (ci := 5) (v := .ref au) (C := RX5) (T := TX5) (N := 2) hx hb hts in_X5 hown hK hP 0 rfl rfl 0 (by decide) (hts (.fieldLink RX5 15 "TextMender$Numbers" "numbers" "[I") (List.mem_of_getElem? (i := 2) rfl)) (fun _ h9 => h9) rfl dX5_add_15 ?_
    refine lv_aload_n hx hb dX5_add_18 rfl (lv_at hl 0 rfl) ?_
    refine va_get (D := (dC, dI)) (ci := 5) (v := .int lu) (C := RX5) (T := TX5) (N := 2) hx hb hts in_X5 hown hK hP 0 rfl rfl 1 (by decide) (hts (.fieldLink RX5 21 "TextMender$Numbers" "length" "I") (List.mem_of_getElem? (i := 1) rfl)) (fun _ h9 => h9) rfl dX5_add_19 ?_
    refine lv_iload_n hx hb dX5_add_22 rfl (lv_at hl 1 rfl) ?_
    refine va_iast hx hb hK hP hD hS 1 0 rfl rfl (v_in (by omega)) dX5_add_23 (fun H locs hP hD hS => ?_)
    have hP : va_P (dC, dI) vwCl [(nu, .inr (5, [.ref au, .int lu])), (au, .inl (cI, cap, .inl (upd fu (lu : Int32).toNatClampNeg v)))] H := hP
    have hD : va_D A [(nu, .inr (5, [.ref au, .int lu])), (au, .inl (cI, cap, .inl (upd fu (lu : Int32).toNatClampNeg v)))] := hD
    obtain ⟨f_3, ef_3⟩ : ∃ g : Nat → Int32, g = upd fu (lu : Int32).toNatClampNeg v := ⟨_, rfl⟩
    rw [← ef_3] at hP hD
    refine lv_aload_n hx hb dX5_add_24 rfl (lv_at hl 0 rfl) ?_
    refine lv_dup hx hb dX5_add_25 rfl ?_
    refine va_get (D := (dC, dI)) (ci := 5) (v := .int lu) (C := RX5) (T := TX5) (N := 2) hx hb hts in_X5 hown hK hP 0 rfl rfl 1 (by decide) (hts (.fieldLink RX5 21 "TextMender$Numbers" "length" "I") (List.mem_of_getElem? (i := 1) rfl)) (fun _ h9 => h9) rfl dX5_add_26 ?_
    refine lv_iconst (v := 1) hx hb dX5_add_29 (by decide) ?_
    refine lv_iadd hx hb dX5_add_30 ?_
    refine lv_topi (fun x_4 ex_4 => ?_)
    have tx_4 : x_4.toInt = lu.toInt + 1 := v_add ex_4 (by show -2147483648 ≤ lu.toInt + 1; omega) (by show lu.toInt + 1 < 2147483648; omega)
    refine va_put (D := (dC, dI)) (ci := 5) (v := .int x_4) (ty := .int) (C := RX5) (T := TX5) (N := 2) hx hb hts in_X5 tyX5 tyX5_ok nmX5 hown hK hP hD hS 0 rfl rfl 1 (by decide) (hts (.fieldLink RX5 21 "TextMender$Numbers" "length" "I") (List.mem_of_getElem? (i := 1) rfl)) (fun _ h9 => h9) rfl (by decide +kernel) rfl rfl (Nat.le_of_ble_eq_true rfl) dX5_add_31 (fun H locs hP hD hS => ?_)
    have hP : va_P (dC, dI) vwCl [(nu, .inr (5, [.ref au, .int x_4])), (au, .inl (cI, cap, .inl f_3))] H := hP
    have hD : va_D A [(nu, .inr (5, [.ref au, .int x_4])), (au, .inl (cI, cap, .inl f_3))] := hD
    refine lv_iconst (v := 1) hx hb dX5_add_34 (by decide) ?_
    have hP9 := hP.sub (ws' := [(nu, .inr (5, [.ref au, .int x_4])), (au, .inl (cI, cap, .inl f_3))]) [0, 1] rfl
    have hD9 := hD.sub (ws' := [(nu, .inr (5, [.ref au, .int x_4])), (au, .inl (cI, cap, .inl f_3))]) [0, 1] (by decide) rfl
    rw [hQQ]
    exact W.zret (v := 1) (ty := .boolean) hx hb hr (rfl) (fun t ht hW => ⟨⟨1, 1, rfl, rfl, ⟨x_4, f_3, by rw [ht]; exact hP9, hD9, by omega, by decide, by first | exact Or.inl ⟨by omega, by omega, rfl, by assumption⟩ | exact Or.inr ⟨by omega, rfl, rfl, rfl⟩⟩⟩, hS.F ht⟩) hS.2.2 dX5_add_35
  · have tc_2 : x_1.toInt ≤ lu.toInt := v_nlt c_2
    refine lv_iconst (v := 0) hx hb dX5_add_12 (by decide) ?_
    have hP9 := hP.sub (ws' := [(nu, .inr (5, [.ref au, .int lu])), (au, .inl (cI, cap, .inl fu))]) [0, 1] rfl
    have hD9 := hD.sub (ws' := [(nu, .inr (5, [.ref au, .int lu])), (au, .inl (cI, cap, .inl fu))]) [0, 1] (by decide) rfl
    rw [hQQ]
    exact W.zret (v := 0) (ty := .boolean) hx hb hr (rfl) (fun t ht hW => ⟨⟨0, 0, rfl, rfl, ⟨lu, fu, by rw [ht]; exact hP9, hD9, by omega, by decide, by first | exact Or.inl ⟨by omega, by omega, rfl, by assumption⟩ | exact Or.inr ⟨by omega, rfl, rfl, rfl⟩⟩⟩, hS.F ht⟩) hS.2.2 dX5_add_13

set_option maxHeartbeats 40000000 in
set_option maxRecDepth 100000 in
theorem m_X5_cut (l : Launch) (dC : Nat → ClassId) (dI : Nat → Nat → Nat) (cI cS : ClassId) (sz : Nat) (nu : Nat) (au : Nat) (lu : Int32) (n : Int32) (g_lu : 0 ≤ lu.toInt ∧ lu.toInt ≤ 2147483647) : Met l yX5_cut wsX5_cut ({ frames := 0, cells := 0, slots := 0, locals := 0 } : Room) (va_Pc [.ref nu, .int n] (fun U => U.heap.size = sz ∧ va_P (dC, dI) vwCl [(nu, .inr (5, [.ref au, .int lu]))] U.heap ∧ va_K (dC, dI) vwCl [(cI, .int), (cS, .short)] U ∧ va_D (fun _ => True) [(nu, .inr (5, [.ref au, .int lu]))])) (va_Qv (fun (_ : Unit) => True) (fun _ t => ∃ (lu' : Int32), va_P (dC, dI) vwCl [(nu, .inr (5, [.ref au, .int lu']))] t.heap ∧ va_D (va_A [(nu, .inr (5, [.ref au, .int lu]))] sz) [(nu, .inr (5, [.ref au, .int lu']))] ∧ (0 ≤ lu'.toInt ∧ lu'.toInt ≤ 2147483647) ∧ (lu'.toInt ≤ lu.toInt) ∧ (F_cut lu lu' n)) (va_A [(nu, .inr (5, [.ref au, .int lu]))] sz)) 0 0 (va_A [(nu, .inr (5, [.ref au, .int lu]))] sz) := by
  refine Met.ofW (cc := cX5_cut) (maxL := 2) (ret := none) (by decide) rfl ?_
  intro p e s m args below meth c s₁ B hml hv
  obtain ⟨rfl, hsz, hP, hK, hD0⟩ := hv
  have hx := B.exec
  have hb := B.bytes
  have hr := B.returns
  have hts := atoms_spec (ws := wsX5_cut) B.pre
  have hown : s.vm.findClass RX5 = some m.cls := findClass_of_methodNamed B.named
  have hlocks := B.notSynchronized
  have in_X5 : ∀ w ∈ wsX50, w ∈ wsX5_cut := fun _ h => List.mem_cons_of_mem _ (List.mem_append_right _ (h))
  subst hsz
  have hD := hD0.self (sz := s.heap.size)
  generalize hAe : va_A [(nu, .inr (5, [.ref au, .int lu]))] s.heap.size = A at hD ⊢
  have hA : ∀ q : Nat, s.heap.size ≤ q → A q := fun q h => by rw [← hAe]; exact Or.inr h
  have hS : va_S A s.heap s.heap [] := va_S.rf
  have hP : va_P (dC, dI) vwCl [(nu, .inr (5, [.ref au, .int lu]))] s.heap := hP
  have hl := lv_entry ([.ref nu, .int n]) (n := 2) (Nat.le_of_ble_eq_true rfl)
  rw [lg_entry_eq]
  generalize (lg_sl ([.ref nu, .int n]) ++ List.replicate (2 - (lg_sl ([.ref nu, .int n])).length) Slot.unset).toArray = ls at hl ⊢
  have hl : lv_has ls 2 [(0, .ref nu), (1, .int n)] := hl
  obtain ⟨QQ, hQQ⟩ : ∃ QQ : Array Value → State → Outcome → State → Prop, QQ = va_Qv (fun (_ : Unit) => True) (fun _ t => ∃ (lu' : Int32), va_P (dC, dI) vwCl [(nu, .inr (5, [.ref au, .int lu']))] t.heap ∧ va_D A [(nu, .inr (5, [.ref au, .int lu']))] ∧ (0 ≤ lu'.toInt ∧ lu'.toInt ≤ 2147483647) ∧ (lu'.toInt ≤ lu.toInt) ∧ (F_cut lu lu' n)) A := ⟨_, rfl⟩
  rw [← hQQ]
  refine lv_iload_n hx hb dX5_cut_0 rfl (lv_at hl 1 rfl) ?_
  refine lv_if_lt (tgt := 17) hx hb dX5_cut_1 (by decide) (fun c_1 => ?_) (fun c_1 => ?_)
  · have tc_1 : n.toInt < 0 := v_lt c_1
    have hP9 := hP.sub (ws' := [(nu, .inr (5, [.ref au, .int lu]))]) [0] rfl
    have hD9 := hD.sub (ws' := [(nu, .inr (5, [.ref au, .int lu]))]) [0] (by decide) rfl
    rw [hQQ]
    exact W.vret hx hb hr (fun t ht hW => ⟨⟨(), rfl, trivial, ⟨lu, by rw [ht]; exact hP9, hD9, by omega, by show lu.toInt ≤ lu.toInt; omega, by first | exact Or.inl ⟨by omega, by omega, rfl⟩ | exact Or.inr ⟨by omega, rfl⟩⟩⟩, hS.F ht⟩) hS.2.2 dX5_cut_17
  · have tc_1 : 0 ≤ n.toInt := v_nlt c_1
    refine lv_iload_n hx hb dX5_cut_4 rfl (lv_at hl 1 rfl) ?_
    refine lv_aload_n hx hb dX5_cut_5 rfl (lv_at hl 0 rfl) ?_
    refine va_get (D := (dC, dI)) (ci := 5) (v := .int lu) (C := RX5) (T := TX5) (N := 2) hx hb hts in_X5 hown hK hP 0 rfl rfl 1 (by decide) (hts (.fieldLink RX5 21 "TextMender$Numbers" "length" "I") (List.mem_of_getElem? (i := 1) rfl)) (fun _ h9 => h9) rfl dX5_cut_6 ?_
    refine lv_icmp_ge (tgt := 17) hx hb dX5_cut_9 (by decide) (fun c_2 => ?_) (fun c_2 => ?_)
    · have tc_2 : lu.toInt ≤ n.toInt := v_le c_2
      have rw2_0 := v_rng n
      have rw2_1 := v_rng lu
      have hP9 := hP.sub (ws' := [(nu, .inr (5, [.ref au, .int lu]))]) [0] rfl
      have hD9 := hD.sub (ws' := [(nu, .inr (5, [.ref au, .int lu]))]) [0] (by decide) rfl
      rw [hQQ]
      exact W.vret hx hb hr (fun t ht hW => ⟨⟨(), rfl, trivial, ⟨lu, by rw [ht]; exact hP9, hD9, by omega, by show lu.toInt ≤ lu.toInt; omega, by first | exact Or.inl ⟨by omega, by omega, rfl⟩ | exact Or.inr ⟨by omega, rfl⟩⟩⟩, hS.F ht⟩) hS.2.2 dX5_cut_17
    · have tc_2 : n.toInt < lu.toInt := v_nle c_2
      have rw2_0 := v_rng n
      have rw2_1 := v_rng lu
      refine lv_aload_n hx hb dX5_cut_12 rfl (lv_at hl 0 rfl) ?_
      refine lv_iload_n hx hb dX5_cut_13 rfl (lv_at hl 1 rfl) ?_
      refine va_put (D := (dC, dI)) (ci := 5) (v := .int n) (ty := .int) (C := RX5) (T := TX5) (N := 2) hx hb hts in_X5 tyX5 tyX5_ok nmX5 hown hK hP hD hS 0 rfl rfl 1 (by decide) (hts (.fieldLink RX5 21 "TextMender$Numbers" "length" "I") (List.mem_of_getElem? (i := 1) rfl)) (fun _ h9 => h9) rfl (by decide +kernel) rfl rfl (Nat.le_of_ble_eq_true rfl) dX5_cut_14 (fun H locs hP hD hS => ?_)
      have hP : va_P (dC, dI) vwCl [(nu, .inr (5, [.ref au, .int n]))] H := hP
      have hD : va_D A [(nu, .inr (5, [.ref au, .int n]))] := hD
      have hP9 := hP.sub (ws' := [(nu, .inr (5, [.ref au, .int n]))]) [0] rfl
      have hD9 := hD.sub (ws' := [(nu, .inr (5, [.ref au, .int n]))]) [0] (by decide) rfl
      rw [hQQ]
      exact W.vret hx hb hr (fun t ht hW => ⟨⟨(), rfl, trivial, ⟨n, by rw [ht]; exact hP9, hD9, by omega, by show n.toInt ≤ lu.toInt; omega, by first | exact Or.inl ⟨by omega, by omega, rfl⟩ | exact Or.inr ⟨by omega, rfl⟩⟩⟩, hS.F ht⟩) hS.2.2 dX5_cut_17

set_option maxHeartbeats 40000000 in
set_option maxRecDepth 100000 in
theorem m_X5_addAll (l : Launch) (dC : Nat → ClassId) (dI : Nat → Nat → Nat) (cI cS : ClassId) (sz : Nat) (nu : Nat) (no : Nat) (au : Nat) (ao : Nat) (cap : Nat) (co : Nat) (lu : Int32) (fu : Nat → Int32) (lo : Int32) (fo : Nat → Int32) (g_lu : 0 ≤ lu.toInt ∧ lu.toInt ≤ (cap : Int)) (g_lo : 0 ≤ lo.toInt ∧ lo.toInt ≤ (co : Int)) (hcap : cap ≤ 2400) (hco : co ≤ 2400) : Met l yX5_addAll wsX5_addAll ({ frames := 1, cells := 0, slots := 0, locals := 48 } : Room) (va_Pc [.ref nu, .ref no] (fun U => U.heap.size = sz ∧ va_P (dC, dI) vwCl [(nu, .inr (5, [.ref au, .int lu])), (au, .inl (cI, cap, .inl fu)), (no, .inr (5, [.ref ao, .int lo])), (ao, .inl (cI, co, .inl fo))] U.heap ∧ va_K (dC, dI) vwCl [(cI, .int), (cS, .short)] U ∧ va_D (fun _ => True) [(nu, .inr (5, [.ref au, .int lu])), (au, .inl (cI, cap, .inl fu)), (no, .inr (5, [.ref ao, .int lo])), (ao, .inl (cI, co, .inl fo))])) (va_Qi (fun (r : Int32) (u : Int32) => r = u) (fun (r : Int32) t => ∃ (lu' : Int32) (fu' : Nat → Int32), va_P (dC, dI) vwCl [(nu, .inr (5, [.ref au, .int lu'])), (au, .inl (cI, cap, .inl fu')), (no, .inr (5, [.ref ao, .int lo])), (ao, .inl (cI, co, .inl fo))] t.heap ∧ va_D (va_A [(nu, .inr (5, [.ref au, .int lu])), (au, .inl (cI, cap, .inl fu)), (no, .inr (5, [.ref ao, .int lo])), (ao, .inl (cI, co, .inl fo))] sz) [(nu, .inr (5, [.ref au, .int lu'])), (au, .inl (cI, cap, .inl fu')), (no, .inr (5, [.ref ao, .int lo])), (ao, .inl (cI, co, .inl fo))] ∧ (0 ≤ lu'.toInt ∧ lu'.toInt ≤ (cap : Int)) ∧ (0 ≤ r.toInt ∧ r.toInt ≤ 1) ∧ (F_addAll cap lu lu' lo r fu fu' fo)) (va_A [(nu, .inr (5, [.ref au, .int lu])), (au, .inl (cI, cap, .inl fu)), (no, .inr (5, [.ref ao, .int lo])), (ao, .inl (cI, co, .inl fo))] sz)) 0 0 (va_A [(nu, .inr (5, [.ref au, .int lu])), (au, .inl (cI, cap, .inl fu)), (no, .inr (5, [.ref ao, .int lo])), (ao, .inl (cI, co, .inl fo))] sz) := by
  refine Met.ofW (cc := cX5_addAll) (maxL := 2) (ret := (some .boolean)) (by decide) rfl ?_
  intro p e s m args below meth c s₁ B hml hv
  obtain ⟨rfl, hsz, hP, hK, hD0⟩ := hv
  have hx := B.exec
  have hb := B.bytes
  have hr := B.returns
  have hts := atoms_spec (ws := wsX5_addAll) B.pre
  have hown : s.vm.findClass RX5 = some m.cls := findClass_of_methodNamed B.named
  have hlocks := B.notSynchronized
  have in_X5 : ∀ w ∈ wsX50, w ∈ wsX5_addAll := fun _ h => List.mem_cons_of_mem _ (List.mem_append_right _ (h))
  subst hsz
  have hD := hD0.self (sz := s.heap.size)
  generalize hAe : va_A [(nu, .inr (5, [.ref au, .int lu])), (au, .inl (cI, cap, .inl fu)), (no, .inr (5, [.ref ao, .int lo])), (ao, .inl (cI, co, .inl fo))] s.heap.size = A at hD ⊢
  have hA : ∀ q : Nat, s.heap.size ≤ q → A q := fun q h => by rw [← hAe]; exact Or.inr h
  have hS : va_S A s.heap s.heap [] := va_S.rf
  have hP : va_P (dC, dI) vwCl [(nu, .inr (5, [.ref au, .int lu])), (au, .inl (cI, cap, .inl fu)), (no, .inr (5, [.ref ao, .int lo])), (ao, .inl (cI, co, .inl fo))] s.heap := hP
  have hl := lv_entry ([.ref nu, .ref no]) (n := 2) (Nat.le_of_ble_eq_true rfl)
  rw [lg_entry_eq]
  generalize (lg_sl ([.ref nu, .ref no]) ++ List.replicate (2 - (lg_sl ([.ref nu, .ref no])).length) Slot.unset).toArray = ls at hl ⊢
  have hl : lv_has ls 2 [(0, .ref nu), (1, .ref no)] := hl
  obtain ⟨QQ, hQQ⟩ : ∃ QQ : Array Value → State → Outcome → State → Prop, QQ = va_Qi (fun (r : Int32) (u : Int32) => r = u) (fun (r : Int32) t => ∃ (lu' : Int32) (fu' : Nat → Int32), va_P (dC, dI) vwCl [(nu, .inr (5, [.ref au, .int lu'])), (au, .inl (cI, cap, .inl fu')), (no, .inr (5, [.ref ao, .int lo])), (ao, .inl (cI, co, .inl fo))] t.heap ∧ va_D A [(nu, .inr (5, [.ref au, .int lu'])), (au, .inl (cI, cap, .inl fu')), (no, .inr (5, [.ref ao, .int lo])), (ao, .inl (cI, co, .inl fo))] ∧ (0 ≤ lu'.toInt ∧ lu'.toInt ≤ (cap : Int)) ∧ (0 ≤ r.toInt ∧ r.toInt ≤ 1) ∧ (F_addAll cap lu lu' lo r fu fu' fo)) A := ⟨_, rfl⟩
  rw [← hQQ]
  refine lv_aload_n hx hb dX5_addAll_0 rfl (lv_at hl 1 rfl) ?_
  refine va_get (D := (dC, dI)) (ci := 5) (v := .int lo) (C := RX5) (T := TX5) (N := 2) hx hb hts in_X5 hown hK hP 2 rfl rfl 1 (by decide) (hts (.fieldLink RX5 21 "TextMender$Numbers" "length" "I") (List.mem_of_getElem? (i := 1) rfl)) (fun _ h9 => h9) rfl dX5_addAll_1 ?_
  refine lv_aload_n hx hb dX5_addAll_4 rfl (lv_at hl 0 rfl) ?_
  refine va_get (D := (dC, dI)) (ci := 5) (v := .ref au) (C := RX5) (T := TX5) (N := 2) hx hb hts in_X5 hown hK hP 0 rfl rfl 0 (by decide) (hts (.fieldLink RX5 15 "TextMender$Numbers" "numbers" "[I") (List.mem_of_getElem? (i := 2) rfl)) (fun _ h9 => h9) rfl dX5_addAll_5 ?_
  refine va_alen hx hb hK hP 1 0 rfl rfl (v := Int32.ofNat cap) rfl dX5_addAll_8 ?_
  refine lv_topi (fun x_1 ex_1 => ?_)
  have tx_1 : x_1.toInt = (cap : Int) := by rw [ex_1]; exact v_nat (by omega)
  refine lv_aload_n hx hb dX5_addAll_9 rfl (lv_at hl 0 rfl) ?_
  refine va_get (D := (dC, dI)) (ci := 5) (v := .int lu) (C := RX5) (T := TX5) (N := 2) hx hb hts in_X5 hown hK hP 0 rfl rfl 1 (by decide) (hts (.fieldLink RX5 21 "TextMender$Numbers" "length" "I") (List.mem_of_getElem? (i := 1) rfl)) (fun _ h9 => h9) rfl dX5_addAll_10 ?_
  refine lv_isub hx hb dX5_addAll_13 ?_
  refine lv_topi (fun x_2 ex_2 => ?_)
  have tx_2 : x_2.toInt = x_1.toInt - lu.toInt := v_sub ex_2 (by show -2147483648 ≤ x_1.toInt - lu.toInt; omega) (by show x_1.toInt - lu.toInt < 2147483648; omega)
  refine lv_icmp_le (tgt := 19) hx hb dX5_addAll_14 (by decide) (fun c_3 => ?_) (fun c_3 => ?_)
  · have tc_3 : lo.toInt ≤ x_2.toInt := v_le c_3
    refine lv_aload_n hx hb dX5_addAll_19 rfl (lv_at hl 1 rfl) ?_
    refine va_get (D := (dC, dI)) (ci := 5) (v := .ref ao) (C := RX5) (T := TX5) (N := 2) hx hb hts in_X5 hown hK hP 2 rfl rfl 0 (by decide) (hts (.fieldLink RX5 15 "TextMender$Numbers" "numbers" "[I") (List.mem_of_getElem? (i := 2) rfl)) (fun _ h9 => h9) rfl dX5_addAll_20 ?_
    refine lv_iconst (v := 0) hx hb dX5_addAll_23 (by decide) ?_
    refine lv_aload_n hx hb dX5_addAll_24 rfl (lv_at hl 0 rfl) ?_
    refine va_get (D := (dC, dI)) (ci := 5) (v := .ref au) (C := RX5) (T := TX5) (N := 2) hx hb hts in_X5 hown hK hP 0 rfl rfl 0 (by decide) (hts (.fieldLink RX5 15 "TextMender$Numbers" "numbers" "[I") (List.mem_of_getElem? (i := 2) rfl)) (fun _ h9 => h9) rfl dX5_addAll_25 ?_
    refine lv_aload_n hx hb dX5_addAll_28 rfl (lv_at hl 0 rfl) ?_
    refine va_get (D := (dC, dI)) (ci := 5) (v := .int lu) (C := RX5) (T := TX5) (N := 2) hx hb hts in_X5 hown hK hP 0 rfl rfl 1 (by decide) (hts (.fieldLink RX5 21 "TextMender$Numbers" "length" "I") (List.mem_of_getElem? (i := 1) rfl)) (fun _ h9 => h9) rfl dX5_addAll_29 ?_
    refine lv_aload_n hx hb dX5_addAll_32 rfl (lv_at hl 1 rfl) ?_
    refine va_get (D := (dC, dI)) (ci := 5) (v := .int lo) (C := RX5) (T := TX5) (N := 2) hx hb hts in_X5 hown hK hP 2 rfl rfl 1 (by decide) (hts (.fieldLink RX5 21 "TextMender$Numbers" "length" "I") (List.mem_of_getElem? (i := 1) rfl)) (fun _ h9 => h9) rfl dX5_addAll_33 ?_
    refine va_copyi hx hb (by rw [hml]; exact hl.1.symm) hown (hts (.methodLink RX5 25 arraycopyName) (List.mem_of_getElem? (i := 3) rfl)) (hts (.native arraycopyName) (List.mem_of_getElem? (i := 4) rfl)) (hts (.static arraycopyName) (List.mem_of_getElem? (i := 5) rfl)) (hts (.initialized "java/lang/System") (List.mem_of_getElem? (i := 6) rfl)) hK hP hD hS 3 1 0 0 rfl rfl rfl rfl rfl (by decide) (v_nneg (by omega)) (v_nneg (by omega)) (v_cp (by decide) (by omega) (by show (0 : Int) + _ ≤ _; omega)) (v_cp (by omega) (by omega) (by omega)) (fun i hi => rfl) (Nat.le_of_ble_eq_true rfl) (Nat.le_of_ble_eq_true rfl) dX5_addAll_36 (fun H locs hP hD hS => ?_)
    have hP : va_P (dC, dI) vwCl [(nu, .inr (5, [.ref au, .int lu])), (au, .inl (cI, cap, .inl (va_cpy fo fu (0 : Int32).toNatClampNeg (lu : Int32).toNatClampNeg (lo : Int32).toNatClampNeg))), (no, .inr (5, [.ref ao, .int lo])), (ao, .inl (cI, co, .inl fo))] H := hP
    have hD : va_D A [(nu, .inr (5, [.ref au, .int lu])), (au, .inl (cI, cap, .inl (va_cpy fo fu (0 : Int32).toNatClampNeg (lu : Int32).toNatClampNeg (lo : Int32).toNatClampNeg))), (no, .inr (5, [.ref ao, .int lo])), (ao, .inl (cI, co, .inl fo))] := hD
    obtain ⟨f_4, ef_4⟩ : ∃ g : Nat → Int32, g = va_cpy fo fu (0 : Int32).toNatClampNeg (lu : Int32).toNatClampNeg (lo : Int32).toNatClampNeg := ⟨_, rfl⟩
    rw [← ef_4] at hP hD
    refine lv_aload_n hx hb dX5_addAll_39 rfl (lv_at hl 0 rfl) ?_
    refine lv_dup hx hb dX5_addAll_40 rfl ?_
    refine va_get (D := (dC, dI)) (ci := 5) (v := .int lu) (C := RX5) (T := TX5) (N := 2) hx hb hts in_X5 hown hK hP 0 rfl rfl 1 (by decide) (hts (.fieldLink RX5 21 "TextMender$Numbers" "length" "I") (List.mem_of_getElem? (i := 1) rfl)) (fun _ h9 => h9) rfl dX5_addAll_41 ?_
    refine lv_aload_n hx hb dX5_addAll_44 rfl (lv_at hl 1 rfl) ?_
    refine va_get (D := (dC, dI)) (ci := 5) (v := .int lo) (C := RX5) (T := TX5) (N := 2) hx hb hts in_X5 hown hK hP 2 rfl rfl 1 (by decide) (hts (.fieldLink RX5 21 "TextMender$Numbers" "length" "I") (List.mem_of_getElem? (i := 1) rfl)) (fun _ h9 => h9) rfl dX5_addAll_45 ?_
    refine lv_iadd hx hb dX5_addAll_48 ?_
    refine lv_topi (fun x_5 ex_5 => ?_)
    have tx_5 : x_5.toInt = lu.toInt + lo.toInt := v_add ex_5 (by show -2147483648 ≤ lu.toInt + lo.toInt; omega) (by show lu.toInt + lo.toInt < 2147483648; omega)
    refine va_put (D := (dC, dI)) (ci := 5) (v := .int x_5) (ty := .int) (C := RX5) (T := TX5) (N := 2) hx hb hts in_X5 tyX5 tyX5_ok nmX5 hown hK hP hD hS 0 rfl rfl 1 (by decide) (hts (.fieldLink RX5 21 "TextMender$Numbers" "length" "I") (List.mem_of_getElem? (i := 1) rfl)) (fun _ h9 => h9) rfl (by decide +kernel) rfl rfl (Nat.le_of_ble_eq_true rfl) dX5_addAll_49 (fun H locs hP hD hS => ?_)
    have hP : va_P (dC, dI) vwCl [(nu, .inr (5, [.ref au, .int x_5])), (au, .inl (cI, cap, .inl f_4)), (no, .inr (5, [.ref ao, .int lo])), (ao, .inl (cI, co, .inl fo))] H := hP
    have hD : va_D A [(nu, .inr (5, [.ref au, .int x_5])), (au, .inl (cI, cap, .inl f_4)), (no, .inr (5, [.ref ao, .int lo])), (ao, .inl (cI, co, .inl fo))] := hD
    refine lv_iconst (v := 1) hx hb dX5_addAll_52 (by decide) ?_
    have hP9 := hP.sub (ws' := [(nu, .inr (5, [.ref au, .int x_5])), (au, .inl (cI, cap, .inl f_4)), (no, .inr (5, [.ref ao, .int lo])), (ao, .inl (cI, co, .inl fo))]) [0, 1, 2, 3] rfl
    have hD9 := hD.sub (ws' := [(nu, .inr (5, [.ref au, .int x_5])), (au, .inl (cI, cap, .inl f_4)), (no, .inr (5, [.ref ao, .int lo])), (ao, .inl (cI, co, .inl fo))]) [0, 1, 2, 3] (by decide) rfl
    rw [hQQ]
    exact W.zret (v := 1) (ty := .boolean) hx hb hr (rfl) (fun t ht hW => ⟨⟨1, 1, rfl, rfl, ⟨x_5, f_4, by rw [ht]; exact hP9, hD9, by omega, by decide, by first | exact Or.inl ⟨by omega, by omega, rfl, by assumption⟩ | exact Or.inr ⟨by omega, rfl, rfl, rfl⟩⟩⟩, hS.F ht⟩) hS.2.2 dX5_addAll_53
  · have tc_3 : x_2.toInt < lo.toInt := v_nle c_3
    refine lv_iconst (v := 0) hx hb dX5_addAll_17 (by decide) ?_
    have hP9 := hP.sub (ws' := [(nu, .inr (5, [.ref au, .int lu])), (au, .inl (cI, cap, .inl fu)), (no, .inr (5, [.ref ao, .int lo])), (ao, .inl (cI, co, .inl fo))]) [0, 1, 2, 3] rfl
    have hD9 := hD.sub (ws' := [(nu, .inr (5, [.ref au, .int lu])), (au, .inl (cI, cap, .inl fu)), (no, .inr (5, [.ref ao, .int lo])), (ao, .inl (cI, co, .inl fo))]) [0, 1, 2, 3] (by decide) rfl
    rw [hQQ]
    exact W.zret (v := 0) (ty := .boolean) hx hb hr (rfl) (fun t ht hW => ⟨⟨0, 0, rfl, rfl, ⟨lu, fu, by rw [ht]; exact hP9, hD9, by omega, by decide, by first | exact Or.inl ⟨by omega, by omega, rfl, by assumption⟩ | exact Or.inr ⟨by omega, rfl, rfl, rfl⟩⟩⟩, hS.F ht⟩) hS.2.2 dX5_addAll_18

set_option maxHeartbeats 40000000 in
set_option maxRecDepth 100000 in
theorem m_X5_takeAll (l : Launch) (dC : Nat → ClassId) (dI : Nat → Nat → Nat) (cI cS : ClassId) (sz : Nat) (nu : Nat) (no : Nat) (au : Nat) (ao : Nat) (cap : Nat) (co : Nat) (lu : Int32) (fu : Nat → Int32) (lo : Int32) (fo : Nat → Int32) (g_lu : 0 ≤ lu.toInt ∧ lu.toInt ≤ (cap : Int)) (g_lo : 0 ≤ lo.toInt ∧ lo.toInt ≤ (co : Int)) (hcap : cap ≤ 2400) (hco : co ≤ 2400) : Met l yX5_takeAll wsX5_takeAll ({ frames := 2, cells := 0, slots := 0, locals := 69 } : Room) (va_Pc [.ref nu, .ref no] (fun U => U.heap.size = sz ∧ va_P (dC, dI) vwCl [(nu, .inr (5, [.ref au, .int lu])), (au, .inl (cI, cap, .inl fu)), (no, .inr (5, [.ref ao, .int lo])), (ao, .inl (cI, co, .inl fo))] U.heap ∧ va_K (dC, dI) vwCl [(cI, .int), (cS, .short)] U ∧ va_D (fun _ => True) [(nu, .inr (5, [.ref au, .int lu])), (au, .inl (cI, cap, .inl fu)), (no, .inr (5, [.ref ao, .int lo])), (ao, .inl (cI, co, .inl fo))])) (va_Qi (fun (r : Int32) (u : Int32) => r = u) (fun (r : Int32) t => ∃ (lu' : Int32) (fu' : Nat → Int32), va_P (dC, dI) vwCl [(nu, .inr (5, [.ref au, .int lu'])), (au, .inl (cI, cap, .inl fu')), (no, .inr (5, [.ref ao, .int lo])), (ao, .inl (cI, co, .inl fo))] t.heap ∧ va_D (va_A [(nu, .inr (5, [.ref au, .int lu])), (au, .inl (cI, cap, .inl fu)), (no, .inr (5, [.ref ao, .int lo])), (ao, .inl (cI, co, .inl fo))] sz) [(nu, .inr (5, [.ref au, .int lu'])), (au, .inl (cI, cap, .inl fu')), (no, .inr (5, [.ref ao, .int lo])), (ao, .inl (cI, co, .inl fo))] ∧ (0 ≤ lu'.toInt ∧ lu'.toInt ≤ (cap : Int)) ∧ (0 ≤ r.toInt ∧ r.toInt ≤ 1) ∧ (F_addAll cap 0 lu' lo r fu fu' fo)) (va_A [(nu, .inr (5, [.ref au, .int lu])), (au, .inl (cI, cap, .inl fu)), (no, .inr (5, [.ref ao, .int lo])), (ao, .inl (cI, co, .inl fo))] sz)) 0 0 (va_A [(nu, .inr (5, [.ref au, .int lu])), (au, .inl (cI, cap, .inl fu)), (no, .inr (5, [.ref ao, .int lo])), (ao, .inl (cI, co, .inl fo))] sz) := by
  refine Met.ofW (cc := cX5_takeAll) (maxL := 2) (ret := (some .boolean)) (by decide) rfl ?_
  intro p e s m args below meth c s₁ B hml hv
  obtain ⟨rfl, hsz, hP, hK, hD0⟩ := hv
  have hx := B.exec
  have hb := B.bytes
  have hr := B.returns
  have hts := atoms_spec (ws := wsX5_takeAll) B.pre
  have hown : s.vm.findClass RX5 = some m.cls := findClass_of_methodNamed B.named
  have hlocks := B.notSynchronized
  have in_X5 : ∀ w ∈ wsX50, w ∈ wsX5_takeAll := fun _ h => List.mem_cons_of_mem _ (List.mem_append_right _ (h))
  subst hsz
  have hD := hD0.self (sz := s.heap.size)
  generalize hAe : va_A [(nu, .inr (5, [.ref au, .int lu])), (au, .inl (cI, cap, .inl fu)), (no, .inr (5, [.ref ao, .int lo])), (ao, .inl (cI, co, .inl fo))] s.heap.size = A at hD ⊢
  have hA : ∀ q : Nat, s.heap.size ≤ q → A q := fun q h => by rw [← hAe]; exact Or.inr h
  have hS : va_S A s.heap s.heap [] := va_S.rf
  have hP : va_P (dC, dI) vwCl [(nu, .inr (5, [.ref au, .int lu])), (au, .inl (cI, cap, .inl fu)), (no, .inr (5, [.ref ao, .int lo])), (ao, .inl (cI, co, .inl fo))] s.heap := hP
  have hl := lv_entry ([.ref nu, .ref no]) (n := 2) (Nat.le_of_ble_eq_true rfl)
  rw [lg_entry_eq]
  generalize (lg_sl ([.ref nu, .ref no]) ++ List.replicate (2 - (lg_sl ([.ref nu, .ref no])).length) Slot.unset).toArray = ls at hl ⊢
  have hl : lv_has ls 2 [(0, .ref nu), (1, .ref no)] := hl
  obtain ⟨QQ, hQQ⟩ : ∃ QQ : Array Value → State → Outcome → State → Prop, QQ = va_Qi (fun (r : Int32) (u : Int32) => r = u) (fun (r : Int32) t => ∃ (lu' : Int32) (fu' : Nat → Int32), va_P (dC, dI) vwCl [(nu, .inr (5, [.ref au, .int lu'])), (au, .inl (cI, cap, .inl fu')), (no, .inr (5, [.ref ao, .int lo])), (ao, .inl (cI, co, .inl fo))] t.heap ∧ va_D A [(nu, .inr (5, [.ref au, .int lu'])), (au, .inl (cI, cap, .inl fu')), (no, .inr (5, [.ref ao, .int lo])), (ao, .inl (cI, co, .inl fo))] ∧ (0 ≤ lu'.toInt ∧ lu'.toInt ≤ (cap : Int)) ∧ (0 ≤ r.toInt ∧ r.toInt ≤ 1) ∧ (F_addAll cap 0 lu' lo r fu fu' fo)) A := ⟨_, rfl⟩
  rw [← hQQ]
  refine lv_aload_n hx hb dX5_takeAll_0 rfl (lv_at hl 0 rfl) ?_
  refine lv_iconst (v := 0) hx hb dX5_takeAll_1 (by decide) ?_
  refine va_put (D := (dC, dI)) (ci := 5) (v := .int 0) (ty := .int) (C := RX5) (T := TX5) (N := 2) hx hb hts in_X5 tyX5 tyX5_ok nmX5 hown hK hP hD hS 0 rfl rfl 1 (by decide) (hts (.fieldLink RX5 21 "TextMender$Numbers" "length" "I") (List.mem_of_getElem? (i := 1) rfl)) (fun _ h9 => h9) rfl (by decide +kernel) rfl rfl (Nat.le_of_ble_eq_true rfl) dX5_takeAll_2 (fun H locs hP hD hS => ?_)
  have hP : va_P (dC, dI) vwCl [(nu, .inr (5, [.ref au, .int 0])), (au, .inl (cI, cap, .inl fu)), (no, .inr (5, [.ref ao, .int lo])), (ao, .inl (cI, co, .inl fo))] H := hP
  have hD : va_D A [(nu, .inr (5, [.ref au, .int 0])), (au, .inl (cI, cap, .inl fu)), (no, .inr (5, [.ref ao, .int lo])), (ao, .inl (cI, co, .inl fo))] := hD
  refine lv_aload_n hx hb dX5_takeAll_5 rfl (lv_at hl 0 rfl) ?_
  refine lv_aload_n hx hb dX5_takeAll_6 rfl (lv_at hl 1 rfl) ?_
  have hPc := hP.sub (ws' := [(nu, .inr (5, [.ref au, .int 0])), (au, .inl (cI, cap, .inl fu)), (no, .inr (5, [.ref ao, .int lo])), (ao, .inl (cI, co, .inl fo))]) [0, 1, 2, 3] rfl
  have hDc := hD.sub (ws' := [(nu, .inr (5, [.ref au, .int 0])), (au, .inl (cI, cap, .inl fu)), (no, .inr (5, [.ref ao, .int lo])), (ao, .inl (cI, co, .inl fo))]) [0, 1, 2, 3] (by decide) rfl
  have hFc := va_free (wc := [(nu, .inr (5, [.ref au, .int 0])), (au, .inl (cI, cap, .inl fu)), (no, .inr (5, [.ref ao, .int lo])), (ao, .inl (cI, co, .inl fo))]) hD hS hA [0, 1, 2, 3] rfl
  refine va_calli (va_runV (As := [.ref no]) (rest := []) ⟨hx, hb, hml, hown, hts⟩ (m_X5_addAll l dC dI cI cS H.size nu no au ao cap co 0 fu lo fo (by show 0 ≤ (0 : Int) ∧ (0 : Int) ≤ (cap : Int); omega) (by omega) (by omega) (by omega)) (cwV 1 hts gX5_takeAll_X5_addAll rfl rfl rfl (by decide +kernel) ⟨Nat.le_of_ble_eq_true rfl, Nat.le_of_ble_eq_true rfl⟩) ⟨fun a U g mk q => by obtain ⟨q0, q1, qP, qK, qD⟩ := q; exact ⟨q0, q1, qP, va_K.moved (u := U) (U := U.calling g mk a) (Vm.Alike.refl U.vm) qK, qD⟩, va_recv hK hPc (ci := 5) (q0 := 0) rfl rfl, fun U hU hW => ⟨rfl, by rw [hU], by rw [hU]; exact hPc, va_K.moved hW.alike hK, hDc.weaken (fun _ _ _ _ => trivial)⟩⟩ rfl rfl hl.1 rfl (lv_room (Nat.le_of_ble_eq_true rfl)) dX5_takeAll_7 ⟨Nat.le_of_ble_eq_true rfl, Nat.le_of_ble_eq_true rfl⟩) hS (fun q _ h => hFc q h) hFc (fun r_1 u t H1 locs ht hvm hw hB hz1 hk1 hS => ?_)
  subst hw
  obtain ⟨lu_1, fu_1, hP1, hD1, hf1_0, hf1_1, hf1_2⟩ := hB
  rw [ht] at hP1
  obtain ⟨hP, hD⟩ := va_join (wr := []) (w1 := [(nu, .inr (5, [.ref au, .int lu_1])), (au, .inl (cI, cap, .inl fu_1)), (no, .inr (5, [.ref ao, .int lo])), (ao, .inl (cI, co, .inl fo))]) hP hD [0, 1, 2, 3] [] rfl rfl (by decide) (by decide) hk1 hFc hP1 hD1
  generalize H1 = H at hP hS ⊢
  have hP : va_P (dC, dI) vwCl [(nu, .inr (5, [.ref au, .int lu_1])), (au, .inl (cI, cap, .inl fu_1)), (no, .inr (5, [.ref ao, .int lo])), (ao, .inl (cI, co, .inl fo))] H := hP
  have hD : va_D A [(nu, .inr (5, [.ref au, .int lu_1])), (au, .inl (cI, cap, .inl fu_1)), (no, .inr (5, [.ref ao, .int lo])), (ao, .inl (cI, co, .inl fo))] := hD
  have hP9 := hP.sub (ws' := [(nu, .inr (5, [.ref au, .int lu_1])), (au, .inl (cI, cap, .inl fu_1)), (no, .inr (5, [.ref ao, .int lo])), (ao, .inl (cI, co, .inl fo))]) [0, 1, 2, 3] rfl
  have hD9 := hD.sub (ws' := [(nu, .inr (5, [.ref au, .int lu_1])), (au, .inl (cI, cap, .inl fu_1)), (no, .inr (5, [.ref ao, .int lo])), (ao, .inl (cI, co, .inl fo))]) [0, 1, 2, 3] (by decide) rfl
  rw [hQQ]
  exact W.zret (v := r_1) (ty := .boolean) hx hb hr (v_bool (by omega)) (fun t ht hW => ⟨⟨r_1, r_1, rfl, rfl, ⟨lu_1, fu_1, by rw [ht]; exact hP9, hD9, by omega, by omega, hf1_2⟩⟩, hS.F ht⟩) hS.2.2 dX5_takeAll_10
