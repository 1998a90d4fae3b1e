/-! 30.rows -/
section
set_option maxHeartbeats 40000000 in
set_option maxRecDepth 100000 in
theorem m_X9_nameHarms (l : Launch) (dC : Nat → ClassId) (dI : Nat → Nat → Nat) (cI cS : ClassId) (sz : Nat) (oR : Nat) (oH : Nat) (oK : Nat) (n1 : Nat) (n2 : Nat) (n3 : Nat) (r1 : Nat) (r2 : Nat) (r3 : Nat) (r4 : Nat) (r5 : Nat) (r6 : Nat) (lR : Int32) (fR3 : Nat → Int32) (pl : Int32) (a : Int32) (b : Int32) (d : Int32) (g_lR : 0 ≤ lR.toInt ∧ lR.toInt ≤ 258) : Met l yX9_nameHarms wsX9_nameHarms ({ frames := 0, cells := 0, slots := 0, locals := 0 } : Room) (va_Pc [.ref oR, .int pl, .int a, .int b, .int d] (fun U => U.heap.size = sz ∧ va_P (dC, dI) vwCl [(oR, .inr (9, [.ref oH, .ref oK, .ref n1, .ref n2, .ref n3, .ref r1, .ref r2, .ref r3, .ref r4, .ref r5, .ref r6, .int lR])), (r3, .inl (cI, 774, .inl fR3))] U.heap ∧ va_K (dC, dI) vwCl [(cI, .int), (cS, .short)] U ∧ va_D (fun _ => True) [(oR, .inr (9, [.ref oH, .ref oK, .ref n1, .ref n2, .ref n3, .ref r1, .ref r2, .ref r3, .ref r4, .ref r5, .ref r6, .int lR])), (r3, .inl (cI, 774, .inl fR3))])) (va_Qv (fun (_ : Unit) => True) (fun _ t => ∃ (fR3' : Nat → Int32), va_P (dC, dI) vwCl [(oR, .inr (9, [.ref oH, .ref oK, .ref n1, .ref n2, .ref n3, .ref r1, .ref r2, .ref r3, .ref r4, .ref r5, .ref r6, .int lR])), (r3, .inl (cI, 774, .inl fR3'))] t.heap ∧ va_D (va_A [(oR, .inr (9, [.ref oH, .ref oK, .ref n1, .ref n2, .ref n3, .ref r1, .ref r2, .ref r3, .ref r4, .ref r5, .ref r6, .int lR])), (r3, .inl (cI, 774, .inl fR3))] sz) [(oR, .inr (9, [.ref oH, .ref oK, .ref n1, .ref n2, .ref n3, .ref r1, .ref r2, .ref r3, .ref r4, .ref r5, .ref r6, .int lR])), (r3, .inl (cI, 774, .inl fR3'))]) (va_A [(oR, .inr (9, [.ref oH, .ref oK, .ref n1, .ref n2, .ref n3, .ref r1, .ref r2, .ref r3, .ref r4, .ref r5, .ref r6, .int lR])), (r3, .inl (cI, 774, .inl fR3))] sz)) 0 0 (va_A [(oR, .inr (9, [.ref oH, .ref oK, .ref n1, .ref n2, .ref n3, .ref r1, .ref r2, .ref r3, .ref r4, .ref r5, .ref r6, .int lR])), (r3, .inl (cI, 774, .inl fR3))] sz) := by
  refine Met.ofW (cc := cX9_nameHarms) (maxL := 5) (ret := none) (by decide) rfl ?_
  intro p e s m args below meth c s₁ B hml hv
  obtain ⟨rfl, hsz, hP, hK, hD0⟩ := hv
  have hx := B.exec
  have hb := B.bytes
  have hr := B.returns
  have hts := atoms_spec (ws := wsX9_nameHarms) B.pre
  have hown : s.vm.findClass RX9 = some m.cls := findClass_of_methodNamed B.named
  have hlocks := B.notSynchronized
  have in_X9 : ∀ w ∈ wsX90, w ∈ wsX9_nameHarms := fun _ h => List.mem_cons_of_mem _ (List.mem_append_right _ (h))
  subst hsz
  have hD := hD0.self (sz := s.heap.size)
  generalize hAe : va_A [(oR, .inr (9, [.ref oH, .ref oK, .ref n1, .ref n2, .ref n3, .ref r1, .ref r2, .ref r3, .ref r4, .ref r5, .ref r6, .int lR])), (r3, .inl (cI, 774, .inl fR3))] s.heap.size = A at hD ⊢
  have hA : ∀ q : Nat, s.heap.size ≤ q → A q := fun q h => by rw [← hAe]; exact Or.inr h
  have hS : va_S A s.heap s.heap [] := va_S.rf
  have hP : va_P (dC, dI) vwCl [(oR, .inr (9, [.ref oH, .ref oK, .ref n1, .ref n2, .ref n3, .ref r1, .ref r2, .ref r3, .ref r4, .ref r5, .ref r6, .int lR])), (r3, .inl (cI, 774, .inl fR3))] s.heap := hP
  have hl := lv_entry ([.ref oR, .int pl, .int a, .int b, .int d]) (n := 5) (Nat.le_of_ble_eq_true rfl)
  rw [lg_entry_eq]
  generalize (lg_sl ([.ref oR, .int pl, .int a, .int b, .int d]) ++ List.replicate (5 - (lg_sl ([.ref oR, .int pl, .int a, .int b, .int d])).length) Slot.unset).toArray = ls at hl ⊢
  have hl : lv_has ls 5 [(0, .ref oR), (1, .int pl), (2, .int a), (3, .int b), (4, .int d)] := hl
  obtain ⟨QQ, hQQ⟩ : ∃ QQ : Array Value → State → Outcome → State → Prop, QQ = va_Qv (fun (_ : Unit) => True) (fun _ t => ∃ (fR3' : Nat → Int32), va_P (dC, dI) vwCl [(oR, .inr (9, [.ref oH, .ref oK, .ref n1, .ref n2, .ref n3, .ref r1, .ref r2, .ref r3, .ref r4, .ref r5, .ref r6, .int lR])), (r3, .inl (cI, 774, .inl fR3'))] t.heap ∧ va_D A [(oR, .inr (9, [.ref oH, .ref oK, .ref n1, .ref n2, .ref n3, .ref r1, .ref r2, .ref r3, .ref r4, .ref r5, .ref r6, .int lR])), (r3, .inl (cI, 774, .inl fR3'))]) A := ⟨_, rfl⟩
  rw [← hQQ]
  refine lv_iload_n hx hb dX9_nameHarms_0 rfl (lv_at hl 1 rfl) ?_
  refine lv_if_lt (tgt := 43) hx hb dX9_nameHarms_1 (by decide) (fun c_1 => ?_) (fun c_1 => ?_)
  · have tc_1 : pl.toInt < 0 := v_lt c_1
    have hP9 := hP.sub (ws' := [(oR, .inr (9, [.ref oH, .ref oK, .ref n1, .ref n2, .ref n3, .ref r1, .ref r2, .ref r3, .ref r4, .ref r5, .ref r6, .int lR])), (r3, .inl (cI, 774, .inl fR3))]) [0, 1] rfl
    have hD9 := hD.sub (ws' := [(oR, .inr (9, [.ref oH, .ref oK, .ref n1, .ref n2, .ref n3, .ref r1, .ref r2, .ref r3, .ref r4, .ref r5, .ref r6, .int lR])), (r3, .inl (cI, 774, .inl fR3))]) [0, 1] (by decide +kernel) rfl
    rw [hQQ]
    exact W.vret hx hb hr (fun t ht hW => ⟨⟨(), rfl, trivial, ⟨fR3, by rw [ht]; exact hP9, hD9⟩⟩, hS.F ht⟩) hS.2.2 dX9_nameHarms_43
  · have tc_1 : 0 ≤ pl.toInt := v_nlt c_1
    refine lv_iload_n hx hb dX9_nameHarms_4 rfl (lv_at hl 1 rfl) ?_
    refine lv_sipush (v := 258) hx hb dX9_nameHarms_5 (by decide) ?_
    refine lv_icmp_ge (tgt := 43) hx hb dX9_nameHarms_8 (by decide) (fun c_2 => ?_) (fun c_2 => ?_)
    · have tc_2 : 258 ≤ pl.toInt := v_le c_2
      have hP9 := hP.sub (ws' := [(oR, .inr (9, [.ref oH, .ref oK, .ref n1, .ref n2, .ref n3, .ref r1, .ref r2, .ref r3, .ref r4, .ref r5, .ref r6, .int lR])), (r3, .inl (cI, 774, .inl fR3))]) [0, 1] rfl
      have hD9 := hD.sub (ws' := [(oR, .inr (9, [.ref oH, .ref oK, .ref n1, .ref n2, .ref n3, .ref r1, .ref r2, .ref r3, .ref r4, .ref r5, .ref r6, .int lR])), (r3, .inl (cI, 774, .inl fR3))]) [0, 1] (by decide +kernel) rfl
      rw [hQQ]
      exact W.vret hx hb hr (fun t ht hW => ⟨⟨(), rfl, trivial, ⟨fR3, by rw [ht]; exact hP9, hD9⟩⟩, hS.F ht⟩) hS.2.2 dX9_nameHarms_43
    · have tc_2 : pl.toInt < 258 := v_nle c_2
      refine lv_aload_n hx hb dX9_nameHarms_11 rfl (lv_at hl 0 rfl) ?_
      refine va_get (D := (dC, dI)) (ci := 9) (v := .ref r3) (C := RX9) (T := TX9) (N := 12) hx hb hts in_X9 hown hK hP 0 rfl rfl 7 (by decide) (hts (.fieldLink RX9 33 "TextMender$Rows" "foundHarms" "[I") (List.mem_of_getElem? (i := 1) rfl)) (fun _ h9 => h9) rfl dX9_nameHarms_12 ?_
      refine lv_iload_n hx hb dX9_nameHarms_15 rfl (lv_at hl 1 rfl) ?_
      refine lv_iconst (v := 3) hx hb dX9_nameHarms_16 (by decide) ?_
      refine lv_imul hx hb dX9_nameHarms_17 ?_
      refine lv_topi (fun x_3 ex_3 => ?_)
      have tx_3 : x_3.toInt = pl.toInt * 3 := v_mul ex_3 (by show -2147483648 ≤ pl.toInt * 3; omega) (by show pl.toInt * 3 < 2147483648; omega)
      refine lv_iload_n hx hb dX9_nameHarms_18 rfl (lv_at hl 2 rfl) ?_
      refine va_iast hx hb hK hP hD hS 1 0 rfl rfl (v_in (by omega)) dX9_nameHarms_19 (fun H locs hPn hDn hSn => ?_)
      clear hP hD hS
      have hP : va_P (dC, dI) vwCl [(oR, .inr (9, [.ref oH, .ref oK, .ref n1, .ref n2, .ref n3, .ref r1, .ref r2, .ref r3, .ref r4, .ref r5, .ref r6, .int lR])), (r3, .inl (cI, 774, .inl (upd fR3 (x_3 : Int32).toNatClampNeg a)))] H := hPn
      have hD : va_D A [(oR, .inr (9, [.ref oH, .ref oK, .ref n1, .ref n2, .ref n3, .ref r1, .ref r2, .ref r3, .ref r4, .ref r5, .ref r6, .int lR])), (r3, .inl (cI, 774, .inl (upd fR3 (x_3 : Int32).toNatClampNeg a)))] := hDn
      have hS := hSn
      clear hPn hDn hSn
      obtain ⟨f_4, ef_4⟩ : ∃ g : Nat → Int32, g = upd fR3 (x_3 : Int32).toNatClampNeg a := ⟨_, rfl⟩
      rw [← ef_4] at hP hD
      refine lv_aload_n hx hb dX9_nameHarms_20 rfl (lv_at hl 0 rfl) ?_
      refine va_get (D := (dC, dI)) (ci := 9) (v := .ref r3) (C := RX9) (T := TX9) (N := 12) hx hb hts in_X9 hown hK hP 0 rfl rfl 7 (by decide) (hts (.fieldLink RX9 33 "TextMender$Rows" "foundHarms" "[I") (List.mem_of_getElem? (i := 1) rfl)) (fun _ h9 => h9) rfl dX9_nameHarms_21 ?_
      refine lv_iload_n hx hb dX9_nameHarms_24 rfl (lv_at hl 1 rfl) ?_
      refine lv_iconst (v := 3) hx hb dX9_nameHarms_25 (by decide) ?_
      refine lv_imul hx hb dX9_nameHarms_26 ?_
      refine lv_topi (fun x_5 ex_5 => ?_)
      have tx_5 : x_5.toInt = pl.toInt * 3 := v_mul ex_5 (by show -2147483648 ≤ pl.toInt * 3; omega) (by show pl.toInt * 3 < 2147483648; omega)
      refine lv_iconst (v := 1) hx hb dX9_nameHarms_27 (by decide) ?_
      refine lv_iadd hx hb dX9_nameHarms_28 ?_
      refine lv_topi (fun x_6 ex_6 => ?_)
      have tx_6 : x_6.toInt = x_5.toInt + 1 := v_add ex_6 (by show -2147483648 ≤ x_5.toInt + 1; omega) (by show x_5.toInt + 1 < 2147483648; omega)
      refine lv_iload_n hx hb dX9_nameHarms_29 rfl (lv_at hl 3 rfl) ?_
      refine va_iast hx hb hK hP hD hS 1 0 rfl rfl (v_in (by omega)) dX9_nameHarms_30 (fun H locs hPn hDn hSn => ?_)
      clear hP hD hS
      have hP : va_P (dC, dI) vwCl [(oR, .inr (9, [.ref oH, .ref oK, .ref n1, .ref n2, .ref n3, .ref r1, .ref r2, .ref r3, .ref r4, .ref r5, .ref r6, .int lR])), (r3, .inl (cI, 774, .inl (upd f_4 (x_6 : Int32).toNatClampNeg b)))] H := hPn
      have hD : va_D A [(oR, .inr (9, [.ref oH, .ref oK, .ref n1, .ref n2, .ref n3, .ref r1, .ref r2, .ref r3, .ref r4, .ref r5, .ref r6, .int lR])), (r3, .inl (cI, 774, .inl (upd f_4 (x_6 : Int32).toNatClampNeg b)))] := hDn
      have hS := hSn
      clear hPn hDn hSn
      obtain ⟨f_7, ef_7⟩ : ∃ g : Nat → Int32, g = upd f_4 (x_6 : Int32).toNatClampNeg b := ⟨_, rfl⟩
      rw [← ef_7] at hP hD
      refine lv_aload_n hx hb dX9_nameHarms_31 rfl (lv_at hl 0 rfl) ?_
      refine va_get (D := (dC, dI)) (ci := 9) (v := .ref r3) (C := RX9) (T := TX9) (N := 12) hx hb hts in_X9 hown hK hP 0 rfl rfl 7 (by decide) (hts (.fieldLink RX9 33 "TextMender$Rows" "foundHarms" "[I") (List.mem_of_getElem? (i := 1) rfl)) (fun _ h9 => h9) rfl dX9_nameHarms_32 ?_
      refine lv_iload_n hx hb dX9_nameHarms_35 rfl (lv_at hl 1 rfl) ?_
      refine lv_iconst (v := 3) hx hb dX9_nameHarms_36 (by decide) ?_
      refine lv_imul hx hb dX9_nameHarms_37 ?_
      refine lv_topi (fun x_8 ex_8 => ?_)
      have tx_8 : x_8.toInt = pl.toInt * 3 := v_mul ex_8 (by show -2147483648 ≤ pl.toInt * 3; omega) (by show pl.toInt * 3 < 2147483648; omega)
      refine lv_iconst (v := 2) hx hb dX9_nameHarms_38 (by decide) ?_
      refine lv_iadd hx hb dX9_nameHarms_39 ?_
      refine lv_topi (fun x_9 ex_9 => ?_)
      have tx_9 : x_9.toInt = x_8.toInt + 2 := v_add ex_9 (by show -2147483648 ≤ x_8.toInt + 2; omega) (by show x_8.toInt + 2 < 2147483648; omega)
      refine lv_iload hx hb dX9_nameHarms_40 (lv_at hl 4 rfl) ?_
      refine va_iast hx hb hK hP hD hS 1 0 rfl rfl (v_in (by omega)) dX9_nameHarms_42 (fun H locs hPn hDn hSn => ?_)
      clear hP hD hS
      have hP : va_P (dC, dI) vwCl [(oR, .inr (9, [.ref oH, .ref oK, .ref n1, .ref n2, .ref n3, .ref r1, .ref r2, .ref r3, .ref r4, .ref r5, .ref r6, .int lR])), (r3, .inl (cI, 774, .inl (upd f_7 (x_9 : Int32).toNatClampNeg d)))] H := hPn
      have hD : va_D A [(oR, .inr (9, [.ref oH, .ref oK, .ref n1, .ref n2, .ref n3, .ref r1, .ref r2, .ref r3, .ref r4, .ref r5, .ref r6, .int lR])), (r3, .inl (cI, 774, .inl (upd f_7 (x_9 : Int32).toNatClampNeg d)))] := hDn
      have hS := hSn
      clear hPn hDn hSn
      obtain ⟨f_10, ef_10⟩ : ∃ g : Nat → Int32, g = upd f_7 (x_9 : Int32).toNatClampNeg d := ⟨_, rfl⟩
      rw [← ef_10] at hP hD
      have hP9 := hP.sub (ws' := [(oR, .inr (9, [.ref oH, .ref oK, .ref n1, .ref n2, .ref n3, .ref r1, .ref r2, .ref r3, .ref r4, .ref r5, .ref r6, .int lR])), (r3, .inl (cI, 774, .inl f_10))]) [0, 1] rfl
      have hD9 := hD.sub (ws' := [(oR, .inr (9, [.ref oH, .ref oK, .ref n1, .ref n2, .ref n3, .ref r1, .ref r2, .ref r3, .ref r4, .ref r5, .ref r6, .int lR])), (r3, .inl (cI, 774, .inl f_10))]) [0, 1] (by decide +kernel) rfl
      rw [hQQ]
      exact W.vret hx hb hr (fun t ht hW => ⟨⟨(), rfl, trivial, ⟨f_10, by rw [ht]; exact hP9, hD9⟩⟩, hS.F ht⟩) hS.2.2 dX9_nameHarms_43

set_option maxHeartbeats 40000000 in
set_option maxRecDepth 100000 in
theorem m_X9_note (l : Launch) (dC : Nat → ClassId) (dI : Nat → Nat → Nat) (cI cS : ClassId) (sz : Nat) (oR : Nat) (nx : Nat) (oH : Nat) (oK : Nat) (n1 : Nat) (n2 : Nat) (n3 : Nat) (r1 : Nat) (r2 : Nat) (r3 : Nat) (r4 : Nat) (r5 : Nat) (r6 : Nat) (k1 : Nat) (k2 : Nat) (ax : Nat) (lR : Int32) (fR1 : Nat → Int32) (fR2 : Nat → Int32) (lK : Int32) (fK1 : Nat → Int32) (fK2 : Nat → Int32) (lx : Int32) (fx : Nat → Int32) (pl : Int32) (g_lR : 0 ≤ lR.toInt ∧ lR.toInt ≤ 258) (g_lK : 0 ≤ lK.toInt ∧ lK.toInt ≤ 300) (g_lx : 0 ≤ lx.toInt ∧ lx.toInt ≤ 300) : Met l yX9_note wsX9_note ({ frames := 4, cells := 0, slots := 0, locals := 98 } : Room) (va_Pc [.ref oR, .int pl, .ref nx] (fun U => U.heap.size = sz ∧ va_P (dC, dI) vwCl [(oR, .inr (9, [.ref oH, .ref oK, .ref n1, .ref n2, .ref n3, .ref r1, .ref r2, .ref r3, .ref r4, .ref r5, .ref r6, .int lR])), (r1, .inl (cI, 258, .inl fR1)), (r2, .inl (cI, 258, .inl fR2)), (oK, .inr (3, [.ref k1, .ref k2, .int lK])), (k1, .inl (cI, 1024, .inl fK1)), (k2, .inl (cI, 1024, .inl fK2)), (nx, .inr (5, [.ref ax, .int lx])), (ax, .inl (cI, 300, .inl fx))] U.heap ∧ va_K (dC, dI) vwCl [(cI, .int), (cS, .short)] U ∧ va_D (fun _ => True) [(oR, .inr (9, [.ref oH, .ref oK, .ref n1, .ref n2, .ref n3, .ref r1, .ref r2, .ref r3, .ref r4, .ref r5, .ref r6, .int lR])), (r1, .inl (cI, 258, .inl fR1)), (r2, .inl (cI, 258, .inl fR2)), (oK, .inr (3, [.ref k1, .ref k2, .int lK])), (k1, .inl (cI, 1024, .inl fK1)), (k2, .inl (cI, 1024, .inl fK2)), (nx, .inr (5, [.ref ax, .int lx])), (ax, .inl (cI, 300, .inl fx))])) (va_Qv (fun (_ : Unit) => True) (fun _ t => ∃ (fR1' : Nat → Int32) (fR2' : Nat → Int32), va_P (dC, dI) vwCl [(oR, .inr (9, [.ref oH, .ref oK, .ref n1, .ref n2, .ref n3, .ref r1, .ref r2, .ref r3, .ref r4, .ref r5, .ref r6, .int lR])), (r1, .inl (cI, 258, .inl fR1')), (r2, .inl (cI, 258, .inl fR2')), (oK, .inr (3, [.ref k1, .ref k2, .int lK])), (k1, .inl (cI, 1024, .inl fK1)), (k2, .inl (cI, 1024, .inl fK2)), (nx, .inr (5, [.ref ax, .int lx])), (ax, .inl (cI, 300, .inl fx))] t.heap ∧ va_D (va_A [(oR, .inr (9, [.ref oH, .ref oK, .ref n1, .ref n2, .ref n3, .ref r1, .ref r2, .ref r3, .ref r4, .ref r5, .ref r6, .int lR])), (r1, .inl (cI, 258, .inl fR1)), (r2, .inl (cI, 258, .inl fR2)), (oK, .inr (3, [.ref k1, .ref k2, .int lK])), (k1, .inl (cI, 1024, .inl fK1)), (k2, .inl (cI, 1024, .inl fK2)), (nx, .inr (5, [.ref ax, .int lx])), (ax, .inl (cI, 300, .inl fx))] sz) [(oR, .inr (9, [.ref oH, .ref oK, .ref n1, .ref n2, .ref n3, .ref r1, .ref r2, .ref r3, .ref r4, .ref r5, .ref r6, .int lR])), (r1, .inl (cI, 258, .inl fR1')), (r2, .inl (cI, 258, .inl fR2')), (oK, .inr (3, [.ref k1, .ref k2, .int lK])), (k1, .inl (cI, 1024, .inl fK1)), (k2, .inl (cI, 1024, .inl fK2)), (nx, .inr (5, [.ref ax, .int lx])), (ax, .inl (cI, 300, .inl fx))]) (va_A [(oR, .inr (9, [.ref oH, .ref oK, .ref n1, .ref n2, .ref n3, .ref r1, .ref r2, .ref r3, .ref r4, .ref r5, .ref r6, .int lR])), (r1, .inl (cI, 258, .inl fR1)), (r2, .inl (cI, 258, .inl fR2)), (oK, .inr (3, [.ref k1, .ref k2, .int lK])), (k1, .inl (cI, 1024, .inl fK1)), (k2, .inl (cI, 1024, .inl fK2)), (nx, .inr (5, [.ref ax, .int lx])), (ax, .inl (cI, 300, .inl fx))] sz)) 0 0 (va_A [(oR, .inr (9, [.ref oH, .ref oK, .ref n1, .ref n2, .ref n3, .ref r1, .ref r2, .ref r3, .ref r4, .ref r5, .ref r6, .int lR])), (r1, .inl (cI, 258, .inl fR1)), (r2, .inl (cI, 258, .inl fR2)), (oK, .inr (3, [.ref k1, .ref k2, .int lK])), (k1, .inl (cI, 1024, .inl fK1)), (k2, .inl (cI, 1024, .inl fK2)), (nx, .inr (5, [.ref ax, .int lx])), (ax, .inl (cI, 300, .inl fx))] sz) := by
  refine Met.ofW (cc := cX9_note) (maxL := 3) (ret := none) (by decide) rfl ?_
  intro p e s m args below meth c s₁ B hml hv
  obtain ⟨rfl, hsz, hP, hK, hD0⟩ := hv
  have hx := B.exec
  have hb := B.bytes
  have hr := B.returns
  have hts := atoms_spec (ws := wsX9_note) B.pre
  have hown : s.vm.findClass RX9 = some m.cls := findClass_of_methodNamed B.named
  have hlocks := B.notSynchronized
  have in_X9 : ∀ w ∈ wsX90, w ∈ wsX9_note := fun _ h => List.mem_cons_of_mem _ (List.mem_append_left _ (List.mem_append_left _ (List.mem_append_right _ (h))))
  subst hsz
  have hD := hD0.self (sz := s.heap.size)
  generalize hAe : va_A [(oR, .inr (9, [.ref oH, .ref oK, .ref n1, .ref n2, .ref n3, .ref r1, .ref r2, .ref r3, .ref r4, .ref r5, .ref r6, .int lR])), (r1, .inl (cI, 258, .inl fR1)), (r2, .inl (cI, 258, .inl fR2)), (oK, .inr (3, [.ref k1, .ref k2, .int lK])), (k1, .inl (cI, 1024, .inl fK1)), (k2, .inl (cI, 1024, .inl fK2)), (nx, .inr (5, [.ref ax, .int lx])), (ax, .inl (cI, 300, .inl fx))] s.heap.size = A at hD ⊢
  have hA : ∀ q : Nat, s.heap.size ≤ q → A q := fun q h => by rw [← hAe]; exact Or.inr h
  have hS : va_S A s.heap s.heap [] := va_S.rf
  have hP : va_P (dC, dI) vwCl [(oR, .inr (9, [.ref oH, .ref oK, .ref n1, .ref n2, .ref n3, .ref r1, .ref r2, .ref r3, .ref r4, .ref r5, .ref r6, .int lR])), (r1, .inl (cI, 258, .inl fR1)), (r2, .inl (cI, 258, .inl fR2)), (oK, .inr (3, [.ref k1, .ref k2, .int lK])), (k1, .inl (cI, 1024, .inl fK1)), (k2, .inl (cI, 1024, .inl fK2)), (nx, .inr (5, [.ref ax, .int lx])), (ax, .inl (cI, 300, .inl fx))] s.heap := hP
  have hl := lv_entry ([.ref oR, .int pl, .ref nx]) (n := 3) (Nat.le_of_ble_eq_true rfl)
  rw [lg_entry_eq]
  generalize (lg_sl ([.ref oR, .int pl, .ref nx]) ++ List.replicate (3 - (lg_sl ([.ref oR, .int pl, .ref nx])).length) Slot.unset).toArray = ls at hl ⊢
  have hl : lv_has ls 3 [(0, .ref oR), (1, .int pl), (2, .ref nx)] := hl
  obtain ⟨QQ, hQQ⟩ : ∃ QQ : Array Value → State → Outcome → State → Prop, QQ = va_Qv (fun (_ : Unit) => True) (fun _ t => ∃ (fR1' : Nat → Int32) (fR2' : Nat → Int32), va_P (dC, dI) vwCl [(oR, .inr (9, [.ref oH, .ref oK, .ref n1, .ref n2, .ref n3, .ref r1, .ref r2, .ref r3, .ref r4, .ref r5, .ref r6, .int lR])), (r1, .inl (cI, 258, .inl fR1')), (r2, .inl (cI, 258, .inl fR2')), (oK, .inr (3, [.ref k1, .ref k2, .int lK])), (k1, .inl (cI, 1024, .inl fK1)), (k2, .inl (cI, 1024, .inl fK2)), (nx, .inr (5, [.ref ax, .int lx])), (ax, .inl (cI, 300, .inl fx))] t.heap ∧ va_D A [(oR, .inr (9, [.ref oH, .ref oK, .ref n1, .ref n2, .ref n3, .ref r1, .ref r2, .ref r3, .ref r4, .ref r5, .ref r6, .int lR])), (r1, .inl (cI, 258, .inl fR1')), (r2, .inl (cI, 258, .inl fR2')), (oK, .inr (3, [.ref k1, .ref k2, .int lK])), (k1, .inl (cI, 1024, .inl fK1)), (k2, .inl (cI, 1024, .inl fK2)), (nx, .inr (5, [.ref ax, .int lx])), (ax, .inl (cI, 300, .inl fx))]) A := ⟨_, rfl⟩
  rw [← hQQ]
  refine lv_iload_n hx hb dX9_note_0 rfl (lv_at hl 1 rfl) ?_
  refine lv_if_lt (tgt := 35) hx hb dX9_note_1 (by decide) (fun c_1 => ?_) (fun c_1 => ?_)
  · have tc_1 : pl.toInt < 0 := v_lt c_1
    have hP9 := hP.sub (ws' := [(oR, .inr (9, [.ref oH, .ref oK, .ref n1, .ref n2, .ref n3, .ref r1, .ref r2, .ref r3, .ref r4, .ref r5, .ref r6, .int lR])), (r1, .inl (cI, 258, .inl fR1)), (r2, .inl (cI, 258, .inl fR2)), (oK, .inr (3, [.ref k1, .ref k2, .int lK])), (k1, .inl (cI, 1024, .inl fK1)), (k2, .inl (cI, 1024, .inl fK2)), (nx, .inr (5, [.ref ax, .int lx])), (ax, .inl (cI, 300, .inl fx))]) [0, 1, 2, 3, 4, 5, 6, 7] rfl
    have hD9 := hD.sub (ws' := [(oR, .inr (9, [.ref oH, .ref oK, .ref n1, .ref n2, .ref n3, .ref r1, .ref r2, .ref r3, .ref r4, .ref r5, .ref r6, .int lR])), (r1, .inl (cI, 258, .inl fR1)), (r2, .inl (cI, 258, .inl fR2)), (oK, .inr (3, [.ref k1, .ref k2, .int lK])), (k1, .inl (cI, 1024, .inl fK1)), (k2, .inl (cI, 1024, .inl fK2)), (nx, .inr (5, [.ref ax, .int lx])), (ax, .inl (cI, 300, .inl fx))]) [0, 1, 2, 3, 4, 5, 6, 7] (by decide +kernel) rfl
    rw [hQQ]
    exact W.vret hx hb hr (fun t ht hW => ⟨⟨(), rfl, trivial, ⟨fR1, fR2, by rw [ht]; exact hP9, hD9⟩⟩, hS.F ht⟩) hS.2.2 dX9_note_35
  · have tc_1 : 0 ≤ pl.toInt := v_nlt c_1
    refine lv_iload_n hx hb dX9_note_4 rfl (lv_at hl 1 rfl) ?_
    refine lv_sipush (v := 258) hx hb dX9_note_5 (by decide) ?_
    refine lv_icmp_ge (tgt := 35) hx hb dX9_note_8 (by decide) (fun c_2 => ?_) (fun c_2 => ?_)
    · have tc_2 : 258 ≤ pl.toInt := v_le c_2
      have hP9 := hP.sub (ws' := [(oR, .inr (9, [.ref oH, .ref oK, .ref n1, .ref n2, .ref n3, .ref r1, .ref r2, .ref r3, .ref r4, .ref r5, .ref r6, .int lR])), (r1, .inl (cI, 258, .inl fR1)), (r2, .inl (cI, 258, .inl fR2)), (oK, .inr (3, [.ref k1, .ref k2, .int lK])), (k1, .inl (cI, 1024, .inl fK1)), (k2, .inl (cI, 1024, .inl fK2)), (nx, .inr (5, [.ref ax, .int lx])), (ax, .inl (cI, 300, .inl fx))]) [0, 1, 2, 3, 4, 5, 6, 7] rfl
      have hD9 := hD.sub (ws' := [(oR, .inr (9, [.ref oH, .ref oK, .ref n1, .ref n2, .ref n3, .ref r1, .ref r2, .ref r3, .ref r4, .ref r5, .ref r6, .int lR])), (r1, .inl (cI, 258, .inl fR1)), (r2, .inl (cI, 258, .inl fR2)), (oK, .inr (3, [.ref k1, .ref k2, .int lK])), (k1, .inl (cI, 1024, .inl fK1)), (k2, .inl (cI, 1024, .inl fK2)), (nx, .inr (5, [.ref ax, .int lx])), (ax, .inl (cI, 300, .inl fx))]) [0, 1, 2, 3, 4, 5, 6, 7] (by decide +kernel) rfl
      rw [hQQ]
      exact W.vret hx hb hr (fun t ht hW => ⟨⟨(), rfl, trivial, ⟨fR1, fR2, by rw [ht]; exact hP9, hD9⟩⟩, hS.F ht⟩) hS.2.2 dX9_note_35
    · have tc_2 : pl.toInt < 258 := v_nle c_2
      refine lv_aload_n hx hb dX9_note_11 rfl (lv_at hl 0 rfl) ?_
      refine va_get (D := (dC, dI)) (ci := 9) (v := .ref r1) (C := RX9) (T := TX9) (N := 12) hx hb hts in_X9 hown hK hP 0 rfl rfl 5 (by decide) (hts (.fieldLink RX9 26 "TextMender$Rows" "foundCost" "[I") (List.mem_of_getElem? (i := 1) rfl)) (fun _ h9 => h9) rfl dX9_note_12 ?_
      refine lv_iload_n hx hb dX9_note_15 rfl (lv_at hl 1 rfl) ?_
      refine lv_aload_n hx hb dX9_note_16 rfl (lv_at hl 0 rfl) ?_
      refine va_get (D := (dC, dI)) (ci := 9) (v := .ref oK) (C := RX9) (T := TX9) (N := 12) hx hb hts in_X9 hown hK hP 0 rfl rfl 1 (by decide) (hts (.fieldLink RX9 49 "TextMender$Rows" "costs" "LTextMender$Costs;") (List.mem_of_getElem? (i := 2) rfl)) (fun _ h9 => h9) rfl dX9_note_17 ?_
      refine lv_aload_n hx hb dX9_note_20 rfl (lv_at hl 2 rfl) ?_
      have hPc := hP.sub (ws' := [(oK, .inr (3, [.ref k1, .ref k2, .int lK])), (k1, .inl (cI, 1024, .inl fK1)), (k2, .inl (cI, 1024, .inl fK2)), (nx, .inr (5, [.ref ax, .int lx])), (ax, .inl (cI, 300, .inl fx))]) [3, 4, 5, 6, 7] rfl
      have hDc := hD.sub (ws' := [(oK, .inr (3, [.ref k1, .ref k2, .int lK])), (k1, .inl (cI, 1024, .inl fK1)), (k2, .inl (cI, 1024, .inl fK2)), (nx, .inr (5, [.ref ax, .int lx])), (ax, .inl (cI, 300, .inl fx))]) [3, 4, 5, 6, 7] (by decide +kernel) rfl
      have hFc := va_free (wc := [(oK, .inr (3, [.ref k1, .ref k2, .int lK])), (k1, .inl (cI, 1024, .inl fK1)), (k2, .inl (cI, 1024, .inl fK2)), (nx, .inr (5, [.ref ax, .int lx])), (ax, .inl (cI, 300, .inl fx))]) hD hS hA [3, 4, 5, 6, 7] rfl
      refine va_calli (va_runV (As := [.ref nx]) (rest := [.int pl, .ref r1]) ⟨hx, hb, hml, hown, hts⟩ (m_X3_ofText l dC dI cI cS s.heap.size oK nx k1 k2 ax lK fK1 fK2 lx fx (g_lK) (g_lx)) (cwV 1 hts gX9_note_X3_ofText rfl rfl rfl (by decide +kernel) ⟨Nat.le_of_ble_eq_true rfl, Nat.le_of_ble_eq_true rfl⟩) ⟨fun a U g mk q => by obtain ⟨q0, q1, qP, qK, qD⟩ := q; exact ⟨q0, q1, qP, va_K.moved (u := U) (U := U.calling g mk a) (Vm.Alike.refl U.vm) qK, qD⟩, va_recv hK hPc (ci := 3) (q0 := 0) rfl rfl, fun U hU hW => ⟨rfl, by rw [hU], by rw [hU]; exact hPc, va_K.moved hW.alike hK, hDc.weaken (fun _ _ _ _ => trivial)⟩⟩ rfl rfl hl.1 rfl (lv_room (Nat.le_of_ble_eq_true rfl)) dX9_note_21 ⟨Nat.le_of_ble_eq_true rfl, Nat.le_of_ble_eq_true rfl⟩) hS (fun q _ h => hFc q h) hFc (fun r_3 u t H1 locs ht hvm hw hB hz1 hk1 hSn => ?_)
      subst hw
      obtain ⟨hP1, hD1⟩ := hB
      rw [ht] at hP1
      obtain ⟨hPn, hDn⟩ := va_join (wr := [(oR, .inr (9, [.ref oH, .ref oK, .ref n1, .ref n2, .ref n3, .ref r1, .ref r2, .ref r3, .ref r4, .ref r5, .ref r6, .int lR])), (r1, .inl (cI, 258, .inl fR1)), (r2, .inl (cI, 258, .inl fR2))]) (w1 := [(oK, .inr (3, [.ref k1, .ref k2, .int lK])), (k1, .inl (cI, 1024, .inl fK1)), (k2, .inl (cI, 1024, .inl fK2)), (nx, .inr (5, [.ref ax, .int lx])), (ax, .inl (cI, 300, .inl fx))]) hP hD [3, 4, 5, 6, 7] [0, 1, 2] rfl rfl (by decide +kernel) (by decide +kernel) hk1 hFc hP1 hD1
      clear hP hD hS hPc hDc hFc hk1 hz1 hvm ht hP1 hD1
      generalize H1 = H at hPn hSn ⊢
      have hP : va_P (dC, dI) vwCl [(oR, .inr (9, [.ref oH, .ref oK, .ref n1, .ref n2, .ref n3, .ref r1, .ref r2, .ref r3, .ref r4, .ref r5, .ref r6, .int lR])), (r1, .inl (cI, 258, .inl fR1)), (r2, .inl (cI, 258, .inl fR2)), (oK, .inr (3, [.ref k1, .ref k2, .int lK])), (k1, .inl (cI, 1024, .inl fK1)), (k2, .inl (cI, 1024, .inl fK2)), (nx, .inr (5, [.ref ax, .int lx])), (ax, .inl (cI, 300, .inl fx))] H := hPn
      have hD : va_D A [(oR, .inr (9, [.ref oH, .ref oK, .ref n1, .ref n2, .ref n3, .ref r1, .ref r2, .ref r3, .ref r4, .ref r5, .ref r6, .int lR])), (r1, .inl (cI, 258, .inl fR1)), (r2, .inl (cI, 258, .inl fR2)), (oK, .inr (3, [.ref k1, .ref k2, .int lK])), (k1, .inl (cI, 1024, .inl fK1)), (k2, .inl (cI, 1024, .inl fK2)), (nx, .inr (5, [.ref ax, .int lx])), (ax, .inl (cI, 300, .inl fx))] := hDn
      have hS := hSn
      clear hPn hDn hSn
      refine va_iast hx hb hK hP hD hS 1 0 rfl rfl (v_in (by omega)) dX9_note_24 (fun H locs hPn hDn hSn => ?_)
      clear hP hD hS
      have hP : va_P (dC, dI) vwCl [(oR, .inr (9, [.ref oH, .ref oK, .ref n1, .ref n2, .ref n3, .ref r1, .ref r2, .ref r3, .ref r4, .ref r5, .ref r6, .int lR])), (r1, .inl (cI, 258, .inl (upd fR1 (pl : Int32).toNatClampNeg r_3))), (r2, .inl (cI, 258, .inl fR2)), (oK, .inr (3, [.ref k1, .ref k2, .int lK])), (k1, .inl (cI, 1024, .inl fK1)), (k2, .inl (cI, 1024, .inl fK2)), (nx, .inr (5, [.ref ax, .int lx])), (ax, .inl (cI, 300, .inl fx))] H := hPn
      have hD : va_D A [(oR, .inr (9, [.ref oH, .ref oK, .ref n1, .ref n2, .ref n3, .ref r1, .ref r2, .ref r3, .ref r4, .ref r5, .ref r6, .int lR])), (r1, .inl (cI, 258, .inl (upd fR1 (pl : Int32).toNatClampNeg r_3))), (r2, .inl (cI, 258, .inl fR2)), (oK, .inr (3, [.ref k1, .ref k2, .int lK])), (k1, .inl (cI, 1024, .inl fK1)), (k2, .inl (cI, 1024, .inl fK2)), (nx, .inr (5, [.ref ax, .int lx])), (ax, .inl (cI, 300, .inl fx))] := hDn
      have hS := hSn
      clear hPn hDn hSn
      obtain ⟨f_4, ef_4⟩ : ∃ g : Nat → Int32, g = upd fR1 (pl : Int32).toNatClampNeg r_3 := ⟨_, rfl⟩
      rw [← ef_4] at hP hD
      refine lv_aload_n hx hb dX9_note_25 rfl (lv_at hl 0 rfl) ?_
      refine va_get (D := (dC, dI)) (ci := 9) (v := .ref r2) (C := RX9) (T := TX9) (N := 12) hx hb hts in_X9 hown hK hP 0 rfl rfl 6 (by decide) (hts (.fieldLink RX9 30 "TextMender$Rows" "foundLength" "[I") (List.mem_of_getElem? (i := 3) rfl)) (fun _ h9 => h9) rfl dX9_note_26 ?_
      refine lv_iload_n hx hb dX9_note_29 rfl (lv_at hl 1 rfl) ?_
      refine lv_aload_n hx hb dX9_note_30 rfl (lv_at hl 2 rfl) ?_
      have hPc := hP.sub (ws' := [(nx, .inr (5, [.ref ax, .int lx]))]) [6] rfl
      have hDc := hD.sub (ws' := [(nx, .inr (5, [.ref ax, .int lx]))]) [6] (by decide +kernel) rfl
      have hFc := va_free (wc := [(nx, .inr (5, [.ref ax, .int lx]))]) hD hS hA [6] rfl
      refine va_calli (va_runV (As := []) (rest := [.int pl, .ref r2]) ⟨hx, hb, hml, hown, hts⟩ (m_X5_length l dC dI cI cS H.size nx ax lx ) (cwV 0 hts gX9_note_X5_length rfl rfl rfl (by decide +kernel) ⟨Nat.le_of_ble_eq_true rfl, Nat.le_of_ble_eq_true rfl⟩) ⟨fun a U g mk q => by obtain ⟨q0, q1, qP, qK, qD⟩ := q; exact ⟨q0, q1, qP, va_K.moved (u := U) (U := U.calling g mk a) (Vm.Alike.refl U.vm) qK, qD⟩, va_recv hK hPc (ci := 5) (q0 := 0) rfl rfl, fun U hU hW => ⟨rfl, by rw [hU], by rw [hU]; exact hPc, va_K.moved hW.alike hK, hDc.weaken (fun _ _ _ _ => trivial)⟩⟩ rfl rfl hl.1 rfl (lv_room (Nat.le_of_ble_eq_true rfl)) dX9_note_31 ⟨Nat.le_of_ble_eq_true rfl, Nat.le_of_ble_eq_true rfl⟩) hS (fun q _ h => hFc q h) hFc (fun r_5 u t H1 locs ht hvm hw hB hz1 hk1 hSn => ?_)
      subst hw
      obtain ⟨hP1, hD1, hf5_0⟩ := hB
      rw [ht] at hP1
      obtain ⟨hPn, hDn⟩ := va_join (wr := [(oR, .inr (9, [.ref oH, .ref oK, .ref n1, .ref n2, .ref n3, .ref r1, .ref r2, .ref r3, .ref r4, .ref r5, .ref r6, .int lR])), (r1, .inl (cI, 258, .inl f_4)), (r2, .inl (cI, 258, .inl fR2)), (oK, .inr (3, [.ref k1, .ref k2, .int lK])), (k1, .inl (cI, 1024, .inl fK1)), (k2, .inl (cI, 1024, .inl fK2)), (ax, .inl (cI, 300, .inl fx))]) (w1 := [(nx, .inr (5, [.ref ax, .int lx]))]) hP hD [6] [0, 1, 2, 3, 4, 5, 7] rfl rfl (by decide +kernel) (by decide +kernel) hk1 hFc hP1 hD1
      clear hP hD hS hPc hDc hFc hk1 hz1 hvm ht hP1 hD1
      generalize H1 = H at hPn hSn ⊢
      have hP : va_P (dC, dI) vwCl [(oR, .inr (9, [.ref oH, .ref oK, .ref n1, .ref n2, .ref n3, .ref r1, .ref r2, .ref r3, .ref r4, .ref r5, .ref r6, .int lR])), (r1, .inl (cI, 258, .inl f_4)), (r2, .inl (cI, 258, .inl fR2)), (oK, .inr (3, [.ref k1, .ref k2, .int lK])), (k1, .inl (cI, 1024, .inl fK1)), (k2, .inl (cI, 1024, .inl fK2)), (ax, .inl (cI, 300, .inl fx)), (nx, .inr (5, [.ref ax, .int lx]))] H := hPn
      have hD : va_D A [(oR, .inr (9, [.ref oH, .ref oK, .ref n1, .ref n2, .ref n3, .ref r1, .ref r2, .ref r3, .ref r4, .ref r5, .ref r6, .int lR])), (r1, .inl (cI, 258, .inl f_4)), (r2, .inl (cI, 258, .inl fR2)), (oK, .inr (3, [.ref k1, .ref k2, .int lK])), (k1, .inl (cI, 1024, .inl fK1)), (k2, .inl (cI, 1024, .inl fK2)), (ax, .inl (cI, 300, .inl fx)), (nx, .inr (5, [.ref ax, .int lx]))] := hDn
      have hS := hSn
      clear hPn hDn hSn
      rw [hf5_0]
      refine va_iast hx hb hK hP hD hS 2 0 rfl rfl (v_in (by omega)) dX9_note_34 (fun H locs hPn hDn hSn => ?_)
      clear hP hD hS
      have hP : va_P (dC, dI) vwCl [(oR, .inr (9, [.ref oH, .ref oK, .ref n1, .ref n2, .ref n3, .ref r1, .ref r2, .ref r3, .ref r4, .ref r5, .ref r6, .int lR])), (r1, .inl (cI, 258, .inl f_4)), (r2, .inl (cI, 258, .inl (upd fR2 (pl : Int32).toNatClampNeg lx))), (oK, .inr (3, [.ref k1, .ref k2, .int lK])), (k1, .inl (cI, 1024, .inl fK1)), (k2, .inl (cI, 1024, .inl fK2)), (ax, .inl (cI, 300, .inl fx)), (nx, .inr (5, [.ref ax, .int lx]))] H := hPn
      have hD : va_D A [(oR, .inr (9, [.ref oH, .ref oK, .ref n1, .ref n2, .ref n3, .ref r1, .ref r2, .ref r3, .ref r4, .ref r5, .ref r6, .int lR])), (r1, .inl (cI, 258, .inl f_4)), (r2, .inl (cI, 258, .inl (upd fR2 (pl : Int32).toNatClampNeg lx))), (oK, .inr (3, [.ref k1, .ref k2, .int lK])), (k1, .inl (cI, 1024, .inl fK1)), (k2, .inl (cI, 1024, .inl fK2)), (ax, .inl (cI, 300, .inl fx)), (nx, .inr (5, [.ref ax, .int lx]))] := hDn
      have hS := hSn
      clear hPn hDn hSn
      obtain ⟨f_6, ef_6⟩ : ∃ g : Nat → Int32, g = upd fR2 (pl : Int32).toNatClampNeg lx := ⟨_, rfl⟩
      rw [← ef_6] at hP hD
      have hP9 := hP.sub (ws' := [(oR, .inr (9, [.ref oH, .ref oK, .ref n1, .ref n2, .ref n3, .ref r1, .ref r2, .ref r3, .ref r4, .ref r5, .ref r6, .int lR])), (r1, .inl (cI, 258, .inl f_4)), (r2, .inl (cI, 258, .inl f_6)), (oK, .inr (3, [.ref k1, .ref k2, .int lK])), (k1, .inl (cI, 1024, .inl fK1)), (k2, .inl (cI, 1024, .inl fK2)), (nx, .inr (5, [.ref ax, .int lx])), (ax, .inl (cI, 300, .inl fx))]) [0, 1, 2, 3, 4, 5, 7, 6] rfl
      have hD9 := hD.sub (ws' := [(oR, .inr (9, [.ref oH, .ref oK, .ref n1, .ref n2, .ref n3, .ref r1, .ref r2, .ref r3, .ref r4, .ref r5, .ref r6, .int lR])), (r1, .inl (cI, 258, .inl f_4)), (r2, .inl (cI, 258, .inl f_6)), (oK, .inr (3, [.ref k1, .ref k2, .int lK])), (k1, .inl (cI, 1024, .inl fK1)), (k2, .inl (cI, 1024, .inl fK2)), (nx, .inr (5, [.ref ax, .int lx])), (ax, .inl (cI, 300, .inl fx))]) [0, 1, 2, 3, 4, 5, 7, 6] (by decide +kernel) rfl
      rw [hQQ]
      exact W.vret hx hb hr (fun t ht hW => ⟨⟨(), rfl, trivial, ⟨f_4, f_6, by rw [ht]; exact hP9, hD9⟩⟩, hS.F ht⟩) hS.2.2 dX9_note_35

set_option maxHeartbeats 40000000 in
set_option maxRecDepth 100000 in
theorem m_X9_find (l : Launch) (dC : Nat → ClassId) (dI : Nat → Nat → Nat) (cI cS : ClassId) (sz : Nat) (oR : Nat) (nx : Nat) (oH : Nat) (oK : Nat) (n1 : Nat) (n2 : Nat) (n3 : Nat) (r1 : Nat) (r2 : Nat) (r3 : Nat) (r4 : Nat) (r5 : Nat) (r6 : Nat) (a1 : Nat) (a2 : Nat) (a3 : Nat) (oP : Nat) (h1 : Nat) (h2 : Nat) (oC : Nat) (nB : Nat) (aB : Nat) (o4 : Nat) (o5 : Nat) (a41 : Nat) (a42 : Nat) (a43 : Nat) (a51 : Nat) (a52 : Nat) (a53 : Nat) (k1 : Nat) (k2 : Nat) (ax : Nat) (lR : Int32) (fR1 : Nat → Int32) (fR2 : Nat → Int32) (fR3 : Nat → Int32) (l1 : Int32) (f1 : Nat → Int32) (l2 : Int32) (f2 : Nat → Int32) (l3 : Int32) (f3 : Nat → Int32) (lH : Int32) (fH1 : Nat → Int32) (fH2 : Nat → Int32) (ft : Int32) (lB : Int32) (fB : Nat → Int32) (l4 : Int32) (f41 : Nat → Int32) (f42 : Nat → Int32) (f43 : Nat → Int32) (l5 : Int32) (f51 : Nat → Int32) (f52 : Nat → Int32) (f53 : Nat → Int32) (lK : Int32) (fK1 : Nat → Int32) (fK2 : Nat → Int32) (lx : Int32) (fx : Nat → Int32) (n : Int32) (g_lR : 0 ≤ lR.toInt ∧ lR.toInt ≤ 258) (g_l1 : 0 ≤ l1.toInt ∧ l1.toInt ≤ 300) (g_l2 : 0 ≤ l2.toInt ∧ l2.toInt ≤ 300) (g_l3 : 0 ≤ l3.toInt ∧ l3.toInt ≤ 300) (g_lH : 0 ≤ lH.toInt ∧ lH.toInt ≤ 6) (g_lB : 0 ≤ lB.toInt ∧ lB.toInt ≤ 2400) (g_lK : 0 ≤ lK.toInt ∧ lK.toInt ≤ 300) (g_lx : 0 ≤ lx.toInt ∧ lx.toInt ≤ 300) : Met l yX9_find wsX9_find ({ frames := 6, cells := 0, slots := 0, locals := 147 } : Room) (va_Pc [.ref oR, .int n, .ref nx] (fun U => U.heap.size = sz ∧ va_P (dC, dI) vwCl [(oR, .inr (9, [.ref oH, .ref oK, .ref n1, .ref n2, .ref n3, .ref r1, .ref r2, .ref r3, .ref r4, .ref r5, .ref r6, .int lR])), (r1, .inl (cI, 258, .inl fR1)), (r2, .inl (cI, 258, .inl fR2)), (r3, .inl (cI, 774, .inl fR3)), (n1, .inr (5, [.ref a1, .int l1])), (a1, .inl (cI, 300, .inl f1)), (n2, .inr (5, [.ref a2, .int l2])), (a2, .inl (cI, 300, .inl f2)), (n3, .inr (5, [.ref a3, .int l3])), (a3, .inl (cI, 300, .inl f3)), (oH, .inr (4, [.ref oP, .ref h1, .ref h2, .int lH])), (h1, .inl (cI, 6, .inl fH1)), (h2, .inl (cI, 6, .inl fH2)), (oP, .inr (7, [.ref oC, .ref nB, .int ft])), (nB, .inr (5, [.ref aB, .int lB])), (aB, .inl (cI, 2400, .inl fB)), (oC, .inr (2, [.ref o4, .ref o5])), (o4, .inr (10, [.ref a41, .ref a42, .ref a43, .int l4])), (a41, .inl (cI, 256, .inl f41)), (a42, .inl (cI, 512, .inl f42)), (a43, .inl (cI, 512, .inl f43)), (o5, .inr (10, [.ref a51, .ref a52, .ref a53, .int l5])), (a51, .inl (cI, 256, .inl f51)), (a52, .inl (cI, 512, .inl f52)), (a53, .inl (cI, 512, .inl f53)), (oK, .inr (3, [.ref k1, .ref k2, .int lK])), (k1, .inl (cI, 1024, .inl fK1)), (k2, .inl (cI, 1024, .inl fK2)), (nx, .inr (5, [.ref ax, .int lx])), (ax, .inl (cI, 300, .inl fx))] U.heap ∧ va_K (dC, dI) vwCl [(cI, .int), (cS, .short)] U ∧ va_D (fun _ => True) [(oR, .inr (9, [.ref oH, .ref oK, .ref n1, .ref n2, .ref n3, .ref r1, .ref r2, .ref r3, .ref r4, .ref r5, .ref r6, .int lR])), (r1, .inl (cI, 258, .inl fR1)), (r2, .inl (cI, 258, .inl fR2)), (r3, .inl (cI, 774, .inl fR3)), (n1, .inr (5, [.ref a1, .int l1])), (a1, .inl (cI, 300, .inl f1)), (n2, .inr (5, [.ref a2, .int l2])), (a2, .inl (cI, 300, .inl f2)), (n3, .inr (5, [.ref a3, .int l3])), (a3, .inl (cI, 300, .inl f3)), (oH, .inr (4, [.ref oP, .ref h1, .ref h2, .int lH])), (h1, .inl (cI, 6, .inl fH1)), (h2, .inl (cI, 6, .inl fH2)), (oP, .inr (7, [.ref oC, .ref nB, .int ft])), (nB, .inr (5, [.ref aB, .int lB])), (aB, .inl (cI, 2400, .inl fB)), (oC, .inr (2, [.ref o4, .ref o5])), (o4, .inr (10, [.ref a41, .ref a42, .ref a43, .int l4])), (a41, .inl (cI, 256, .inl f41)), (a42, .inl (cI, 512, .inl f42)), (a43, .inl (cI, 512, .inl f43)), (o5, .inr (10, [.ref a51, .ref a52, .ref a53, .int l5])), (a51, .inl (cI, 256, .inl f51)), (a52, .inl (cI, 512, .inl f52)), (a53, .inl (cI, 512, .inl f53)), (oK, .inr (3, [.ref k1, .ref k2, .int lK])), (k1, .inl (cI, 1024, .inl fK1)), (k2, .inl (cI, 1024, .inl fK2)), (nx, .inr (5, [.ref ax, .int lx])), (ax, .inl (cI, 300, .inl fx))] ∧ va_Nw (.methodLinkNest RX2 52 yX11_isLetter "TextMender") U)) (va_Qv (fun (_ : Unit) => True) (fun _ t => ∃ (ft' : Int32) (lB' : Int32) (fB' : Nat → Int32) (l1' : Int32) (f1' : Nat → Int32) (l2' : Int32) (f2' : Nat → Int32) (l3' : Int32) (f3' : Nat → Int32) (fR1' : Nat → Int32) (fR2' : Nat → Int32) (fR3' : Nat → Int32), va_P (dC, dI) vwCl [(oR, .inr (9, [.ref oH, .ref oK, .ref n1, .ref n2, .ref n3, .ref r1, .ref r2, .ref r3, .ref r4, .ref r5, .ref r6, .int lR])), (r1, .inl (cI, 258, .inl fR1')), (r2, .inl (cI, 258, .inl fR2')), (r3, .inl (cI, 774, .inl fR3')), (n1, .inr (5, [.ref a1, .int l1'])), (a1, .inl (cI, 300, .inl f1')), (n2, .inr (5, [.ref a2, .int l2'])), (a2, .inl (cI, 300, .inl f2')), (n3, .inr (5, [.ref a3, .int l3'])), (a3, .inl (cI, 300, .inl f3')), (oH, .inr (4, [.ref oP, .ref h1, .ref h2, .int lH])), (h1, .inl (cI, 6, .inl fH1)), (h2, .inl (cI, 6, .inl fH2)), (oP, .inr (7, [.ref oC, .ref nB, .int ft'])), (nB, .inr (5, [.ref aB, .int lB'])), (aB, .inl (cI, 2400, .inl fB')), (oC, .inr (2, [.ref o4, .ref o5])), (o4, .inr (10, [.ref a41, .ref a42, .ref a43, .int l4])), (a41, .inl (cI, 256, .inl f41)), (a42, .inl (cI, 512, .inl f42)), (a43, .inl (cI, 512, .inl f43)), (o5, .inr (10, [.ref a51, .ref a52, .ref a53, .int l5])), (a51, .inl (cI, 256, .inl f51)), (a52, .inl (cI, 512, .inl f52)), (a53, .inl (cI, 512, .inl f53)), (oK, .inr (3, [.ref k1, .ref k2, .int lK])), (k1, .inl (cI, 1024, .inl fK1)), (k2, .inl (cI, 1024, .inl fK2)), (nx, .inr (5, [.ref ax, .int lx])), (ax, .inl (cI, 300, .inl fx))] t.heap ∧ va_D (va_A [(oR, .inr (9, [.ref oH, .ref oK, .ref n1, .ref n2, .ref n3, .ref r1, .ref r2, .ref r3, .ref r4, .ref r5, .ref r6, .int lR])), (r1, .inl (cI, 258, .inl fR1)), (r2, .inl (cI, 258, .inl fR2)), (r3, .inl (cI, 774, .inl fR3)), (n1, .inr (5, [.ref a1, .int l1])), (a1, .inl (cI, 300, .inl f1)), (n2, .inr (5, [.ref a2, .int l2])), (a2, .inl (cI, 300, .inl f2)), (n3, .inr (5, [.ref a3, .int l3])), (a3, .inl (cI, 300, .inl f3)), (oH, .inr (4, [.ref oP, .ref h1, .ref h2, .int lH])), (h1, .inl (cI, 6, .inl fH1)), (h2, .inl (cI, 6, .inl fH2)), (oP, .inr (7, [.ref oC, .ref nB, .int ft])), (nB, .inr (5, [.ref aB, .int lB])), (aB, .inl (cI, 2400, .inl fB)), (oC, .inr (2, [.ref o4, .ref o5])), (o4, .inr (10, [.ref a41, .ref a42, .ref a43, .int l4])), (a41, .inl (cI, 256, .inl f41)), (a42, .inl (cI, 512, .inl f42)), (a43, .inl (cI, 512, .inl f43)), (o5, .inr (10, [.ref a51, .ref a52, .ref a53, .int l5])), (a51, .inl (cI, 256, .inl f51)), (a52, .inl (cI, 512, .inl f52)), (a53, .inl (cI, 512, .inl f53)), (oK, .inr (3, [.ref k1, .ref k2, .int lK])), (k1, .inl (cI, 1024, .inl fK1)), (k2, .inl (cI, 1024, .inl fK2)), (nx, .inr (5, [.ref ax, .int lx])), (ax, .inl (cI, 300, .inl fx))] sz) [(oR, .inr (9, [.ref oH, .ref oK, .ref n1, .ref n2, .ref n3, .ref r1, .ref r2, .ref r3, .ref r4, .ref r5, .ref r6, .int lR])), (r1, .inl (cI, 258, .inl fR1')), (r2, .inl (cI, 258, .inl fR2')), (r3, .inl (cI, 774, .inl fR3')), (n1, .inr (5, [.ref a1, .int l1'])), (a1, .inl (cI, 300, .inl f1')), (n2, .inr (5, [.ref a2, .int l2'])), (a2, .inl (cI, 300, .inl f2')), (n3, .inr (5, [.ref a3, .int l3'])), (a3, .inl (cI, 300, .inl f3')), (oH, .inr (4, [.ref oP, .ref h1, .ref h2, .int lH])), (h1, .inl (cI, 6, .inl fH1)), (h2, .inl (cI, 6, .inl fH2)), (oP, .inr (7, [.ref oC, .ref nB, .int ft'])), (nB, .inr (5, [.ref aB, .int lB'])), (aB, .inl (cI, 2400, .inl fB')), (oC, .inr (2, [.ref o4, .ref o5])), (o4, .inr (10, [.ref a41, .ref a42, .ref a43, .int l4])), (a41, .inl (cI, 256, .inl f41)), (a42, .inl (cI, 512, .inl f42)), (a43, .inl (cI, 512, .inl f43)), (o5, .inr (10, [.ref a51, .ref a52, .ref a53, .int l5])), (a51, .inl (cI, 256, .inl f51)), (a52, .inl (cI, 512, .inl f52)), (a53, .inl (cI, 512, .inl f53)), (oK, .inr (3, [.ref k1, .ref k2, .int lK])), (k1, .inl (cI, 1024, .inl fK1)), (k2, .inl (cI, 1024, .inl fK2)), (nx, .inr (5, [.ref ax, .int lx])), (ax, .inl (cI, 300, .inl fx))] ∧ (0 ≤ lB'.toInt ∧ lB'.toInt ≤ 2400) ∧ (0 ≤ l1'.toInt ∧ l1'.toInt ≤ 300) ∧ (0 ≤ l2'.toInt ∧ l2'.toInt ≤ 300) ∧ (0 ≤ l3'.toInt ∧ l3'.toInt ≤ 300)) (va_A [(oR, .inr (9, [.ref oH, .ref oK, .ref n1, .ref n2, .ref n3, .ref r1, .ref r2, .ref r3, .ref r4, .ref r5, .ref r6, .int lR])), (r1, .inl (cI, 258, .inl fR1)), (r2, .inl (cI, 258, .inl fR2)), (r3, .inl (cI, 774, .inl fR3)), (n1, .inr (5, [.ref a1, .int l1])), (a1, .inl (cI, 300, .inl f1)), (n2, .inr (5, [.ref a2, .int l2])), (a2, .inl (cI, 300, .inl f2)), (n3, .inr (5, [.ref a3, .int l3])), (a3, .inl (cI, 300, .inl f3)), (oH, .inr (4, [.ref oP, .ref h1, .ref h2, .int lH])), (h1, .inl (cI, 6, .inl fH1)), (h2, .inl (cI, 6, .inl fH2)), (oP, .inr (7, [.ref oC, .ref nB, .int ft])), (nB, .inr (5, [.ref aB, .int lB])), (aB, .inl (cI, 2400, .inl fB)), (oC, .inr (2, [.ref o4, .ref o5])), (o4, .inr (10, [.ref a41, .ref a42, .ref a43, .int l4])), (a41, .inl (cI, 256, .inl f41)), (a42, .inl (cI, 512, .inl f42)), (a43, .inl (cI, 512, .inl f43)), (o5, .inr (10, [.ref a51, .ref a52, .ref a53, .int l5])), (a51, .inl (cI, 256, .inl f51)), (a52, .inl (cI, 512, .inl f52)), (a53, .inl (cI, 512, .inl f53)), (oK, .inr (3, [.ref k1, .ref k2, .int lK])), (k1, .inl (cI, 1024, .inl fK1)), (k2, .inl (cI, 1024, .inl fK2)), (nx, .inr (5, [.ref ax, .int lx])), (ax, .inl (cI, 300, .inl fx))] sz)) 0 0 (va_A [(oR, .inr (9, [.ref oH, .ref oK, .ref n1, .ref n2, .ref n3, .ref r1, .ref r2, .ref r3, .ref r4, .ref r5, .ref r6, .int lR])), (r1, .inl (cI, 258, .inl fR1)), (r2, .inl (cI, 258, .inl fR2)), (r3, .inl (cI, 774, .inl fR3)), (n1, .inr (5, [.ref a1, .int l1])), (a1, .inl (cI, 300, .inl f1)), (n2, .inr (5, [.ref a2, .int l2])), (a2, .inl (cI, 300, .inl f2)), (n3, .inr (5, [.ref a3, .int l3])), (a3, .inl (cI, 300, .inl f3)), (oH, .inr (4, [.ref oP, .ref h1, .ref h2, .int lH])), (h1, .inl (cI, 6, .inl fH1)), (h2, .inl (cI, 6, .inl fH2)), (oP, .inr (7, [.ref oC, .ref nB, .int ft])), (nB, .inr (5, [.ref aB, .int lB])), (aB, .inl (cI, 2400, .inl fB)), (oC, .inr (2, [.ref o4, .ref o5])), (o4, .inr (10, [.ref a41, .ref a42, .ref a43, .int l4])), (a41, .inl (cI, 256, .inl f41)), (a42, .inl (cI, 512, .inl f42)), (a43, .inl (cI, 512, .inl f43)), (o5, .inr (10, [.ref a51, .ref a52, .ref a53, .int l5])), (a51, .inl (cI, 256, .inl f51)), (a52, .inl (cI, 512, .inl f52)), (a53, .inl (cI, 512, .inl f53)), (oK, .inr (3, [.ref k1, .ref k2, .int lK])), (k1, .inl (cI, 1024, .inl fK1)), (k2, .inl (cI, 1024, .inl fK2)), (nx, .inr (5, [.ref ax, .int lx])), (ax, .inl (cI, 300, .inl fx))] sz) := by
  refine Met.ofW (cc := cX9_find) (maxL := 9) (ret := none) (by decide) rfl ?_
  intro p e s m args below meth c s₁ B hml hv
  obtain ⟨rfl, hsz, hP, hK, hD0, hN52⟩ := hv
  have hx := B.exec
  have hb := B.bytes
  have hr := B.returns
  have hts := atoms_spec (ws := wsX9_find) B.pre
  have hown : s.vm.findClass RX9 = some m.cls := findClass_of_methodNamed B.named
  have hlocks := B.notSynchronized
  have in_X9 : ∀ w ∈ wsX90, w ∈ wsX9_find := fun _ h => List.mem_cons_of_mem _ (List.mem_append_left _ (List.mem_append_left _ (List.mem_append_left _ (List.mem_append_left _ (List.mem_append_left _ (List.mem_append_left _ (List.mem_append_right _ (h))))))))
  subst hsz
  have hD := hD0.self (sz := s.heap.size)
  generalize hAe : va_A [(oR, .inr (9, [.ref oH, .ref oK, .ref n1, .ref n2, .ref n3, .ref r1, .ref r2, .ref r3, .ref r4, .ref r5, .ref r6, .int lR])), (r1, .inl (cI, 258, .inl fR1)), (r2, .inl (cI, 258, .inl fR2)), (r3, .inl (cI, 774, .inl fR3)), (n1, .inr (5, [.ref a1, .int l1])), (a1, .inl (cI, 300, .inl f1)), (n2, .inr (5, [.ref a2, .int l2])), (a2, .inl (cI, 300, .inl f2)), (n3, .inr (5, [.ref a3, .int l3])), (a3, .inl (cI, 300, .inl f3)), (oH, .inr (4, [.ref oP, .ref h1, .ref h2, .int lH])), (h1, .inl (cI, 6, .inl fH1)), (h2, .inl (cI, 6, .inl fH2)), (oP, .inr (7, [.ref oC, .ref nB, .int ft])), (nB, .inr (5, [.ref aB, .int lB])), (aB, .inl (cI, 2400, .inl fB)), (oC, .inr (2, [.ref o4, .ref o5])), (o4, .inr (10, [.ref a41, .ref a42, .ref a43, .int l4])), (a41, .inl (cI, 256, .inl f41)), (a42, .inl (cI, 512, .inl f42)), (a43, .inl (cI, 512, .inl f43)), (o5, .inr (10, [.ref a51, .ref a52, .ref a53, .int l5])), (a51, .inl (cI, 256, .inl f51)), (a52, .inl (cI, 512, .inl f52)), (a53, .inl (cI, 512, .inl f53)), (oK, .inr (3, [.ref k1, .ref k2, .int lK])), (k1, .inl (cI, 1024, .inl fK1)), (k2, .inl (cI, 1024, .inl fK2)), (nx, .inr (5, [.ref ax, .int lx])), (ax, .inl (cI, 300, .inl fx))] s.heap.size = A at hD ⊢
  have hA : ∀ q : Nat, s.heap.size ≤ q → A q := fun q h => by rw [← hAe]; exact Or.inr h
  have hS : va_S A s.heap s.heap [] := va_S.rf
  have hP : va_P (dC, dI) vwCl [(oR, .inr (9, [.ref oH, .ref oK, .ref n1, .ref n2, .ref n3, .ref r1, .ref r2, .ref r3, .ref r4, .ref r5, .ref r6, .int lR])), (r1, .inl (cI, 258, .inl fR1)), (r2, .inl (cI, 258, .inl fR2)), (r3, .inl (cI, 774, .inl fR3)), (n1, .inr (5, [.ref a1, .int l1])), (a1, .inl (cI, 300, .inl f1)), (n2, .inr (5, [.ref a2, .int l2])), (a2, .inl (cI, 300, .inl f2)), (n3, .inr (5, [.ref a3, .int l3])), (a3, .inl (cI, 300, .inl f3)), (oH, .inr (4, [.ref oP, .ref h1, .ref h2, .int lH])), (h1, .inl (cI, 6, .inl fH1)), (h2, .inl (cI, 6, .inl fH2)), (oP, .inr (7, [.ref oC, .ref nB, .int ft])), (nB, .inr (5, [.ref aB, .int lB])), (aB, .inl (cI, 2400, .inl fB)), (oC, .inr (2, [.ref o4, .ref o5])), (o4, .inr (10, [.ref a41, .ref a42, .ref a43, .int l4])), (a41, .inl (cI, 256, .inl f41)), (a42, .inl (cI, 512, .inl f42)), (a43, .inl (cI, 512, .inl f43)), (o5, .inr (10, [.ref a51, .ref a52, .ref a53, .int l5])), (a51, .inl (cI, 256, .inl f51)), (a52, .inl (cI, 512, .inl f52)), (a53, .inl (cI, 512, .inl f53)), (oK, .inr (3, [.ref k1, .ref k2, .int lK])), (k1, .inl (cI, 1024, .inl fK1)), (k2, .inl (cI, 1024, .inl fK2)), (nx, .inr (5, [.ref ax, .int lx])), (ax, .inl (cI, 300, .inl fx))] s.heap := hP
  have hl := lv_entry ([.ref oR, .int n, .ref nx]) (n := 9) (Nat.le_of_ble_eq_true rfl)
  rw [lg_entry_eq]
  generalize (lg_sl ([.ref oR, .int n, .ref nx]) ++ List.replicate (9 - (lg_sl ([.ref oR, .int n, .ref nx])).length) Slot.unset).toArray = ls at hl ⊢
  have hl : lv_has ls 9 [(0, .ref oR), (1, .int n), (2, .ref nx)] := hl
  obtain ⟨QQ, hQQ⟩ : ∃ QQ : Array Value → State → Outcome → State → Prop, QQ = va_Qv (fun (_ : Unit) => True) (fun _ t => ∃ (ft' : Int32) (lB' : Int32) (fB' : Nat → Int32) (l1' : Int32) (f1' : Nat → Int32) (l2' : Int32) (f2' : Nat → Int32) (l3' : Int32) (f3' : Nat → Int32) (fR1' : Nat → Int32) (fR2' : Nat → Int32) (fR3' : Nat → Int32), va_P (dC, dI) vwCl [(oR, .inr (9, [.ref oH, .ref oK, .ref n1, .ref n2, .ref n3, .ref r1, .ref r2, .ref r3, .ref r4, .ref r5, .ref r6, .int lR])), (r1, .inl (cI, 258, .inl fR1')), (r2, .inl (cI, 258, .inl fR2')), (r3, .inl (cI, 774, .inl fR3')), (n1, .inr (5, [.ref a1, .int l1'])), (a1, .inl (cI, 300, .inl f1')), (n2, .inr (5, [.ref a2, .int l2'])), (a2, .inl (cI, 300, .inl f2')), (n3, .inr (5, [.ref a3, .int l3'])), (a3, .inl (cI, 300, .inl f3')), (oH, .inr (4, [.ref oP, .ref h1, .ref h2, .int lH])), (h1, .inl (cI, 6, .inl fH1)), (h2, .inl (cI, 6, .inl fH2)), (oP, .inr (7, [.ref oC, .ref nB, .int ft'])), (nB, .inr (5, [.ref aB, .int lB'])), (aB, .inl (cI, 2400, .inl fB')), (oC, .inr (2, [.ref o4, .ref o5])), (o4, .inr (10, [.ref a41, .ref a42, .ref a43, .int l4])), (a41, .inl (cI, 256, .inl f41)), (a42, .inl (cI, 512, .inl f42)), (a43, .inl (cI, 512, .inl f43)), (o5, .inr (10, [.ref a51, .ref a52, .ref a53, .int l5])), (a51, .inl (cI, 256, .inl f51)), (a52, .inl (cI, 512, .inl f52)), (a53, .inl (cI, 512, .inl f53)), (oK, .inr (3, [.ref k1, .ref k2, .int lK])), (k1, .inl (cI, 1024, .inl fK1)), (k2, .inl (cI, 1024, .inl fK2)), (nx, .inr (5, [.ref ax, .int lx])), (ax, .inl (cI, 300, .inl fx))] t.heap ∧ va_D A [(oR, .inr (9, [.ref oH, .ref oK, .ref n1, .ref n2, .ref n3, .ref r1, .ref r2, .ref r3, .ref r4, .ref r5, .ref r6, .int lR])), (r1, .inl (cI, 258, .inl fR1')), (r2, .inl (cI, 258, .inl fR2')), (r3, .inl (cI, 774, .inl fR3')), (n1, .inr (5, [.ref a1, .int l1'])), (a1, .inl (cI, 300, .inl f1')), (n2, .inr (5, [.ref a2, .int l2'])), (a2, .inl (cI, 300, .inl f2')), (n3, .inr (5, [.ref a3, .int l3'])), (a3, .inl (cI, 300, .inl f3')), (oH, .inr (4, [.ref oP, .ref h1, .ref h2, .int lH])), (h1, .inl (cI, 6, .inl fH1)), (h2, .inl (cI, 6, .inl fH2)), (oP, .inr (7, [.ref oC, .ref nB, .int ft'])), (nB, .inr (5, [.ref aB, .int lB'])), (aB, .inl (cI, 2400, .inl fB')), (oC, .inr (2, [.ref o4, .ref o5])), (o4, .inr (10, [.ref a41, .ref a42, .ref a43, .int l4])), (a41, .inl (cI, 256, .inl f41)), (a42, .inl (cI, 512, .inl f42)), (a43, .inl (cI, 512, .inl f43)), (o5, .inr (10, [.ref a51, .ref a52, .ref a53, .int l5])), (a51, .inl (cI, 256, .inl f51)), (a52, .inl (cI, 512, .inl f52)), (a53, .inl (cI, 512, .inl f53)), (oK, .inr (3, [.ref k1, .ref k2, .int lK])), (k1, .inl (cI, 1024, .inl fK1)), (k2, .inl (cI, 1024, .inl fK2)), (nx, .inr (5, [.ref ax, .int lx])), (ax, .inl (cI, 300, .inl fx))] ∧ (0 ≤ lB'.toInt ∧ lB'.toInt ≤ 2400) ∧ (0 ≤ l1'.toInt ∧ l1'.toInt ≤ 300) ∧ (0 ≤ l2'.toInt ∧ l2'.toInt ≤ 300) ∧ (0 ≤ l3'.toInt ∧ l3'.toInt ≤ 300)) A := ⟨_, rfl⟩
  rw [← hQQ]
  refine lv_aload_n hx hb dX9_find_0 rfl (lv_at hl 0 rfl) ?_
  refine va_get (D := (dC, dI)) (ci := 9) (v := .ref r1) (C := RX9) (T := TX9) (N := 12) hx hb hts in_X9 hown hK hP 0 rfl rfl 5 (by decide) (hts (.fieldLink RX9 26 "TextMender$Rows" "foundCost" "[I") (List.mem_of_getElem? (i := 1) rfl)) (fun _ h9 => h9) rfl dX9_find_1 ?_
  refine lv_iconst (v := (-1)) hx hb dX9_find_4 (by decide) ?_
  have hPc := hP.sub (ws' := [(r1, .inl (cI, 258, .inl fR1))]) [1] rfl
  have hDc := hD.sub (ws' := [(r1, .inl (cI, 258, .inl fR1))]) [1] (by decide +kernel) rfl
  have hFc := va_free (wc := [(r1, .inl (cI, 258, .inl fR1))]) hD hS hA [1] rfl
  refine va_callv (va_runS (As := [.ref r1, .int (-1)]) (rest := []) ⟨hx, hb, hml, hown, hts⟩ (m_J7_fill_53178 l dC dI cI cS s.heap.size r1 258 fR1 (-1) (by omega)) (va_cwS 2 hts gX9_find_J7_fill_53178 rfl rfl rfl (by decide +kernel) ⟨Nat.le_of_ble_eq_true rfl, Nat.le_of_ble_eq_true rfl⟩) ⟨fun a U g mk q => by obtain ⟨q0, q1, qP, qK, qD⟩ := q; exact ⟨q0, q1, qP, va_K.moved (u := U) (U := U.calling g mk a) (Vm.Alike.refl U.vm) qK, qD⟩, fun U hU hW => ⟨rfl, by rw [hU], by rw [hU]; exact hPc, va_K.moved hW.alike hK, hDc.weaken (fun _ _ _ _ => trivial)⟩⟩ rfl rfl hl.1 rfl (lv_room (Nat.le_of_ble_eq_true rfl)) dX9_find_5 ⟨Nat.le_of_ble_eq_true rfl, Nat.le_of_ble_eq_true rfl⟩) hS (fun q _ h => hFc q h) hFc (fun u t H1 locs ht hvm hw hB hz1 hk1 hSn => ?_)
  obtain ⟨f_1, hP1, hD1, hf1_0⟩ := hB
  rw [ht] at hP1
  obtain ⟨hPn, hDn⟩ := va_join (wr := [(oR, .inr (9, [.ref oH, .ref oK, .ref n1, .ref n2, .ref n3, .ref r1, .ref r2, .ref r3, .ref r4, .ref r5, .ref r6, .int lR])), (r2, .inl (cI, 258, .inl fR2)), (r3, .inl (cI, 774, .inl fR3)), (n1, .inr (5, [.ref a1, .int l1])), (a1, .inl (cI, 300, .inl f1)), (n2, .inr (5, [.ref a2, .int l2])), (a2, .inl (cI, 300, .inl f2)), (n3, .inr (5, [.ref a3, .int l3])), (a3, .inl (cI, 300, .inl f3)), (oH, .inr (4, [.ref oP, .ref h1, .ref h2, .int lH])), (h1, .inl (cI, 6, .inl fH1)), (h2, .inl (cI, 6, .inl fH2)), (oP, .inr (7, [.ref oC, .ref nB, .int ft])), (nB, .inr (5, [.ref aB, .int lB])), (aB, .inl (cI, 2400, .inl fB)), (oC, .inr (2, [.ref o4, .ref o5])), (o4, .inr (10, [.ref a41, .ref a42, .ref a43, .int l4])), (a41, .inl (cI, 256, .inl f41)), (a42, .inl (cI, 512, .inl f42)), (a43, .inl (cI, 512, .inl f43)), (o5, .inr (10, [.ref a51, .ref a52, .ref a53, .int l5])), (a51, .inl (cI, 256, .inl f51)), (a52, .inl (cI, 512, .inl f52)), (a53, .inl (cI, 512, .inl f53)), (oK, .inr (3, [.ref k1, .ref k2, .int lK])), (k1, .inl (cI, 1024, .inl fK1)), (k2, .inl (cI, 1024, .inl fK2)), (nx, .inr (5, [.ref ax, .int lx])), (ax, .inl (cI, 300, .inl fx))]) (w1 := [(r1, .inl (cI, 258, .inl f_1))]) hP hD [1] [0, 2, 3, 4, 5, 6, 7, 8, 9, 10, 11, 12, 13, 14, 15, 16, 17, 18, 19, 20, 21, 22, 23, 24, 25, 26, 27, 28, 29] rfl rfl (by decide +kernel) (by decide +kernel) hk1 hFc hP1 hD1
  clear hP hD hS hPc hDc hFc hk1 hz1 hvm ht hP1 hD1
  generalize H1 = H at hPn hSn ⊢
  have hP : va_P (dC, dI) vwCl [(oR, .inr (9, [.ref oH, .ref oK, .ref n1, .ref n2, .ref n3, .ref r1, .ref r2, .ref r3, .ref r4, .ref r5, .ref r6, .int lR])), (r2, .inl (cI, 258, .inl fR2)), (r3, .inl (cI, 774, .inl fR3)), (n1, .inr (5, [.ref a1, .int l1])), (a1, .inl (cI, 300, .inl f1)), (n2, .inr (5, [.ref a2, .int l2])), (a2, .inl (cI, 300, .inl f2)), (n3, .inr (5, [.ref a3, .int l3])), (a3, .inl (cI, 300, .inl f3)), (oH, .inr (4, [.ref oP, .ref h1, .ref h2, .int lH])), (h1, .inl (cI, 6, .inl fH1)), (h2, .inl (cI, 6, .inl fH2)), (oP, .inr (7, [.ref oC, .ref nB, .int ft])), (nB, .inr (5, [.ref aB, .int lB])), (aB, .inl (cI, 2400, .inl fB)), (oC, .inr (2, [.ref o4, .ref o5])), (o4, .inr (10, [.ref a41, .ref a42, .ref a43, .int l4])), (a41, .inl (cI, 256, .inl f41)), (a42, .inl (cI, 512, .inl f42)), (a43, .inl (cI, 512, .inl f43)), (o5, .inr (10, [.ref a51, .ref a52, .ref a53, .int l5])), (a51, .inl (cI, 256, .inl f51)), (a52, .inl (cI, 512, .inl f52)), (a53, .inl (cI, 512, .inl f53)), (oK, .inr (3, [.ref k1, .ref k2, .int lK])), (k1, .inl (cI, 1024, .inl fK1)), (k2, .inl (cI, 1024, .inl fK2)), (nx, .inr (5, [.ref ax, .int lx])), (ax, .inl (cI, 300, .inl fx)), (r1, .inl (cI, 258, .inl f_1))] H := hPn
  have hD : va_D A [(oR, .inr (9, [.ref oH, .ref oK, .ref n1, .ref n2, .ref n3, .ref r1, .ref r2, .ref r3, .ref r4, .ref r5, .ref r6, .int lR])), (r2, .inl (cI, 258, .inl fR2)), (r3, .inl (cI, 774, .inl fR3)), (n1, .inr (5, [.ref a1, .int l1])), (a1, .inl (cI, 300, .inl f1)), (n2, .inr (5, [.ref a2, .int l2])), (a2, .inl (cI, 300, .inl f2)), (n3, .inr (5, [.ref a3, .int l3])), (a3, .inl (cI, 300, .inl f3)), (oH, .inr (4, [.ref oP, .ref h1, .ref h2, .int lH])), (h1, .inl (cI, 6, .inl fH1)), (h2, .inl (cI, 6, .inl fH2)), (oP, .inr (7, [.ref oC, .ref nB, .int ft])), (nB, .inr (5, [.ref aB, .int lB])), (aB, .inl (cI, 2400, .inl fB)), (oC, .inr (2, [.ref o4, .ref o5])), (o4, .inr (10, [.ref a41, .ref a42, .ref a43, .int l4])), (a41, .inl (cI, 256, .inl f41)), (a42, .inl (cI, 512, .inl f42)), (a43, .inl (cI, 512, .inl f43)), (o5, .inr (10, [.ref a51, .ref a52, .ref a53, .int l5])), (a51, .inl (cI, 256, .inl f51)), (a52, .inl (cI, 512, .inl f52)), (a53, .inl (cI, 512, .inl f53)), (oK, .inr (3, [.ref k1, .ref k2, .int lK])), (k1, .inl (cI, 1024, .inl fK1)), (k2, .inl (cI, 1024, .inl fK2)), (nx, .inr (5, [.ref ax, .int lx])), (ax, .inl (cI, 300, .inl fx)), (r1, .inl (cI, 258, .inl f_1))] := hDn
  have hS := hSn
  clear hPn hDn hSn
  refine lv_aload_n hx hb dX9_find_8 rfl (lv_at hl 0 rfl) ?_
  refine va_get (D := (dC, dI)) (ci := 9) (v := .ref oH) (C := RX9) (T := TX9) (N := 12) hx hb hts in_X9 hown hK hP 0 rfl rfl 0 (by decide) (hts (.fieldLink RX9 45 "TextMender$Rows" "harms" "LTextMender$Harms;") (List.mem_of_getElem? (i := 2) rfl)) (fun _ h9 => h9) rfl dX9_find_9 ?_
  have hPc := hP.sub (ws' := [(oH, .inr (4, [.ref oP, .ref h1, .ref h2, .int lH]))]) [9] rfl
  have hDc := hD.sub (ws' := [(oH, .inr (4, [.ref oP, .ref h1, .ref h2, .int lH]))]) [9] (by decide +kernel) rfl
  have hFc := va_free (wc := [(oH, .inr (4, [.ref oP, .ref h1, .ref h2, .int lH]))]) hD hS hA [9] rfl
  refine va_calli (va_runV (As := []) (rest := []) ⟨hx, hb, hml, hown, hts⟩ (m_X4_length l dC dI cI cS H.size oH oP h1 h2 lH (g_lH)) (cwV 0 hts gX9_find_X4_length rfl rfl rfl (by decide +kernel) ⟨Nat.le_of_ble_eq_true rfl, Nat.le_of_ble_eq_true rfl⟩) ⟨fun a U g mk q => by obtain ⟨q0, q1, qP, qK, qD⟩ := q; exact ⟨q0, q1, qP, va_K.moved (u := U) (U := U.calling g mk a) (Vm.Alike.refl U.vm) qK, qD⟩, va_recv hK hPc (ci := 4) (q0 := 0) rfl rfl, fun U hU hW => ⟨rfl, by rw [hU], by rw [hU]; exact hPc, va_K.moved hW.alike hK, hDc.weaken (fun _ _ _ _ => trivial)⟩⟩ rfl rfl hl.1 rfl (lv_room (Nat.le_of_ble_eq_true rfl)) dX9_find_12 ⟨Nat.le_of_ble_eq_true rfl, Nat.le_of_ble_eq_true rfl⟩) hS (fun q _ h => hFc q h) hFc (fun r_2 u t H1 locs ht hvm hw hB hz1 hk1 hSn => ?_)
  subst hw
  obtain ⟨hP1, hD1, hf2_0⟩ := hB
  rw [ht] at hP1
  obtain ⟨hPn, hDn⟩ := va_join (wr := [(oR, .inr (9, [.ref oH, .ref oK, .ref n1, .ref n2, .ref n3, .ref r1, .ref r2, .ref r3, .ref r4, .ref r5, .ref r6, .int lR])), (r2, .inl (cI, 258, .inl fR2)), (r3, .inl (cI, 774, .inl fR3)), (n1, .inr (5, [.ref a1, .int l1])), (a1, .inl (cI, 300, .inl f1)), (n2, .inr (5, [.ref a2, .int l2])), (a2, .inl (cI, 300, .inl f2)), (n3, .inr (5, [.ref a3, .int l3])), (a3, .inl (cI, 300, .inl f3)), (h1, .inl (cI, 6, .inl fH1)), (h2, .inl (cI, 6, .inl fH2)), (oP, .inr (7, [.ref oC, .ref nB, .int ft])), (nB, .inr (5, [.ref aB, .int lB])), (aB, .inl (cI, 2400, .inl fB)), (oC, .inr (2, [.ref o4, .ref o5])), (o4, .inr (10, [.ref a41, .ref a42, .ref a43, .int l4])), (a41, .inl (cI, 256, .inl f41)), (a42, .inl (cI, 512, .inl f42)), (a43, .inl (cI, 512, .inl f43)), (o5, .inr (10, [.ref a51, .ref a52, .ref a53, .int l5])), (a51, .inl (cI, 256, .inl f51)), (a52, .inl (cI, 512, .inl f52)), (a53, .inl (cI, 512, .inl f53)), (oK, .inr (3, [.ref k1, .ref k2, .int lK])), (k1, .inl (cI, 1024, .inl fK1)), (k2, .inl (cI, 1024, .inl fK2)), (nx, .inr (5, [.ref ax, .int lx])), (ax, .inl (cI, 300, .inl fx)), (r1, .inl (cI, 258, .inl f_1))]) (w1 := [(oH, .inr (4, [.ref oP, .ref h1, .ref h2, .int lH]))]) hP hD [9] [0, 1, 2, 3, 4, 5, 6, 7, 8, 10, 11, 12, 13, 14, 15, 16, 17, 18, 19, 20, 21, 22, 23, 24, 25, 26, 27, 28, 29] rfl rfl (by decide +kernel) (by decide +kernel) hk1 hFc hP1 hD1
  clear hP hD hS hPc hDc hFc hk1 hz1 hvm ht hP1 hD1
  generalize H1 = H at hPn hSn ⊢
  have hP : va_P (dC, dI) vwCl [(oR, .inr (9, [.ref oH, .ref oK, .ref n1, .ref n2, .ref n3, .ref r1, .ref r2, .ref r3, .ref r4, .ref r5, .ref r6, .int lR])), (r2, .inl (cI, 258, .inl fR2)), (r3, .inl (cI, 774, .inl fR3)), (n1, .inr (5, [.ref a1, .int l1])), (a1, .inl (cI, 300, .inl f1)), (n2, .inr (5, [.ref a2, .int l2])), (a2, .inl (cI, 300, .inl f2)), (n3, .inr (5, [.ref a3, .int l3])), (a3, .inl (cI, 300, .inl f3)), (h1, .inl (cI, 6, .inl fH1)), (h2, .inl (cI, 6, .inl fH2)), (oP, .inr (7, [.ref oC, .ref nB, .int ft])), (nB, .inr (5, [.ref aB, .int lB])), (aB, .inl (cI, 2400, .inl fB)), (oC, .inr (2, [.ref o4, .ref o5])), (o4, .inr (10, [.ref a41, .ref a42, .ref a43, .int l4])), (a41, .inl (cI, 256, .inl f41)), (a42, .inl (cI, 512, .inl f42)), (a43, .inl (cI, 512, .inl f43)), (o5, .inr (10, [.ref a51, .ref a52, .ref a53, .int l5])), (a51, .inl (cI, 256, .inl f51)), (a52, .inl (cI, 512, .inl f52)), (a53, .inl (cI, 512, .inl f53)), (oK, .inr (3, [.ref k1, .ref k2, .int lK])), (k1, .inl (cI, 1024, .inl fK1)), (k2, .inl (cI, 1024, .inl fK2)), (nx, .inr (5, [.ref ax, .int lx])), (ax, .inl (cI, 300, .inl fx)), (r1, .inl (cI, 258, .inl f_1)), (oH, .inr (4, [.ref oP, .ref h1, .ref h2, .int lH]))] H := hPn
  have hD : va_D A [(oR, .inr (9, [.ref oH, .ref oK, .ref n1, .ref n2, .ref n3, .ref r1, .ref r2, .ref r3, .ref r4, .ref r5, .ref r6, .int lR])), (r2, .inl (cI, 258, .inl fR2)), (r3, .inl (cI, 774, .inl fR3)), (n1, .inr (5, [.ref a1, .int l1])), (a1, .inl (cI, 300, .inl f1)), (n2, .inr (5, [.ref a2, .int l2])), (a2, .inl (cI, 300, .inl f2)), (n3, .inr (5, [.ref a3, .int l3])), (a3, .inl (cI, 300, .inl f3)), (h1, .inl (cI, 6, .inl fH1)), (h2, .inl (cI, 6, .inl fH2)), (oP, .inr (7, [.ref oC, .ref nB, .int ft])), (nB, .inr (5, [.ref aB, .int lB])), (aB, .inl (cI, 2400, .inl fB)), (oC, .inr (2, [.ref o4, .ref o5])), (o4, .inr (10, [.ref a41, .ref a42, .ref a43, .int l4])), (a41, .inl (cI, 256, .inl f41)), (a42, .inl (cI, 512, .inl f42)), (a43, .inl (cI, 512, .inl f43)), (o5, .inr (10, [.ref a51, .ref a52, .ref a53, .int l5])), (a51, .inl (cI, 256, .inl f51)), (a52, .inl (cI, 512, .inl f52)), (a53, .inl (cI, 512, .inl f53)), (oK, .inr (3, [.ref k1, .ref k2, .int lK])), (k1, .inl (cI, 1024, .inl fK1)), (k2, .inl (cI, 1024, .inl fK2)), (nx, .inr (5, [.ref ax, .int lx])), (ax, .inl (cI, 300, .inl fx)), (r1, .inl (cI, 258, .inl f_1)), (oH, .inr (4, [.ref oP, .ref h1, .ref h2, .int lH]))] := hDn
  have hS := hSn
  clear hPn hDn hSn
  rw [hf2_0]
  refine lv_istore_n (lv' := [(3, .int lH), (0, .ref oR), (1, .int n), (2, .ref nx)]) hx hb dX9_find_15 rfl hl (by decide) rfl (fun ls hl => ?_)
  refine lv_iconst (v := 0) hx hb dX9_find_16 (by decide) ?_
  refine lv_istore (lv' := [(4, .int 0), (3, .int lH), (0, .ref oR), (1, .int n), (2, .ref nx)]) hx hb dX9_find_17 hl (by decide) rfl (fun ls hl => ?_)
  have LOOP_19 : ∀ (k_19 : Nat) (la : Int32) (fta : Int32) (lBa : Int32) (loa : Int32) (lta : Int32) (lha : Int32) (fBa : Nat → Int32) (foa : Nat → Int32) (ft_a : Nat → Int32) (fha : Nat → Int32) (fxa : Nat → Int32) (fya : Nat → Int32) (fza : Nat → Int32) (H : Heap) (locs : List Loc) (ls : Array Slot), MSd (6 - la.toInt : Int) k_19 → (0 ≤ la.toInt ∧ la.toInt ≤ 6) → (0 ≤ lBa.toInt ∧ lBa.toInt ≤ 2400) → (0 ≤ loa.toInt ∧ loa.toInt ≤ 300) → (0 ≤ lta.toInt ∧ lta.toInt ≤ 300) → (0 ≤ lha.toInt ∧ lha.toInt ≤ 300) → va_P (dC, dI) vwCl [(oR, .inr (9, [.ref oH, .ref oK, .ref n1, .ref n2, .ref n3, .ref r1, .ref r2, .ref r3, .ref r4, .ref r5, .ref r6, .int lR])), (r2, .inl (cI, 258, .inl fya)), (r3, .inl (cI, 774, .inl fza)), (n1, .inr (5, [.ref a1, .int loa])), (a1, .inl (cI, 300, .inl foa)), (n2, .inr (5, [.ref a2, .int lta])), (a2, .inl (cI, 300, .inl ft_a)), (n3, .inr (5, [.ref a3, .int lha])), (a3, .inl (cI, 300, .inl fha)), (h1, .inl (cI, 6, .inl fH1)), (h2, .inl (cI, 6, .inl fH2)), (oP, .inr (7, [.ref oC, .ref nB, .int fta])), (nB, .inr (5, [.ref aB, .int lBa])), (aB, .inl (cI, 2400, .inl fBa)), (oC, .inr (2, [.ref o4, .ref o5])), (o4, .inr (10, [.ref a41, .ref a42, .ref a43, .int l4])), (a41, .inl (cI, 256, .inl f41)), (a42, .inl (cI, 512, .inl f42)), (a43, .inl (cI, 512, .inl f43)), (o5, .inr (10, [.ref a51, .ref a52, .ref a53, .int l5])), (a51, .inl (cI, 256, .inl f51)), (a52, .inl (cI, 512, .inl f52)), (a53, .inl (cI, 512, .inl f53)), (oK, .inr (3, [.ref k1, .ref k2, .int lK])), (k1, .inl (cI, 1024, .inl fK1)), (k2, .inl (cI, 1024, .inl fK2)), (nx, .inr (5, [.ref ax, .int lx])), (ax, .inl (cI, 300, .inl fx)), (r1, .inl (cI, 258, .inl fxa)), (oH, .inr (4, [.ref oP, .ref h1, .ref h2, .int lH]))] H → va_D A [(oR, .inr (9, [.ref oH, .ref oK, .ref n1, .ref n2, .ref n3, .ref r1, .ref r2, .ref r3, .ref r4, .ref r5, .ref r6, .int lR])), (r2, .inl (cI, 258, .inl fya)), (r3, .inl (cI, 774, .inl fza)), (n1, .inr (5, [.ref a1, .int loa])), (a1, .inl (cI, 300, .inl foa)), (n2, .inr (5, [.ref a2, .int lta])), (a2, .inl (cI, 300, .inl ft_a)), (n3, .inr (5, [.ref a3, .int lha])), (a3, .inl (cI, 300, .inl fha)), (h1, .inl (cI, 6, .inl fH1)), (h2, .inl (cI, 6, .inl fH2)), (oP, .inr (7, [.ref oC, .ref nB, .int fta])), (nB, .inr (5, [.ref aB, .int lBa])), (aB, .inl (cI, 2400, .inl fBa)), (oC, .inr (2, [.ref o4, .ref o5])), (o4, .inr (10, [.ref a41, .ref a42, .ref a43, .int l4])), (a41, .inl (cI, 256, .inl f41)), (a42, .inl (cI, 512, .inl f42)), (a43, .inl (cI, 512, .inl f43)), (o5, .inr (10, [.ref a51, .ref a52, .ref a53, .int l5])), (a51, .inl (cI, 256, .inl f51)), (a52, .inl (cI, 512, .inl f52)), (a53, .inl (cI, 512, .inl f53)), (oK, .inr (3, [.ref k1, .ref k2, .int lK])), (k1, .inl (cI, 1024, .inl fK1)), (k2, .inl (cI, 1024, .inl fK2)), (nx, .inr (5, [.ref ax, .int lx])), (ax, .inl (cI, 300, .inl fx)), (r1, .inl (cI, 258, .inl fxa)), (oH, .inr (4, [.ref oP, .ref h1, .ref h2, .int lH]))] → va_S A s.heap H locs → lv_has ls 9 [(4, .int la), (3, .int lH), (0, .ref oR), (1, .int n), (2, .ref nx)] → W p l e (headSpec wsX9_find ({ frames := 6, cells := 0, slots := 0, locals := 147 } : Room)).room s m ([.ref oR, .int n, .ref nx] : List Value).toArray below meth c H locs 0 0 (MQ below QQ ([.ref oR, .int n, .ref nx] : List Value).toArray s 0 0 A) (F0 m 19 ls []) := by
    clear hP hD hS hl
    intro k_19
    induction k_19 with
    | zero =>
      intro la fta lBa loa lta lha fBa foa ft_a fha fxa fya fza H locs ls hm_19 g_la g_lBa g_loa g_lta g_lha hP hD hS hl
      exact ms_0 hm_19
    | succ k_19 ih_19 =>
      intro la fta lBa loa lta lha fBa foa ft_a fha fxa fya fza H locs ls hm_19 g_la g_lBa g_loa g_lta g_lha hP hD hS hl
      refine lv_iload hx hb dX9_find_19 (lv_at hl 0 rfl) ?_
      refine lv_iload_n hx hb dX9_find_21 rfl (lv_at hl 1 rfl) ?_
      refine lv_icmp_ge (tgt := 228) hx hb dX9_find_22 (by decide) (fun c_3 => ?_) (fun c_3 => ?_)
      · have tc_3 : lH.toInt ≤ la.toInt := v_le c_3
        have hP9 := hP.sub (ws' := [(oR, .inr (9, [.ref oH, .ref oK, .ref n1, .ref n2, .ref n3, .ref r1, .ref r2, .ref r3, .ref r4, .ref r5, .ref r6, .int lR])), (r1, .inl (cI, 258, .inl fxa)), (r2, .inl (cI, 258, .inl fya)), (r3, .inl (cI, 774, .inl fza)), (n1, .inr (5, [.ref a1, .int loa])), (a1, .inl (cI, 300, .inl foa)), (n2, .inr (5, [.ref a2, .int lta])), (a2, .inl (cI, 300, .inl ft_a)), (n3, .inr (5, [.ref a3, .int lha])), (a3, .inl (cI, 300, .inl fha)), (oH, .inr (4, [.ref oP, .ref h1, .ref h2, .int lH])), (h1, .inl (cI, 6, .inl fH1)), (h2, .inl (cI, 6, .inl fH2)), (oP, .inr (7, [.ref oC, .ref nB, .int fta])), (nB, .inr (5, [.ref aB, .int lBa])), (aB, .inl (cI, 2400, .inl fBa)), (oC, .inr (2, [.ref o4, .ref o5])), (o4, .inr (10, [.ref a41, .ref a42, .ref a43, .int l4])), (a41, .inl (cI, 256, .inl f41)), (a42, .inl (cI, 512, .inl f42)), (a43, .inl (cI, 512, .inl f43)), (o5, .inr (10, [.ref a51, .ref a52, .ref a53, .int l5])), (a51, .inl (cI, 256, .inl f51)), (a52, .inl (cI, 512, .inl f52)), (a53, .inl (cI, 512, .inl f53)), (oK, .inr (3, [.ref k1, .ref k2, .int lK])), (k1, .inl (cI, 1024, .inl fK1)), (k2, .inl (cI, 1024, .inl fK2)), (nx, .inr (5, [.ref ax, .int lx])), (ax, .inl (cI, 300, .inl fx))]) [0, 28, 1, 2, 3, 4, 5, 6, 7, 8, 29, 9, 10, 11, 12, 13, 14, 15, 16, 17, 18, 19, 20, 21, 22, 23, 24, 25, 26, 27] rfl
        have hD9 := hD.sub (ws' := [(oR, .inr (9, [.ref oH, .ref oK, .ref n1, .ref n2, .ref n3, .ref r1, .ref r2, .ref r3, .ref r4, .ref r5, .ref r6, .int lR])), (r1, .inl (cI, 258, .inl fxa)), (r2, .inl (cI, 258, .inl fya)), (r3, .inl (cI, 774, .inl fza)), (n1, .inr (5, [.ref a1, .int loa])), (a1, .inl (cI, 300, .inl foa)), (n2, .inr (5, [.ref a2, .int lta])), (a2, .inl (cI, 300, .inl ft_a)), (n3, .inr (5, [.ref a3, .int lha])), (a3, .inl (cI, 300, .inl fha)), (oH, .inr (4, [.ref oP, .ref h1, .ref h2, .int lH])), (h1, .inl (cI, 6, .inl fH1)), (h2, .inl (cI, 6, .inl fH2)), (oP, .inr (7, [.ref oC, .ref nB, .int fta])), (nB, .inr (5, [.ref aB, .int lBa])), (aB, .inl (cI, 2400, .inl fBa)), (oC, .inr (2, [.ref o4, .ref o5])), (o4, .inr (10, [.ref a41, .ref a42, .ref a43, .int l4])), (a41, .inl (cI, 256, .inl f41)), (a42, .inl (cI, 512, .inl f42)), (a43, .inl (cI, 512, .inl f43)), (o5, .inr (10, [.ref a51, .ref a52, .ref a53, .int l5])), (a51, .inl (cI, 256, .inl f51)), (a52, .inl (cI, 512, .inl f52)), (a53, .inl (cI, 512, .inl f53)), (oK, .inr (3, [.ref k1, .ref k2, .int lK])), (k1, .inl (cI, 1024, .inl fK1)), (k2, .inl (cI, 1024, .inl fK2)), (nx, .inr (5, [.ref ax, .int lx])), (ax, .inl (cI, 300, .inl fx))]) [0, 28, 1, 2, 3, 4, 5, 6, 7, 8, 29, 9, 10, 11, 12, 13, 14, 15, 16, 17, 18, 19, 20, 21, 22, 23, 24, 25, 26, 27] (by decide +kernel) rfl
        rw [hQQ]
        exact W.vret hx hb hr (fun t ht hW => ⟨⟨(), rfl, trivial, ⟨fta, lBa, fBa, loa, foa, lta, ft_a, lha, fha, fxa, fya, fza, by rw [ht]; exact hP9, hD9, g_lBa, g_loa, g_lta, g_lha⟩⟩, hS.F ht⟩) hS.2.2 dX9_find_228
      · have tc_3 : la.toInt < lH.toInt := v_nle c_3
        refine lv_aload_n hx hb dX9_find_25 rfl (lv_at hl 2 rfl) ?_
        refine va_get (D := (dC, dI)) (ci := 9) (v := .ref oH) (C := RX9) (T := TX9) (N := 12) hx hb hts in_X9 hown hK hP 0 rfl rfl 0 (by decide) (hts (.fieldLink RX9 45 "TextMender$Rows" "harms" "LTextMender$Harms;") (List.mem_of_getElem? (i := 2) rfl)) (fun _ h9 => h9) rfl dX9_find_26 ?_
        refine lv_iload hx hb dX9_find_29 (lv_at hl 0 rfl) ?_
        refine lv_aload_n hx hb dX9_find_31 rfl (lv_at hl 4 rfl) ?_
        refine lv_aload_n hx hb dX9_find_32 rfl (lv_at hl 2 rfl) ?_
        refine va_get (D := (dC, dI)) (ci := 9) (v := .ref n1) (C := RX9) (T := TX9) (N := 12) hx hb hts in_X9 hown hK hP 0 rfl rfl 2 (by decide) (hts (.fieldLink RX9 14 "TextMender$Rows" "one" "LTextMender$Numbers;") (List.mem_of_getElem? (i := 3) rfl)) (fun _ h9 => h9) rfl dX9_find_33 ?_
        have hPc := hP.sub (ws' := [(oH, .inr (4, [.ref oP, .ref h1, .ref h2, .int lH])), (h1, .inl (cI, 6, .inl fH1)), (h2, .inl (cI, 6, .inl fH2)), (oP, .inr (7, [.ref oC, .ref nB, .int fta])), (nB, .inr (5, [.ref aB, .int lBa])), (aB, .inl (cI, 2400, .inl fBa)), (nx, .inr (5, [.ref ax, .int lx])), (ax, .inl (cI, 300, .inl fx)), (n1, .inr (5, [.ref a1, .int loa])), (a1, .inl (cI, 300, .inl foa)), (oC, .inr (2, [.ref o4, .ref o5])), (o4, .inr (10, [.ref a41, .ref a42, .ref a43, .int l4])), (a41, .inl (cI, 256, .inl f41)), (a42, .inl (cI, 512, .inl f42)), (a43, .inl (cI, 512, .inl f43)), (o5, .inr (10, [.ref a51, .ref a52, .ref a53, .int l5])), (a51, .inl (cI, 256, .inl f51)), (a52, .inl (cI, 512, .inl f52)), (a53, .inl (cI, 512, .inl f53))]) [29, 9, 10, 11, 12, 13, 26, 27, 3, 4, 14, 15, 16, 17, 18, 19, 20, 21, 22] rfl
        have hDc := hD.sub (ws' := [(oH, .inr (4, [.ref oP, .ref h1, .ref h2, .int lH])), (h1, .inl (cI, 6, .inl fH1)), (h2, .inl (cI, 6, .inl fH2)), (oP, .inr (7, [.ref oC, .ref nB, .int fta])), (nB, .inr (5, [.ref aB, .int lBa])), (aB, .inl (cI, 2400, .inl fBa)), (nx, .inr (5, [.ref ax, .int lx])), (ax, .inl (cI, 300, .inl fx)), (n1, .inr (5, [.ref a1, .int loa])), (a1, .inl (cI, 300, .inl foa)), (oC, .inr (2, [.ref o4, .ref o5])), (o4, .inr (10, [.ref a41, .ref a42, .ref a43, .int l4])), (a41, .inl (cI, 256, .inl f41)), (a42, .inl (cI, 512, .inl f42)), (a43, .inl (cI, 512, .inl f43)), (o5, .inr (10, [.ref a51, .ref a52, .ref a53, .int l5])), (a51, .inl (cI, 256, .inl f51)), (a52, .inl (cI, 512, .inl f52)), (a53, .inl (cI, 512, .inl f53))]) [29, 9, 10, 11, 12, 13, 26, 27, 3, 4, 14, 15, 16, 17, 18, 19, 20, 21, 22] (by decide +kernel) rfl
        have hFc := va_free (wc := [(oH, .inr (4, [.ref oP, .ref h1, .ref h2, .int lH])), (h1, .inl (cI, 6, .inl fH1)), (h2, .inl (cI, 6, .inl fH2)), (oP, .inr (7, [.ref oC, .ref nB, .int fta])), (nB, .inr (5, [.ref aB, .int lBa])), (aB, .inl (cI, 2400, .inl fBa)), (nx, .inr (5, [.ref ax, .int lx])), (ax, .inl (cI, 300, .inl fx)), (n1, .inr (5, [.ref a1, .int loa])), (a1, .inl (cI, 300, .inl foa)), (oC, .inr (2, [.ref o4, .ref o5])), (o4, .inr (10, [.ref a41, .ref a42, .ref a43, .int l4])), (a41, .inl (cI, 256, .inl f41)), (a42, .inl (cI, 512, .inl f42)), (a43, .inl (cI, 512, .inl f43)), (o5, .inr (10, [.ref a51, .ref a52, .ref a53, .int l5])), (a51, .inl (cI, 256, .inl f51)), (a52, .inl (cI, 512, .inl f52)), (a53, .inl (cI, 512, .inl f53))]) hD hS hA [29, 9, 10, 11, 12, 13, 26, 27, 3, 4, 14, 15, 16, 17, 18, 19, 20, 21, 22] rfl
        refine va_calli (va_runV (As := [.int la, .ref nx, .ref n1]) (rest := []) ⟨hx, hb, hml, hown, hts⟩ (m_X4_takeOff l dC dI cI cS H.size oH nx n1 oP h1 h2 oC nB aB ax a1 o4 o5 a41 a42 a43 a51 a52 a53 lH fH1 fH2 fta lBa fBa lx fx loa foa l4 f41 f42 f43 l5 f51 f52 f53 la (g_lH) (g_lBa) (g_lx) (g_loa)) (cwV 3 hts gX9_find_X4_takeOff rfl rfl rfl (by decide +kernel) ⟨Nat.le_of_ble_eq_true rfl, Nat.le_of_ble_eq_true rfl⟩) ⟨fun a U g mk q => by obtain ⟨q0, q1, qP, qK, qD, qN0⟩ := q; exact ⟨q0, q1, qP, va_K.moved (u := U) (U := U.calling g mk a) (Vm.Alike.refl U.vm) qK, qD, va_Nw.same rfl rfl qN0⟩, va_recv hK hPc (ci := 4) (q0 := 0) rfl rfl, fun U hU hW => ⟨rfl, by rw [hU], by rw [hU]; exact hPc, va_K.moved hW.alike hK, hDc.weaken (fun _ _ _ _ => trivial), va_Nw.warmM hW hN52⟩⟩ rfl rfl hl.1 rfl (lv_room (Nat.le_of_ble_eq_true rfl)) dX9_find_36 ⟨Nat.le_of_ble_eq_true rfl, Nat.le_of_ble_eq_true rfl⟩) hS (fun q _ h => hFc q h) hFc (fun r_4 u t H1 locs ht hvm hw hB hz1 hk1 hSn => ?_)
        subst hw
        obtain ⟨ft_4, lB_4, fB_4, ld_4, fd_4, hP1, hD1, hf4_0, hf4_1, hf4_2⟩ := hB
        rw [ht] at hP1
        obtain ⟨hPn, hDn⟩ := va_join (wr := [(oR, .inr (9, [.ref oH, .ref oK, .ref n1, .ref n2, .ref n3, .ref r1, .ref r2, .ref r3, .ref r4, .ref r5, .ref r6, .int lR])), (r2, .inl (cI, 258, .inl fya)), (r3, .inl (cI, 774, .inl fza)), (n2, .inr (5, [.ref a2, .int lta])), (a2, .inl (cI, 300, .inl ft_a)), (n3, .inr (5, [.ref a3, .int lha])), (a3, .inl (cI, 300, .inl fha)), (oK, .inr (3, [.ref k1, .ref k2, .int lK])), (k1, .inl (cI, 1024, .inl fK1)), (k2, .inl (cI, 1024, .inl fK2)), (r1, .inl (cI, 258, .inl fxa))]) (w1 := [(oH, .inr (4, [.ref oP, .ref h1, .ref h2, .int lH])), (h1, .inl (cI, 6, .inl fH1)), (h2, .inl (cI, 6, .inl fH2)), (oP, .inr (7, [.ref oC, .ref nB, .int ft_4])), (nB, .inr (5, [.ref aB, .int lB_4])), (aB, .inl (cI, 2400, .inl fB_4)), (nx, .inr (5, [.ref ax, .int lx])), (ax, .inl (cI, 300, .inl fx)), (n1, .inr (5, [.ref a1, .int ld_4])), (a1, .inl (cI, 300, .inl fd_4)), (oC, .inr (2, [.ref o4, .ref o5])), (o4, .inr (10, [.ref a41, .ref a42, .ref a43, .int l4])), (a41, .inl (cI, 256, .inl f41)), (a42, .inl (cI, 512, .inl f42)), (a43, .inl (cI, 512, .inl f43)), (o5, .inr (10, [.ref a51, .ref a52, .ref a53, .int l5])), (a51, .inl (cI, 256, .inl f51)), (a52, .inl (cI, 512, .inl f52)), (a53, .inl (cI, 512, .inl f53))]) hP hD [29, 9, 10, 11, 12, 13, 26, 27, 3, 4, 14, 15, 16, 17, 18, 19, 20, 21, 22] [0, 1, 2, 5, 6, 7, 8, 23, 24, 25, 28] rfl rfl (by decide +kernel) (by decide +kernel) hk1 hFc hP1 hD1
        clear hP hD hS hPc hDc hFc hk1 hz1 hvm ht hP1 hD1
        generalize H1 = H at hPn hSn ⊢
        have hP : va_P (dC, dI) vwCl [(oR, .inr (9, [.ref oH, .ref oK, .ref n1, .ref n2, .ref n3, .ref r1, .ref r2, .ref r3, .ref r4, .ref r5, .ref r6, .int lR])), (r2, .inl (cI, 258, .inl fya)), (r3, .inl (cI, 774, .inl fza)), (n2, .inr (5, [.ref a2, .int lta])), (a2, .inl (cI, 300, .inl ft_a)), (n3, .inr (5, [.ref a3, .int lha])), (a3, .inl (cI, 300, .inl fha)), (oK, .inr (3, [.ref k1, .ref k2, .int lK])), (k1, .inl (cI, 1024, .inl fK1)), (k2, .inl (cI, 1024, .inl fK2)), (r1, .inl (cI, 258, .inl fxa)), (oH, .inr (4, [.ref oP, .ref h1, .ref h2, .int lH])), (h1, .inl (cI, 6, .inl fH1)), (h2, .inl (cI, 6, .inl fH2)), (oP, .inr (7, [.ref oC, .ref nB, .int ft_4])), (nB, .inr (5, [.ref aB, .int lB_4])), (aB, .inl (cI, 2400, .inl fB_4)), (nx, .inr (5, [.ref ax, .int lx])), (ax, .inl (cI, 300, .inl fx)), (n1, .inr (5, [.ref a1, .int ld_4])), (a1, .inl (cI, 300, .inl fd_4)), (oC, .inr (2, [.ref o4, .ref o5])), (o4, .inr (10, [.ref a41, .ref a42, .ref a43, .int l4])), (a41, .inl (cI, 256, .inl f41)), (a42, .inl (cI, 512, .inl f42)), (a43, .inl (cI, 512, .inl f43)), (o5, .inr (10, [.ref a51, .ref a52, .ref a53, .int l5])), (a51, .inl (cI, 256, .inl f51)), (a52, .inl (cI, 512, .inl f52)), (a53, .inl (cI, 512, .inl f53))] H := hPn
        have hD : va_D A [(oR, .inr (9, [.ref oH, .ref oK, .ref n1, .ref n2, .ref n3, .ref r1, .ref r2, .ref r3, .ref r4, .ref r5, .ref r6, .int lR])), (r2, .inl (cI, 258, .inl fya)), (r3, .inl (cI, 774, .inl fza)), (n2, .inr (5, [.ref a2, .int lta])), (a2, .inl (cI, 300, .inl ft_a)), (n3, .inr (5, [.ref a3, .int lha])), (a3, .inl (cI, 300, .inl fha)), (oK, .inr (3, [.ref k1, .ref k2, .int lK])), (k1, .inl (cI, 1024, .inl fK1)), (k2, .inl (cI, 1024, .inl fK2)), (r1, .inl (cI, 258, .inl fxa)), (oH, .inr (4, [.ref oP, .ref h1, .ref h2, .int lH])), (h1, .inl (cI, 6, .inl fH1)), (h2, .inl (cI, 6, .inl fH2)), (oP, .inr (7, [.ref oC, .ref nB, .int ft_4])), (nB, .inr (5, [.ref aB, .int lB_4])), (aB, .inl (cI, 2400, .inl fB_4)), (nx, .inr (5, [.ref ax, .int lx])), (ax, .inl (cI, 300, .inl fx)), (n1, .inr (5, [.ref a1, .int ld_4])), (a1, .inl (cI, 300, .inl fd_4)), (oC, .inr (2, [.ref o4, .ref o5])), (o4, .inr (10, [.ref a41, .ref a42, .ref a43, .int l4])), (a41, .inl (cI, 256, .inl f41)), (a42, .inl (cI, 512, .inl f42)), (a43, .inl (cI, 512, .inl f43)), (o5, .inr (10, [.ref a51, .ref a52, .ref a53, .int l5])), (a51, .inl (cI, 256, .inl f51)), (a52, .inl (cI, 512, .inl f52)), (a53, .inl (cI, 512, .inl f53))] := hDn
        have hS := hSn
        clear hPn hDn hSn
        refine lv_if_ne (tgt := 45) hx hb dX9_find_39 (by decide) (fun c_5 => ?_) (fun c_5 => ?_)
        · have tc_5 : ¬ r_4.toInt = 0 := v_ne c_5
          refine lv_aload_n hx hb dX9_find_45 rfl (lv_at hl 2 rfl) ?_
          refine lv_iload hx hb dX9_find_46 (lv_at hl 0 rfl) ?_
          refine lv_aload_n hx hb dX9_find_48 rfl (lv_at hl 2 rfl) ?_
          refine va_get (D := (dC, dI)) (ci := 9) (v := .ref n1) (C := RX9) (T := TX9) (N := 12) hx hb hts in_X9 hown hK hP 0 rfl rfl 2 (by decide) (hts (.fieldLink RX9 14 "TextMender$Rows" "one" "LTextMender$Numbers;") (List.mem_of_getElem? (i := 3) rfl)) (fun _ h9 => h9) rfl dX9_find_49 ?_
          have hPc := hP.sub (ws' := [(oR, .inr (9, [.ref oH, .ref oK, .ref n1, .ref n2, .ref n3, .ref r1, .ref r2, .ref r3, .ref r4, .ref r5, .ref r6, .int lR])), (r1, .inl (cI, 258, .inl fxa)), (r2, .inl (cI, 258, .inl fya)), (oK, .inr (3, [.ref k1, .ref k2, .int lK])), (k1, .inl (cI, 1024, .inl fK1)), (k2, .inl (cI, 1024, .inl fK2)), (n1, .inr (5, [.ref a1, .int ld_4])), (a1, .inl (cI, 300, .inl fd_4))]) [0, 10, 1, 7, 8, 9, 19, 20] rfl
          have hDc := hD.sub (ws' := [(oR, .inr (9, [.ref oH, .ref oK, .ref n1, .ref n2, .ref n3, .ref r1, .ref r2, .ref r3, .ref r4, .ref r5, .ref r6, .int lR])), (r1, .inl (cI, 258, .inl fxa)), (r2, .inl (cI, 258, .inl fya)), (oK, .inr (3, [.ref k1, .ref k2, .int lK])), (k1, .inl (cI, 1024, .inl fK1)), (k2, .inl (cI, 1024, .inl fK2)), (n1, .inr (5, [.ref a1, .int ld_4])), (a1, .inl (cI, 300, .inl fd_4))]) [0, 10, 1, 7, 8, 9, 19, 20] (by decide +kernel) rfl
          have hFc := va_free (wc := [(oR, .inr (9, [.ref oH, .ref oK, .ref n1, .ref n2, .ref n3, .ref r1, .ref r2, .ref r3, .ref r4, .ref r5, .ref r6, .int lR])), (r1, .inl (cI, 258, .inl fxa)), (r2, .inl (cI, 258, .inl fya)), (oK, .inr (3, [.ref k1, .ref k2, .int lK])), (k1, .inl (cI, 1024, .inl fK1)), (k2, .inl (cI, 1024, .inl fK2)), (n1, .inr (5, [.ref a1, .int ld_4])), (a1, .inl (cI, 300, .inl fd_4))]) hD hS hA [0, 10, 1, 7, 8, 9, 19, 20] rfl
          refine va_callv (va_runV (As := [.int la, .ref n1]) (rest := []) ⟨hx, hb, hml, hown, hts⟩ (m_X9_note l dC dI cI cS H.size oR n1 oH oK n1 n2 n3 r1 r2 r3 r4 r5 r6 k1 k2 a1 lR fxa fya lK fK1 fK2 ld_4 fd_4 la (g_lR) (g_lK) (hf4_1)) (cwV 2 hts gX9_find_X9_note rfl rfl rfl (by decide +kernel) ⟨Nat.le_of_ble_eq_true rfl, Nat.le_of_ble_eq_true rfl⟩) ⟨fun a U g mk q => by obtain ⟨q0, q1, qP, qK, qD⟩ := q; exact ⟨q0, q1, qP, va_K.moved (u := U) (U := U.calling g mk a) (Vm.Alike.refl U.vm) qK, qD⟩, va_recv hK hPc (ci := 9) (q0 := 0) rfl rfl, fun U hU hW => ⟨rfl, by rw [hU], by rw [hU]; exact hPc, va_K.moved hW.alike hK, hDc.weaken (fun _ _ _ _ => trivial)⟩⟩ rfl rfl hl.1 rfl (lv_room (Nat.le_of_ble_eq_true rfl)) dX9_find_52 ⟨Nat.le_of_ble_eq_true rfl, Nat.le_of_ble_eq_true rfl⟩) hS (fun q _ h => hFc q h) hFc (fun u t H1 locs ht hvm hw hB hz1 hk1 hSn => ?_)
          obtain ⟨fR1_6, fR2_6, hP1, hD1⟩ := hB
          rw [ht] at hP1
          obtain ⟨hPn, hDn⟩ := va_join (wr := [(r3, .inl (cI, 774, .inl fza)), (n2, .inr (5, [.ref a2, .int lta])), (a2, .inl (cI, 300, .inl ft_a)), (n3, .inr (5, [.ref a3, .int lha])), (a3, .inl (cI, 300, .inl fha)), (oH, .inr (4, [.ref oP, .ref h1, .ref h2, .int lH])), (h1, .inl (cI, 6, .inl fH1)), (h2, .inl (cI, 6, .inl fH2)), (oP, .inr (7, [.ref oC, .ref nB, .int ft_4])), (nB, .inr (5, [.ref aB, .int lB_4])), (aB, .inl (cI, 2400, .inl fB_4)), (nx, .inr (5, [.ref ax, .int lx])), (ax, .inl (cI, 300, .inl fx)), (oC, .inr (2, [.ref o4, .ref o5])), (o4, .inr (10, [.ref a41, .ref a42, .ref a43, .int l4])), (a41, .inl (cI, 256, .inl f41)), (a42, .inl (cI, 512, .inl f42)), (a43, .inl (cI, 512, .inl f43)), (o5, .inr (10, [.ref a51, .ref a52, .ref a53, .int l5])), (a51, .inl (cI, 256, .inl f51)), (a52, .inl (cI, 512, .inl f52)), (a53, .inl (cI, 512, .inl f53))]) (w1 := [(oR, .inr (9, [.ref oH, .ref oK, .ref n1, .ref n2, .ref n3, .ref r1, .ref r2, .ref r3, .ref r4, .ref r5, .ref r6, .int lR])), (r1, .inl (cI, 258, .inl fR1_6)), (r2, .inl (cI, 258, .inl fR2_6)), (oK, .inr (3, [.ref k1, .ref k2, .int lK])), (k1, .inl (cI, 1024, .inl fK1)), (k2, .inl (cI, 1024, .inl fK2)), (n1, .inr (5, [.ref a1, .int ld_4])), (a1, .inl (cI, 300, .inl fd_4))]) hP hD [0, 10, 1, 7, 8, 9, 19, 20] [2, 3, 4, 5, 6, 11, 12, 13, 14, 15, 16, 17, 18, 21, 22, 23, 24, 25, 26, 27, 28, 29] rfl rfl (by decide +kernel) (by decide +kernel) hk1 hFc hP1 hD1
          clear hP hD hS hPc hDc hFc hk1 hz1 hvm ht hP1 hD1
          generalize H1 = H at hPn hSn ⊢
          have hP : va_P (dC, dI) vwCl [(r3, .inl (cI, 774, .inl fza)), (n2, .inr (5, [.ref a2, .int lta])), (a2, .inl (cI, 300, .inl ft_a)), (n3, .inr (5, [.ref a3, .int lha])), (a3, .inl (cI, 300, .inl fha)), (oH, .inr (4, [.ref oP, .ref h1, .ref h2, .int lH])), (h1, .inl (cI, 6, .inl fH1)), (h2, .inl (cI, 6, .inl fH2)), (oP, .inr (7, [.ref oC, .ref nB, .int ft_4])), (nB, .inr (5, [.ref aB, .int lB_4])), (aB, .inl (cI, 2400, .inl fB_4)), (nx, .inr (5, [.ref ax, .int lx])), (ax, .inl (cI, 300, .inl fx)), (oC, .inr (2, [.ref o4, .ref o5])), (o4, .inr (10, [.ref a41, .ref a42, .ref a43, .int l4])), (a41, .inl (cI, 256, .inl f41)), (a42, .inl (cI, 512, .inl f42)), (a43, .inl (cI, 512, .inl f43)), (o5, .inr (10, [.ref a51, .ref a52, .ref a53, .int l5])), (a51, .inl (cI, 256, .inl f51)), (a52, .inl (cI, 512, .inl f52)), (a53, .inl (cI, 512, .inl f53)), (oR, .inr (9, [.ref oH, .ref oK, .ref n1, .ref n2, .ref n3, .ref r1, .ref r2, .ref r3, .ref r4, .ref r5, .ref r6, .int lR])), (r1, .inl (cI, 258, .inl fR1_6)), (r2, .inl (cI, 258, .inl fR2_6)), (oK, .inr (3, [.ref k1, .ref k2, .int lK])), (k1, .inl (cI, 1024, .inl fK1)), (k2, .inl (cI, 1024, .inl fK2)), (n1, .inr (5, [.ref a1, .int ld_4])), (a1, .inl (cI, 300, .inl fd_4))] H := hPn
          have hD : va_D A [(r3, .inl (cI, 774, .inl fza)), (n2, .inr (5, [.ref a2, .int lta])), (a2, .inl (cI, 300, .inl ft_a)), (n3, .inr (5, [.ref a3, .int lha])), (a3, .inl (cI, 300, .inl fha)), (oH, .inr (4, [.ref oP, .ref h1, .ref h2, .int lH])), (h1, .inl (cI, 6, .inl fH1)), (h2, .inl (cI, 6, .inl fH2)), (oP, .inr (7, [.ref oC, .ref nB, .int ft_4])), (nB, .inr (5, [.ref aB, .int lB_4])), (aB, .inl (cI, 2400, .inl fB_4)), (nx, .inr (5, [.ref ax, .int lx])), (ax, .inl (cI, 300, .inl fx)), (oC, .inr (2, [.ref o4, .ref o5])), (o4, .inr (10, [.ref a41, .ref a42, .ref a43, .int l4])), (a41, .inl (cI, 256, .inl f41)), (a42, .inl (cI, 512, .inl f42)), (a43, .inl (cI, 512, .inl f43)), (o5, .inr (10, [.ref a51, .ref a52, .ref a53, .int l5])), (a51, .inl (cI, 256, .inl f51)), (a52, .inl (cI, 512, .inl f52)), (a53, .inl (cI, 512, .inl f53)), (oR, .inr (9, [.ref oH, .ref oK, .ref n1, .ref n2, .ref n3, .ref r1, .ref r2, .ref r3, .ref r4, .ref r5, .ref r6, .int lR])), (r1, .inl (cI, 258, .inl fR1_6)), (r2, .inl (cI, 258, .inl fR2_6)), (oK, .inr (3, [.ref k1, .ref k2, .int lK])), (k1, .inl (cI, 1024, .inl fK1)), (k2, .inl (cI, 1024, .inl fK2)), (n1, .inr (5, [.ref a1, .int ld_4])), (a1, .inl (cI, 300, .inl fd_4))] := hDn
          have hS := hSn
          clear hPn hDn hSn
          refine lv_aload_n hx hb dX9_find_55 rfl (lv_at hl 2 rfl) ?_
          refine lv_iload hx hb dX9_find_56 (lv_at hl 0 rfl) ?_
          refine lv_iload hx hb dX9_find_58 (lv_at hl 0 rfl) ?_
          refine lv_iconst (v := (-1)) hx hb dX9_find_60 (by decide) ?_
          refine lv_iconst (v := (-1)) hx hb dX9_find_61 (by decide) ?_
          have hPc := hP.sub (ws' := [(oR, .inr (9, [.ref oH, .ref oK, .ref n1, .ref n2, .ref n3, .ref r1, .ref r2, .ref r3, .ref r4, .ref r5, .ref r6, .int lR])), (r3, .inl (cI, 774, .inl fza))]) [22, 0] rfl
          have hDc := hD.sub (ws' := [(oR, .inr (9, [.ref oH, .ref oK, .ref n1, .ref n2, .ref n3, .ref r1, .ref r2, .ref r3, .ref r4, .ref r5, .ref r6, .int lR])), (r3, .inl (cI, 774, .inl fza))]) [22, 0] (by decide +kernel) rfl
          have hFc := va_free (wc := [(oR, .inr (9, [.ref oH, .ref oK, .ref n1, .ref n2, .ref n3, .ref r1, .ref r2, .ref r3, .ref r4, .ref r5, .ref r6, .int lR])), (r3, .inl (cI, 774, .inl fza))]) hD hS hA [22, 0] rfl
          refine va_callv (va_runV (As := [.int la, .int la, .int (-1), .int (-1)]) (rest := []) ⟨hx, hb, hml, hown, hts⟩ (m_X9_nameHarms l dC dI cI cS H.size oR oH oK n1 n2 n3 r1 r2 r3 r4 r5 r6 lR fza la la (-1) (-1) (g_lR)) (cwV 4 hts gX9_find_X9_nameHarms rfl rfl rfl (by decide +kernel) ⟨Nat.le_of_ble_eq_true rfl, Nat.le_of_ble_eq_true rfl⟩) ⟨fun a U g mk q => by obtain ⟨q0, q1, qP, qK, qD⟩ := q; exact ⟨q0, q1, qP, va_K.moved (u := U) (U := U.calling g mk a) (Vm.Alike.refl U.vm) qK, qD⟩, va_recv hK hPc (ci := 9) (q0 := 0) rfl rfl, fun U hU hW => ⟨rfl, by rw [hU], by rw [hU]; exact hPc, va_K.moved hW.alike hK, hDc.weaken (fun _ _ _ _ => trivial)⟩⟩ rfl rfl hl.1 rfl (lv_room (Nat.le_of_ble_eq_true rfl)) dX9_find_62 ⟨Nat.le_of_ble_eq_true rfl, Nat.le_of_ble_eq_true rfl⟩) hS (fun q _ h => hFc q h) hFc (fun u t H1 locs ht hvm hw hB hz1 hk1 hSn => ?_)
          obtain ⟨fR3_7, hP1, hD1⟩ := hB
          rw [ht] at hP1
          obtain ⟨hPn, hDn⟩ := va_join (wr := [(n2, .inr (5, [.ref a2, .int lta])), (a2, .inl (cI, 300, .inl ft_a)), (n3, .inr (5, [.ref a3, .int lha])), (a3, .inl (cI, 300, .inl fha)), (oH, .inr (4, [.ref oP, .ref h1, .ref h2, .int lH])), (h1, .inl (cI, 6, .inl fH1)), (h2, .inl (cI, 6, .inl fH2)), (oP, .inr (7, [.ref oC, .ref nB, .int ft_4])), (nB, .inr (5, [.ref aB, .int lB_4])), (aB, .inl (cI, 2400, .inl fB_4)), (nx, .inr (5, [.ref ax, .int lx])), (ax, .inl (cI, 300, .inl fx)), (oC, .inr (2, [.ref o4, .ref o5])), (o4, .inr (10, [.ref a41, .ref a42, .ref a43, .int l4])), (a41, .inl (cI, 256, .inl f41)), (a42, .inl (cI, 512, .inl f42)), (a43, .inl (cI, 512, .inl f43)), (o5, .inr (10, [.ref a51, .ref a52, .ref a53, .int l5])), (a51, .inl (cI, 256, .inl f51)), (a52, .inl (cI, 512, .inl f52)), (a53, .inl (cI, 512, .inl f53)), (r1, .inl (cI, 258, .inl fR1_6)), (r2, .inl (cI, 258, .inl fR2_6)), (oK, .inr (3, [.ref k1, .ref k2, .int lK])), (k1, .inl (cI, 1024, .inl fK1)), (k2, .inl (cI, 1024, .inl fK2)), (n1, .inr (5, [.ref a1, .int ld_4])), (a1, .inl (cI, 300, .inl fd_4))]) (w1 := [(oR, .inr (9, [.ref oH, .ref oK, .ref n1, .ref n2, .ref n3, .ref r1, .ref r2, .ref r3, .ref r4, .ref r5, .ref r6, .int lR])), (r3, .inl (cI, 774, .inl fR3_7))]) hP hD [22, 0] [1, 2, 3, 4, 5, 6, 7, 8, 9, 10, 11, 12, 13, 14, 15, 16, 17, 18, 19, 20, 21, 23, 24, 25, 26, 27, 28, 29] rfl rfl (by decide +kernel) (by decide +kernel) hk1 hFc hP1 hD1
          clear hP hD hS hPc hDc hFc hk1 hz1 hvm ht hP1 hD1
          generalize H1 = H at hPn hSn ⊢
          have hP : va_P (dC, dI) vwCl [(n2, .inr (5, [.ref a2, .int lta])), (a2, .inl (cI, 300, .inl ft_a)), (n3, .inr (5, [.ref a3, .int lha])), (a3, .inl (cI, 300, .inl fha)), (oH, .inr (4, [.ref oP, .ref h1, .ref h2, .int lH])), (h1, .inl (cI, 6, .inl fH1)), (h2, .inl (cI, 6, .inl fH2)), (oP, .inr (7, [.ref oC, .ref nB, .int ft_4])), (nB, .inr (5, [.ref aB, .int lB_4])), (aB, .inl (cI, 2400, .inl fB_4)), (nx, .inr (5, [.ref ax, .int lx])), (ax, .inl (cI, 300, .inl fx)), (oC, .inr (2, [.ref o4, .ref o5])), (o4, .inr (10, [.ref a41, .ref a42, .ref a43, .int l4])), (a41, .inl (cI, 256, .inl f41)), (a42, .inl (cI, 512, .inl f42)), (a43, .inl (cI, 512, .inl f43)), (o5, .inr (10, [.ref a51, .ref a52, .ref a53, .int l5])), (a51, .inl (cI, 256, .inl f51)), (a52, .inl (cI, 512, .inl f52)), (a53, .inl (cI, 512, .inl f53)), (r1, .inl (cI, 258, .inl fR1_6)), (r2, .inl (cI, 258, .inl fR2_6)), (oK, .inr (3, [.ref k1, .ref k2, .int lK])), (k1, .inl (cI, 1024, .inl fK1)), (k2, .inl (cI, 1024, .inl fK2)), (n1, .inr (5, [.ref a1, .int ld_4])), (a1, .inl (cI, 300, .inl fd_4)), (oR, .inr (9, [.ref oH, .ref oK, .ref n1, .ref n2, .ref n3, .ref r1, .ref r2, .ref r3, .ref r4, .ref r5, .ref r6, .int lR])), (r3, .inl (cI, 774, .inl fR3_7))] H := hPn
          have hD : va_D A [(n2, .inr (5, [.ref a2, .int lta])), (a2, .inl (cI, 300, .inl ft_a)), (n3, .inr (5, [.ref a3, .int lha])), (a3, .inl (cI, 300, .inl fha)), (oH, .inr (4, [.ref oP, .ref h1, .ref h2, .int lH])), (h1, .inl (cI, 6, .inl fH1)), (h2, .inl (cI, 6, .inl fH2)), (oP, .inr (7, [.ref oC, .ref nB, .int ft_4])), (nB, .inr (5, [.ref aB, .int lB_4])), (aB, .inl (cI, 2400, .inl fB_4)), (nx, .inr (5, [.ref ax, .int lx])), (ax, .inl (cI, 300, .inl fx)), (oC, .inr (2, [.ref o4, .ref o5])), (o4, .inr (10, [.ref a41, .ref a42, .ref a43, .int l4])), (a41, .inl (cI, 256, .inl f41)), (a42, .inl (cI, 512, .inl f42)), (a43, .inl (cI, 512, .inl f43)), (o5, .inr (10, [.ref a51, .ref a52, .ref a53, .int l5])), (a51, .inl (cI, 256, .inl f51)), (a52, .inl (cI, 512, .inl f52)), (a53, .inl (cI, 512, .inl f53)), (r1, .inl (cI, 258, .inl fR1_6)), (r2, .inl (cI, 258, .inl fR2_6)), (oK, .inr (3, [.ref k1, .ref k2, .int lK])), (k1, .inl (cI, 1024, .inl fK1)), (k2, .inl (cI, 1024, .inl fK2)), (n1, .inr (5, [.ref a1, .int ld_4])), (a1, .inl (cI, 300, .inl fd_4)), (oR, .inr (9, [.ref oH, .ref oK, .ref n1, .ref n2, .ref n3, .ref r1, .ref r2, .ref r3, .ref r4, .ref r5, .ref r6, .int lR])), (r3, .inl (cI, 774, .inl fR3_7))] := hDn
          have hS := hSn
          clear hPn hDn hSn
          refine lv_iconst (v := 0) hx hb dX9_find_65 (by decide) ?_
          refine lv_istore (lv' := [(5, .int 0), (4, .int la), (3, .int lH), (0, .ref oR), (1, .int n), (2, .ref nx)]) hx hb dX9_find_66 hl (by decide) rfl (fun ls hl => ?_)
          have LOOP_68 : ∀ (k_68 : Nat) (mi : Int32) (ftb : Int32) (lBb : Int32) (lob : Int32) (ltb : Int32) (lhb : Int32) (fBb : Nat → Int32) (fob : Nat → Int32) (ft_b : Nat → Int32) (fhb : Nat → Int32) (fxb : Nat → Int32) (fyb : Nat → Int32) (fzb : Nat → Int32) (H : Heap) (locs : List Loc) (ls : Array Slot), MSd (6 - mi.toInt : Int) k_68 → (0 ≤ mi.toInt ∧ mi.toInt ≤ 6) → (0 ≤ lBb.toInt ∧ lBb.toInt ≤ 2400) → (0 ≤ lob.toInt ∧ lob.toInt ≤ 300) → (0 ≤ ltb.toInt ∧ ltb.toInt ≤ 300) → (0 ≤ lhb.toInt ∧ lhb.toInt ≤ 300) → va_P (dC, dI) vwCl [(n2, .inr (5, [.ref a2, .int ltb])), (a2, .inl (cI, 300, .inl ft_b)), (n3, .inr (5, [.ref a3, .int lhb])), (a3, .inl (cI, 300, .inl fhb)), (oH, .inr (4, [.ref oP, .ref h1, .ref h2, .int lH])), (h1, .inl (cI, 6, .inl fH1)), (h2, .inl (cI, 6, .inl fH2)), (oP, .inr (7, [.ref oC, .ref nB, .int ftb])), (nB, .inr (5, [.ref aB, .int lBb])), (aB, .inl (cI, 2400, .inl fBb)), (nx, .inr (5, [.ref ax, .int lx])), (ax, .inl (cI, 300, .inl fx)), (oC, .inr (2, [.ref o4, .ref o5])), (o4, .inr (10, [.ref a41, .ref a42, .ref a43, .int l4])), (a41, .inl (cI, 256, .inl f41)), (a42, .inl (cI, 512, .inl f42)), (a43, .inl (cI, 512, .inl f43)), (o5, .inr (10, [.ref a51, .ref a52, .ref a53, .int l5])), (a51, .inl (cI, 256, .inl f51)), (a52, .inl (cI, 512, .inl f52)), (a53, .inl (cI, 512, .inl f53)), (r1, .inl (cI, 258, .inl fxb)), (r2, .inl (cI, 258, .inl fyb)), (oK, .inr (3, [.ref k1, .ref k2, .int lK])), (k1, .inl (cI, 1024, .inl fK1)), (k2, .inl (cI, 1024, .inl fK2)), (n1, .inr (5, [.ref a1, .int lob])), (a1, .inl (cI, 300, .inl fob)), (oR, .inr (9, [.ref oH, .ref oK, .ref n1, .ref n2, .ref n3, .ref r1, .ref r2, .ref r3, .ref r4, .ref r5, .ref r6, .int lR])), (r3, .inl (cI, 774, .inl fzb))] H → va_D A [(n2, .inr (5, [.ref a2, .int ltb])), (a2, .inl (cI, 300, .inl ft_b)), (n3, .inr (5, [.ref a3, .int lhb])), (a3, .inl (cI, 300, .inl fhb)), (oH, .inr (4, [.ref oP, .ref h1, .ref h2, .int lH])), (h1, .inl (cI, 6, .inl fH1)), (h2, .inl (cI, 6, .inl fH2)), (oP, .inr (7, [.ref oC, .ref nB, .int ftb])), (nB, .inr (5, [.ref aB, .int lBb])), (aB, .inl (cI, 2400, .inl fBb)), (nx, .inr (5, [.ref ax, .int lx])), (ax, .inl (cI, 300, .inl fx)), (oC, .inr (2, [.ref o4, .ref o5])), (o4, .inr (10, [.ref a41, .ref a42, .ref a43, .int l4])), (a41, .inl (cI, 256, .inl f41)), (a42, .inl (cI, 512, .inl f42)), (a43, .inl (cI, 512, .inl f43)), (o5, .inr (10, [.ref a51, .ref a52, .ref a53, .int l5])), (a51, .inl (cI, 256, .inl f51)), (a52, .inl (cI, 512, .inl f52)), (a53, .inl (cI, 512, .inl f53)), (r1, .inl (cI, 258, .inl fxb)), (r2, .inl (cI, 258, .inl fyb)), (oK, .inr (3, [.ref k1, .ref k2, .int lK])), (k1, .inl (cI, 1024, .inl fK1)), (k2, .inl (cI, 1024, .inl fK2)), (n1, .inr (5, [.ref a1, .int lob])), (a1, .inl (cI, 300, .inl fob)), (oR, .inr (9, [.ref oH, .ref oK, .ref n1, .ref n2, .ref n3, .ref r1, .ref r2, .ref r3, .ref r4, .ref r5, .ref r6, .int lR])), (r3, .inl (cI, 774, .inl fzb))] → va_S A s.heap H locs → lv_has ls 9 [(5, .int mi), (4, .int la), (3, .int lH), (0, .ref oR), (1, .int n), (2, .ref nx)] → W p l e (headSpec wsX9_find ({ frames := 6, cells := 0, slots := 0, locals := 147 } : Room)).room s m ([.ref oR, .int n, .ref nx] : List Value).toArray below meth c H locs 0 0 (MQ below QQ ([.ref oR, .int n, .ref nx] : List Value).toArray s 0 0 A) (F0 m 68 ls []) := by
            clear hP hD hS hl
            intro k_68
            induction k_68 with
            | zero =>
              intro mi ftb lBb lob ltb lhb fBb fob ft_b fhb fxb fyb fzb H locs ls hm_68 g_mi g_lBb g_lob g_ltb g_lhb hP hD hS hl
              exact ms_0 hm_68
            | succ k_68 ih_68 =>
              intro mi ftb lBb lob ltb lhb fBb fob ft_b fhb fxb fyb fzb H locs ls hm_68 g_mi g_lBb g_lob g_ltb g_lhb hP hD hS hl
              refine lv_iload_n hx hb dX9_find_68 rfl (lv_at hl 4 rfl) ?_
              refine lv_iconst (v := 1) hx hb dX9_find_69 (by decide) ?_
              refine lv_icmp_le (tgt := 222) hx hb dX9_find_70 (by decide) (fun c_8 => ?_) (fun c_8 => ?_)
              · have tc_8 : n.toInt ≤ 1 := v_le c_8
                obtain ⟨x_9, ex_9⟩ : ∃ y : Int32, y = la + 1 := ⟨_, rfl⟩
                have tx_9 : x_9.toInt = la.toInt + 1 := v_add ex_9 (by show -2147483648 ≤ la.toInt + 1; omega) (by show la.toInt + 1 < 2147483648; omega)
                refine lv_iinc (v := x_9) (lv' := [(4, .int x_9), (5, .int mi), (3, .int lH), (0, .ref oR), (1, .int n), (2, .ref nx)]) hx hb dX9_find_222 hl (k := 1) rfl (by rw [ex_9]; rfl) (by decide) rfl (fun ls hl => ?_)
                refine lv_goto (tgt := 19) hx hb dX9_find_225 (by decide) ?_
                exact ih_19 x_9 ftb lBb lob ltb lhb fBb fob ft_b fhb fxb fyb fzb _ _ _ (ms_lt hm_19 (by show ((6 - x_9.toInt : Int)) < 6 - la.toInt; omega) (by show (0 : Int) < 6 - la.toInt; omega)) (by show 0 ≤ x_9.toInt ∧ x_9.toInt ≤ 6; omega) (g_lBb) (g_lob) (g_ltb) (g_lhb) (hP.sub [28, 22, 29, 26, 27, 0, 1, 2, 3, 5, 6, 7, 8, 9, 12, 13, 14, 15, 16, 17, 18, 19, 20, 23, 24, 25, 10, 11, 21, 4] rfl) (hD.sub [28, 22, 29, 26, 27, 0, 1, 2, 3, 5, 6, 7, 8, 9, 12, 13, 14, 15, 16, 17, 18, 19, 20, 23, 24, 25, 10, 11, 21, 4] (by decide +kernel) rfl) hS (lv_sub hl [0, 2, 3, 4, 5] rfl)
              · have tc_8 : 1 < n.toInt := v_nle c_8
                refine lv_iload hx hb dX9_find_73 (lv_at hl 0 rfl) ?_
                refine lv_iload_n hx hb dX9_find_75 rfl (lv_at hl 2 rfl) ?_
                refine lv_icmp_ge (tgt := 222) hx hb dX9_find_76 (by decide) (fun c_10 => ?_) (fun c_10 => ?_)
                · have tc_10 : lH.toInt ≤ mi.toInt := v_le c_10
                  obtain ⟨x_11, ex_11⟩ : ∃ y : Int32, y = la + 1 := ⟨_, rfl⟩
                  have tx_11 : x_11.toInt = la.toInt + 1 := v_add ex_11 (by show -2147483648 ≤ la.toInt + 1; omega) (by show la.toInt + 1 < 2147483648; omega)
                  refine lv_iinc (v := x_11) (lv' := [(4, .int x_11), (5, .int mi), (3, .int lH), (0, .ref oR), (1, .int n), (2, .ref nx)]) hx hb dX9_find_222 hl (k := 1) rfl (by rw [ex_11]; rfl) (by decide) rfl (fun ls hl => ?_)
                  refine lv_goto (tgt := 19) hx hb dX9_find_225 (by decide) ?_
                  exact ih_19 x_11 ftb lBb lob ltb lhb fBb fob ft_b fhb fxb fyb fzb _ _ _ (ms_lt hm_19 (by show ((6 - x_11.toInt : Int)) < 6 - la.toInt; omega) (by show (0 : Int) < 6 - la.toInt; omega)) (by show 0 ≤ x_11.toInt ∧ x_11.toInt ≤ 6; omega) (g_lBb) (g_lob) (g_ltb) (g_lhb) (hP.sub [28, 22, 29, 26, 27, 0, 1, 2, 3, 5, 6, 7, 8, 9, 12, 13, 14, 15, 16, 17, 18, 19, 20, 23, 24, 25, 10, 11, 21, 4] rfl) (hD.sub [28, 22, 29, 26, 27, 0, 1, 2, 3, 5, 6, 7, 8, 9, 12, 13, 14, 15, 16, 17, 18, 19, 20, 23, 24, 25, 10, 11, 21, 4] (by decide +kernel) rfl) hS (lv_sub hl [0, 2, 3, 4, 5] rfl)
                · have tc_10 : mi.toInt < lH.toInt := v_nle c_10
                  refine lv_aload_n hx hb dX9_find_79 rfl (lv_at hl 3 rfl) ?_
                  refine va_get (D := (dC, dI)) (ci := 9) (v := .ref oH) (C := RX9) (T := TX9) (N := 12) hx hb hts in_X9 hown hK hP 28 rfl rfl 0 (by decide) (hts (.fieldLink RX9 45 "TextMender$Rows" "harms" "LTextMender$Harms;") (List.mem_of_getElem? (i := 2) rfl)) (fun _ h9 => h9) rfl dX9_find_80 ?_
                  refine lv_iload hx hb dX9_find_83 (lv_at hl 0 rfl) ?_
                  refine lv_aload_n hx hb dX9_find_85 rfl (lv_at hl 3 rfl) ?_
                  refine va_get (D := (dC, dI)) (ci := 9) (v := .ref n1) (C := RX9) (T := TX9) (N := 12) hx hb hts in_X9 hown hK hP 28 rfl rfl 2 (by decide) (hts (.fieldLink RX9 14 "TextMender$Rows" "one" "LTextMender$Numbers;") (List.mem_of_getElem? (i := 3) rfl)) (fun _ h9 => h9) rfl dX9_find_86 ?_
                  refine lv_aload_n hx hb dX9_find_89 rfl (lv_at hl 3 rfl) ?_
                  refine va_get (D := (dC, dI)) (ci := 9) (v := .ref n2) (C := RX9) (T := TX9) (N := 12) hx hb hts in_X9 hown hK hP 28 rfl rfl 3 (by decide) (hts (.fieldLink RX9 20 "TextMender$Rows" "two" "LTextMender$Numbers;") (List.mem_of_getElem? (i := 4) rfl)) (fun _ h9 => h9) rfl dX9_find_90 ?_
                  have hPc := hP.sub (ws' := [(oH, .inr (4, [.ref oP, .ref h1, .ref h2, .int lH])), (h1, .inl (cI, 6, .inl fH1)), (h2, .inl (cI, 6, .inl fH2)), (oP, .inr (7, [.ref oC, .ref nB, .int ftb])), (nB, .inr (5, [.ref aB, .int lBb])), (aB, .inl (cI, 2400, .inl fBb)), (n1, .inr (5, [.ref a1, .int lob])), (a1, .inl (cI, 300, .inl fob)), (n2, .inr (5, [.ref a2, .int ltb])), (a2, .inl (cI, 300, .inl ft_b)), (oC, .inr (2, [.ref o4, .ref o5])), (o4, .inr (10, [.ref a41, .ref a42, .ref a43, .int l4])), (a41, .inl (cI, 256, .inl f41)), (a42, .inl (cI, 512, .inl f42)), (a43, .inl (cI, 512, .inl f43)), (o5, .inr (10, [.ref a51, .ref a52, .ref a53, .int l5])), (a51, .inl (cI, 256, .inl f51)), (a52, .inl (cI, 512, .inl f52)), (a53, .inl (cI, 512, .inl f53))]) [4, 5, 6, 7, 8, 9, 26, 27, 0, 1, 12, 13, 14, 15, 16, 17, 18, 19, 20] rfl
                  have hDc := hD.sub (ws' := [(oH, .inr (4, [.ref oP, .ref h1, .ref h2, .int lH])), (h1, .inl (cI, 6, .inl fH1)), (h2, .inl (cI, 6, .inl fH2)), (oP, .inr (7, [.ref oC, .ref nB, .int ftb])), (nB, .inr (5, [.ref aB, .int lBb])), (aB, .inl (cI, 2400, .inl fBb)), (n1, .inr (5, [.ref a1, .int lob])), (a1, .inl (cI, 300, .inl fob)), (n2, .inr (5, [.ref a2, .int ltb])), (a2, .inl (cI, 300, .inl ft_b)), (oC, .inr (2, [.ref o4, .ref o5])), (o4, .inr (10, [.ref a41, .ref a42, .ref a43, .int l4])), (a41, .inl (cI, 256, .inl f41)), (a42, .inl (cI, 512, .inl f42)), (a43, .inl (cI, 512, .inl f43)), (o5, .inr (10, [.ref a51, .ref a52, .ref a53, .int l5])), (a51, .inl (cI, 256, .inl f51)), (a52, .inl (cI, 512, .inl f52)), (a53, .inl (cI, 512, .inl f53))]) [4, 5, 6, 7, 8, 9, 26, 27, 0, 1, 12, 13, 14, 15, 16, 17, 18, 19, 20] (by decide +kernel) rfl
                  have hFc := va_free (wc := [(oH, .inr (4, [.ref oP, .ref h1, .ref h2, .int lH])), (h1, .inl (cI, 6, .inl fH1)), (h2, .inl (cI, 6, .inl fH2)), (oP, .inr (7, [.ref oC, .ref nB, .int ftb])), (nB, .inr (5, [.ref aB, .int lBb])), (aB, .inl (cI, 2400, .inl fBb)), (n1, .inr (5, [.ref a1, .int lob])), (a1, .inl (cI, 300, .inl fob)), (n2, .inr (5, [.ref a2, .int ltb])), (a2, .inl (cI, 300, .inl ft_b)), (oC, .inr (2, [.ref o4, .ref o5])), (o4, .inr (10, [.ref a41, .ref a42, .ref a43, .int l4])), (a41, .inl (cI, 256, .inl f41)), (a42, .inl (cI, 512, .inl f42)), (a43, .inl (cI, 512, .inl f43)), (o5, .inr (10, [.ref a51, .ref a52, .ref a53, .int l5])), (a51, .inl (cI, 256, .inl f51)), (a52, .inl (cI, 512, .inl f52)), (a53, .inl (cI, 512, .inl f53))]) hD hS hA [4, 5, 6, 7, 8, 9, 26, 27, 0, 1, 12, 13, 14, 15, 16, 17, 18, 19, 20] rfl
                  refine va_calli (va_runV (As := [.int mi, .ref n1, .ref n2]) (rest := []) ⟨hx, hb, hml, hown, hts⟩ (m_X4_takeOff l dC dI cI cS H.size oH n1 n2 oP h1 h2 oC nB aB a1 a2 o4 o5 a41 a42 a43 a51 a52 a53 lH fH1 fH2 ftb lBb fBb lob fob ltb ft_b l4 f41 f42 f43 l5 f51 f52 f53 mi (g_lH) (g_lBb) (g_lob) (g_ltb)) (cwV 3 hts gX9_find_X4_takeOff rfl rfl rfl (by decide +kernel) ⟨Nat.le_of_ble_eq_true rfl, Nat.le_of_ble_eq_true rfl⟩) ⟨fun a U g mk q => by obtain ⟨q0, q1, qP, qK, qD, qN0⟩ := q; exact ⟨q0, q1, qP, va_K.moved (u := U) (U := U.calling g mk a) (Vm.Alike.refl U.vm) qK, qD, va_Nw.same rfl rfl qN0⟩, va_recv hK hPc (ci := 4) (q0 := 0) rfl rfl, fun U hU hW => ⟨rfl, by rw [hU], by rw [hU]; exact hPc, va_K.moved hW.alike hK, hDc.weaken (fun _ _ _ _ => trivial), va_Nw.warmM hW hN52⟩⟩ rfl rfl hl.1 rfl (lv_room (Nat.le_of_ble_eq_true rfl)) dX9_find_93 ⟨Nat.le_of_ble_eq_true rfl, Nat.le_of_ble_eq_true rfl⟩) hS (fun q _ h => hFc q h) hFc (fun r_12 u t H1 locs ht hvm hw hB hz1 hk1 hSn => ?_)
                  subst hw
                  obtain ⟨ft_12, lB_12, fB_12, ld_12, fd_12, hP1, hD1, hf12_0, hf12_1, hf12_2⟩ := hB
                  rw [ht] at hP1
                  obtain ⟨hPn, hDn⟩ := va_join (wr := [(n3, .inr (5, [.ref a3, .int lhb])), (a3, .inl (cI, 300, .inl fhb)), (nx, .inr (5, [.ref ax, .int lx])), (ax, .inl (cI, 300, .inl fx)), (r1, .inl (cI, 258, .inl fxb)), (r2, .inl (cI, 258, .inl fyb)), (oK, .inr (3, [.ref k1, .ref k2, .int lK])), (k1, .inl (cI, 1024, .inl fK1)), (k2, .inl (cI, 1024, .inl fK2)), (oR, .inr (9, [.ref oH, .ref oK, .ref n1, .ref n2, .ref n3, .ref r1, .ref r2, .ref r3, .ref r4, .ref r5, .ref r6, .int lR])), (r3, .inl (cI, 774, .inl fzb))]) (w1 := [(oH, .inr (4, [.ref oP, .ref h1, .ref h2, .int lH])), (h1, .inl (cI, 6, .inl fH1)), (h2, .inl (cI, 6, .inl fH2)), (oP, .inr (7, [.ref oC, .ref nB, .int ft_12])), (nB, .inr (5, [.ref aB, .int lB_12])), (aB, .inl (cI, 2400, .inl fB_12)), (n1, .inr (5, [.ref a1, .int lob])), (a1, .inl (cI, 300, .inl fob)), (n2, .inr (5, [.ref a2, .int ld_12])), (a2, .inl (cI, 300, .inl fd_12)), (oC, .inr (2, [.ref o4, .ref o5])), (o4, .inr (10, [.ref a41, .ref a42, .ref a43, .int l4])), (a41, .inl (cI, 256, .inl f41)), (a42, .inl (cI, 512, .inl f42)), (a43, .inl (cI, 512, .inl f43)), (o5, .inr (10, [.ref a51, .ref a52, .ref a53, .int l5])), (a51, .inl (cI, 256, .inl f51)), (a52, .inl (cI, 512, .inl f52)), (a53, .inl (cI, 512, .inl f53))]) hP hD [4, 5, 6, 7, 8, 9, 26, 27, 0, 1, 12, 13, 14, 15, 16, 17, 18, 19, 20] [2, 3, 10, 11, 21, 22, 23, 24, 25, 28, 29] rfl rfl (by decide +kernel) (by decide +kernel) hk1 hFc hP1 hD1
                  clear hP hD hS hPc hDc hFc hk1 hz1 hvm ht hP1 hD1
                  generalize H1 = H at hPn hSn ⊢
                  have hP : va_P (dC, dI) vwCl [(n3, .inr (5, [.ref a3, .int lhb])), (a3, .inl (cI, 300, .inl fhb)), (nx, .inr (5, [.ref ax, .int lx])), (ax, .inl (cI, 300, .inl fx)), (r1, .inl (cI, 258, .inl fxb)), (r2, .inl (cI, 258, .inl fyb)), (oK, .inr (3, [.ref k1, .ref k2, .int lK])), (k1, .inl (cI, 1024, .inl fK1)), (k2, .inl (cI, 1024, .inl fK2)), (oR, .inr (9, [.ref oH, .ref oK, .ref n1, .ref n2, .ref n3, .ref r1, .ref r2, .ref r3, .ref r4, .ref r5, .ref r6, .int lR])), (r3, .inl (cI, 774, .inl fzb)), (oH, .inr (4, [.ref oP, .ref h1, .ref h2, .int lH])), (h1, .inl (cI, 6, .inl fH1)), (h2, .inl (cI, 6, .inl fH2)), (oP, .inr (7, [.ref oC, .ref nB, .int ft_12])), (nB, .inr (5, [.ref aB, .int lB_12])), (aB, .inl (cI, 2400, .inl fB_12)), (n1, .inr (5, [.ref a1, .int lob])), (a1, .inl (cI, 300, .inl fob)), (n2, .inr (5, [.ref a2, .int ld_12])), (a2, .inl (cI, 300, .inl fd_12)), (oC, .inr (2, [.ref o4, .ref o5])), (o4, .inr (10, [.ref a41, .ref a42, .ref a43, .int l4])), (a41, .inl (cI, 256, .inl f41)), (a42, .inl (cI, 512, .inl f42)), (a43, .inl (cI, 512, .inl f43)), (o5, .inr (10, [.ref a51, .ref a52, .ref a53, .int l5])), (a51, .inl (cI, 256, .inl f51)), (a52, .inl (cI, 512, .inl f52)), (a53, .inl (cI, 512, .inl f53))] H := hPn
                  have hD : va_D A [(n3, .inr (5, [.ref a3, .int lhb])), (a3, .inl (cI, 300, .inl fhb)), (nx, .inr (5, [.ref ax, .int lx])), (ax, .inl (cI, 300, .inl fx)), (r1, .inl (cI, 258, .inl fxb)), (r2, .inl (cI, 258, .inl fyb)), (oK, .inr (3, [.ref k1, .ref k2, .int lK])), (k1, .inl (cI, 1024, .inl fK1)), (k2, .inl (cI, 1024, .inl fK2)), (oR, .inr (9, [.ref oH, .ref oK, .ref n1, .ref n2, .ref n3, .ref r1, .ref r2, .ref r3, .ref r4, .ref r5, .ref r6, .int lR])), (r3, .inl (cI, 774, .inl fzb)), (oH, .inr (4, [.ref oP, .ref h1, .ref h2, .int lH])), (h1, .inl (cI, 6, .inl fH1)), (h2, .inl (cI, 6, .inl fH2)), (oP, .inr (7, [.ref oC, .ref nB, .int ft_12])), (nB, .inr (5, [.ref aB, .int lB_12])), (aB, .inl (cI, 2400, .inl fB_12)), (n1, .inr (5, [.ref a1, .int lob])), (a1, .inl (cI, 300, .inl fob)), (n2, .inr (5, [.ref a2, .int ld_12])), (a2, .inl (cI, 300, .inl fd_12)), (oC, .inr (2, [.ref o4, .ref o5])), (o4, .inr (10, [.ref a41, .ref a42, .ref a43, .int l4])), (a41, .inl (cI, 256, .inl f41)), (a42, .inl (cI, 512, .inl f42)), (a43, .inl (cI, 512, .inl f43)), (o5, .inr (10, [.ref a51, .ref a52, .ref a53, .int l5])), (a51, .inl (cI, 256, .inl f51)), (a52, .inl (cI, 512, .inl f52)), (a53, .inl (cI, 512, .inl f53))] := hDn
                  have hS := hSn
                  clear hPn hDn hSn
                  refine lv_if_ne (tgt := 102) hx hb dX9_find_96 (by decide) (fun c_13 => ?_) (fun c_13 => ?_)
                  · have tc_13 : ¬ r_12.toInt = 0 := v_ne c_13
                    refine lv_iload_n hx hb dX9_find_102 rfl (lv_at hl 2 rfl) ?_
                    refine lv_iload hx hb dX9_find_103 (lv_at hl 0 rfl) ?_
                    refine lv_iload_n hx hb dX9_find_105 rfl (lv_at hl 2 rfl) ?_
                    refine lv_imul hx hb dX9_find_106 ?_
                    refine lv_topi (fun x_14 ex_14 => ?_)
                    refine lv_iadd hx hb dX9_find_107 ?_
                    refine lv_topi (fun x_15 ex_15 => ?_)
                    have rv15_1 := v_rng x_14
                    refine lv_iload hx hb dX9_find_108 (lv_at hl 1 rfl) ?_
                    refine lv_iadd hx hb dX9_find_110 ?_
                    refine lv_topi (fun x_16 ex_16 => ?_)
                    have rv16_0 := v_rng x_15
                    refine lv_istore (lv' := [(6, .int x_16), (5, .int mi), (4, .int la), (3, .int lH), (0, .ref oR), (1, .int n), (2, .ref nx)]) hx hb dX9_find_111 hl (by decide) rfl (fun ls hl => ?_)
                    refine lv_aload_n hx hb dX9_find_113 rfl (lv_at hl 4 rfl) ?_
                    refine lv_iload hx hb dX9_find_114 (lv_at hl 0 rfl) ?_
                    refine lv_aload_n hx hb dX9_find_116 rfl (lv_at hl 4 rfl) ?_
                    refine va_get (D := (dC, dI)) (ci := 9) (v := .ref n2) (C := RX9) (T := TX9) (N := 12) hx hb hts in_X9 hown hK hP 9 rfl rfl 3 (by decide) (hts (.fieldLink RX9 20 "TextMender$Rows" "two" "LTextMender$Numbers;") (List.mem_of_getElem? (i := 4) rfl)) (fun _ h9 => h9) rfl dX9_find_117 ?_
                    have hPc := hP.sub (ws' := [(oR, .inr (9, [.ref oH, .ref oK, .ref n1, .ref n2, .ref n3, .ref r1, .ref r2, .ref r3, .ref r4, .ref r5, .ref r6, .int lR])), (r1, .inl (cI, 258, .inl fxb)), (r2, .inl (cI, 258, .inl fyb)), (oK, .inr (3, [.ref k1, .ref k2, .int lK])), (k1, .inl (cI, 1024, .inl fK1)), (k2, .inl (cI, 1024, .inl fK2)), (n2, .inr (5, [.ref a2, .int ld_12])), (a2, .inl (cI, 300, .inl fd_12))]) [9, 4, 5, 6, 7, 8, 19, 20] rfl
                    have hDc := hD.sub (ws' := [(oR, .inr (9, [.ref oH, .ref oK, .ref n1, .ref n2, .ref n3, .ref r1, .ref r2, .ref r3, .ref r4, .ref r5, .ref r6, .int lR])), (r1, .inl (cI, 258, .inl fxb)), (r2, .inl (cI, 258, .inl fyb)), (oK, .inr (3, [.ref k1, .ref k2, .int lK])), (k1, .inl (cI, 1024, .inl fK1)), (k2, .inl (cI, 1024, .inl fK2)), (n2, .inr (5, [.ref a2, .int ld_12])), (a2, .inl (cI, 300, .inl fd_12))]) [9, 4, 5, 6, 7, 8, 19, 20] (by decide +kernel) rfl
                    have hFc := va_free (wc := [(oR, .inr (9, [.ref oH, .ref oK, .ref n1, .ref n2, .ref n3, .ref r1, .ref r2, .ref r3, .ref r4, .ref r5, .ref r6, .int lR])), (r1, .inl (cI, 258, .inl fxb)), (r2, .inl (cI, 258, .inl fyb)), (oK, .inr (3, [.ref k1, .ref k2, .int lK])), (k1, .inl (cI, 1024, .inl fK1)), (k2, .inl (cI, 1024, .inl fK2)), (n2, .inr (5, [.ref a2, .int ld_12])), (a2, .inl (cI, 300, .inl fd_12))]) hD hS hA [9, 4, 5, 6, 7, 8, 19, 20] rfl
                    refine va_callv (va_runV (As := [.int x_16, .ref n2]) (rest := []) ⟨hx, hb, hml, hown, hts⟩ (m_X9_note l dC dI cI cS H.size oR n2 oH oK n1 n2 n3 r1 r2 r3 r4 r5 r6 k1 k2 a2 lR fxb fyb lK fK1 fK2 ld_12 fd_12 x_16 (g_lR) (g_lK) (hf12_1)) (cwV 2 hts gX9_find_X9_note rfl rfl rfl (by decide +kernel) ⟨Nat.le_of_ble_eq_true rfl, Nat.le_of_ble_eq_true rfl⟩) ⟨fun a U g mk q => by obtain ⟨q0, q1, qP, qK, qD⟩ := q; exact ⟨q0, q1, qP, va_K.moved (u := U) (U := U.calling g mk a) (Vm.Alike.refl U.vm) qK, qD⟩, va_recv hK hPc (ci := 9) (q0 := 0) rfl rfl, fun U hU hW => ⟨rfl, by rw [hU], by rw [hU]; exact hPc, va_K.moved hW.alike hK, hDc.weaken (fun _ _ _ _ => trivial)⟩⟩ rfl rfl hl.1 rfl (lv_room (Nat.le_of_ble_eq_true rfl)) dX9_find_120 ⟨Nat.le_of_ble_eq_true rfl, Nat.le_of_ble_eq_true rfl⟩) hS (fun q _ h => hFc q h) hFc (fun u t H1 locs ht hvm hw hB hz1 hk1 hSn => ?_)
                    obtain ⟨fR1_17, fR2_17, hP1, hD1⟩ := hB
                    rw [ht] at hP1
                    obtain ⟨hPn, hDn⟩ := va_join (wr := [(n3, .inr (5, [.ref a3, .int lhb])), (a3, .inl (cI, 300, .inl fhb)), (nx, .inr (5, [.ref ax, .int lx])), (ax, .inl (cI, 300, .inl fx)), (r3, .inl (cI, 774, .inl fzb)), (oH, .inr (4, [.ref oP, .ref h1, .ref h2, .int lH])), (h1, .inl (cI, 6, .inl fH1)), (h2, .inl (cI, 6, .inl fH2)), (oP, .inr (7, [.ref oC, .ref nB, .int ft_12])), (nB, .inr (5, [.ref aB, .int lB_12])), (aB, .inl (cI, 2400, .inl fB_12)), (n1, .inr (5, [.ref a1, .int lob])), (a1, .inl (cI, 300, .inl fob)), (oC, .inr (2, [.ref o4, .ref o5])), (o4, .inr (10, [.ref a41, .ref a42, .ref a43, .int l4])), (a41, .inl (cI, 256, .inl f41)), (a42, .inl (cI, 512, .inl f42)), (a43, .inl (cI, 512, .inl f43)), (o5, .inr (10, [.ref a51, .ref a52, .ref a53, .int l5])), (a51, .inl (cI, 256, .inl f51)), (a52, .inl (cI, 512, .inl f52)), (a53, .inl (cI, 512, .inl f53))]) (w1 := [(oR, .inr (9, [.ref oH, .ref oK, .ref n1, .ref n2, .ref n3, .ref r1, .ref r2, .ref r3, .ref r4, .ref r5, .ref r6, .int lR])), (r1, .inl (cI, 258, .inl fR1_17)), (r2, .inl (cI, 258, .inl fR2_17)), (oK, .inr (3, [.ref k1, .ref k2, .int lK])), (k1, .inl (cI, 1024, .inl fK1)), (k2, .inl (cI, 1024, .inl fK2)), (n2, .inr (5, [.ref a2, .int ld_12])), (a2, .inl (cI, 300, .inl fd_12))]) hP hD [9, 4, 5, 6, 7, 8, 19, 20] [0, 1, 2, 3, 10, 11, 12, 13, 14, 15, 16, 17, 18, 21, 22, 23, 24, 25, 26, 27, 28, 29] rfl rfl (by decide +kernel) (by decide +kernel) hk1 hFc hP1 hD1
                    clear hP hD hS hPc hDc hFc hk1 hz1 hvm ht hP1 hD1
                    generalize H1 = H at hPn hSn ⊢
                    have hP : va_P (dC, dI) vwCl [(n3, .inr (5, [.ref a3, .int lhb])), (a3, .inl (cI, 300, .inl fhb)), (nx, .inr (5, [.ref ax, .int lx])), (ax, .inl (cI, 300, .inl fx)), (r3, .inl (cI, 774, .inl fzb)), (oH, .inr (4, [.ref oP, .ref h1, .ref h2, .int lH])), (h1, .inl (cI, 6, .inl fH1)), (h2, .inl (cI, 6, .inl fH2)), (oP, .inr (7, [.ref oC, .ref nB, .int ft_12])), (nB, .inr (5, [.ref aB, .int lB_12])), (aB, .inl (cI, 2400, .inl fB_12)), (n1, .inr (5, [.ref a1, .int lob])), (a1, .inl (cI, 300, .inl fob)), (oC, .inr (2, [.ref o4, .ref o5])), (o4, .inr (10, [.ref a41, .ref a42, .ref a43, .int l4])), (a41, .inl (cI, 256, .inl f41)), (a42, .inl (cI, 512, .inl f42)), (a43, .inl (cI, 512, .inl f43)), (o5, .inr (10, [.ref a51, .ref a52, .ref a53, .int l5])), (a51, .inl (cI, 256, .inl f51)), (a52, .inl (cI, 512, .inl f52)), (a53, .inl (cI, 512, .inl f53)), (oR, .inr (9, [.ref oH, .ref oK, .ref n1, .ref n2, .ref n3, .ref r1, .ref r2, .ref r3, .ref r4, .ref r5, .ref r6, .int lR])), (r1, .inl (cI, 258, .inl fR1_17)), (r2, .inl (cI, 258, .inl fR2_17)), (oK, .inr (3, [.ref k1, .ref k2, .int lK])), (k1, .inl (cI, 1024, .inl fK1)), (k2, .inl (cI, 1024, .inl fK2)), (n2, .inr (5, [.ref a2, .int ld_12])), (a2, .inl (cI, 300, .inl fd_12))] H := hPn
                    have hD : va_D A [(n3, .inr (5, [.ref a3, .int lhb])), (a3, .inl (cI, 300, .inl fhb)), (nx, .inr (5, [.ref ax, .int lx])), (ax, .inl (cI, 300, .inl fx)), (r3, .inl (cI, 774, .inl fzb)), (oH, .inr (4, [.ref oP, .ref h1, .ref h2, .int lH])), (h1, .inl (cI, 6, .inl fH1)), (h2, .inl (cI, 6, .inl fH2)), (oP, .inr (7, [.ref oC, .ref nB, .int ft_12])), (nB, .inr (5, [.ref aB, .int lB_12])), (aB, .inl (cI, 2400, .inl fB_12)), (n1, .inr (5, [.ref a1, .int lob])), (a1, .inl (cI, 300, .inl fob)), (oC, .inr (2, [.ref o4, .ref o5])), (o4, .inr (10, [.ref a41, .ref a42, .ref a43, .int l4])), (a41, .inl (cI, 256, .inl f41)), (a42, .inl (cI, 512, .inl f42)), (a43, .inl (cI, 512, .inl f43)), (o5, .inr (10, [.ref a51, .ref a52, .ref a53, .int l5])), (a51, .inl (cI, 256, .inl f51)), (a52, .inl (cI, 512, .inl f52)), (a53, .inl (cI, 512, .inl f53)), (oR, .inr (9, [.ref oH, .ref oK, .ref n1, .ref n2, .ref n3, .ref r1, .ref r2, .ref r3, .ref r4, .ref r5, .ref r6, .int lR])), (r1, .inl (cI, 258, .inl fR1_17)), (r2, .inl (cI, 258, .inl fR2_17)), (oK, .inr (3, [.ref k1, .ref k2, .int lK])), (k1, .inl (cI, 1024, .inl fK1)), (k2, .inl (cI, 1024, .inl fK2)), (n2, .inr (5, [.ref a2, .int ld_12])), (a2, .inl (cI, 300, .inl fd_12))] := hDn
                    have hS := hSn
                    clear hPn hDn hSn
                    refine lv_aload_n hx hb dX9_find_123 rfl (lv_at hl 4 rfl) ?_
                    refine lv_iload hx hb dX9_find_124 (lv_at hl 0 rfl) ?_
                    refine lv_iload hx hb dX9_find_126 (lv_at hl 1 rfl) ?_
                    refine lv_iload hx hb dX9_find_128 (lv_at hl 2 rfl) ?_
                    refine lv_iconst (v := (-1)) hx hb dX9_find_130 (by decide) ?_
                    have hPc := hP.sub (ws' := [(oR, .inr (9, [.ref oH, .ref oK, .ref n1, .ref n2, .ref n3, .ref r1, .ref r2, .ref r3, .ref r4, .ref r5, .ref r6, .int lR])), (r3, .inl (cI, 774, .inl fzb))]) [22, 4] rfl
                    have hDc := hD.sub (ws' := [(oR, .inr (9, [.ref oH, .ref oK, .ref n1, .ref n2, .ref n3, .ref r1, .ref r2, .ref r3, .ref r4, .ref r5, .ref r6, .int lR])), (r3, .inl (cI, 774, .inl fzb))]) [22, 4] (by decide +kernel) rfl
                    have hFc := va_free (wc := [(oR, .inr (9, [.ref oH, .ref oK, .ref n1, .ref n2, .ref n3, .ref r1, .ref r2, .ref r3, .ref r4, .ref r5, .ref r6, .int lR])), (r3, .inl (cI, 774, .inl fzb))]) hD hS hA [22, 4] rfl
                    refine va_callv (va_runV (As := [.int x_16, .int mi, .int la, .int (-1)]) (rest := []) ⟨hx, hb, hml, hown, hts⟩ (m_X9_nameHarms l dC dI cI cS H.size oR oH oK n1 n2 n3 r1 r2 r3 r4 r5 r6 lR fzb x_16 mi la (-1) (g_lR)) (cwV 4 hts gX9_find_X9_nameHarms rfl rfl rfl (by decide +kernel) ⟨Nat.le_of_ble_eq_true rfl, Nat.le_of_ble_eq_true rfl⟩) ⟨fun a U g mk q => by obtain ⟨q0, q1, qP, qK, qD⟩ := q; exact ⟨q0, q1, qP, va_K.moved (u := U) (U := U.calling g mk a) (Vm.Alike.refl U.vm) qK, qD⟩, va_recv hK hPc (ci := 9) (q0 := 0) rfl rfl, fun U hU hW => ⟨rfl, by rw [hU], by rw [hU]; exact hPc, va_K.moved hW.alike hK, hDc.weaken (fun _ _ _ _ => trivial)⟩⟩ rfl rfl hl.1 rfl (lv_room (Nat.le_of_ble_eq_true rfl)) dX9_find_131 ⟨Nat.le_of_ble_eq_true rfl, Nat.le_of_ble_eq_true rfl⟩) hS (fun q _ h => hFc q h) hFc (fun u t H1 locs ht hvm hw hB hz1 hk1 hSn => ?_)
                    obtain ⟨fR3_18, hP1, hD1⟩ := hB
                    rw [ht] at hP1
                    obtain ⟨hPn, hDn⟩ := va_join (wr := [(n3, .inr (5, [.ref a3, .int lhb])), (a3, .inl (cI, 300, .inl fhb)), (nx, .inr (5, [.ref ax, .int lx])), (ax, .inl (cI, 300, .inl fx)), (oH, .inr (4, [.ref oP, .ref h1, .ref h2, .int lH])), (h1, .inl (cI, 6, .inl fH1)), (h2, .inl (cI, 6, .inl fH2)), (oP, .inr (7, [.ref oC, .ref nB, .int ft_12])), (nB, .inr (5, [.ref aB, .int lB_12])), (aB, .inl (cI, 2400, .inl fB_12)), (n1, .inr (5, [.ref a1, .int lob])), (a1, .inl (cI, 300, .inl fob)), (oC, .inr (2, [.ref o4, .ref o5])), (o4, .inr (10, [.ref a41, .ref a42, .ref a43, .int l4])), (a41, .inl (cI, 256, .inl f41)), (a42, .inl (cI, 512, .inl f42)), (a43, .inl (cI, 512, .inl f43)), (o5, .inr (10, [.ref a51, .ref a52, .ref a53, .int l5])), (a51, .inl (cI, 256, .inl f51)), (a52, .inl (cI, 512, .inl f52)), (a53, .inl (cI, 512, .inl f53)), (r1, .inl (cI, 258, .inl fR1_17)), (r2, .inl (cI, 258, .inl fR2_17)), (oK, .inr (3, [.ref k1, .ref k2, .int lK])), (k1, .inl (cI, 1024, .inl fK1)), (k2, .inl (cI, 1024, .inl fK2)), (n2, .inr (5, [.ref a2, .int ld_12])), (a2, .inl (cI, 300, .inl fd_12))]) (w1 := [(oR, .inr (9, [.ref oH, .ref oK, .ref n1, .ref n2, .ref n3, .ref r1, .ref r2, .ref r3, .ref r4, .ref r5, .ref r6, .int lR])), (r3, .inl (cI, 774, .inl fR3_18))]) hP hD [22, 4] [0, 1, 2, 3, 5, 6, 7, 8, 9, 10, 11, 12, 13, 14, 15, 16, 17, 18, 19, 20, 21, 23, 24, 25, 26, 27, 28, 29] rfl rfl (by decide +kernel) (by decide +kernel) hk1 hFc hP1 hD1
                    clear hP hD hS hPc hDc hFc hk1 hz1 hvm ht hP1 hD1
                    generalize H1 = H at hPn hSn ⊢
                    have hP : va_P (dC, dI) vwCl [(n3, .inr (5, [.ref a3, .int lhb])), (a3, .inl (cI, 300, .inl fhb)), (nx, .inr (5, [.ref ax, .int lx])), (ax, .inl (cI, 300, .inl fx)), (oH, .inr (4, [.ref oP, .ref h1, .ref h2, .int lH])), (h1, .inl (cI, 6, .inl fH1)), (h2, .inl (cI, 6, .inl fH2)), (oP, .inr (7, [.ref oC, .ref nB, .int ft_12])), (nB, .inr (5, [.ref aB, .int lB_12])), (aB, .inl (cI, 2400, .inl fB_12)), (n1, .inr (5, [.ref a1, .int lob])), (a1, .inl (cI, 300, .inl fob)), (oC, .inr (2, [.ref o4, .ref o5])), (o4, .inr (10, [.ref a41, .ref a42, .ref a43, .int l4])), (a41, .inl (cI, 256, .inl f41)), (a42, .inl (cI, 512, .inl f42)), (a43, .inl (cI, 512, .inl f43)), (o5, .inr (10, [.ref a51, .ref a52, .ref a53, .int l5])), (a51, .inl (cI, 256, .inl f51)), (a52, .inl (cI, 512, .inl f52)), (a53, .inl (cI, 512, .inl f53)), (r1, .inl (cI, 258, .inl fR1_17)), (r2, .inl (cI, 258, .inl fR2_17)), (oK, .inr (3, [.ref k1, .ref k2, .int lK])), (k1, .inl (cI, 1024, .inl fK1)), (k2, .inl (cI, 1024, .inl fK2)), (n2, .inr (5, [.ref a2, .int ld_12])), (a2, .inl (cI, 300, .inl fd_12)), (oR, .inr (9, [.ref oH, .ref oK, .ref n1, .ref n2, .ref n3, .ref r1, .ref r2, .ref r3, .ref r4, .ref r5, .ref r6, .int lR])), (r3, .inl (cI, 774, .inl fR3_18))] H := hPn
                    have hD : va_D A [(n3, .inr (5, [.ref a3, .int lhb])), (a3, .inl (cI, 300, .inl fhb)), (nx, .inr (5, [.ref ax, .int lx])), (ax, .inl (cI, 300, .inl fx)), (oH, .inr (4, [.ref oP, .ref h1, .ref h2, .int lH])), (h1, .inl (cI, 6, .inl fH1)), (h2, .inl (cI, 6, .inl fH2)), (oP, .inr (7, [.ref oC, .ref nB, .int ft_12])), (nB, .inr (5, [.ref aB, .int lB_12])), (aB, .inl (cI, 2400, .inl fB_12)), (n1, .inr (5, [.ref a1, .int lob])), (a1, .inl (cI, 300, .inl fob)), (oC, .inr (2, [.ref o4, .ref o5])), (o4, .inr (10, [.ref a41, .ref a42, .ref a43, .int l4])), (a41, .inl (cI, 256, .inl f41)), (a42, .inl (cI, 512, .inl f42)), (a43, .inl (cI, 512, .inl f43)), (o5, .inr (10, [.ref a51, .ref a52, .ref a53, .int l5])), (a51, .inl (cI, 256, .inl f51)), (a52, .inl (cI, 512, .inl f52)), (a53, .inl (cI, 512, .inl f53)), (r1, .inl (cI, 258, .inl fR1_17)), (r2, .inl (cI, 258, .inl fR2_17)), (oK, .inr (3, [.ref k1, .ref k2, .int lK])), (k1, .inl (cI, 1024, .inl fK1)), (k2, .inl (cI, 1024, .inl fK2)), (n2, .inr (5, [.ref a2, .int ld_12])), (a2, .inl (cI, 300, .inl fd_12)), (oR, .inr (9, [.ref oH, .ref oK, .ref n1, .ref n2, .ref n3, .ref r1, .ref r2, .ref r3, .ref r4, .ref r5, .ref r6, .int lR])), (r3, .inl (cI, 774, .inl fR3_18))] := hDn
                    have hS := hSn
                    clear hPn hDn hSn
                    refine lv_iconst (v := 0) hx hb dX9_find_134 (by decide) ?_
                    refine lv_istore (lv' := [(7, .int 0), (6, .int x_16), (5, .int mi), (4, .int la), (3, .int lH), (0, .ref oR), (1, .int n), (2, .ref nx)]) hx hb dX9_find_135 hl (by decide) rfl (fun ls hl => ?_)
                    have LOOP_137 : ∀ (k_137 : Nat) (fi : Int32) (ftc : Int32) (lBc : Int32) (loc : Int32) (ltc : Int32) (lhc : Int32) (fBc : Nat → Int32) (foc : Nat → Int32) (ft_c : Nat → Int32) (fhc : Nat → Int32) (fxc : Nat → Int32) (fyc : Nat → Int32) (fzc : Nat → Int32) (H : Heap) (locs : List Loc) (ls : Array Slot), MSd (6 - fi.toInt : Int) k_137 → (0 ≤ fi.toInt ∧ fi.toInt ≤ 6) → (0 ≤ lBc.toInt ∧ lBc.toInt ≤ 2400) → (0 ≤ loc.toInt ∧ loc.toInt ≤ 300) → (0 ≤ ltc.toInt ∧ ltc.toInt ≤ 300) → (0 ≤ lhc.toInt ∧ lhc.toInt ≤ 300) → va_P (dC, dI) vwCl [(n3, .inr (5, [.ref a3, .int lhc])), (a3, .inl (cI, 300, .inl fhc)), (nx, .inr (5, [.ref ax, .int lx])), (ax, .inl (cI, 300, .inl fx)), (oH, .inr (4, [.ref oP, .ref h1, .ref h2, .int lH])), (h1, .inl (cI, 6, .inl fH1)), (h2, .inl (cI, 6, .inl fH2)), (oP, .inr (7, [.ref oC, .ref nB, .int ftc])), (nB, .inr (5, [.ref aB, .int lBc])), (aB, .inl (cI, 2400, .inl fBc)), (n1, .inr (5, [.ref a1, .int loc])), (a1, .inl (cI, 300, .inl foc)), (oC, .inr (2, [.ref o4, .ref o5])), (o4, .inr (10, [.ref a41, .ref a42, .ref a43, .int l4])), (a41, .inl (cI, 256, .inl f41)), (a42, .inl (cI, 512, .inl f42)), (a43, .inl (cI, 512, .inl f43)), (o5, .inr (10, [.ref a51, .ref a52, .ref a53, .int l5])), (a51, .inl (cI, 256, .inl f51)), (a52, .inl (cI, 512, .inl f52)), (a53, .inl (cI, 512, .inl f53)), (r1, .inl (cI, 258, .inl fxc)), (r2, .inl (cI, 258, .inl fyc)), (oK, .inr (3, [.ref k1, .ref k2, .int lK])), (k1, .inl (cI, 1024, .inl fK1)), (k2, .inl (cI, 1024, .inl fK2)), (n2, .inr (5, [.ref a2, .int ltc])), (a2, .inl (cI, 300, .inl ft_c)), (oR, .inr (9, [.ref oH, .ref oK, .ref n1, .ref n2, .ref n3, .ref r1, .ref r2, .ref r3, .ref r4, .ref r5, .ref r6, .int lR])), (r3, .inl (cI, 774, .inl fzc))] H → va_D A [(n3, .inr (5, [.ref a3, .int lhc])), (a3, .inl (cI, 300, .inl fhc)), (nx, .inr (5, [.ref ax, .int lx])), (ax, .inl (cI, 300, .inl fx)), (oH, .inr (4, [.ref oP, .ref h1, .ref h2, .int lH])), (h1, .inl (cI, 6, .inl fH1)), (h2, .inl (cI, 6, .inl fH2)), (oP, .inr (7, [.ref oC, .ref nB, .int ftc])), (nB, .inr (5, [.ref aB, .int lBc])), (aB, .inl (cI, 2400, .inl fBc)), (n1, .inr (5, [.ref a1, .int loc])), (a1, .inl (cI, 300, .inl foc)), (oC, .inr (2, [.ref o4, .ref o5])), (o4, .inr (10, [.ref a41, .ref a42, .ref a43, .int l4])), (a41, .inl (cI, 256, .inl f41)), (a42, .inl (cI, 512, .inl f42)), (a43, .inl (cI, 512, .inl f43)), (o5, .inr (10, [.ref a51, .ref a52, .ref a53, .int l5])), (a51, .inl (cI, 256, .inl f51)), (a52, .inl (cI, 512, .inl f52)), (a53, .inl (cI, 512, .inl f53)), (r1, .inl (cI, 258, .inl fxc)), (r2, .inl (cI, 258, .inl fyc)), (oK, .inr (3, [.ref k1, .ref k2, .int lK])), (k1, .inl (cI, 1024, .inl fK1)), (k2, .inl (cI, 1024, .inl fK2)), (n2, .inr (5, [.ref a2, .int ltc])), (a2, .inl (cI, 300, .inl ft_c)), (oR, .inr (9, [.ref oH, .ref oK, .ref n1, .ref n2, .ref n3, .ref r1, .ref r2, .ref r3, .ref r4, .ref r5, .ref r6, .int lR])), (r3, .inl (cI, 774, .inl fzc))] → va_S A s.heap H locs → lv_has ls 9 [(7, .int fi), (5, .int mi), (4, .int la), (3, .int lH), (0, .ref oR), (1, .int n), (2, .ref nx)] → W p l e (headSpec wsX9_find ({ frames := 6, cells := 0, slots := 0, locals := 147 } : Room)).room s m ([.ref oR, .int n, .ref nx] : List Value).toArray below meth c H locs 0 0 (MQ below QQ ([.ref oR, .int n, .ref nx] : List Value).toArray s 0 0 A) (F0 m 137 ls []) := by
                      clear hP hD hS hl
                      intro k_137
                      induction k_137 with
                      | zero =>
                        intro fi ftc lBc loc ltc lhc fBc foc ft_c fhc fxc fyc fzc H locs ls hm_137 g_fi g_lBc g_loc g_ltc g_lhc hP hD hS hl
                        exact ms_0 hm_137
                      | succ k_137 ih_137 =>
                        intro fi ftc lBc loc ltc lhc fBc foc ft_c fhc fxc fyc fzc H locs ls hm_137 g_fi g_lBc g_loc g_ltc g_lhc hP hD hS hl
                        refine lv_iload_n hx hb dX9_find_137 rfl (lv_at hl 5 rfl) ?_
                        refine lv_iconst (v := 2) hx hb dX9_find_138 (by decide) ?_
                        refine lv_icmp_le (tgt := 216) hx hb dX9_find_139 (by decide) (fun c_19 => ?_) (fun c_19 => ?_)
                        · have tc_19 : n.toInt ≤ 2 := v_le c_19
                          obtain ⟨x_20, ex_20⟩ : ∃ y : Int32, y = mi + 1 := ⟨_, rfl⟩
                          have tx_20 : x_20.toInt = mi.toInt + 1 := v_add ex_20 (by show -2147483648 ≤ mi.toInt + 1; omega) (by show mi.toInt + 1 < 2147483648; omega)
                          refine lv_iinc (v := x_20) (lv' := [(5, .int x_20), (7, .int fi), (4, .int la), (3, .int lH), (0, .ref oR), (1, .int n), (2, .ref nx)]) hx hb dX9_find_216 hl (k := 1) rfl (by rw [ex_20]; rfl) (by decide) rfl (fun ls hl => ?_)
                          refine lv_goto (tgt := 68) hx hb dX9_find_219 (by decide) ?_
                          exact ih_68 x_20 ftc lBc loc ltc lhc fBc foc ft_c fhc fxc fyc fzc _ _ _ (ms_lt hm_68 (by show ((6 - x_20.toInt : Int)) < 6 - mi.toInt; omega) (by show (0 : Int) < 6 - mi.toInt; omega)) (by show 0 ≤ x_20.toInt ∧ x_20.toInt ≤ 6; omega) (g_lBc) (g_loc) (g_ltc) (g_lhc) (hP.sub [26, 27, 0, 1, 4, 5, 6, 7, 8, 9, 2, 3, 12, 13, 14, 15, 16, 17, 18, 19, 20, 21, 22, 23, 24, 25, 10, 11, 28, 29] rfl) (hD.sub [26, 27, 0, 1, 4, 5, 6, 7, 8, 9, 2, 3, 12, 13, 14, 15, 16, 17, 18, 19, 20, 21, 22, 23, 24, 25, 10, 11, 28, 29] (by decide +kernel) rfl) hS (lv_sub hl [0, 2, 3, 4, 5, 6] rfl)
                        · have tc_19 : 2 < n.toInt := v_nle c_19
                          refine lv_iload hx hb dX9_find_142 (lv_at hl 0 rfl) ?_
                          refine lv_iload_n hx hb dX9_find_144 rfl (lv_at hl 3 rfl) ?_
                          refine lv_icmp_ge (tgt := 216) hx hb dX9_find_145 (by decide) (fun c_21 => ?_) (fun c_21 => ?_)
                          · have tc_21 : lH.toInt ≤ fi.toInt := v_le c_21
                            obtain ⟨x_22, ex_22⟩ : ∃ y : Int32, y = mi + 1 := ⟨_, rfl⟩
                            have tx_22 : x_22.toInt = mi.toInt + 1 := v_add ex_22 (by show -2147483648 ≤ mi.toInt + 1; omega) (by show mi.toInt + 1 < 2147483648; omega)
                            refine lv_iinc (v := x_22) (lv' := [(5, .int x_22), (7, .int fi), (4, .int la), (3, .int lH), (0, .ref oR), (1, .int n), (2, .ref nx)]) hx hb dX9_find_216 hl (k := 1) rfl (by rw [ex_22]; rfl) (by decide) rfl (fun ls hl => ?_)
                            refine lv_goto (tgt := 68) hx hb dX9_find_219 (by decide) ?_
                            exact ih_68 x_22 ftc lBc loc ltc lhc fBc foc ft_c fhc fxc fyc fzc _ _ _ (ms_lt hm_68 (by show ((6 - x_22.toInt : Int)) < 6 - mi.toInt; omega) (by show (0 : Int) < 6 - mi.toInt; omega)) (by show 0 ≤ x_22.toInt ∧ x_22.toInt ≤ 6; omega) (g_lBc) (g_loc) (g_ltc) (g_lhc) (hP.sub [26, 27, 0, 1, 4, 5, 6, 7, 8, 9, 2, 3, 12, 13, 14, 15, 16, 17, 18, 19, 20, 21, 22, 23, 24, 25, 10, 11, 28, 29] rfl) (hD.sub [26, 27, 0, 1, 4, 5, 6, 7, 8, 9, 2, 3, 12, 13, 14, 15, 16, 17, 18, 19, 20, 21, 22, 23, 24, 25, 10, 11, 28, 29] (by decide +kernel) rfl) hS (lv_sub hl [0, 2, 3, 4, 5, 6] rfl)
                          · have tc_21 : fi.toInt < lH.toInt := v_nle c_21
                            refine lv_aload_n hx hb dX9_find_148 rfl (lv_at hl 4 rfl) ?_
                            refine va_get (D := (dC, dI)) (ci := 9) (v := .ref oH) (C := RX9) (T := TX9) (N := 12) hx hb hts in_X9 hown hK hP 28 rfl rfl 0 (by decide) (hts (.fieldLink RX9 45 "TextMender$Rows" "harms" "LTextMender$Harms;") (List.mem_of_getElem? (i := 2) rfl)) (fun _ h9 => h9) rfl dX9_find_149 ?_
                            refine lv_iload hx hb dX9_find_152 (lv_at hl 0 rfl) ?_
                            refine lv_aload_n hx hb dX9_find_154 rfl (lv_at hl 4 rfl) ?_
                            refine va_get (D := (dC, dI)) (ci := 9) (v := .ref n2) (C := RX9) (T := TX9) (N := 12) hx hb hts in_X9 hown hK hP 28 rfl rfl 3 (by decide) (hts (.fieldLink RX9 20 "TextMender$Rows" "two" "LTextMender$Numbers;") (List.mem_of_getElem? (i := 4) rfl)) (fun _ h9 => h9) rfl dX9_find_155 ?_
                            refine lv_aload_n hx hb dX9_find_158 rfl (lv_at hl 4 rfl) ?_
                            refine va_get (D := (dC, dI)) (ci := 9) (v := .ref n3) (C := RX9) (T := TX9) (N := 12) hx hb hts in_X9 hown hK hP 28 rfl rfl 4 (by decide) (hts (.fieldLink RX9 23 "TextMender$Rows" "three" "LTextMender$Numbers;") (List.mem_of_getElem? (i := 5) rfl)) (fun _ h9 => h9) rfl dX9_find_159 ?_
                            have hPc := hP.sub (ws' := [(oH, .inr (4, [.ref oP, .ref h1, .ref h2, .int lH])), (h1, .inl (cI, 6, .inl fH1)), (h2, .inl (cI, 6, .inl fH2)), (oP, .inr (7, [.ref oC, .ref nB, .int ftc])), (nB, .inr (5, [.ref aB, .int lBc])), (aB, .inl (cI, 2400, .inl fBc)), (n2, .inr (5, [.ref a2, .int ltc])), (a2, .inl (cI, 300, .inl ft_c)), (n3, .inr (5, [.ref a3, .int lhc])), (a3, .inl (cI, 300, .inl fhc)), (oC, .inr (2, [.ref o4, .ref o5])), (o4, .inr (10, [.ref a41, .ref a42, .ref a43, .int l4])), (a41, .inl (cI, 256, .inl f41)), (a42, .inl (cI, 512, .inl f42)), (a43, .inl (cI, 512, .inl f43)), (o5, .inr (10, [.ref a51, .ref a52, .ref a53, .int l5])), (a51, .inl (cI, 256, .inl f51)), (a52, .inl (cI, 512, .inl f52)), (a53, .inl (cI, 512, .inl f53))]) [4, 5, 6, 7, 8, 9, 26, 27, 0, 1, 12, 13, 14, 15, 16, 17, 18, 19, 20] rfl
                            have hDc := hD.sub (ws' := [(oH, .inr (4, [.ref oP, .ref h1, .ref h2, .int lH])), (h1, .inl (cI, 6, .inl fH1)), (h2, .inl (cI, 6, .inl fH2)), (oP, .inr (7, [.ref oC, .ref nB, .int ftc])), (nB, .inr (5, [.ref aB, .int lBc])), (aB, .inl (cI, 2400, .inl fBc)), (n2, .inr (5, [.ref a2, .int ltc])), (a2, .inl (cI, 300, .inl ft_c)), (n3, .inr (5, [.ref a3, .int lhc])), (a3, .inl (cI, 300, .inl fhc)), (oC, .inr (2, [.ref o4, .ref o5])), (o4, .inr (10, [.ref a41, .ref a42, .ref a43, .int l4])), (a41, .inl (cI, 256, .inl f41)), (a42, .inl (cI, 512, .inl f42)), (a43, .inl (cI, 512, .inl f43)), (o5, .inr (10, [.ref a51, .ref a52, .ref a53, .int l5])), (a51, .inl (cI, 256, .inl f51)), (a52, .inl (cI, 512, .inl f52)), (a53, .inl (cI, 512, .inl f53))]) [4, 5, 6, 7, 8, 9, 26, 27, 0, 1, 12, 13, 14, 15, 16, 17, 18, 19, 20] (by decide +kernel) rfl
                            have hFc := va_free (wc := [(oH, .inr (4, [.ref oP, .ref h1, .ref h2, .int lH])), (h1, .inl (cI, 6, .inl fH1)), (h2, .inl (cI, 6, .inl fH2)), (oP, .inr (7, [.ref oC, .ref nB, .int ftc])), (nB, .inr (5, [.ref aB, .int lBc])), (aB, .inl (cI, 2400, .inl fBc)), (n2, .inr (5, [.ref a2, .int ltc])), (a2, .inl (cI, 300, .inl ft_c)), (n3, .inr (5, [.ref a3, .int lhc])), (a3, .inl (cI, 300, .inl fhc)), (oC, .inr (2, [.ref o4, .ref o5])), (o4, .inr (10, [.ref a41, .ref a42, .ref a43, .int l4])), (a41, .inl (cI, 256, .inl f41)), (a42, .inl (cI, 512, .inl f42)), (a43, .inl (cI, 512, .inl f43)), (o5, .inr (10, [.ref a51, .ref a52, .ref a53, .int l5])), (a51, .inl (cI, 256, .inl f51)), (a52, .inl (cI, 512, .inl f52)), (a53, .inl (cI, 512, .inl f53))]) hD hS hA [4, 5, 6, 7, 8, 9, 26, 27, 0, 1, 12, 13, 14, 15, 16, 17, 18, 19, 20] rfl
                            refine va_calli (va_runV (As := [.int fi, .ref n2, .ref n3]) (rest := []) ⟨hx, hb, hml, hown, hts⟩ (m_X4_takeOff l dC dI cI cS H.size oH n2 n3 oP h1 h2 oC nB aB a2 a3 o4 o5 a41 a42 a43 a51 a52 a53 lH fH1 fH2 ftc lBc fBc ltc ft_c lhc fhc l4 f41 f42 f43 l5 f51 f52 f53 fi (g_lH) (g_lBc) (g_ltc) (g_lhc)) (cwV 3 hts gX9_find_X4_takeOff rfl rfl rfl (by decide +kernel) ⟨Nat.le_of_ble_eq_true rfl, Nat.le_of_ble_eq_true rfl⟩) ⟨fun a U g mk q => by obtain ⟨q0, q1, qP, qK, qD, qN0⟩ := q; exact ⟨q0, q1, qP, va_K.moved (u := U) (U := U.calling g mk a) (Vm.Alike.refl U.vm) qK, qD, va_Nw.same rfl rfl qN0⟩, va_recv hK hPc (ci := 4) (q0 := 0) rfl rfl, fun U hU hW => ⟨rfl, by rw [hU], by rw [hU]; exact hPc, va_K.moved hW.alike hK, hDc.weaken (fun _ _ _ _ => trivial), va_Nw.warmM hW hN52⟩⟩ rfl rfl hl.1 rfl (lv_room (Nat.le_of_ble_eq_true rfl)) dX9_find_162 ⟨Nat.le_of_ble_eq_true rfl, Nat.le_of_ble_eq_true rfl⟩) hS (fun q _ h => hFc q h) hFc (fun r_23 u t H1 locs ht hvm hw hB hz1 hk1 hSn => ?_)
                            subst hw
                            obtain ⟨ft_23, lB_23, fB_23, ld_23, fd_23, hP1, hD1, hf23_0, hf23_1, hf23_2⟩ := hB
                            rw [ht] at hP1
                            obtain ⟨hPn, hDn⟩ := va_join (wr := [(nx, .inr (5, [.ref ax, .int lx])), (ax, .inl (cI, 300, .inl fx)), (n1, .inr (5, [.ref a1, .int loc])), (a1, .inl (cI, 300, .inl foc)), (r1, .inl (cI, 258, .inl fxc)), (r2, .inl (cI, 258, .inl fyc)), (oK, .inr (3, [.ref k1, .ref k2, .int lK])), (k1, .inl (cI, 1024, .inl fK1)), (k2, .inl (cI, 1024, .inl fK2)), (oR, .inr (9, [.ref oH, .ref oK, .ref n1, .ref n2, .ref n3, .ref r1, .ref r2, .ref r3, .ref r4, .ref r5, .ref r6, .int lR])), (r3, .inl (cI, 774, .inl fzc))]) (w1 := [(oH, .inr (4, [.ref oP, .ref h1, .ref h2, .int lH])), (h1, .inl (cI, 6, .inl fH1)), (h2, .inl (cI, 6, .inl fH2)), (oP, .inr (7, [.ref oC, .ref nB, .int ft_23])), (nB, .inr (5, [.ref aB, .int lB_23])), (aB, .inl (cI, 2400, .inl fB_23)), (n2, .inr (5, [.ref a2, .int ltc])), (a2, .inl (cI, 300, .inl ft_c)), (n3, .inr (5, [.ref a3, .int ld_23])), (a3, .inl (cI, 300, .inl fd_23)), (oC, .inr (2, [.ref o4, .ref o5])), (o4, .inr (10, [.ref a41, .ref a42, .ref a43, .int l4])), (a41, .inl (cI, 256, .inl f41)), (a42, .inl (cI, 512, .inl f42)), (a43, .inl (cI, 512, .inl f43)), (o5, .inr (10, [.ref a51, .ref a52, .ref a53, .int l5])), (a51, .inl (cI, 256, .inl f51)), (a52, .inl (cI, 512, .inl f52)), (a53, .inl (cI, 512, .inl f53))]) hP hD [4, 5, 6, 7, 8, 9, 26, 27, 0, 1, 12, 13, 14, 15, 16, 17, 18, 19, 20] [2, 3, 10, 11, 21, 22, 23, 24, 25, 28, 29] rfl rfl (by decide +kernel) (by decide +kernel) hk1 hFc hP1 hD1
                            clear hP hD hS hPc hDc hFc hk1 hz1 hvm ht hP1 hD1
                            generalize H1 = H at hPn hSn ⊢
                            have hP : va_P (dC, dI) vwCl [(nx, .inr (5, [.ref ax, .int lx])), (ax, .inl (cI, 300, .inl fx)), (n1, .inr (5, [.ref a1, .int loc])), (a1, .inl (cI, 300, .inl foc)), (r1, .inl (cI, 258, .inl fxc)), (r2, .inl (cI, 258, .inl fyc)), (oK, .inr (3, [.ref k1, .ref k2, .int lK])), (k1, .inl (cI, 1024, .inl fK1)), (k2, .inl (cI, 1024, .inl fK2)), (oR, .inr (9, [.ref oH, .ref oK, .ref n1, .ref n2, .ref n3, .ref r1, .ref r2, .ref r3, .ref r4, .ref r5, .ref r6, .int lR])), (r3, .inl (cI, 774, .inl fzc)), (oH, .inr (4, [.ref oP, .ref h1, .ref h2, .int lH])), (h1, .inl (cI, 6, .inl fH1)), (h2, .inl (cI, 6, .inl fH2)), (oP, .inr (7, [.ref oC, .ref nB, .int ft_23])), (nB, .inr (5, [.ref aB, .int lB_23])), (aB, .inl (cI, 2400, .inl fB_23)), (n2, .inr (5, [.ref a2, .int ltc])), (a2, .inl (cI, 300, .inl ft_c)), (n3, .inr (5, [.ref a3, .int ld_23])), (a3, .inl (cI, 300, .inl fd_23)), (oC, .inr (2, [.ref o4, .ref o5])), (o4, .inr (10, [.ref a41, .ref a42, .ref a43, .int l4])), (a41, .inl (cI, 256, .inl f41)), (a42, .inl (cI, 512, .inl f42)), (a43, .inl (cI, 512, .inl f43)), (o5, .inr (10, [.ref a51, .ref a52, .ref a53, .int l5])), (a51, .inl (cI, 256, .inl f51)), (a52, .inl (cI, 512, .inl f52)), (a53, .inl (cI, 512, .inl f53))] H := hPn
                            have hD : va_D A [(nx, .inr (5, [.ref ax, .int lx])), (ax, .inl (cI, 300, .inl fx)), (n1, .inr (5, [.ref a1, .int loc])), (a1, .inl (cI, 300, .inl foc)), (r1, .inl (cI, 258, .inl fxc)), (r2, .inl (cI, 258, .inl fyc)), (oK, .inr (3, [.ref k1, .ref k2, .int lK])), (k1, .inl (cI, 1024, .inl fK1)), (k2, .inl (cI, 1024, .inl fK2)), (oR, .inr (9, [.ref oH, .ref oK, .ref n1, .ref n2, .ref n3, .ref r1, .ref r2, .ref r3, .ref r4, .ref r5, .ref r6, .int lR])), (r3, .inl (cI, 774, .inl fzc)), (oH, .inr (4, [.ref oP, .ref h1, .ref h2, .int lH])), (h1, .inl (cI, 6, .inl fH1)), (h2, .inl (cI, 6, .inl fH2)), (oP, .inr (7, [.ref oC, .ref nB, .int ft_23])), (nB, .inr (5, [.ref aB, .int lB_23])), (aB, .inl (cI, 2400, .inl fB_23)), (n2, .inr (5, [.ref a2, .int ltc])), (a2, .inl (cI, 300, .inl ft_c)), (n3, .inr (5, [.ref a3, .int ld_23])), (a3, .inl (cI, 300, .inl fd_23)), (oC, .inr (2, [.ref o4, .ref o5])), (o4, .inr (10, [.ref a41, .ref a42, .ref a43, .int l4])), (a41, .inl (cI, 256, .inl f41)), (a42, .inl (cI, 512, .inl f42)), (a43, .inl (cI, 512, .inl f43)), (o5, .inr (10, [.ref a51, .ref a52, .ref a53, .int l5])), (a51, .inl (cI, 256, .inl f51)), (a52, .inl (cI, 512, .inl f52)), (a53, .inl (cI, 512, .inl f53))] := hDn
                            have hS := hSn
                            clear hPn hDn hSn
                            refine lv_if_eq (tgt := 210) hx hb dX9_find_165 (by decide) (fun c_24 => ?_) (fun c_24 => ?_)
                            · have tc_24 : r_23.toInt = 0 := v_eq c_24
                              obtain ⟨x_25, ex_25⟩ : ∃ y : Int32, y = fi + 1 := ⟨_, rfl⟩
                              have tx_25 : x_25.toInt = fi.toInt + 1 := v_add ex_25 (by show -2147483648 ≤ fi.toInt + 1; omega) (by show fi.toInt + 1 < 2147483648; omega)
                              refine lv_iinc (v := x_25) (lv' := [(7, .int x_25), (5, .int mi), (4, .int la), (3, .int lH), (0, .ref oR), (1, .int n), (2, .ref nx)]) hx hb dX9_find_210 hl (k := 0) rfl (by rw [ex_25]; rfl) (by decide) rfl (fun ls hl => ?_)
                              refine lv_goto (tgt := 137) hx hb dX9_find_213 (by decide) ?_
                              exact ih_137 x_25 ft_23 lB_23 loc ltc ld_23 fB_23 foc ft_c fd_23 fxc fyc fzc _ _ _ (ms_lt hm_137 (by show ((6 - x_25.toInt : Int)) < 6 - fi.toInt; omega) (by show (0 : Int) < 6 - fi.toInt; omega)) (by show 0 ≤ x_25.toInt ∧ x_25.toInt ≤ 6; omega) (hf23_0) (g_loc) (g_ltc) (hf23_1) (hP.sub [19, 20, 0, 1, 11, 12, 13, 14, 15, 16, 2, 3, 21, 22, 23, 24, 25, 26, 27, 28, 29, 4, 5, 6, 7, 8, 17, 18, 9, 10] rfl) (hD.sub [19, 20, 0, 1, 11, 12, 13, 14, 15, 16, 2, 3, 21, 22, 23, 24, 25, 26, 27, 28, 29, 4, 5, 6, 7, 8, 17, 18, 9, 10] (by decide +kernel) rfl) hS (lv_sub hl [0, 1, 2, 3, 4, 5, 6] rfl)
                            · have tc_24 : ¬ r_23.toInt = 0 := v_ne c_24
                              refine lv_iload_n hx hb dX9_find_168 rfl (lv_at hl 3 rfl) ?_
                              refine lv_iload_n hx hb dX9_find_169 rfl (lv_at hl 3 rfl) ?_
                              refine lv_iload_n hx hb dX9_find_170 rfl (lv_at hl 3 rfl) ?_
                              refine lv_imul hx hb dX9_find_171 ?_
                              refine lv_topi (fun x_26 ex_26 => ?_)
                              refine lv_iadd hx hb dX9_find_172 ?_
                              refine lv_topi (fun x_27 ex_27 => ?_)
                              have rv27_1 := v_rng x_26
                              refine lv_iload hx hb dX9_find_173 (lv_at hl 0 rfl) ?_
                              refine lv_iload_n hx hb dX9_find_175 rfl (lv_at hl 3 rfl) ?_
                              refine lv_imul hx hb dX9_find_176 ?_
                              refine lv_topi (fun x_28 ex_28 => ?_)
                              refine lv_iload hx hb dX9_find_177 (lv_at hl 1 rfl) ?_
                              refine lv_iadd hx hb dX9_find_179 ?_
                              refine lv_topi (fun x_29 ex_29 => ?_)
                              have rv29_0 := v_rng x_28
                              refine lv_iload_n hx hb dX9_find_180 rfl (lv_at hl 3 rfl) ?_
                              refine lv_imul hx hb dX9_find_181 ?_
                              refine lv_topi (fun x_30 ex_30 => ?_)
                              have rv30_0 := v_rng x_29
                              refine lv_iadd hx hb dX9_find_182 ?_
                              refine lv_topi (fun x_31 ex_31 => ?_)
                              have rv31_0 := v_rng x_27
                              have rv31_1 := v_rng x_30
                              refine lv_iload hx hb dX9_find_183 (lv_at hl 2 rfl) ?_
                              refine lv_iadd hx hb dX9_find_185 ?_
                              refine lv_topi (fun x_32 ex_32 => ?_)
                              have rv32_0 := v_rng x_31
                              refine lv_istore (lv' := [(8, .int x_32), (7, .int fi), (5, .int mi), (4, .int la), (3, .int lH), (0, .ref oR), (1, .int n), (2, .ref nx)]) hx hb dX9_find_186 hl (by decide) rfl (fun ls hl => ?_)
                              refine lv_aload_n hx hb dX9_find_188 rfl (lv_at hl 5 rfl) ?_
                              refine lv_iload hx hb dX9_find_189 (lv_at hl 0 rfl) ?_
                              refine lv_aload_n hx hb dX9_find_191 rfl (lv_at hl 5 rfl) ?_
                              refine va_get (D := (dC, dI)) (ci := 9) (v := .ref n3) (C := RX9) (T := TX9) (N := 12) hx hb hts in_X9 hown hK hP 9 rfl rfl 4 (by decide) (hts (.fieldLink RX9 23 "TextMender$Rows" "three" "LTextMender$Numbers;") (List.mem_of_getElem? (i := 5) rfl)) (fun _ h9 => h9) rfl dX9_find_192 ?_
                              have hPc := hP.sub (ws' := [(oR, .inr (9, [.ref oH, .ref oK, .ref n1, .ref n2, .ref n3, .ref r1, .ref r2, .ref r3, .ref r4, .ref r5, .ref r6, .int lR])), (r1, .inl (cI, 258, .inl fxc)), (r2, .inl (cI, 258, .inl fyc)), (oK, .inr (3, [.ref k1, .ref k2, .int lK])), (k1, .inl (cI, 1024, .inl fK1)), (k2, .inl (cI, 1024, .inl fK2)), (n3, .inr (5, [.ref a3, .int ld_23])), (a3, .inl (cI, 300, .inl fd_23))]) [9, 4, 5, 6, 7, 8, 19, 20] rfl
                              have hDc := hD.sub (ws' := [(oR, .inr (9, [.ref oH, .ref oK, .ref n1, .ref n2, .ref n3, .ref r1, .ref r2, .ref r3, .ref r4, .ref r5, .ref r6, .int lR])), (r1, .inl (cI, 258, .inl fxc)), (r2, .inl (cI, 258, .inl fyc)), (oK, .inr (3, [.ref k1, .ref k2, .int lK])), (k1, .inl (cI, 1024, .inl fK1)), (k2, .inl (cI, 1024, .inl fK2)), (n3, .inr (5, [.ref a3, .int ld_23])), (a3, .inl (cI, 300, .inl fd_23))]) [9, 4, 5, 6, 7, 8, 19, 20] (by decide +kernel) rfl
                              have hFc := va_free (wc := [(oR, .inr (9, [.ref oH, .ref oK, .ref n1, .ref n2, .ref n3, .ref r1, .ref r2, .ref r3, .ref r4, .ref r5, .ref r6, .int lR])), (r1, .inl (cI, 258, .inl fxc)), (r2, .inl (cI, 258, .inl fyc)), (oK, .inr (3, [.ref k1, .ref k2, .int lK])), (k1, .inl (cI, 1024, .inl fK1)), (k2, .inl (cI, 1024, .inl fK2)), (n3, .inr (5, [.ref a3, .int ld_23])), (a3, .inl (cI, 300, .inl fd_23))]) hD hS hA [9, 4, 5, 6, 7, 8, 19, 20] rfl
                              refine va_callv (va_runV (As := [.int x_32, .ref n3]) (rest := []) ⟨hx, hb, hml, hown, hts⟩ (m_X9_note l dC dI cI cS H.size oR n3 oH oK n1 n2 n3 r1 r2 r3 r4 r5 r6 k1 k2 a3 lR fxc fyc lK fK1 fK2 ld_23 fd_23 x_32 (g_lR) (g_lK) (hf23_1)) (cwV 2 hts gX9_find_X9_note rfl rfl rfl (by decide +kernel) ⟨Nat.le_of_ble_eq_true rfl, Nat.le_of_ble_eq_true rfl⟩) ⟨fun a U g mk q => by obtain ⟨q0, q1, qP, qK, qD⟩ := q; exact ⟨q0, q1, qP, va_K.moved (u := U) (U := U.calling g mk a) (Vm.Alike.refl U.vm) qK, qD⟩, va_recv hK hPc (ci := 9) (q0 := 0) rfl rfl, fun U hU hW => ⟨rfl, by rw [hU], by rw [hU]; exact hPc, va_K.moved hW.alike hK, hDc.weaken (fun _ _ _ _ => trivial)⟩⟩ rfl rfl hl.1 rfl (lv_room (Nat.le_of_ble_eq_true rfl)) dX9_find_195 ⟨Nat.le_of_ble_eq_true rfl, Nat.le_of_ble_eq_true rfl⟩) hS (fun q _ h => hFc q h) hFc (fun u t H1 locs ht hvm hw hB hz1 hk1 hSn => ?_)
                              obtain ⟨fR1_33, fR2_33, hP1, hD1⟩ := hB
                              rw [ht] at hP1
                              obtain ⟨hPn, hDn⟩ := va_join (wr := [(nx, .inr (5, [.ref ax, .int lx])), (ax, .inl (cI, 300, .inl fx)), (n1, .inr (5, [.ref a1, .int loc])), (a1, .inl (cI, 300, .inl foc)), (r3, .inl (cI, 774, .inl fzc)), (oH, .inr (4, [.ref oP, .ref h1, .ref h2, .int lH])), (h1, .inl (cI, 6, .inl fH1)), (h2, .inl (cI, 6, .inl fH2)), (oP, .inr (7, [.ref oC, .ref nB, .int ft_23])), (nB, .inr (5, [.ref aB, .int lB_23])), (aB, .inl (cI, 2400, .inl fB_23)), (n2, .inr (5, [.ref a2, .int ltc])), (a2, .inl (cI, 300, .inl ft_c)), (oC, .inr (2, [.ref o4, .ref o5])), (o4, .inr (10, [.ref a41, .ref a42, .ref a43, .int l4])), (a41, .inl (cI, 256, .inl f41)), (a42, .inl (cI, 512, .inl f42)), (a43, .inl (cI, 512, .inl f43)), (o5, .inr (10, [.ref a51, .ref a52, .ref a53, .int l5])), (a51, .inl (cI, 256, .inl f51)), (a52, .inl (cI, 512, .inl f52)), (a53, .inl (cI, 512, .inl f53))]) (w1 := [(oR, .inr (9, [.ref oH, .ref oK, .ref n1, .ref n2, .ref n3, .ref r1, .ref r2, .ref r3, .ref r4, .ref r5, .ref r6, .int lR])), (r1, .inl (cI, 258, .inl fR1_33)), (r2, .inl (cI, 258, .inl fR2_33)), (oK, .inr (3, [.ref k1, .ref k2, .int lK])), (k1, .inl (cI, 1024, .inl fK1)), (k2, .inl (cI, 1024, .inl fK2)), (n3, .inr (5, [.ref a3, .int ld_23])), (a3, .inl (cI, 300, .inl fd_23))]) hP hD [9, 4, 5, 6, 7, 8, 19, 20] [0, 1, 2, 3, 10, 11, 12, 13, 14, 15, 16, 17, 18, 21, 22, 23, 24, 25, 26, 27, 28, 29] rfl rfl (by decide +kernel) (by decide +kernel) hk1 hFc hP1 hD1
                              clear hP hD hS hPc hDc hFc hk1 hz1 hvm ht hP1 hD1
                              generalize H1 = H at hPn hSn ⊢
                              have hP : va_P (dC, dI) vwCl [(nx, .inr (5, [.ref ax, .int lx])), (ax, .inl (cI, 300, .inl fx)), (n1, .inr (5, [.ref a1, .int loc])), (a1, .inl (cI, 300, .inl foc)), (r3, .inl (cI, 774, .inl fzc)), (oH, .inr (4, [.ref oP, .ref h1, .ref h2, .int lH])), (h1, .inl (cI, 6, .inl fH1)), (h2, .inl (cI, 6, .inl fH2)), (oP, .inr (7, [.ref oC, .ref nB, .int ft_23])), (nB, .inr (5, [.ref aB, .int lB_23])), (aB, .inl (cI, 2400, .inl fB_23)), (n2, .inr (5, [.ref a2, .int ltc])), (a2, .inl (cI, 300, .inl ft_c)), (oC, .inr (2, [.ref o4, .ref o5])), (o4, .inr (10, [.ref a41, .ref a42, .ref a43, .int l4])), (a41, .inl (cI, 256, .inl f41)), (a42, .inl (cI, 512, .inl f42)), (a43, .inl (cI, 512, .inl f43)), (o5, .inr (10, [.ref a51, .ref a52, .ref a53, .int l5])), (a51, .inl (cI, 256, .inl f51)), (a52, .inl (cI, 512, .inl f52)), (a53, .inl (cI, 512, .inl f53)), (oR, .inr (9, [.ref oH, .ref oK, .ref n1, .ref n2, .ref n3, .ref r1, .ref r2, .ref r3, .ref r4, .ref r5, .ref r6, .int lR])), (r1, .inl (cI, 258, .inl fR1_33)), (r2, .inl (cI, 258, .inl fR2_33)), (oK, .inr (3, [.ref k1, .ref k2, .int lK])), (k1, .inl (cI, 1024, .inl fK1)), (k2, .inl (cI, 1024, .inl fK2)), (n3, .inr (5, [.ref a3, .int ld_23])), (a3, .inl (cI, 300, .inl fd_23))] H := hPn
                              have hD : va_D A [(nx, .inr (5, [.ref ax, .int lx])), (ax, .inl (cI, 300, .inl fx)), (n1, .inr (5, [.ref a1, .int loc])), (a1, .inl (cI, 300, .inl foc)), (r3, .inl (cI, 774, .inl fzc)), (oH, .inr (4, [.ref oP, .ref h1, .ref h2, .int lH])), (h1, .inl (cI, 6, .inl fH1)), (h2, .inl (cI, 6, .inl fH2)), (oP, .inr (7, [.ref oC, .ref nB, .int ft_23])), (nB, .inr (5, [.ref aB, .int lB_23])), (aB, .inl (cI, 2400, .inl fB_23)), (n2, .inr (5, [.ref a2, .int ltc])), (a2, .inl (cI, 300, .inl ft_c)), (oC, .inr (2, [.ref o4, .ref o5])), (o4, .inr (10, [.ref a41, .ref a42, .ref a43, .int l4])), (a41, .inl (cI, 256, .inl f41)), (a42, .inl (cI, 512, .inl f42)), (a43, .inl (cI, 512, .inl f43)), (o5, .inr (10, [.ref a51, .ref a52, .ref a53, .int l5])), (a51, .inl (cI, 256, .inl f51)), (a52, .inl (cI, 512, .inl f52)), (a53, .inl (cI, 512, .inl f53)), (oR, .inr (9, [.ref oH, .ref oK, .ref n1, .ref n2, .ref n3, .ref r1, .ref r2, .ref r3, .ref r4, .ref r5, .ref r6, .int lR])), (r1, .inl (cI, 258, .inl fR1_33)), (r2, .inl (cI, 258, .inl fR2_33)), (oK, .inr (3, [.ref k1, .ref k2, .int lK])), (k1, .inl (cI, 1024, .inl fK1)), (k2, .inl (cI, 1024, .inl fK2)), (n3, .inr (5, [.ref a3, .int ld_23])), (a3, .inl (cI, 300, .inl fd_23))] := hDn
                              have hS := hSn
                              clear hPn hDn hSn
                              refine lv_aload_n hx hb dX9_find_198 rfl (lv_at hl 5 rfl) ?_
                              refine lv_iload hx hb dX9_find_199 (lv_at hl 0 rfl) ?_
                              refine lv_iload hx hb dX9_find_201 (lv_at hl 1 rfl) ?_
                              refine lv_iload hx hb dX9_find_203 (lv_at hl 2 rfl) ?_
                              refine lv_iload hx hb dX9_find_205 (lv_at hl 3 rfl) ?_
                              have hPc := hP.sub (ws' := [(oR, .inr (9, [.ref oH, .ref oK, .ref n1, .ref n2, .ref n3, .ref r1, .ref r2, .ref r3, .ref r4, .ref r5, .ref r6, .int lR])), (r3, .inl (cI, 774, .inl fzc))]) [22, 4] rfl
                              have hDc := hD.sub (ws' := [(oR, .inr (9, [.ref oH, .ref oK, .ref n1, .ref n2, .ref n3, .ref r1, .ref r2, .ref r3, .ref r4, .ref r5, .ref r6, .int lR])), (r3, .inl (cI, 774, .inl fzc))]) [22, 4] (by decide +kernel) rfl
                              have hFc := va_free (wc := [(oR, .inr (9, [.ref oH, .ref oK, .ref n1, .ref n2, .ref n3, .ref r1, .ref r2, .ref r3, .ref r4, .ref r5, .ref r6, .int lR])), (r3, .inl (cI, 774, .inl fzc))]) hD hS hA [22, 4] rfl
                              refine va_callv (va_runV (As := [.int x_32, .int fi, .int mi, .int la]) (rest := []) ⟨hx, hb, hml, hown, hts⟩ (m_X9_nameHarms l dC dI cI cS H.size oR oH oK n1 n2 n3 r1 r2 r3 r4 r5 r6 lR fzc x_32 fi mi la (g_lR)) (cwV 4 hts gX9_find_X9_nameHarms rfl rfl rfl (by decide +kernel) ⟨Nat.le_of_ble_eq_true rfl, Nat.le_of_ble_eq_true rfl⟩) ⟨fun a U g mk q => by obtain ⟨q0, q1, qP, qK, qD⟩ := q; exact ⟨q0, q1, qP, va_K.moved (u := U) (U := U.calling g mk a) (Vm.Alike.refl U.vm) qK, qD⟩, va_recv hK hPc (ci := 9) (q0 := 0) rfl rfl, fun U hU hW => ⟨rfl, by rw [hU], by rw [hU]; exact hPc, va_K.moved hW.alike hK, hDc.weaken (fun _ _ _ _ => trivial)⟩⟩ rfl rfl hl.1 rfl (lv_room (Nat.le_of_ble_eq_true rfl)) dX9_find_207 ⟨Nat.le_of_ble_eq_true rfl, Nat.le_of_ble_eq_true rfl⟩) hS (fun q _ h => hFc q h) hFc (fun u t H1 locs ht hvm hw hB hz1 hk1 hSn => ?_)
                              obtain ⟨fR3_34, hP1, hD1⟩ := hB
                              rw [ht] at hP1
                              obtain ⟨hPn, hDn⟩ := va_join (wr := [(nx, .inr (5, [.ref ax, .int lx])), (ax, .inl (cI, 300, .inl fx)), (n1, .inr (5, [.ref a1, .int loc])), (a1, .inl (cI, 300, .inl foc)), (oH, .inr (4, [.ref oP, .ref h1, .ref h2, .int lH])), (h1, .inl (cI, 6, .inl fH1)), (h2, .inl (cI, 6, .inl fH2)), (oP, .inr (7, [.ref oC, .ref nB, .int ft_23])), (nB, .inr (5, [.ref aB, .int lB_23])), (aB, .inl (cI, 2400, .inl fB_23)), (n2, .inr (5, [.ref a2, .int ltc])), (a2, .inl (cI, 300, .inl ft_c)), (oC, .inr (2, [.ref o4, .ref o5])), (o4, .inr (10, [.ref a41, .ref a42, .ref a43, .int l4])), (a41, .inl (cI, 256, .inl f41)), (a42, .inl (cI, 512, .inl f42)), (a43, .inl (cI, 512, .inl f43)), (o5, .inr (10, [.ref a51, .ref a52, .ref a53, .int l5])), (a51, .inl (cI, 256, .inl f51)), (a52, .inl (cI, 512, .inl f52)), (a53, .inl (cI, 512, .inl f53)), (r1, .inl (cI, 258, .inl fR1_33)), (r2, .inl (cI, 258, .inl fR2_33)), (oK, .inr (3, [.ref k1, .ref k2, .int lK])), (k1, .inl (cI, 1024, .inl fK1)), (k2, .inl (cI, 1024, .inl fK2)), (n3, .inr (5, [.ref a3, .int ld_23])), (a3, .inl (cI, 300, .inl fd_23))]) (w1 := [(oR, .inr (9, [.ref oH, .ref oK, .ref n1, .ref n2, .ref n3, .ref r1, .ref r2, .ref r3, .ref r4, .ref r5, .ref r6, .int lR])), (r3, .inl (cI, 774, .inl fR3_34))]) hP hD [22, 4] [0, 1, 2, 3, 5, 6, 7, 8, 9, 10, 11, 12, 13, 14, 15, 16, 17, 18, 19, 20, 21, 23, 24, 25, 26, 27, 28, 29] rfl rfl (by decide +kernel) (by decide +kernel) hk1 hFc hP1 hD1
                              clear hP hD hS hPc hDc hFc hk1 hz1 hvm ht hP1 hD1
                              generalize H1 = H at hPn hSn ⊢
                              have hP : va_P (dC, dI) vwCl [(nx, .inr (5, [.ref ax, .int lx])), (ax, .inl (cI, 300, .inl fx)), (n1, .inr (5, [.ref a1, .int loc])), (a1, .inl (cI, 300, .inl foc)), (oH, .inr (4, [.ref oP, .ref h1, .ref h2, .int lH])), (h1, .inl (cI, 6, .inl fH1)), (h2, .inl (cI, 6, .inl fH2)), (oP, .inr (7, [.ref oC, .ref nB, .int ft_23])), (nB, .inr (5, [.ref aB, .int lB_23])), (aB, .inl (cI, 2400, .inl fB_23)), (n2, .inr (5, [.ref a2, .int ltc])), (a2, .inl (cI, 300, .inl ft_c)), (oC, .inr (2, [.ref o4, .ref o5])), (o4, .inr (10, [.ref a41, .ref a42, .ref a43, .int l4])), (a41, .inl (cI, 256, .inl f41)), (a42, .inl (cI, 512, .inl f42)), (a43, .inl (cI, 512, .inl f43)), (o5, .inr (10, [.ref a51, .ref a52, .ref a53, .int l5])), (a51, .inl (cI, 256, .inl f51)), (a52, .inl (cI, 512, .inl f52)), (a53, .inl (cI, 512, .inl f53)), (r1, .inl (cI, 258, .inl fR1_33)), (r2, .inl (cI, 258, .inl fR2_33)), (oK, .inr (3, [.ref k1, .ref k2, .int lK])), (k1, .inl (cI, 1024, .inl fK1)), (k2, .inl (cI, 1024, .inl fK2)), (n3, .inr (5, [.ref a3, .int ld_23])), (a3, .inl (cI, 300, .inl fd_23)), (oR, .inr (9, [.ref oH, .ref oK, .ref n1, .ref n2, .ref n3, .ref r1, .ref r2, .ref r3, .ref r4, .ref r5, .ref r6, .int lR])), (r3, .inl (cI, 774, .inl fR3_34))] H := hPn
                              have hD : va_D A [(nx, .inr (5, [.ref ax, .int lx])), (ax, .inl (cI, 300, .inl fx)), (n1, .inr (5, [.ref a1, .int loc])), (a1, .inl (cI, 300, .inl foc)), (oH, .inr (4, [.ref oP, .ref h1, .ref h2, .int lH])), (h1, .inl (cI, 6, .inl fH1)), (h2, .inl (cI, 6, .inl fH2)), (oP, .inr (7, [.ref oC, .ref nB, .int ft_23])), (nB, .inr (5, [.ref aB, .int lB_23])), (aB, .inl (cI, 2400, .inl fB_23)), (n2, .inr (5, [.ref a2, .int ltc])), (a2, .inl (cI, 300, .inl ft_c)), (oC, .inr (2, [.ref o4, .ref o5])), (o4, .inr (10, [.ref a41, .ref a42, .ref a43, .int l4])), (a41, .inl (cI, 256, .inl f41)), (a42, .inl (cI, 512, .inl f42)), (a43, .inl (cI, 512, .inl f43)), (o5, .inr (10, [.ref a51, .ref a52, .ref a53, .int l5])), (a51, .inl (cI, 256, .inl f51)), (a52, .inl (cI, 512, .inl f52)), (a53, .inl (cI, 512, .inl f53)), (r1, .inl (cI, 258, .inl fR1_33)), (r2, .inl (cI, 258, .inl fR2_33)), (oK, .inr (3, [.ref k1, .ref k2, .int lK])), (k1, .inl (cI, 1024, .inl fK1)), (k2, .inl (cI, 1024, .inl fK2)), (n3, .inr (5, [.ref a3, .int ld_23])), (a3, .inl (cI, 300, .inl fd_23)), (oR, .inr (9, [.ref oH, .ref oK, .ref n1, .ref n2, .ref n3, .ref r1, .ref r2, .ref r3, .ref r4, .ref r5, .ref r6, .int lR])), (r3, .inl (cI, 774, .inl fR3_34))] := hDn
                              have hS := hSn
                              clear hPn hDn hSn
                              obtain ⟨x_35, ex_35⟩ : ∃ y : Int32, y = fi + 1 := ⟨_, rfl⟩
                              have tx_35 : x_35.toInt = fi.toInt + 1 := v_add ex_35 (by show -2147483648 ≤ fi.toInt + 1; omega) (by show fi.toInt + 1 < 2147483648; omega)
                              refine lv_iinc (v := x_35) (lv' := [(7, .int x_35), (8, .int x_32), (5, .int mi), (4, .int la), (3, .int lH), (0, .ref oR), (1, .int n), (2, .ref nx)]) hx hb dX9_find_210 hl (k := 1) rfl (by rw [ex_35]; rfl) (by decide) rfl (fun ls hl => ?_)
                              refine lv_goto (tgt := 137) hx hb dX9_find_213 (by decide) ?_
                              exact ih_137 x_35 ft_23 lB_23 loc ltc ld_23 fB_23 foc ft_c fd_23 fR1_33 fR2_33 fR3_34 _ _ _ (ms_lt hm_137 (by show ((6 - x_35.toInt : Int)) < 6 - fi.toInt; omega) (by show (0 : Int) < 6 - fi.toInt; omega)) (by show 0 ≤ x_35.toInt ∧ x_35.toInt ≤ 6; omega) (hf23_0) (g_loc) (g_ltc) (hf23_1) (hP.sub [26, 27, 0, 1, 4, 5, 6, 7, 8, 9, 2, 3, 12, 13, 14, 15, 16, 17, 18, 19, 20, 21, 22, 23, 24, 25, 10, 11, 28, 29] rfl) (hD.sub [26, 27, 0, 1, 4, 5, 6, 7, 8, 9, 2, 3, 12, 13, 14, 15, 16, 17, 18, 19, 20, 21, 22, 23, 24, 25, 10, 11, 28, 29] (by decide +kernel) rfl) hS (lv_sub hl [0, 2, 3, 4, 5, 6, 7] rfl)
                    exact LOOP_137 _ 0 ft_12 lB_12 lob ld_12 lhb fB_12 fob fd_12 fhb fR1_17 fR2_17 fR3_18 _ _ _ (ms_s _) (by decide) (hf12_0) (g_lob) (hf12_1) (g_lhb) hP hD hS (lv_sub hl [0, 2, 3, 4, 5, 6, 7] rfl)
                  · have tc_13 : r_12.toInt = 0 := v_eq c_13
                    refine lv_goto (tgt := 216) hx hb dX9_find_99 (by decide) ?_
                    obtain ⟨x_36, ex_36⟩ : ∃ y : Int32, y = mi + 1 := ⟨_, rfl⟩
                    have tx_36 : x_36.toInt = mi.toInt + 1 := v_add ex_36 (by show -2147483648 ≤ mi.toInt + 1; omega) (by show mi.toInt + 1 < 2147483648; omega)
                    refine lv_iinc (v := x_36) (lv' := [(5, .int x_36), (4, .int la), (3, .int lH), (0, .ref oR), (1, .int n), (2, .ref nx)]) hx hb dX9_find_216 hl (k := 0) rfl (by rw [ex_36]; rfl) (by decide) rfl (fun ls hl => ?_)
                    refine lv_goto (tgt := 68) hx hb dX9_find_219 (by decide) ?_
                    exact ih_68 x_36 ft_12 lB_12 lob ld_12 lhb fB_12 fob fd_12 fhb fxb fyb fzb _ _ _ (ms_lt hm_68 (by show ((6 - x_36.toInt : Int)) < 6 - mi.toInt; omega) (by show (0 : Int) < 6 - mi.toInt; omega)) (by show 0 ≤ x_36.toInt ∧ x_36.toInt ≤ 6; omega) (hf12_0) (g_lob) (hf12_1) (g_lhb) (hP.sub [19, 20, 0, 1, 11, 12, 13, 14, 15, 16, 2, 3, 21, 22, 23, 24, 25, 26, 27, 28, 29, 4, 5, 6, 7, 8, 17, 18, 9, 10] rfl) (hD.sub [19, 20, 0, 1, 11, 12, 13, 14, 15, 16, 2, 3, 21, 22, 23, 24, 25, 26, 27, 28, 29, 4, 5, 6, 7, 8, 17, 18, 9, 10] (by decide +kernel) rfl) hS (lv_sub hl [0, 1, 2, 3, 4, 5] rfl)
          exact LOOP_68 _ 0 ft_4 lB_4 ld_4 lta lha fB_4 fd_4 ft_a fha fR1_6 fR2_6 fR3_7 _ _ _ (ms_s _) (by decide) (hf4_0) (hf4_1) (g_lta) (g_lha) hP hD hS (lv_sub hl [0, 1, 2, 3, 4, 5] rfl)
        · have tc_5 : r_4.toInt = 0 := v_eq c_5
          refine lv_goto (tgt := 222) hx hb dX9_find_42 (by decide) ?_
          obtain ⟨x_37, ex_37⟩ : ∃ y : Int32, y = la + 1 := ⟨_, rfl⟩
          have tx_37 : x_37.toInt = la.toInt + 1 := v_add ex_37 (by show -2147483648 ≤ la.toInt + 1; omega) (by show la.toInt + 1 < 2147483648; omega)
          refine lv_iinc (v := x_37) (lv' := [(4, .int x_37), (3, .int lH), (0, .ref oR), (1, .int n), (2, .ref nx)]) hx hb dX9_find_222 hl (k := 0) rfl (by rw [ex_37]; rfl) (by decide) rfl (fun ls hl => ?_)
          refine lv_goto (tgt := 19) hx hb dX9_find_225 (by decide) ?_
          exact ih_19 x_37 ft_4 lB_4 ld_4 lta lha fB_4 fd_4 ft_a fha fxa fya fza _ _ _ (ms_lt hm_19 (by show ((6 - x_37.toInt : Int)) < 6 - la.toInt; omega) (by show (0 : Int) < 6 - la.toInt; omega)) (by show 0 ≤ x_37.toInt ∧ x_37.toInt ≤ 6; omega) (hf4_0) (hf4_1) (g_lta) (g_lha) (hP.sub [0, 1, 2, 19, 20, 3, 4, 5, 6, 12, 13, 14, 15, 16, 21, 22, 23, 24, 25, 26, 27, 28, 29, 7, 8, 9, 17, 18, 10, 11] rfl) (hD.sub [0, 1, 2, 19, 20, 3, 4, 5, 6, 12, 13, 14, 15, 16, 21, 22, 23, 24, 25, 26, 27, 28, 29, 7, 8, 9, 17, 18, 10, 11] (by decide +kernel) rfl) hS (lv_sub hl [0, 1, 2, 3, 4] rfl)
  exact LOOP_19 _ 0 ft lB l1 l2 l3 fB f1 f2 f3 f_1 fR2 fR3 _ _ _ (ms_s _) (by decide) (g_lB) (g_l1) (g_l2) (g_l3) hP hD hS (lv_sub hl [0, 1, 2, 3, 4] rfl)

set_option maxHeartbeats 40000000 in
set_option maxRecDepth 100000 in
theorem m_X9_keepFound (l : Launch) (dC : Nat → ClassId) (dI : Nat → Nat → Nat) (cI cS : ClassId) (sz : Nat) (oR : Nat) (oH : Nat) (oK : Nat) (n1 : Nat) (n2 : Nat) (n3 : Nat) (r1 : Nat) (r2 : Nat) (r3 : Nat) (r4 : Nat) (r5 : Nat) (r6 : Nat) (lR : Int32) (fR1 : Nat → Int32) (fR2 : Nat → Int32) (fR3 : Nat → Int32) (fR4 : Nat → Int32) (fR5 : Nat → Int32) (fR6 : Nat → Int32) (g_lR : 0 ≤ lR.toInt ∧ lR.toInt ≤ 258) : Met l yX9_keepFound wsX9_keepFound ({ frames := 0, cells := 0, slots := 0, locals := 0 } : Room) (va_Pc [.ref oR] (fun U => U.heap.size = sz ∧ va_P (dC, dI) vwCl [(oR, .inr (9, [.ref oH, .ref oK, .ref n1, .ref n2, .ref n3, .ref r1, .ref r2, .ref r3, .ref r4, .ref r5, .ref r6, .int lR])), (r1, .inl (cI, 258, .inl fR1)), (r2, .inl (cI, 258, .inl fR2)), (r3, .inl (cI, 774, .inl fR3)), (r4, .inl (cI, 258, .inl fR4)), (r5, .inl (cI, 258, .inl fR5)), (r6, .inl (cI, 774, .inl fR6))] U.heap ∧ va_K (dC, dI) vwCl [(cI, .int), (cS, .short)] U ∧ va_D (fun _ => True) [(oR, .inr (9, [.ref oH, .ref oK, .ref n1, .ref n2, .ref n3, .ref r1, .ref r2, .ref r3, .ref r4, .ref r5, .ref r6, .int lR])), (r1, .inl (cI, 258, .inl fR1)), (r2, .inl (cI, 258, .inl fR2)), (r3, .inl (cI, 774, .inl fR3)), (r4, .inl (cI, 258, .inl fR4)), (r5, .inl (cI, 258, .inl fR5)), (r6, .inl (cI, 774, .inl fR6))])) (va_Qi (fun (r : Int32) (u : Int32) => r = u) (fun (r : Int32) t => ∃ (lR' : Int32) (fR4' : Nat → Int32) (fR5' : Nat → Int32) (fR6' : Nat → Int32), va_P (dC, dI) vwCl [(oR, .inr (9, [.ref oH, .ref oK, .ref n1, .ref n2, .ref n3, .ref r1, .ref r2, .ref r3, .ref r4, .ref r5, .ref r6, .int lR'])), (r1, .inl (cI, 258, .inl fR1)), (r2, .inl (cI, 258, .inl fR2)), (r3, .inl (cI, 774, .inl fR3)), (r4, .inl (cI, 258, .inl fR4')), (r5, .inl (cI, 258, .inl fR5')), (r6, .inl (cI, 774, .inl fR6'))] t.heap ∧ va_D (va_A [(oR, .inr (9, [.ref oH, .ref oK, .ref n1, .ref n2, .ref n3, .ref r1, .ref r2, .ref r3, .ref r4, .ref r5, .ref r6, .int lR])), (r1, .inl (cI, 258, .inl fR1)), (r2, .inl (cI, 258, .inl fR2)), (r3, .inl (cI, 774, .inl fR3)), (r4, .inl (cI, 258, .inl fR4)), (r5, .inl (cI, 258, .inl fR5)), (r6, .inl (cI, 774, .inl fR6))] sz) [(oR, .inr (9, [.ref oH, .ref oK, .ref n1, .ref n2, .ref n3, .ref r1, .ref r2, .ref r3, .ref r4, .ref r5, .ref r6, .int lR'])), (r1, .inl (cI, 258, .inl fR1)), (r2, .inl (cI, 258, .inl fR2)), (r3, .inl (cI, 774, .inl fR3)), (r4, .inl (cI, 258, .inl fR4')), (r5, .inl (cI, 258, .inl fR5')), (r6, .inl (cI, 774, .inl fR6'))] ∧ (0 ≤ lR'.toInt ∧ lR'.toInt ≤ 258)) (va_A [(oR, .inr (9, [.ref oH, .ref oK, .ref n1, .ref n2, .ref n3, .ref r1, .ref r2, .ref r3, .ref r4, .ref r5, .ref r6, .int lR])), (r1, .inl (cI, 258, .inl fR1)), (r2, .inl (cI, 258, .inl fR2)), (r3, .inl (cI, 774, .inl fR3)), (r4, .inl (cI, 258, .inl fR4)), (r5, .inl (cI, 258, .inl fR5)), (r6, .inl (cI, 774, .inl fR6))] sz)) 0 0 (va_A [(oR, .inr (9, [.ref oH, .ref oK, .ref n1, .ref n2, .ref n3, .ref r1, .ref r2, .ref r3, .ref r4, .ref r5, .ref r6, .int lR])), (r1, .inl (cI, 258, .inl fR1)), (r2, .inl (cI, 258, .inl fR2)), (r3, .inl (cI, 774, .inl fR3)), (r4, .inl (cI, 258, .inl fR4)), (r5, .inl (cI, 258, .inl fR5)), (r6, .inl (cI, 774, .inl fR6))] sz) := by
  refine Met.ofW (cc := cX9_keepFound) (maxL := 3) (ret := (some .int)) (by decide) rfl ?_
  intro p e s m args below meth c s₁ B hml hv
  obtain ⟨rfl, hsz, hP, hK, hD0⟩ := hv
  have hx := B.exec
  have hb := B.bytes
  have hr := B.returns
  have hts := atoms_spec (ws := wsX9_keepFound) B.pre
  have hown : s.vm.findClass RX9 = some m.cls := findClass_of_methodNamed B.named
  have hlocks := B.notSynchronized
  have in_X9 : ∀ w ∈ wsX90, w ∈ wsX9_keepFound := fun _ h => List.mem_cons_of_mem _ (List.mem_append_right _ (h))
  subst hsz
  have hD := hD0.self (sz := s.heap.size)
  generalize hAe : va_A [(oR, .inr (9, [.ref oH, .ref oK, .ref n1, .ref n2, .ref n3, .ref r1, .ref r2, .ref r3, .ref r4, .ref r5, .ref r6, .int lR])), (r1, .inl (cI, 258, .inl fR1)), (r2, .inl (cI, 258, .inl fR2)), (r3, .inl (cI, 774, .inl fR3)), (r4, .inl (cI, 258, .inl fR4)), (r5, .inl (cI, 258, .inl fR5)), (r6, .inl (cI, 774, .inl fR6))] s.heap.size = A at hD ⊢
  have hA : ∀ q : Nat, s.heap.size ≤ q → A q := fun q h => by rw [← hAe]; exact Or.inr h
  have hS : va_S A s.heap s.heap [] := va_S.rf
  have hP : va_P (dC, dI) vwCl [(oR, .inr (9, [.ref oH, .ref oK, .ref n1, .ref n2, .ref n3, .ref r1, .ref r2, .ref r3, .ref r4, .ref r5, .ref r6, .int lR])), (r1, .inl (cI, 258, .inl fR1)), (r2, .inl (cI, 258, .inl fR2)), (r3, .inl (cI, 774, .inl fR3)), (r4, .inl (cI, 258, .inl fR4)), (r5, .inl (cI, 258, .inl fR5)), (r6, .inl (cI, 774, .inl fR6))] s.heap := hP
  have hl := lv_entry ([.ref oR]) (n := 3) (Nat.le_of_ble_eq_true rfl)
  rw [lg_entry_eq]
  generalize (lg_sl ([.ref oR]) ++ List.replicate (3 - (lg_sl ([.ref oR])).length) Slot.unset).toArray = ls at hl ⊢
  have hl : lv_has ls 3 [(0, .ref oR)] := hl
  obtain ⟨QQ, hQQ⟩ : ∃ QQ : Array Value → State → Outcome → State → Prop, QQ = va_Qi (fun (r : Int32) (u : Int32) => r = u) (fun (r : Int32) t => ∃ (lR' : Int32) (fR4' : Nat → Int32) (fR5' : Nat → Int32) (fR6' : Nat → Int32), va_P (dC, dI) vwCl [(oR, .inr (9, [.ref oH, .ref oK, .ref n1, .ref n2, .ref n3, .ref r1, .ref r2, .ref r3, .ref r4, .ref r5, .ref r6, .int lR'])), (r1, .inl (cI, 258, .inl fR1)), (r2, .inl (cI, 258, .inl fR2)), (r3, .inl (cI, 774, .inl fR3)), (r4, .inl (cI, 258, .inl fR4')), (r5, .inl (cI, 258, .inl fR5')), (r6, .inl (cI, 774, .inl fR6'))] t.heap ∧ va_D A [(oR, .inr (9, [.ref oH, .ref oK, .ref n1, .ref n2, .ref n3, .ref r1, .ref r2, .ref r3, .ref r4, .ref r5, .ref r6, .int lR'])), (r1, .inl (cI, 258, .inl fR1)), (r2, .inl (cI, 258, .inl fR2)), (r3, .inl (cI, 774, .inl fR3)), (r4, .inl (cI, 258, .inl fR4')), (r5, .inl (cI, 258, .inl fR5')), (r6, .inl (cI, 774, .inl fR6'))] ∧ (0 ≤ lR'.toInt ∧ lR'.toInt ≤ 258)) A := ⟨_, rfl⟩
  rw [← hQQ]
  refine lv_aload_n hx hb dX9_keepFound_0 rfl (lv_at hl 0 rfl) ?_
  refine lv_iconst (v := 0) hx hb dX9_keepFound_1 (by decide) ?_
  refine va_put (D := (dC, dI)) (ci := 9) (v := .int 0) (ty := .int) (C := RX9) (T := TX9) (N := 12) hx hb hts in_X9 tyX9 tyX9_ok nmX9 hown hK hP hD hS 0 rfl rfl 11 (by decide) (hts (.fieldLink RX9 59 "TextMender$Rows" "told" "I") (List.mem_of_getElem? (i := 1) rfl)) (fun _ h9 => h9) rfl (by decide +kernel) rfl rfl (Nat.le_of_ble_eq_true rfl) dX9_keepFound_2 (fun H locs hPn hDn hSn => ?_)
  clear hP hD hS
  have hP : va_P (dC, dI) vwCl [(oR, .inr (9, [.ref oH, .ref oK, .ref n1, .ref n2, .ref n3, .ref r1, .ref r2, .ref r3, .ref r4, .ref r5, .ref r6, .int 0])), (r1, .inl (cI, 258, .inl fR1)), (r2, .inl (cI, 258, .inl fR2)), (r3, .inl (cI, 774, .inl fR3)), (r4, .inl (cI, 258, .inl fR4)), (r5, .inl (cI, 258, .inl fR5)), (r6, .inl (cI, 774, .inl fR6))] H := hPn
  have hD : va_D A [(oR, .inr (9, [.ref oH, .ref oK, .ref n1, .ref n2, .ref n3, .ref r1, .ref r2, .ref r3, .ref r4, .ref r5, .ref r6, .int 0])), (r1, .inl (cI, 258, .inl fR1)), (r2, .inl (cI, 258, .inl fR2)), (r3, .inl (cI, 774, .inl fR3)), (r4, .inl (cI, 258, .inl fR4)), (r5, .inl (cI, 258, .inl fR5)), (r6, .inl (cI, 774, .inl fR6))] := hDn
  have hS := hSn
  clear hPn hDn hSn
  refine lv_iconst (v := 0) hx hb dX9_keepFound_5 (by decide) ?_
  refine lv_istore_n (lv' := [(1, .int 0), (0, .ref oR)]) hx hb dX9_keepFound_6 rfl hl (by decide) rfl (fun ls hl => ?_)
  have LOOP_7 : ∀ (k_7 : Nat) (pl : Int32) (l2 : Int32) (f4 : Nat → Int32) (f5 : Nat → Int32) (f6 : Nat → Int32) (H : Heap) (locs : List Loc) (ls : Array Slot), MSd (258 - pl.toInt : Int) k_7 → (0 ≤ pl.toInt ∧ pl.toInt ≤ 258) → (0 ≤ l2.toInt ∧ l2.toInt ≤ pl.toInt) → va_P (dC, dI) vwCl [(oR, .inr (9, [.ref oH, .ref oK, .ref n1, .ref n2, .ref n3, .ref r1, .ref r2, .ref r3, .ref r4, .ref r5, .ref r6, .int l2])), (r1, .inl (cI, 258, .inl fR1)), (r2, .inl (cI, 258, .inl fR2)), (r3, .inl (cI, 774, .inl fR3)), (r4, .inl (cI, 258, .inl f4)), (r5, .inl (cI, 258, .inl f5)), (r6, .inl (cI, 774, .inl f6))] H → va_D A [(oR, .inr (9, [.ref oH, .ref oK, .ref n1, .ref n2, .ref n3, .ref r1, .ref r2, .ref r3, .ref r4, .ref r5, .ref r6, .int l2])), (r1, .inl (cI, 258, .inl fR1)), (r2, .inl (cI, 258, .inl fR2)), (r3, .inl (cI, 774, .inl fR3)), (r4, .inl (cI, 258, .inl f4)), (r5, .inl (cI, 258, .inl f5)), (r6, .inl (cI, 774, .inl f6))] → va_S A s.heap H locs → lv_has ls 3 [(1, .int pl), (0, .ref oR)] → W p l e (headSpec wsX9_keepFound ({ frames := 0, cells := 0, slots := 0, locals := 0 } : Room)).room s m ([.ref oR] : List Value).toArray below meth c H locs 0 0 (MQ below QQ ([.ref oR] : List Value).toArray s 0 0 A) (F0 m 7 ls []) := by
    clear hP hD hS hl
    intro k_7
    induction k_7 with
    | zero =>
      intro pl l2 f4 f5 f6 H locs ls hm_7 g_pl g_l2 hP hD hS hl
      exact ms_0 hm_7
    | succ k_7 ih_7 =>
      intro pl l2 f4 f5 f6 H locs ls hm_7 g_pl g_l2 hP hD hS hl
      refine lv_iload_n hx hb dX9_keepFound_7 rfl (lv_at hl 0 rfl) ?_
      refine lv_sipush (v := 258) hx hb dX9_keepFound_8 (by decide) ?_
      refine lv_icmp_ge (tgt := 106) hx hb dX9_keepFound_11 (by decide) (fun c_1 => ?_) (fun c_1 => ?_)
      · have tc_1 : 258 ≤ pl.toInt := v_le c_1
        refine lv_aload_n hx hb dX9_keepFound_106 rfl (lv_at hl 1 rfl) ?_
        refine va_get (D := (dC, dI)) (ci := 9) (v := .int l2) (C := RX9) (T := TX9) (N := 12) hx hb hts in_X9 hown hK hP 0 rfl rfl 11 (by decide) (hts (.fieldLink RX9 59 "TextMender$Rows" "told" "I") (List.mem_of_getElem? (i := 1) rfl)) (fun _ h9 => h9) rfl dX9_keepFound_107 ?_
        have hP9 := hP.sub (ws' := [(oR, .inr (9, [.ref oH, .ref oK, .ref n1, .ref n2, .ref n3, .ref r1, .ref r2, .ref r3, .ref r4, .ref r5, .ref r6, .int l2])), (r1, .inl (cI, 258, .inl fR1)), (r2, .inl (cI, 258, .inl fR2)), (r3, .inl (cI, 774, .inl fR3)), (r4, .inl (cI, 258, .inl f4)), (r5, .inl (cI, 258, .inl f5)), (r6, .inl (cI, 774, .inl f6))]) [0, 1, 2, 3, 4, 5, 6] rfl
        have hD9 := hD.sub (ws' := [(oR, .inr (9, [.ref oH, .ref oK, .ref n1, .ref n2, .ref n3, .ref r1, .ref r2, .ref r3, .ref r4, .ref r5, .ref r6, .int l2])), (r1, .inl (cI, 258, .inl fR1)), (r2, .inl (cI, 258, .inl fR2)), (r3, .inl (cI, 774, .inl fR3)), (r4, .inl (cI, 258, .inl f4)), (r5, .inl (cI, 258, .inl f5)), (r6, .inl (cI, 774, .inl f6))]) [0, 1, 2, 3, 4, 5, 6] (by decide +kernel) rfl
        rw [hQQ]
        exact W.iret (v := l2) hx hb hr (fun t ht hW => ⟨⟨l2, l2, rfl, rfl, ⟨l2, f4, f5, f6, by rw [ht]; exact hP9, hD9, by omega⟩⟩, hS.F ht⟩) hS.2.2 dX9_keepFound_110
      · have tc_1 : pl.toInt < 258 := v_nle c_1
        refine lv_aload_n hx hb dX9_keepFound_14 rfl (lv_at hl 1 rfl) ?_
        refine va_get (D := (dC, dI)) (ci := 9) (v := .ref r1) (C := RX9) (T := TX9) (N := 12) hx hb hts in_X9 hown hK hP 0 rfl rfl 5 (by decide) (hts (.fieldLink RX9 26 "TextMender$Rows" "foundCost" "[I") (List.mem_of_getElem? (i := 2) rfl)) (fun _ h9 => h9) rfl dX9_keepFound_15 ?_
        refine lv_iload_n hx hb dX9_keepFound_18 rfl (lv_at hl 0 rfl) ?_
        refine va_iald hx hb hK hP 1 0 rfl rfl (v_in (by omega)) dX9_keepFound_19 ?_
        refine lv_topi (fun x_2 ex_2 => ?_)
        refine lv_iconst (v := (-1)) hx hb dX9_keepFound_20 (by decide) ?_
        refine lv_icmp_eq (tgt := 100) hx hb dX9_keepFound_21 (by decide) (fun c_3 => ?_) (fun c_3 => ?_)
        · have tc_3 : x_2.toInt = (-1) := v_eq c_3
          obtain ⟨x_4, ex_4⟩ : ∃ y : Int32, y = pl + 1 := ⟨_, rfl⟩
          have tx_4 : x_4.toInt = pl.toInt + 1 := v_add ex_4 (by show -2147483648 ≤ pl.toInt + 1; omega) (by show pl.toInt + 1 < 2147483648; omega)
          refine lv_iinc (v := x_4) (lv' := [(1, .int x_4), (0, .ref oR)]) hx hb dX9_keepFound_100 hl (k := 0) rfl (by rw [ex_4]; rfl) (by decide) rfl (fun ls hl => ?_)
          refine lv_goto (tgt := 7) hx hb dX9_keepFound_103 (by decide) ?_
          exact ih_7 x_4 l2 f4 f5 f6 _ _ _ (ms_lt hm_7 (by show ((258 - x_4.toInt : Int)) < 258 - pl.toInt; omega) (by show (0 : Int) < 258 - pl.toInt; omega)) (by show 0 ≤ x_4.toInt ∧ x_4.toInt ≤ 258; omega) (by show 0 ≤ l2.toInt ∧ l2.toInt ≤ x_4.toInt; omega) hP hD hS (lv_sub hl [0, 1] rfl)
        · have tc_3 : ¬ x_2.toInt = (-1) := v_ne c_3
          refine lv_aload_n hx hb dX9_keepFound_24 rfl (lv_at hl 1 rfl) ?_
          refine va_get (D := (dC, dI)) (ci := 9) (v := .ref r4) (C := RX9) (T := TX9) (N := 12) hx hb hts in_X9 hown hK hP 0 rfl rfl 8 (by decide) (hts (.fieldLink RX9 36 "TextMender$Rows" "toldCost" "[I") (List.mem_of_getElem? (i := 3) rfl)) (fun _ h9 => h9) rfl dX9_keepFound_25 ?_
          refine lv_aload_n hx hb dX9_keepFound_28 rfl (lv_at hl 1 rfl) ?_
          refine va_get (D := (dC, dI)) (ci := 9) (v := .int l2) (C := RX9) (T := TX9) (N := 12) hx hb hts in_X9 hown hK hP 0 rfl rfl 11 (by decide) (hts (.fieldLink RX9 59 "TextMender$Rows" "told" "I") (List.mem_of_getElem? (i := 1) rfl)) (fun _ h9 => h9) rfl dX9_keepFound_29 ?_
          refine lv_aload_n hx hb dX9_keepFound_32 rfl (lv_at hl 1 rfl) ?_
          refine va_get (D := (dC, dI)) (ci := 9) (v := .ref r1) (C := RX9) (T := TX9) (N := 12) hx hb hts in_X9 hown hK hP 0 rfl rfl 5 (by decide) (hts (.fieldLink RX9 26 "TextMender$Rows" "foundCost" "[I") (List.mem_of_getElem? (i := 2) rfl)) (fun _ h9 => h9) rfl dX9_keepFound_33 ?_
          refine lv_iload_n hx hb dX9_keepFound_36 rfl (lv_at hl 0 rfl) ?_
          refine va_iald hx hb hK hP 1 0 rfl rfl (v_in (by omega)) dX9_keepFound_37 ?_
          refine k_i (y := x_2) ex_2.symm ?_
          refine va_iast hx hb hK hP hD hS 4 0 rfl rfl (v_in (by omega)) dX9_keepFound_38 (fun H locs hPn hDn hSn => ?_)
          clear hP hD hS
          have hP : va_P (dC, dI) vwCl [(oR, .inr (9, [.ref oH, .ref oK, .ref n1, .ref n2, .ref n3, .ref r1, .ref r2, .ref r3, .ref r4, .ref r5, .ref r6, .int l2])), (r1, .inl (cI, 258, .inl fR1)), (r2, .inl (cI, 258, .inl fR2)), (r3, .inl (cI, 774, .inl fR3)), (r4, .inl (cI, 258, .inl (upd f4 (l2 : Int32).toNatClampNeg x_2))), (r5, .inl (cI, 258, .inl f5)), (r6, .inl (cI, 774, .inl f6))] H := hPn
          have hD : va_D A [(oR, .inr (9, [.ref oH, .ref oK, .ref n1, .ref n2, .ref n3, .ref r1, .ref r2, .ref r3, .ref r4, .ref r5, .ref r6, .int l2])), (r1, .inl (cI, 258, .inl fR1)), (r2, .inl (cI, 258, .inl fR2)), (r3, .inl (cI, 774, .inl fR3)), (r4, .inl (cI, 258, .inl (upd f4 (l2 : Int32).toNatClampNeg x_2))), (r5, .inl (cI, 258, .inl f5)), (r6, .inl (cI, 774, .inl f6))] := hDn
          have hS := hSn
          clear hPn hDn hSn
          obtain ⟨f_5, ef_5⟩ : ∃ g : Nat → Int32, g = upd f4 (l2 : Int32).toNatClampNeg x_2 := ⟨_, rfl⟩
          rw [← ef_5] at hP hD
          refine lv_aload_n hx hb dX9_keepFound_39 rfl (lv_at hl 1 rfl) ?_
          refine va_get (D := (dC, dI)) (ci := 9) (v := .ref r5) (C := RX9) (T := TX9) (N := 12) hx hb hts in_X9 hown hK hP 0 rfl rfl 9 (by decide) (hts (.fieldLink RX9 39 "TextMender$Rows" "toldLength" "[I") (List.mem_of_getElem? (i := 4) rfl)) (fun _ h9 => h9) rfl dX9_keepFound_40 ?_
          refine lv_aload_n hx hb dX9_keepFound_43 rfl (lv_at hl 1 rfl) ?_
          refine va_get (D := (dC, dI)) (ci := 9) (v := .int l2) (C := RX9) (T := TX9) (N := 12) hx hb hts in_X9 hown hK hP 0 rfl rfl 11 (by decide) (hts (.fieldLink RX9 59 "TextMender$Rows" "told" "I") (List.mem_of_getElem? (i := 1) rfl)) (fun _ h9 => h9) rfl dX9_keepFound_44 ?_
          refine lv_aload_n hx hb dX9_keepFound_47 rfl (lv_at hl 1 rfl) ?_
          refine va_get (D := (dC, dI)) (ci := 9) (v := .ref r2) (C := RX9) (T := TX9) (N := 12) hx hb hts in_X9 hown hK hP 0 rfl rfl 6 (by decide) (hts (.fieldLink RX9 30 "TextMender$Rows" "foundLength" "[I") (List.mem_of_getElem? (i := 5) rfl)) (fun _ h9 => h9) rfl dX9_keepFound_48 ?_
          refine lv_iload_n hx hb dX9_keepFound_51 rfl (lv_at hl 0 rfl) ?_
          refine va_iald hx hb hK hP 2 0 rfl rfl (v_in (by omega)) dX9_keepFound_52 ?_
          refine lv_topi (fun x_6 ex_6 => ?_)
          refine va_iast hx hb hK hP hD hS 5 0 rfl rfl (v_in (by omega)) dX9_keepFound_53 (fun H locs hPn hDn hSn => ?_)
          clear hP hD hS
          have hP : va_P (dC, dI) vwCl [(oR, .inr (9, [.ref oH, .ref oK, .ref n1, .ref n2, .ref n3, .ref r1, .ref r2, .ref r3, .ref r4, .ref r5, .ref r6, .int l2])), (r1, .inl (cI, 258, .inl fR1)), (r2, .inl (cI, 258, .inl fR2)), (r3, .inl (cI, 774, .inl fR3)), (r4, .inl (cI, 258, .inl f_5)), (r5, .inl (cI, 258, .inl (upd f5 (l2 : Int32).toNatClampNeg x_6))), (r6, .inl (cI, 774, .inl f6))] H := hPn
          have hD : va_D A [(oR, .inr (9, [.ref oH, .ref oK, .ref n1, .ref n2, .ref n3, .ref r1, .ref r2, .ref r3, .ref r4, .ref r5, .ref r6, .int l2])), (r1, .inl (cI, 258, .inl fR1)), (r2, .inl (cI, 258, .inl fR2)), (r3, .inl (cI, 774, .inl fR3)), (r4, .inl (cI, 258, .inl f_5)), (r5, .inl (cI, 258, .inl (upd f5 (l2 : Int32).toNatClampNeg x_6))), (r6, .inl (cI, 774, .inl f6))] := hDn
          have hS := hSn
          clear hPn hDn hSn
          obtain ⟨f_7, ef_7⟩ : ∃ g : Nat → Int32, g = upd f5 (l2 : Int32).toNatClampNeg x_6 := ⟨_, rfl⟩
          rw [← ef_7] at hP hD
          refine lv_iconst (v := 0) hx hb dX9_keepFound_54 (by decide) ?_
          refine lv_istore_n (lv' := [(2, .int 0), (1, .int pl), (0, .ref oR)]) hx hb dX9_keepFound_55 rfl hl (by decide) rfl (fun ls hl => ?_)
          have LOOP_56 : ∀ (k_56 : Nat) (k : Int32) (f7 : Nat → Int32) (H : Heap) (locs : List Loc) (ls : Array Slot), MSd (3 - k.toInt : Int) k_56 → (0 ≤ k.toInt ∧ k.toInt ≤ 3) → va_P (dC, dI) vwCl [(oR, .inr (9, [.ref oH, .ref oK, .ref n1, .ref n2, .ref n3, .ref r1, .ref r2, .ref r3, .ref r4, .ref r5, .ref r6, .int l2])), (r1, .inl (cI, 258, .inl fR1)), (r2, .inl (cI, 258, .inl fR2)), (r3, .inl (cI, 774, .inl fR3)), (r4, .inl (cI, 258, .inl f_5)), (r5, .inl (cI, 258, .inl f_7)), (r6, .inl (cI, 774, .inl f7))] H → va_D A [(oR, .inr (9, [.ref oH, .ref oK, .ref n1, .ref n2, .ref n3, .ref r1, .ref r2, .ref r3, .ref r4, .ref r5, .ref r6, .int l2])), (r1, .inl (cI, 258, .inl fR1)), (r2, .inl (cI, 258, .inl fR2)), (r3, .inl (cI, 774, .inl fR3)), (r4, .inl (cI, 258, .inl f_5)), (r5, .inl (cI, 258, .inl f_7)), (r6, .inl (cI, 774, .inl f7))] → va_S A s.heap H locs → lv_has ls 3 [(2, .int k), (1, .int pl), (0, .ref oR)] → W p l e (headSpec wsX9_keepFound ({ frames := 0, cells := 0, slots := 0, locals := 0 } : Room)).room s m ([.ref oR] : List Value).toArray below meth c H locs 0 0 (MQ below QQ ([.ref oR] : List Value).toArray s 0 0 A) (F0 m 56 ls []) := by
            clear hP hD hS hl
            intro k_56
            induction k_56 with
            | zero =>
              intro k f7 H locs ls hm_56 g_k hP hD hS hl
              exact ms_0 hm_56
            | succ k_56 ih_56 =>
              intro k f7 H locs ls hm_56 g_k hP hD hS hl
              refine lv_iload_n hx hb dX9_keepFound_56 rfl (lv_at hl 0 rfl) ?_
              refine lv_iconst (v := 3) hx hb dX9_keepFound_57 (by decide) ?_
              refine lv_icmp_ge (tgt := 90) hx hb dX9_keepFound_58 (by decide) (fun c_8 => ?_) (fun c_8 => ?_)
              · have tc_8 : 3 ≤ k.toInt := v_le c_8
                refine lv_aload_n hx hb dX9_keepFound_90 rfl (lv_at hl 2 rfl) ?_
                refine lv_dup hx hb dX9_keepFound_91 rfl ?_
                refine va_get (D := (dC, dI)) (ci := 9) (v := .int l2) (C := RX9) (T := TX9) (N := 12) hx hb hts in_X9 hown hK hP 0 rfl rfl 11 (by decide) (hts (.fieldLink RX9 59 "TextMender$Rows" "told" "I") (List.mem_of_getElem? (i := 1) rfl)) (fun _ h9 => h9) rfl dX9_keepFound_92 ?_
                refine lv_iconst (v := 1) hx hb dX9_keepFound_95 (by decide) ?_
                refine lv_iadd hx hb dX9_keepFound_96 ?_
                refine lv_topi (fun x_9 ex_9 => ?_)
                have tx_9 : x_9.toInt = l2.toInt + 1 := v_add ex_9 (by show -2147483648 ≤ l2.toInt + 1; omega) (by show l2.toInt + 1 < 2147483648; omega)
                refine va_put (D := (dC, dI)) (ci := 9) (v := .int x_9) (ty := .int) (C := RX9) (T := TX9) (N := 12) hx hb hts in_X9 tyX9 tyX9_ok nmX9 hown hK hP hD hS 0 rfl rfl 11 (by decide) (hts (.fieldLink RX9 59 "TextMender$Rows" "told" "I") (List.mem_of_getElem? (i := 1) rfl)) (fun _ h9 => h9) rfl (by decide +kernel) rfl rfl (Nat.le_of_ble_eq_true rfl) dX9_keepFound_97 (fun H locs hPn hDn hSn => ?_)
                clear hP hD hS
                have hP : va_P (dC, dI) vwCl [(oR, .inr (9, [.ref oH, .ref oK, .ref n1, .ref n2, .ref n3, .ref r1, .ref r2, .ref r3, .ref r4, .ref r5, .ref r6, .int x_9])), (r1, .inl (cI, 258, .inl fR1)), (r2, .inl (cI, 258, .inl fR2)), (r3, .inl (cI, 774, .inl fR3)), (r4, .inl (cI, 258, .inl f_5)), (r5, .inl (cI, 258, .inl f_7)), (r6, .inl (cI, 774, .inl f7))] H := hPn
                have hD : va_D A [(oR, .inr (9, [.ref oH, .ref oK, .ref n1, .ref n2, .ref n3, .ref r1, .ref r2, .ref r3, .ref r4, .ref r5, .ref r6, .int x_9])), (r1, .inl (cI, 258, .inl fR1)), (r2, .inl (cI, 258, .inl fR2)), (r3, .inl (cI, 774, .inl fR3)), (r4, .inl (cI, 258, .inl f_5)), (r5, .inl (cI, 258, .inl f_7)), (r6, .inl (cI, 774, .inl f7))] := hDn
                have hS := hSn
                clear hPn hDn hSn
                obtain ⟨x_10, ex_10⟩ : ∃ y : Int32, y = pl + 1 := ⟨_, rfl⟩
                have tx_10 : x_10.toInt = pl.toInt + 1 := v_add ex_10 (by show -2147483648 ≤ pl.toInt + 1; omega) (by show pl.toInt + 1 < 2147483648; omega)
                refine lv_iinc (v := x_10) (lv' := [(1, .int x_10), (2, .int k), (0, .ref oR)]) hx hb dX9_keepFound_100 hl (k := 1) rfl (by rw [ex_10]; rfl) (by decide) rfl (fun ls hl => ?_)
                refine lv_goto (tgt := 7) hx hb dX9_keepFound_103 (by decide) ?_
                exact ih_7 x_10 x_9 f_5 f_7 f7 _ _ _ (ms_lt hm_7 (by show ((258 - x_10.toInt : Int)) < 258 - pl.toInt; omega) (by show (0 : Int) < 258 - pl.toInt; omega)) (by show 0 ≤ x_10.toInt ∧ x_10.toInt ≤ 258; omega) (by show 0 ≤ x_9.toInt ∧ x_9.toInt ≤ x_10.toInt; omega) hP hD hS (lv_sub hl [0, 2] rfl)
              · have tc_8 : k.toInt < 3 := v_nle c_8
                refine lv_aload_n hx hb dX9_keepFound_61 rfl (lv_at hl 2 rfl) ?_
                refine va_get (D := (dC, dI)) (ci := 9) (v := .ref r6) (C := RX9) (T := TX9) (N := 12) hx hb hts in_X9 hown hK hP 0 rfl rfl 10 (by decide) (hts (.fieldLink RX9 42 "TextMender$Rows" "toldHarms" "[I") (List.mem_of_getElem? (i := 6) rfl)) (fun _ h9 => h9) rfl dX9_keepFound_62 ?_
                refine lv_aload_n hx hb dX9_keepFound_65 rfl (lv_at hl 2 rfl) ?_
                refine va_get (D := (dC, dI)) (ci := 9) (v := .int l2) (C := RX9) (T := TX9) (N := 12) hx hb hts in_X9 hown hK hP 0 rfl rfl 11 (by decide) (hts (.fieldLink RX9 59 "TextMender$Rows" "told" "I") (List.mem_of_getElem? (i := 1) rfl)) (fun _ h9 => h9) rfl dX9_keepFound_66 ?_
                refine lv_iconst (v := 3) hx hb dX9_keepFound_69 (by decide) ?_
                refine lv_imul hx hb dX9_keepFound_70 ?_
                refine lv_topi (fun x_11 ex_11 => ?_)
                have tx_11 : x_11.toInt = l2.toInt * 3 := v_mul ex_11 (by show -2147483648 ≤ l2.toInt * 3; omega) (by show l2.toInt * 3 < 2147483648; omega)
                refine lv_iload_n hx hb dX9_keepFound_71 rfl (lv_at hl 0 rfl) ?_
                refine lv_iadd hx hb dX9_keepFound_72 ?_
                refine lv_topi (fun x_12 ex_12 => ?_)
                have tx_12 : x_12.toInt = x_11.toInt + k.toInt := v_add ex_12 (by show -2147483648 ≤ x_11.toInt + k.toInt; omega) (by show x_11.toInt + k.toInt < 2147483648; omega)
                refine lv_aload_n hx hb dX9_keepFound_73 rfl (lv_at hl 2 rfl) ?_
                refine va_get (D := (dC, dI)) (ci := 9) (v := .ref r3) (C := RX9) (T := TX9) (N := 12) hx hb hts in_X9 hown hK hP 0 rfl rfl 7 (by decide) (hts (.fieldLink RX9 33 "TextMender$Rows" "foundHarms" "[I") (List.mem_of_getElem? (i := 7) rfl)) (fun _ h9 => h9) rfl dX9_keepFound_74 ?_
                refine lv_iload_n hx hb dX9_keepFound_77 rfl (lv_at hl 1 rfl) ?_
                refine lv_iconst (v := 3) hx hb dX9_keepFound_78 (by decide) ?_
                refine lv_imul hx hb dX9_keepFound_79 ?_
                refine lv_topi (fun x_13 ex_13 => ?_)
                have tx_13 : x_13.toInt = pl.toInt * 3 := v_mul ex_13 (by show -2147483648 ≤ pl.toInt * 3; omega) (by show pl.toInt * 3 < 2147483648; omega)
                refine lv_iload_n hx hb dX9_keepFound_80 rfl (lv_at hl 0 rfl) ?_
                refine lv_iadd hx hb dX9_keepFound_81 ?_
                refine lv_topi (fun x_14 ex_14 => ?_)
                have tx_14 : x_14.toInt = x_13.toInt + k.toInt := v_add ex_14 (by show -2147483648 ≤ x_13.toInt + k.toInt; omega) (by show x_13.toInt + k.toInt < 2147483648; omega)
                refine va_iald hx hb hK hP 3 0 rfl rfl (v_in (by omega)) dX9_keepFound_82 ?_
                refine lv_topi (fun x_15 ex_15 => ?_)
                refine va_iast hx hb hK hP hD hS 6 0 rfl rfl (v_in (by omega)) dX9_keepFound_83 (fun H locs hPn hDn hSn => ?_)
                clear hP hD hS
                have hP : va_P (dC, dI) vwCl [(oR, .inr (9, [.ref oH, .ref oK, .ref n1, .ref n2, .ref n3, .ref r1, .ref r2, .ref r3, .ref r4, .ref r5, .ref r6, .int l2])), (r1, .inl (cI, 258, .inl fR1)), (r2, .inl (cI, 258, .inl fR2)), (r3, .inl (cI, 774, .inl fR3)), (r4, .inl (cI, 258, .inl f_5)), (r5, .inl (cI, 258, .inl f_7)), (r6, .inl (cI, 774, .inl (upd f7 (x_12 : Int32).toNatClampNeg x_15)))] H := hPn
                have hD : va_D A [(oR, .inr (9, [.ref oH, .ref oK, .ref n1, .ref n2, .ref n3, .ref r1, .ref r2, .ref r3, .ref r4, .ref r5, .ref r6, .int l2])), (r1, .inl (cI, 258, .inl fR1)), (r2, .inl (cI, 258, .inl fR2)), (r3, .inl (cI, 774, .inl fR3)), (r4, .inl (cI, 258, .inl f_5)), (r5, .inl (cI, 258, .inl f_7)), (r6, .inl (cI, 774, .inl (upd f7 (x_12 : Int32).toNatClampNeg x_15)))] := hDn
                have hS := hSn
                clear hPn hDn hSn
                obtain ⟨f_16, ef_16⟩ : ∃ g : Nat → Int32, g = upd f7 (x_12 : Int32).toNatClampNeg x_15 := ⟨_, rfl⟩
                rw [← ef_16] at hP hD
                obtain ⟨x_17, ex_17⟩ : ∃ y : Int32, y = k + 1 := ⟨_, rfl⟩
                have tx_17 : x_17.toInt = k.toInt + 1 := v_add ex_17 (by show -2147483648 ≤ k.toInt + 1; omega) (by show k.toInt + 1 < 2147483648; omega)
                refine lv_iinc (v := x_17) (lv' := [(2, .int x_17), (1, .int pl), (0, .ref oR)]) hx hb dX9_keepFound_84 hl (k := 0) rfl (by rw [ex_17]; rfl) (by decide) rfl (fun ls hl => ?_)
                refine lv_goto (tgt := 56) hx hb dX9_keepFound_87 (by decide) ?_
                exact ih_56 x_17 f_16 _ _ _ (ms_lt hm_56 (by show ((3 - x_17.toInt : Int)) < 3 - k.toInt; omega) (by show (0 : Int) < 3 - k.toInt; omega)) (by show 0 ≤ x_17.toInt ∧ x_17.toInt ≤ 3; omega) hP hD hS (lv_sub hl [0, 1, 2] rfl)
          exact LOOP_56 _ 0 f6 _ _ _ (ms_s _) (by decide) hP hD hS (lv_sub hl [0, 1, 2] rfl)
  exact LOOP_7 _ 0 0 fR4 fR5 fR6 _ _ _ (ms_s _) (by decide) (by show 0 ≤ (0 : Int) ∧ (0 : Int) ≤ 0; omega) hP hD hS (lv_sub hl [0, 1] rfl)

set_option maxHeartbeats 40000000 in
set_option maxRecDepth 100000 in
theorem m_X9_told (l : Launch) (dC : Nat → ClassId) (dI : Nat → Nat → Nat) (cI cS : ClassId) (sz : Nat) (oR : Nat) (oH : Nat) (oK : Nat) (n1 : Nat) (n2 : Nat) (n3 : Nat) (r1 : Nat) (r2 : Nat) (r3 : Nat) (r4 : Nat) (r5 : Nat) (r6 : Nat) (lR : Int32) (fR4 : Nat → Int32) (fR5 : Nat → Int32) (fR6 : Nat → Int32) (i : Int32) (wh : Int32) (g_lR : 0 ≤ lR.toInt ∧ lR.toInt ≤ 258) : Met l yX9_told wsX9_told ({ frames := 0, cells := 0, slots := 0, locals := 0 } : Room) (va_Pc [.ref oR, .int i, .int wh] (fun U => U.heap.size = sz ∧ va_P (dC, dI) vwCl [(oR, .inr (9, [.ref oH, .ref oK, .ref n1, .ref n2, .ref n3, .ref r1, .ref r2, .ref r3, .ref r4, .ref r5, .ref r6, .int lR])), (r4, .inl (cI, 258, .inl fR4)), (r5, .inl (cI, 258, .inl fR5)), (r6, .inl (cI, 774, .inl fR6))] U.heap ∧ va_K (dC, dI) vwCl [(cI, .int), (cS, .short)] U ∧ va_D (fun _ => True) [(oR, .inr (9, [.ref oH, .ref oK, .ref n1, .ref n2, .ref n3, .ref r1, .ref r2, .ref r3, .ref r4, .ref r5, .ref r6, .int lR])), (r4, .inl (cI, 258, .inl fR4)), (r5, .inl (cI, 258, .inl fR5)), (r6, .inl (cI, 774, .inl fR6))])) (va_Qi (fun (r : Int32) (u : Int32) => r = u) (fun (r : Int32) t => va_P (dC, dI) vwCl [(oR, .inr (9, [.ref oH, .ref oK, .ref n1, .ref n2, .ref n3, .ref r1, .ref r2, .ref r3, .ref r4, .ref r5, .ref r6, .int lR])), (r4, .inl (cI, 258, .inl fR4)), (r5, .inl (cI, 258, .inl fR5)), (r6, .inl (cI, 774, .inl fR6))] t.heap ∧ va_D (va_A [(oR, .inr (9, [.ref oH, .ref oK, .ref n1, .ref n2, .ref n3, .ref r1, .ref r2, .ref r3, .ref r4, .ref r5, .ref r6, .int lR])), (r4, .inl (cI, 258, .inl fR4)), (r5, .inl (cI, 258, .inl fR5)), (r6, .inl (cI, 774, .inl fR6))] sz) [(oR, .inr (9, [.ref oH, .ref oK, .ref n1, .ref n2, .ref n3, .ref r1, .ref r2, .ref r3, .ref r4, .ref r5, .ref r6, .int lR])), (r4, .inl (cI, 258, .inl fR4)), (r5, .inl (cI, 258, .inl fR5)), (r6, .inl (cI, 774, .inl fR6))]) (va_A [(oR, .inr (9, [.ref oH, .ref oK, .ref n1, .ref n2, .ref n3, .ref r1, .ref r2, .ref r3, .ref r4, .ref r5, .ref r6, .int lR])), (r4, .inl (cI, 258, .inl fR4)), (r5, .inl (cI, 258, .inl fR5)), (r6, .inl (cI, 774, .inl fR6))] sz)) 0 0 (va_A [(oR, .inr (9, [.ref oH, .ref oK, .ref n1, .ref n2, .ref n3, .ref r1, .ref r2, .ref r3, .ref r4, .ref r5, .ref r6, .int lR])), (r4, .inl (cI, 258, .inl fR4)), (r5, .inl (cI, 258, .inl fR5)), (r6, .inl (cI, 774, .inl fR6))] sz) := by
  refine Met.ofW (cc := cX9_told) (maxL := 4) (ret := (some .int)) (by decide) rfl ?_
  intro p e s m args below meth c s₁ B hml hv
  obtain ⟨rfl, hsz, hP, hK, hD0⟩ := hv
  have hx := B.exec
  have hb := B.bytes
  have hr := B.returns
  have hts := atoms_spec (ws := wsX9_told) B.pre
  have hown : s.vm.findClass RX9 = some m.cls := findClass_of_methodNamed B.named
  have hlocks := B.notSynchronized
  have in_X9 : ∀ w ∈ wsX90, w ∈ wsX9_told := fun _ h => List.mem_cons_of_mem _ (List.mem_append_right _ (h))
  subst hsz
  have hD := hD0.self (sz := s.heap.size)
  generalize hAe : va_A [(oR, .inr (9, [.ref oH, .ref oK, .ref n1, .ref n2, .ref n3, .ref r1, .ref r2, .ref r3, .ref r4, .ref r5, .ref r6, .int lR])), (r4, .inl (cI, 258, .inl fR4)), (r5, .inl (cI, 258, .inl fR5)), (r6, .inl (cI, 774, .inl fR6))] s.heap.size = A at hD ⊢
  have hA : ∀ q : Nat, s.heap.size ≤ q → A q := fun q h => by rw [← hAe]; exact Or.inr h
  have hS : va_S A s.heap s.heap [] := va_S.rf
  have hP : va_P (dC, dI) vwCl [(oR, .inr (9, [.ref oH, .ref oK, .ref n1, .ref n2, .ref n3, .ref r1, .ref r2, .ref r3, .ref r4, .ref r5, .ref r6, .int lR])), (r4, .inl (cI, 258, .inl fR4)), (r5, .inl (cI, 258, .inl fR5)), (r6, .inl (cI, 774, .inl fR6))] s.heap := hP
  have hl := lv_entry ([.ref oR, .int i, .int wh]) (n := 4) (Nat.le_of_ble_eq_true rfl)
  rw [lg_entry_eq]
  generalize (lg_sl ([.ref oR, .int i, .int wh]) ++ List.replicate (4 - (lg_sl ([.ref oR, .int i, .int wh])).length) Slot.unset).toArray = ls at hl ⊢
  have hl : lv_has ls 4 [(0, .ref oR), (1, .int i), (2, .int wh)] := hl
  obtain ⟨QQ, hQQ⟩ : ∃ QQ : Array Value → State → Outcome → State → Prop, QQ = va_Qi (fun (r : Int32) (u : Int32) => r = u) (fun (r : Int32) t => va_P (dC, dI) vwCl [(oR, .inr (9, [.ref oH, .ref oK, .ref n1, .ref n2, .ref n3, .ref r1, .ref r2, .ref r3, .ref r4, .ref r5, .ref r6, .int lR])), (r4, .inl (cI, 258, .inl fR4)), (r5, .inl (cI, 258, .inl fR5)), (r6, .inl (cI, 774, .inl fR6))] t.heap ∧ va_D A [(oR, .inr (9, [.ref oH, .ref oK, .ref n1, .ref n2, .ref n3, .ref r1, .ref r2, .ref r3, .ref r4, .ref r5, .ref r6, .int lR])), (r4, .inl (cI, 258, .inl fR4)), (r5, .inl (cI, 258, .inl fR5)), (r6, .inl (cI, 774, .inl fR6))]) A := ⟨_, rfl⟩
  rw [← hQQ]
  refine lv_iload_n hx hb dX9_told_0 rfl (lv_at hl 1 rfl) ?_
  refine lv_if_lt (tgt := 12) hx hb dX9_told_1 (by decide) (fun c_1 => ?_) (fun c_1 => ?_)
  · have tc_1 : i.toInt < 0 := v_lt c_1
    refine lv_iconst (v := (-1)) hx hb dX9_told_12 (by decide) ?_
    have hP9 := hP.sub (ws' := [(oR, .inr (9, [.ref oH, .ref oK, .ref n1, .ref n2, .ref n3, .ref r1, .ref r2, .ref r3, .ref r4, .ref r5, .ref r6, .int lR])), (r4, .inl (cI, 258, .inl fR4)), (r5, .inl (cI, 258, .inl fR5)), (r6, .inl (cI, 774, .inl fR6))]) [0, 1, 2, 3] rfl
    have hD9 := hD.sub (ws' := [(oR, .inr (9, [.ref oH, .ref oK, .ref n1, .ref n2, .ref n3, .ref r1, .ref r2, .ref r3, .ref r4, .ref r5, .ref r6, .int lR])), (r4, .inl (cI, 258, .inl fR4)), (r5, .inl (cI, 258, .inl fR5)), (r6, .inl (cI, 774, .inl fR6))]) [0, 1, 2, 3] (by decide +kernel) rfl
    rw [hQQ]
    exact W.iret (v := (-1)) hx hb hr (fun t ht hW => ⟨⟨(-1), (-1), rfl, rfl, ⟨by rw [ht]; exact hP9, hD9⟩⟩, hS.F ht⟩) hS.2.2 dX9_told_13
  · have tc_1 : 0 ≤ i.toInt := v_nlt c_1
    refine lv_iload_n hx hb dX9_told_4 rfl (lv_at hl 1 rfl) ?_
    refine lv_aload_n hx hb dX9_told_5 rfl (lv_at hl 0 rfl) ?_
    refine va_get (D := (dC, dI)) (ci := 9) (v := .int lR) (C := RX9) (T := TX9) (N := 12) hx hb hts in_X9 hown hK hP 0 rfl rfl 11 (by decide) (hts (.fieldLink RX9 59 "TextMender$Rows" "told" "I") (List.mem_of_getElem? (i := 1) rfl)) (fun _ h9 => h9) rfl dX9_told_6 ?_
    refine lv_icmp_lt (tgt := 14) hx hb dX9_told_9 (by decide) (fun c_2 => ?_) (fun c_2 => ?_)
    · have tc_2 : i.toInt < lR.toInt := v_lt c_2
      have rw2_0 := v_rng i
      refine lv_iload_n hx hb dX9_told_14 rfl (lv_at hl 1 rfl) ?_
      refine lv_iconst (v := 3) hx hb dX9_told_15 (by decide) ?_
      refine lv_imul hx hb dX9_told_16 ?_
      refine lv_topi (fun x_3 ex_3 => ?_)
      have tx_3 : x_3.toInt = i.toInt * 3 := v_mul ex_3 (by show -2147483648 ≤ i.toInt * 3; omega) (by show i.toInt * 3 < 2147483648; omega)
      refine lv_istore_n (lv' := [(3, .int x_3), (0, .ref oR), (1, .int i), (2, .int wh)]) hx hb dX9_told_17 rfl hl (by decide) rfl (fun ls hl => ?_)
      refine lv_iload_n hx hb dX9_told_18 rfl (lv_at hl 3 rfl) ?_
      by_cases c_4 : wh = 0
      · refine lv_tableIn (tgt := 56) hx hb dX9_told_19 (by rw [c_4]; decide) (by rw [c_4]; decide) (by rw [c_4]; rfl) (by decide) ?_
        have tc_4 : wh.toInt = 0 := v_eq c_4
        refine lv_aload_n hx hb dX9_told_56 rfl (lv_at hl 1 rfl) ?_
        refine va_get (D := (dC, dI)) (ci := 9) (v := .ref r6) (C := RX9) (T := TX9) (N := 12) hx hb hts in_X9 hown hK hP 0 rfl rfl 10 (by decide) (hts (.fieldLink RX9 42 "TextMender$Rows" "toldHarms" "[I") (List.mem_of_getElem? (i := 2) rfl)) (fun _ h9 => h9) rfl dX9_told_57 ?_
        refine lv_iload_n hx hb dX9_told_60 rfl (lv_at hl 0 rfl) ?_
        refine lv_iconst (v := 1) hx hb dX9_told_61 (by decide) ?_
        refine lv_iadd hx hb dX9_told_62 ?_
        refine lv_topi (fun x_5 ex_5 => ?_)
        have tx_5 : x_5.toInt = x_3.toInt + 1 := v_add ex_5 (by show -2147483648 ≤ x_3.toInt + 1; omega) (by show x_3.toInt + 1 < 2147483648; omega)
        refine va_iald hx hb hK hP 3 0 rfl rfl (v_in (by omega)) dX9_told_63 ?_
        refine lv_topi (fun x_6 ex_6 => ?_)
        refine lv_iconst (v := (-1)) hx hb dX9_told_64 (by decide) ?_
        refine lv_icmp_ne (tgt := 72) hx hb dX9_told_65 (by decide) (fun c_7 => ?_) (fun c_7 => ?_)
        · have tc_7 : ¬ x_6.toInt = (-1) := v_ne c_7
          refine lv_aload_n hx hb dX9_told_72 rfl (lv_at hl 1 rfl) ?_
          refine va_get (D := (dC, dI)) (ci := 9) (v := .ref r6) (C := RX9) (T := TX9) (N := 12) hx hb hts in_X9 hown hK hP 0 rfl rfl 10 (by decide) (hts (.fieldLink RX9 42 "TextMender$Rows" "toldHarms" "[I") (List.mem_of_getElem? (i := 2) rfl)) (fun _ h9 => h9) rfl dX9_told_73 ?_
          refine lv_iload_n hx hb dX9_told_76 rfl (lv_at hl 0 rfl) ?_
          refine lv_iconst (v := 2) hx hb dX9_told_77 (by decide) ?_
          refine lv_iadd hx hb dX9_told_78 ?_
          refine lv_topi (fun x_8 ex_8 => ?_)
          have tx_8 : x_8.toInt = x_3.toInt + 2 := v_add ex_8 (by show -2147483648 ≤ x_3.toInt + 2; omega) (by show x_3.toInt + 2 < 2147483648; omega)
          refine va_iald hx hb hK hP 3 0 rfl rfl (v_in (by omega)) dX9_told_79 ?_
          refine lv_topi (fun x_9 ex_9 => ?_)
          refine lv_iconst (v := (-1)) hx hb dX9_told_80 (by decide) ?_
          refine lv_icmp_ne (tgt := 88) hx hb dX9_told_81 (by decide) (fun c_10 => ?_) (fun c_10 => ?_)
          · have tc_10 : ¬ x_9.toInt = (-1) := v_ne c_10
            refine lv_iconst (v := 3) hx hb dX9_told_88 (by decide) ?_
            have hP9 := hP.sub (ws' := [(oR, .inr (9, [.ref oH, .ref oK, .ref n1, .ref n2, .ref n3, .ref r1, .ref r2, .ref r3, .ref r4, .ref r5, .ref r6, .int lR])), (r4, .inl (cI, 258, .inl fR4)), (r5, .inl (cI, 258, .inl fR5)), (r6, .inl (cI, 774, .inl fR6))]) [0, 1, 2, 3] rfl
            have hD9 := hD.sub (ws' := [(oR, .inr (9, [.ref oH, .ref oK, .ref n1, .ref n2, .ref n3, .ref r1, .ref r2, .ref r3, .ref r4, .ref r5, .ref r6, .int lR])), (r4, .inl (cI, 258, .inl fR4)), (r5, .inl (cI, 258, .inl fR5)), (r6, .inl (cI, 774, .inl fR6))]) [0, 1, 2, 3] (by decide +kernel) rfl
            rw [hQQ]
            exact W.iret (v := 3) hx hb hr (fun t ht hW => ⟨⟨3, 3, rfl, rfl, ⟨by rw [ht]; exact hP9, hD9⟩⟩, hS.F ht⟩) hS.2.2 dX9_told_89
          · have tc_10 : x_9.toInt = (-1) := v_eq c_10
            refine lv_iconst (v := 2) hx hb dX9_told_84 (by decide) ?_
            refine lv_goto (tgt := 89) hx hb dX9_told_85 (by decide) ?_
            have hP9 := hP.sub (ws' := [(oR, .inr (9, [.ref oH, .ref oK, .ref n1, .ref n2, .ref n3, .ref r1, .ref r2, .ref r3, .ref r4, .ref r5, .ref r6, .int lR])), (r4, .inl (cI, 258, .inl fR4)), (r5, .inl (cI, 258, .inl fR5)), (r6, .inl (cI, 774, .inl fR6))]) [0, 1, 2, 3] rfl
            have hD9 := hD.sub (ws' := [(oR, .inr (9, [.ref oH, .ref oK, .ref n1, .ref n2, .ref n3, .ref r1, .ref r2, .ref r3, .ref r4, .ref r5, .ref r6, .int lR])), (r4, .inl (cI, 258, .inl fR4)), (r5, .inl (cI, 258, .inl fR5)), (r6, .inl (cI, 774, .inl fR6))]) [0, 1, 2, 3] (by decide +kernel) rfl
            rw [hQQ]
            exact W.iret (v := 2) hx hb hr (fun t ht hW => ⟨⟨2, 2, rfl, rfl, ⟨by rw [ht]; exact hP9, hD9⟩⟩, hS.F ht⟩) hS.2.2 dX9_told_89
        · have tc_7 : x_6.toInt = (-1) := v_eq c_7
          refine lv_iconst (v := 1) hx hb dX9_told_68 (by decide) ?_
          refine lv_goto (tgt := 89) hx hb dX9_told_69 (by decide) ?_
          have hP9 := hP.sub (ws' := [(oR, .inr (9, [.ref oH, .ref oK, .ref n1, .ref n2, .ref n3, .ref r1, .ref r2, .ref r3, .ref r4, .ref r5, .ref r6, .int lR])), (r4, .inl (cI, 258, .inl fR4)), (r5, .inl (cI, 258, .inl fR5)), (r6, .inl (cI, 774, .inl fR6))]) [0, 1, 2, 3] rfl
          have hD9 := hD.sub (ws' := [(oR, .inr (9, [.ref oH, .ref oK, .ref n1, .ref n2, .ref n3, .ref r1, .ref r2, .ref r3, .ref r4, .ref r5, .ref r6, .int lR])), (r4, .inl (cI, 258, .inl fR4)), (r5, .inl (cI, 258, .inl fR5)), (r6, .inl (cI, 774, .inl fR6))]) [0, 1, 2, 3] (by decide +kernel) rfl
          rw [hQQ]
          exact W.iret (v := 1) hx hb hr (fun t ht hW => ⟨⟨1, 1, rfl, rfl, ⟨by rw [ht]; exact hP9, hD9⟩⟩, hS.F ht⟩) hS.2.2 dX9_told_89
      · skip
        have tc_4 : ¬ wh.toInt = 0 := v_ne c_4
        by_cases c_11 : wh = 1
        · refine lv_tableIn (tgt := 90) hx hb dX9_told_19 (by rw [c_11]; decide) (by rw [c_11]; decide) (by rw [c_11]; rfl) (by decide) ?_
          have tc_11 : wh.toInt = 1 := v_eq c_11
          refine lv_aload_n hx hb dX9_told_90 rfl (lv_at hl 1 rfl) ?_
          refine va_get (D := (dC, dI)) (ci := 9) (v := .ref r6) (C := RX9) (T := TX9) (N := 12) hx hb hts in_X9 hown hK hP 0 rfl rfl 10 (by decide) (hts (.fieldLink RX9 42 "TextMender$Rows" "toldHarms" "[I") (List.mem_of_getElem? (i := 2) rfl)) (fun _ h9 => h9) rfl dX9_told_91 ?_
          refine lv_iload_n hx hb dX9_told_94 rfl (lv_at hl 0 rfl) ?_
          refine va_iald hx hb hK hP 3 0 rfl rfl (v_in (by omega)) dX9_told_95 ?_
          refine lv_topi (fun x_12 ex_12 => ?_)
          have hP9 := hP.sub (ws' := [(oR, .inr (9, [.ref oH, .ref oK, .ref n1, .ref n2, .ref n3, .ref r1, .ref r2, .ref r3, .ref r4, .ref r5, .ref r6, .int lR])), (r4, .inl (cI, 258, .inl fR4)), (r5, .inl (cI, 258, .inl fR5)), (r6, .inl (cI, 774, .inl fR6))]) [0, 1, 2, 3] rfl
          have hD9 := hD.sub (ws' := [(oR, .inr (9, [.ref oH, .ref oK, .ref n1, .ref n2, .ref n3, .ref r1, .ref r2, .ref r3, .ref r4, .ref r5, .ref r6, .int lR])), (r4, .inl (cI, 258, .inl fR4)), (r5, .inl (cI, 258, .inl fR5)), (r6, .inl (cI, 774, .inl fR6))]) [0, 1, 2, 3] (by decide +kernel) rfl
          rw [hQQ]
          exact W.iret (v := x_12) hx hb hr (fun t ht hW => ⟨⟨x_12, x_12, rfl, rfl, ⟨by rw [ht]; exact hP9, hD9⟩⟩, hS.F ht⟩) hS.2.2 dX9_told_96
        · skip
          have tc_11 : ¬ wh.toInt = 1 := v_ne c_11
          by_cases c_13 : wh = 2
          · refine lv_tableIn (tgt := 97) hx hb dX9_told_19 (by rw [c_13]; decide) (by rw [c_13]; decide) (by rw [c_13]; rfl) (by decide) ?_
            have tc_13 : wh.toInt = 2 := v_eq c_13
            refine lv_aload_n hx hb dX9_told_97 rfl (lv_at hl 1 rfl) ?_
            refine va_get (D := (dC, dI)) (ci := 9) (v := .ref r6) (C := RX9) (T := TX9) (N := 12) hx hb hts in_X9 hown hK hP 0 rfl rfl 10 (by decide) (hts (.fieldLink RX9 42 "TextMender$Rows" "toldHarms" "[I") (List.mem_of_getElem? (i := 2) rfl)) (fun _ h9 => h9) rfl dX9_told_98 ?_
            refine lv_iload_n hx hb dX9_told_101 rfl (lv_at hl 0 rfl) ?_
            refine lv_iconst (v := 1) hx hb dX9_told_102 (by decide) ?_
            refine lv_iadd hx hb dX9_told_103 ?_
            refine lv_topi (fun x_14 ex_14 => ?_)
            have tx_14 : x_14.toInt = x_3.toInt + 1 := v_add ex_14 (by show -2147483648 ≤ x_3.toInt + 1; omega) (by show x_3.toInt + 1 < 2147483648; omega)
            refine va_iald hx hb hK hP 3 0 rfl rfl (v_in (by omega)) dX9_told_104 ?_
            refine lv_topi (fun x_15 ex_15 => ?_)
            have hP9 := hP.sub (ws' := [(oR, .inr (9, [.ref oH, .ref oK, .ref n1, .ref n2, .ref n3, .ref r1, .ref r2, .ref r3, .ref r4, .ref r5, .ref r6, .int lR])), (r4, .inl (cI, 258, .inl fR4)), (r5, .inl (cI, 258, .inl fR5)), (r6, .inl (cI, 774, .inl fR6))]) [0, 1, 2, 3] rfl
            have hD9 := hD.sub (ws' := [(oR, .inr (9, [.ref oH, .ref oK, .ref n1, .ref n2, .ref n3, .ref r1, .ref r2, .ref r3, .ref r4, .ref r5, .ref r6, .int lR])), (r4, .inl (cI, 258, .inl fR4)), (r5, .inl (cI, 258, .inl fR5)), (r6, .inl (cI, 774, .inl fR6))]) [0, 1, 2, 3] (by decide +kernel) rfl
            rw [hQQ]
            exact W.iret (v := x_15) hx hb hr (fun t ht hW => ⟨⟨x_15, x_15, rfl, rfl, ⟨by rw [ht]; exact hP9, hD9⟩⟩, hS.F ht⟩) hS.2.2 dX9_told_105
          · skip
            have tc_13 : ¬ wh.toInt = 2 := v_ne c_13
            by_cases c_16 : wh = 3
            · refine lv_tableIn (tgt := 106) hx hb dX9_told_19 (by rw [c_16]; decide) (by rw [c_16]; decide) (by rw [c_16]; rfl) (by decide) ?_
              have tc_16 : wh.toInt = 3 := v_eq c_16
              refine lv_aload_n hx hb dX9_told_106 rfl (lv_at hl 1 rfl) ?_
              refine va_get (D := (dC, dI)) (ci := 9) (v := .ref r6) (C := RX9) (T := TX9) (N := 12) hx hb hts in_X9 hown hK hP 0 rfl rfl 10 (by decide) (hts (.fieldLink RX9 42 "TextMender$Rows" "toldHarms" "[I") (List.mem_of_getElem? (i := 2) rfl)) (fun _ h9 => h9) rfl dX9_told_107 ?_
              refine lv_iload_n hx hb dX9_told_110 rfl (lv_at hl 0 rfl) ?_
              refine lv_iconst (v := 2) hx hb dX9_told_111 (by decide) ?_
              refine lv_iadd hx hb dX9_told_112 ?_
              refine lv_topi (fun x_17 ex_17 => ?_)
              have tx_17 : x_17.toInt = x_3.toInt + 2 := v_add ex_17 (by show -2147483648 ≤ x_3.toInt + 2; omega) (by show x_3.toInt + 2 < 2147483648; omega)
              refine va_iald hx hb hK hP 3 0 rfl rfl (v_in (by omega)) dX9_told_113 ?_
              refine lv_topi (fun x_18 ex_18 => ?_)
              have hP9 := hP.sub (ws' := [(oR, .inr (9, [.ref oH, .ref oK, .ref n1, .ref n2, .ref n3, .ref r1, .ref r2, .ref r3, .ref r4, .ref r5, .ref r6, .int lR])), (r4, .inl (cI, 258, .inl fR4)), (r5, .inl (cI, 258, .inl fR5)), (r6, .inl (cI, 774, .inl fR6))]) [0, 1, 2, 3] rfl
              have hD9 := hD.sub (ws' := [(oR, .inr (9, [.ref oH, .ref oK, .ref n1, .ref n2, .ref n3, .ref r1, .ref r2, .ref r3, .ref r4, .ref r5, .ref r6, .int lR])), (r4, .inl (cI, 258, .inl fR4)), (r5, .inl (cI, 258, .inl fR5)), (r6, .inl (cI, 774, .inl fR6))]) [0, 1, 2, 3] (by decide +kernel) rfl
              rw [hQQ]
              exact W.iret (v := x_18) hx hb hr (fun t ht hW => ⟨⟨x_18, x_18, rfl, rfl, ⟨by rw [ht]; exact hP9, hD9⟩⟩, hS.F ht⟩) hS.2.2 dX9_told_114
            · skip
              have tc_16 : ¬ wh.toInt = 3 := v_ne c_16
              by_cases c_19 : wh = 4
              · refine lv_tableIn (tgt := 115) hx hb dX9_told_19 (by rw [c_19]; decide) (by rw [c_19]; decide) (by rw [c_19]; rfl) (by decide) ?_
                have tc_19 : wh.toInt = 4 := v_eq c_19
                refine lv_aload_n hx hb dX9_told_115 rfl (lv_at hl 1 rfl) ?_
                refine va_get (D := (dC, dI)) (ci := 9) (v := .ref r4) (C := RX9) (T := TX9) (N := 12) hx hb hts in_X9 hown hK hP 0 rfl rfl 8 (by decide) (hts (.fieldLink RX9 36 "TextMender$Rows" "toldCost" "[I") (List.mem_of_getElem? (i := 3) rfl)) (fun _ h9 => h9) rfl dX9_told_116 ?_
                refine lv_iload_n hx hb dX9_told_119 rfl (lv_at hl 2 rfl) ?_
                refine va_iald hx hb hK hP 1 0 rfl rfl (v_in (by omega)) dX9_told_120 ?_
                refine lv_topi (fun x_20 ex_20 => ?_)
                have hP9 := hP.sub (ws' := [(oR, .inr (9, [.ref oH, .ref oK, .ref n1, .ref n2, .ref n3, .ref r1, .ref r2, .ref r3, .ref r4, .ref r5, .ref r6, .int lR])), (r4, .inl (cI, 258, .inl fR4)), (r5, .inl (cI, 258, .inl fR5)), (r6, .inl (cI, 774, .inl fR6))]) [0, 1, 2, 3] rfl
                have hD9 := hD.sub (ws' := [(oR, .inr (9, [.ref oH, .ref oK, .ref n1, .ref n2, .ref n3, .ref r1, .ref r2, .ref r3, .ref r4, .ref r5, .ref r6, .int lR])), (r4, .inl (cI, 258, .inl fR4)), (r5, .inl (cI, 258, .inl fR5)), (r6, .inl (cI, 774, .inl fR6))]) [0, 1, 2, 3] (by decide +kernel) rfl
                rw [hQQ]
                exact W.iret (v := x_20) hx hb hr (fun t ht hW => ⟨⟨x_20, x_20, rfl, rfl, ⟨by rw [ht]; exact hP9, hD9⟩⟩, hS.F ht⟩) hS.2.2 dX9_told_121
              · skip
                have tc_19 : ¬ wh.toInt = 4 := v_ne c_19
                by_cases c_21 : wh = 5
                · refine lv_tableIn (tgt := 122) hx hb dX9_told_19 (by rw [c_21]; decide) (by rw [c_21]; decide) (by rw [c_21]; rfl) (by decide) ?_
                  have tc_21 : wh.toInt = 5 := v_eq c_21
                  refine lv_aload_n hx hb dX9_told_122 rfl (lv_at hl 1 rfl) ?_
                  refine va_get (D := (dC, dI)) (ci := 9) (v := .ref r5) (C := RX9) (T := TX9) (N := 12) hx hb hts in_X9 hown hK hP 0 rfl rfl 9 (by decide) (hts (.fieldLink RX9 39 "TextMender$Rows" "toldLength" "[I") (List.mem_of_getElem? (i := 4) rfl)) (fun _ h9 => h9) rfl dX9_told_123 ?_
                  refine lv_iload_n hx hb dX9_told_126 rfl (lv_at hl 2 rfl) ?_
                  refine va_iald hx hb hK hP 2 0 rfl rfl (v_in (by omega)) dX9_told_127 ?_
                  refine lv_topi (fun x_22 ex_22 => ?_)
                  have hP9 := hP.sub (ws' := [(oR, .inr (9, [.ref oH, .ref oK, .ref n1, .ref n2, .ref n3, .ref r1, .ref r2, .ref r3, .ref r4, .ref r5, .ref r6, .int lR])), (r4, .inl (cI, 258, .inl fR4)), (r5, .inl (cI, 258, .inl fR5)), (r6, .inl (cI, 774, .inl fR6))]) [0, 1, 2, 3] rfl
                  have hD9 := hD.sub (ws' := [(oR, .inr (9, [.ref oH, .ref oK, .ref n1, .ref n2, .ref n3, .ref r1, .ref r2, .ref r3, .ref r4, .ref r5, .ref r6, .int lR])), (r4, .inl (cI, 258, .inl fR4)), (r5, .inl (cI, 258, .inl fR5)), (r6, .inl (cI, 774, .inl fR6))]) [0, 1, 2, 3] (by decide +kernel) rfl
                  rw [hQQ]
                  exact W.iret (v := x_22) hx hb hr (fun t ht hW => ⟨⟨x_22, x_22, rfl, rfl, ⟨by rw [ht]; exact hP9, hD9⟩⟩, hS.F ht⟩) hS.2.2 dX9_told_128
                · skip
                  have tc_21 : ¬ wh.toInt = 5 := v_ne c_21
                  refine lv_tableOut (tgt := 129) hx hb dX9_told_19 (by omega) (by decide) ?_
                  refine lv_iconst (v := (-1)) hx hb dX9_told_129 (by decide) ?_
                  have hP9 := hP.sub (ws' := [(oR, .inr (9, [.ref oH, .ref oK, .ref n1, .ref n2, .ref n3, .ref r1, .ref r2, .ref r3, .ref r4, .ref r5, .ref r6, .int lR])), (r4, .inl (cI, 258, .inl fR4)), (r5, .inl (cI, 258, .inl fR5)), (r6, .inl (cI, 774, .inl fR6))]) [0, 1, 2, 3] rfl
                  have hD9 := hD.sub (ws' := [(oR, .inr (9, [.ref oH, .ref oK, .ref n1, .ref n2, .ref n3, .ref r1, .ref r2, .ref r3, .ref r4, .ref r5, .ref r6, .int lR])), (r4, .inl (cI, 258, .inl fR4)), (r5, .inl (cI, 258, .inl fR5)), (r6, .inl (cI, 774, .inl fR6))]) [0, 1, 2, 3] (by decide +kernel) rfl
                  rw [hQQ]
                  exact W.iret (v := (-1)) hx hb hr (fun t ht hW => ⟨⟨(-1), (-1), rfl, rfl, ⟨by rw [ht]; exact hP9, hD9⟩⟩, hS.F ht⟩) hS.2.2 dX9_told_130
    · have tc_2 : lR.toInt ≤ i.toInt := v_nlt c_2
      have rw2_0 := v_rng i
      refine lv_iconst (v := (-1)) hx hb dX9_told_12 (by decide) ?_
      have hP9 := hP.sub (ws' := [(oR, .inr (9, [.ref oH, .ref oK, .ref n1, .ref n2, .ref n3, .ref r1, .ref r2, .ref r3, .ref r4, .ref r5, .ref r6, .int lR])), (r4, .inl (cI, 258, .inl fR4)), (r5, .inl (cI, 258, .inl fR5)), (r6, .inl (cI, 774, .inl fR6))]) [0, 1, 2, 3] rfl
      have hD9 := hD.sub (ws' := [(oR, .inr (9, [.ref oH, .ref oK, .ref n1, .ref n2, .ref n3, .ref r1, .ref r2, .ref r3, .ref r4, .ref r5, .ref r6, .int lR])), (r4, .inl (cI, 258, .inl fR4)), (r5, .inl (cI, 258, .inl fR5)), (r6, .inl (cI, 774, .inl fR6))]) [0, 1, 2, 3] (by decide +kernel) rfl
      rw [hQQ]
      exact W.iret (v := (-1)) hx hb hr (fun t ht hW => ⟨⟨(-1), (-1), rfl, rfl, ⟨by rw [ht]; exact hP9, hD9⟩⟩, hS.F ht⟩) hS.2.2 dX9_told_13

end

/-! 32.a.rows -/
section
theorem dX8_reached_0 : decode cX8_reached 0 = .ok (.aload_n 0, 1) := by decide +kernel
theorem dX8_reached_1 : decode cX8_reached 1 = .ok (.getfield 19, 3) := by decide +kernel
theorem dX8_reached_4 : decode cX8_reached 4 = .ok (.ireturn, 1) := by decide +kernel
theorem dX8_letters_0 : decode cX8_letters 0 = .ok (.aload_n 0, 1) := by decide +kernel
theorem dX8_letters_1 : decode cX8_letters 1 = .ok (.getfield 29, 3) := by decide +kernel
theorem dX8_letters_4 : decode cX8_letters 4 = .ok (.ireturn, 1) := by decide +kernel

end

/-! 32.parting -/
section
set_option maxHeartbeats 40000000 in
set_option maxRecDepth 100000 in
theorem m_X8_reached (l : Launch) (dC : Nat → ClassId) (dI : Nat → Nat → Nat) (cI cS : ClassId) (sz : Nat) (oE : Nat) (oC : Nat) (oK : Nat) (reE : Int32) (laE : Int32) (suE : Int32) (leE : Int32)  : Met l yX8_reached wsX8_reached ({ frames := 0, cells := 0, slots := 0, locals := 0 } : Room) (va_Pc [.ref oE] (fun U => U.heap.size = sz ∧ va_P (dC, dI) vwCl [(oE, .inr (8, [.ref oC, .ref oK, .int reE, .int laE, .int suE, .int leE]))] U.heap ∧ va_K (dC, dI) vwCl [(cI, .int), (cS, .short)] U ∧ va_D (fun _ => True) [(oE, .inr (8, [.ref oC, .ref oK, .int reE, .int laE, .int suE, .int leE]))])) (va_Qi (fun (r : Int32) (u : Int32) => r = u) (fun (r : Int32) t => va_P (dC, dI) vwCl [(oE, .inr (8, [.ref oC, .ref oK, .int reE, .int laE, .int suE, .int leE]))] t.heap ∧ va_D (va_A [(oE, .inr (8, [.ref oC, .ref oK, .int reE, .int laE, .int suE, .int leE]))] sz) [(oE, .inr (8, [.ref oC, .ref oK, .int reE, .int laE, .int suE, .int leE]))] ∧ (r = reE)) (va_A [(oE, .inr (8, [.ref oC, .ref oK, .int reE, .int laE, .int suE, .int leE]))] sz)) 0 0 (va_A [(oE, .inr (8, [.ref oC, .ref oK, .int reE, .int laE, .int suE, .int leE]))] sz) := by
  refine Met.ofW (cc := cX8_reached) (maxL := 1) (ret := (some .int)) (by decide) rfl ?_
  intro p e s m args below meth c s₁ B hml hv
  obtain ⟨rfl, hsz, hP, hK, hD0⟩ := hv
  have hx := B.exec
  have hb := B.bytes
  have hr := B.returns
  have hts := atoms_spec (ws := wsX8_reached) B.pre
  have hown : s.vm.findClass RX8 = some m.cls := findClass_of_methodNamed B.named
  have hlocks := B.notSynchronized
  have in_X8 : ∀ w ∈ wsX80, w ∈ wsX8_reached := fun _ h => List.mem_cons_of_mem _ (List.mem_append_right _ (h))
  subst hsz
  have hD := hD0.self (sz := s.heap.size)
  generalize hAe : va_A [(oE, .inr (8, [.ref oC, .ref oK, .int reE, .int laE, .int suE, .int leE]))] s.heap.size = A at hD ⊢
  have hA : ∀ q : Nat, s.heap.size ≤ q → A q := fun q h => by rw [← hAe]; exact Or.inr h
  have hS : va_S A s.heap s.heap [] := va_S.rf
  have hP : va_P (dC, dI) vwCl [(oE, .inr (8, [.ref oC, .ref oK, .int reE, .int laE, .int suE, .int leE]))] s.heap := hP
  have hl := lv_entry ([.ref oE]) (n := 1) (Nat.le_of_ble_eq_true rfl)
  rw [lg_entry_eq]
  generalize (lg_sl ([.ref oE]) ++ List.replicate (1 - (lg_sl ([.ref oE])).length) Slot.unset).toArray = ls at hl ⊢
  have hl : lv_has ls 1 [(0, .ref oE)] := hl
  obtain ⟨QQ, hQQ⟩ : ∃ QQ : Array Value → State → Outcome → State → Prop, QQ = va_Qi (fun (r : Int32) (u : Int32) => r = u) (fun (r : Int32) t => va_P (dC, dI) vwCl [(oE, .inr (8, [.ref oC, .ref oK, .int reE, .int laE, .int suE, .int leE]))] t.heap ∧ va_D A [(oE, .inr (8, [.ref oC, .ref oK, .int reE, .int laE, .int suE, .int leE]))] ∧ (r = reE)) A := ⟨_, rfl⟩
  rw [← hQQ]
  refine lv_aload_n hx hb dX8_reached_0 rfl (lv_at hl 0 rfl) ?_
  refine va_get (D := (dC, dI)) (ci := 8) (v := .int reE) (C := RX8) (T := TX8) (N := 6) hx hb hts in_X8 hown hK hP 0 rfl rfl 2 (by decide) (hts (.fieldLink RX8 19 "TextMender$Reading" "reached" "I") (List.mem_of_getElem? (i := 1) rfl)) (fun _ h9 => h9) rfl dX8_reached_1 ?_
  have hP9 := hP.sub (ws' := [(oE, .inr (8, [.ref oC, .ref oK, .int reE, .int laE, .int suE, .int leE]))]) [0] rfl
  have hD9 := hD.sub (ws' := [(oE, .inr (8, [.ref oC, .ref oK, .int reE, .int laE, .int suE, .int leE]))]) [0] (by decide +kernel) rfl
  rw [hQQ]
  exact W.iret (v := reE) hx hb hr (fun t ht hW => ⟨⟨reE, reE, rfl, rfl, ⟨by rw [ht]; exact hP9, hD9, rfl⟩⟩, hS.F ht⟩) hS.2.2 dX8_reached_4

set_option maxHeartbeats 40000000 in
set_option maxRecDepth 100000 in
theorem m_X8_letters (l : Launch) (dC : Nat → ClassId) (dI : Nat → Nat → Nat) (cI cS : ClassId) (sz : Nat) (oE : Nat) (oC : Nat) (oK : Nat) (reE : Int32) (laE : Int32) (suE : Int32) (leE : Int32)  : Met l yX8_letters wsX8_letters ({ frames := 0, cells := 0, slots := 0, locals := 0 } : Room) (va_Pc [.ref oE] (fun U => U.heap.size = sz ∧ va_P (dC, dI) vwCl [(oE, .inr (8, [.ref oC, .ref oK, .int reE, .int laE, .int suE, .int leE]))] U.heap ∧ va_K (dC, dI) vwCl [(cI, .int), (cS, .short)] U ∧ va_D (fun _ => True) [(oE, .inr (8, [.ref oC, .ref oK, .int reE, .int laE, .int suE, .int leE]))])) (va_Qi (fun (r : Int32) (u : Int32) => r = u) (fun (r : Int32) t => va_P (dC, dI) vwCl [(oE, .inr (8, [.ref oC, .ref oK, .int reE, .int laE, .int suE, .int leE]))] t.heap ∧ va_D (va_A [(oE, .inr (8, [.ref oC, .ref oK, .int reE, .int laE, .int suE, .int leE]))] sz) [(oE, .inr (8, [.ref oC, .ref oK, .int reE, .int laE, .int suE, .int leE]))] ∧ (r = leE)) (va_A [(oE, .inr (8, [.ref oC, .ref oK, .int reE, .int laE, .int suE, .int leE]))] sz)) 0 0 (va_A [(oE, .inr (8, [.ref oC, .ref oK, .int reE, .int laE, .int suE, .int leE]))] sz) := by
  refine Met.ofW (cc := cX8_letters) (maxL := 1) (ret := (some .int)) (by decide) rfl ?_
  intro p e s m args below meth c s₁ B hml hv
  obtain ⟨rfl, hsz, hP, hK, hD0⟩ := hv
  have hx := B.exec
  have hb := B.bytes
  have hr := B.returns
  have hts := atoms_spec (ws := wsX8_letters) B.pre
  have hown : s.vm.findClass RX8 = some m.cls := findClass_of_methodNamed B.named
  have hlocks := B.notSynchronized
  have in_X8 : ∀ w ∈ wsX80, w ∈ wsX8_letters := fun _ h => List.mem_cons_of_mem _ (List.mem_append_right _ (h))
  subst hsz
  have hD := hD0.self (sz := s.heap.size)
  generalize hAe : va_A [(oE, .inr (8, [.ref oC, .ref oK, .int reE, .int laE, .int suE, .int leE]))] s.heap.size = A at hD ⊢
  have hA : ∀ q : Nat, s.heap.size ≤ q → A q := fun q h => by rw [← hAe]; exact Or.inr h
  have hS : va_S A s.heap s.heap [] := va_S.rf
  have hP : va_P (dC, dI) vwCl [(oE, .inr (8, [.ref oC, .ref oK, .int reE, .int laE, .int suE, .int leE]))] s.heap := hP
  have hl := lv_entry ([.ref oE]) (n := 1) (Nat.le_of_ble_eq_true rfl)
  rw [lg_entry_eq]
  generalize (lg_sl ([.ref oE]) ++ List.replicate (1 - (lg_sl ([.ref oE])).length) Slot.unset).toArray = ls at hl ⊢
  have hl : lv_has ls 1 [(0, .ref oE)] := hl
  obtain ⟨QQ, hQQ⟩ : ∃ QQ : Array Value → State → Outcome → State → Prop, QQ = va_Qi (fun (r : Int32) (u : Int32) => r = u) (fun (r : Int32) t => va_P (dC, dI) vwCl [(oE, .inr (8, [.ref oC, .ref oK, .int reE, .int laE, .int suE, .int leE]))] t.heap ∧ va_D A [(oE, .inr (8, [.ref oC, .ref oK, .int reE, .int laE, .int suE, .int leE]))] ∧ (r = leE)) A := ⟨_, rfl⟩
  rw [← hQQ]
  refine lv_aload_n hx hb dX8_letters_0 rfl (lv_at hl 0 rfl) ?_
  refine va_get (D := (dC, dI)) (ci := 8) (v := .int leE) (C := RX8) (T := TX8) (N := 6) hx hb hts in_X8 hown hK hP 0 rfl rfl 5 (by decide) (hts (.fieldLink RX8 29 "TextMender$Reading" "letters" "I") (List.mem_of_getElem? (i := 1) rfl)) (fun _ h9 => h9) rfl dX8_letters_1 ?_
  have hP9 := hP.sub (ws' := [(oE, .inr (8, [.ref oC, .ref oK, .int reE, .int laE, .int suE, .int leE]))]) [0] rfl
  have hD9 := hD.sub (ws' := [(oE, .inr (8, [.ref oC, .ref oK, .int reE, .int laE, .int suE, .int leE]))]) [0] (by decide +kernel) rfl
  rw [hQQ]
  exact W.iret (v := leE) hx hb hr (fun t ht hW => ⟨⟨leE, leE, rfl, rfl, ⟨by rw [ht]; exact hP9, hD9, rfl⟩⟩, hS.F ht⟩) hS.2.2 dX8_letters_4

end

/-! 34.a.rows -/
section
theorem dX1_told_0 : decode cX1_told 0 = .ok (.iload_n 1, 1) := by decide +kernel
theorem dX1_told_1 : decode cX1_told 1 = .ok (.ifCond .lt 11, 3) := by decide +kernel
theorem dX1_told_12 : decode cX1_told 12 = .ok (.iconst (-1), 1) := by decide +kernel
theorem dX1_told_13 : decode cX1_told 13 = .ok (.ireturn, 1) := by decide +kernel
theorem dX1_told_4 : decode cX1_told 4 = .ok (.iload_n 1, 1) := by decide +kernel
theorem dX1_told_5 : decode cX1_told 5 = .ok (.aload_n 0, 1) := by decide +kernel
theorem dX1_told_6 : decode cX1_told 6 = .ok (.getfield 65, 3) := by decide +kernel
theorem dX1_told_9 : decode cX1_told 9 = .ok (.if_icmp .lt 5, 3) := by decide +kernel
theorem dX1_told_14 : decode cX1_told 14 = .ok (.iload_n 2, 1) := by decide +kernel
theorem dX1_told_15 : decode cX1_told 15 = .ok (.tableswitch 57 0 3 #[29, 36, 43, 50], 29) := by decide +kernel
theorem dX1_told_44 : decode cX1_told 44 = .ok (.aload_n 0, 1) := by decide +kernel
theorem dX1_told_45 : decode cX1_told 45 = .ok (.getfield 30, 3) := by decide +kernel
theorem dX1_told_48 : decode cX1_told 48 = .ok (.iload_n 1, 1) := by decide +kernel
theorem dX1_told_49 : decode cX1_told 49 = .ok (.iaload, 1) := by decide +kernel
theorem dX1_told_50 : decode cX1_told 50 = .ok (.ireturn, 1) := by decide +kernel
theorem dX1_told_51 : decode cX1_told 51 = .ok (.aload_n 0, 1) := by decide +kernel
theorem dX1_told_52 : decode cX1_told 52 = .ok (.getfield 33, 3) := by decide +kernel
theorem dX1_told_55 : decode cX1_told 55 = .ok (.iload_n 1, 1) := by decide +kernel
theorem dX1_told_56 : decode cX1_told 56 = .ok (.iaload, 1) := by decide +kernel
theorem dX1_told_57 : decode cX1_told 57 = .ok (.ireturn, 1) := by decide +kernel
theorem dX1_told_58 : decode cX1_told 58 = .ok (.aload_n 0, 1) := by decide +kernel
theorem dX1_told_59 : decode cX1_told 59 = .ok (.getfield 36, 3) := by decide +kernel
theorem dX1_told_62 : decode cX1_told 62 = .ok (.iload_n 1, 1) := by decide +kernel
theorem dX1_told_63 : decode cX1_told 63 = .ok (.iaload, 1) := by decide +kernel
theorem dX1_told_64 : decode cX1_told 64 = .ok (.ireturn, 1) := by decide +kernel
theorem dX1_told_65 : decode cX1_told 65 = .ok (.aload_n 0, 1) := by decide +kernel
theorem dX1_told_66 : decode cX1_told 66 = .ok (.getfield 39, 3) := by decide +kernel
theorem dX1_told_69 : decode cX1_told 69 = .ok (.iload_n 1, 1) := by decide +kernel
theorem dX1_told_70 : decode cX1_told 70 = .ok (.iaload, 1) := by decide +kernel
theorem dX1_told_71 : decode cX1_told 71 = .ok (.ireturn, 1) := by decide +kernel
theorem dX1_told_72 : decode cX1_told 72 = .ok (.iconst (-1), 1) := by decide +kernel
theorem dX1_told_73 : decode cX1_told 73 = .ok (.ireturn, 1) := by decide +kernel

end

/-! 34.choices -/
section
set_option maxHeartbeats 40000000 in
set_option maxRecDepth 100000 in
theorem m_X1_told (l : Launch) (dC : Nat → ClassId) (dI : Nat → Nat → Nat) (cI cS : ClassId) (sz : Nat) (oW : Nat) (oC : Nat) (oK : Nat) (nw : Nat) (w1 : Nat) (w2 : Nat) (w3 : Nat) (o7 : Nat) (o8 : Nat) (o9 : Nat) (w4 : Nat) (w5 : Nat) (w6 : Nat) (w7 : Nat) (ke : Int32) (tl : Int32) (fsh : Int32) (wi : Int32) (ri : Int32) (fm : Int32) (lm : Int32) (fW4 : Nat → Int32) (fW5 : Nat → Int32) (fW6 : Nat → Int32) (fW7 : Nat → Int32) (i : Int32) (wh : Int32) (g_ke : 0 ≤ ke.toInt ∧ ke.toInt ≤ 200) (g_fsh : 0 ≤ fsh.toInt ∧ fsh.toInt ≤ 1) (g_fm : -1 ≤ fm.toInt ∧ fm.toInt ≤ 800) (g_lm : -1 ≤ lm.toInt ∧ lm.toInt ≤ 800) : Met l yX1_told wsX1_told ({ frames := 0, cells := 0, slots := 0, locals := 0 } : Room) (va_Pc [.ref oW, .int i, .int wh] (fun U => U.heap.size = sz ∧ va_P (dC, dI) vwCl [(oW, .inr (1, [.ref oC, .ref oK, .ref nw, .ref w1, .ref w2, .ref w3, .ref o7, .ref o8, .ref o9, .ref w4, .ref w5, .ref w6, .ref w7, .int ke, .int tl, .int fsh, .int wi, .int ri, .int fm, .int lm])), (w4, .inl (cI, 200, .inl fW4)), (w5, .inl (cI, 200, .inl fW5)), (w6, .inl (cI, 200, .inl fW6)), (w7, .inl (cI, 200, .inl fW7))] U.heap ∧ va_K (dC, dI) vwCl [(cI, .int), (cS, .short)] U ∧ va_D (fun _ => True) [(oW, .inr (1, [.ref oC, .ref oK, .ref nw, .ref w1, .ref w2, .ref w3, .ref o7, .ref o8, .ref o9, .ref w4, .ref w5, .ref w6, .ref w7, .int ke, .int tl, .int fsh, .int wi, .int ri, .int fm, .int lm])), (w4, .inl (cI, 200, .inl fW4)), (w5, .inl (cI, 200, .inl fW5)), (w6, .inl (cI, 200, .inl fW6)), (w7, .inl (cI, 200, .inl fW7))])) (va_Qi (fun (r : Int32) (u : Int32) => r = u) (fun (r : Int32) t => va_P (dC, dI) vwCl [(oW, .inr (1, [.ref oC, .ref oK, .ref nw, .ref w1, .ref w2, .ref w3, .ref o7, .ref o8, .ref o9, .ref w4, .ref w5, .ref w6, .ref w7, .int ke, .int tl, .int fsh, .int wi, .int ri, .int fm, .int lm])), (w4, .inl (cI, 200, .inl fW4)), (w5, .inl (cI, 200, .inl fW5)), (w6, .inl (cI, 200, .inl fW6)), (w7, .inl (cI, 200, .inl fW7))] t.heap ∧ va_D (va_A [(oW, .inr (1, [.ref oC, .ref oK, .ref nw, .ref w1, .ref w2, .ref w3, .ref o7, .ref o8, .ref o9, .ref w4, .ref w5, .ref w6, .ref w7, .int ke, .int tl, .int fsh, .int wi, .int ri, .int fm, .int lm])), (w4, .inl (cI, 200, .inl fW4)), (w5, .inl (cI, 200, .inl fW5)), (w6, .inl (cI, 200, .inl fW6)), (w7, .inl (cI, 200, .inl fW7))] sz) [(oW, .inr (1, [.ref oC, .ref oK, .ref nw, .ref w1, .ref w2, .ref w3, .ref o7, .ref o8, .ref o9, .ref w4, .ref w5, .ref w6, .ref w7, .int ke, .int tl, .int fsh, .int wi, .int ri, .int fm, .int lm])), (w4, .inl (cI, 200, .inl fW4)), (w5, .inl (cI, 200, .inl fW5)), (w6, .inl (cI, 200, .inl fW6)), (w7, .inl (cI, 200, .inl fW7))]) (va_A [(oW, .inr (1, [.ref oC, .ref oK, .ref nw, .ref w1, .ref w2, .ref w3, .ref o7, .ref o8, .ref o9, .ref w4, .ref w5, .ref w6, .ref w7, .int ke, .int tl, .int fsh, .int wi, .int ri, .int fm, .int lm])), (w4, .inl (cI, 200, .inl fW4)), (w5, .inl (cI, 200, .inl fW5)), (w6, .inl (cI, 200, .inl fW6)), (w7, .inl (cI, 200, .inl fW7))] sz)) 0 0 (va_A [(oW, .inr (1, [.ref oC, .ref oK, .ref nw, .ref w1, .ref w2, .ref w3, .ref o7, .ref o8, .ref o9, .ref w4, .ref w5, .ref w6, .ref w7, .int ke, .int tl, .int fsh, .int wi, .int ri, .int fm, .int lm])), (w4, .inl (cI, 200, .inl fW4)), (w5, .inl (cI, 200, .inl fW5)), (w6, .inl (cI, 200, .inl fW6)), (w7, .inl (cI, 200, .inl fW7))] sz) := by
  refine Met.ofW (cc := cX1_told) (maxL := 3) (ret := (some .int)) (by decide) rfl ?_
  intro p e s m args below meth c s₁ B hml hv
  obtain ⟨rfl, hsz, hP, hK, hD0⟩ := hv
  have hx := B.exec
  have hb := B.bytes
  have hr := B.returns
  have hts := atoms_spec (ws := wsX1_told) B.pre
  have hown : s.vm.findClass RX1 = some m.cls := findClass_of_methodNamed B.named
  have hlocks := B.notSynchronized
  have in_X1 : ∀ w ∈ wsX10, w ∈ wsX1_told := fun _ h => List.mem_cons_of_mem _ (List.mem_append_right _ (h))
  subst hsz
  have hD := hD0.self (sz := s.heap.size)
  generalize hAe : va_A [(oW, .inr (1, [.ref oC, .ref oK, .ref nw, .ref w1, .ref w2, .ref w3, .ref o7, .ref o8, .ref o9, .ref w4, .ref w5, .ref w6, .ref w7, .int ke, .int tl, .int fsh, .int wi, .int ri, .int fm, .int lm])), (w4, .inl (cI, 200, .inl fW4)), (w5, .inl (cI, 200, .inl fW5)), (w6, .inl (cI, 200, .inl fW6)), (w7, .inl (cI, 200, .inl fW7))] s.heap.size = A at hD ⊢
  have hA : ∀ q : Nat, s.heap.size ≤ q → A q := fun q h => by rw [← hAe]; exact Or.inr h
  have hS : va_S A s.heap s.heap [] := va_S.rf
  have hP : va_P (dC, dI) vwCl [(oW, .inr (1, [.ref oC, .ref oK, .ref nw, .ref w1, .ref w2, .ref w3, .ref o7, .ref o8, .ref o9, .ref w4, .ref w5, .ref w6, .ref w7, .int ke, .int tl, .int fsh, .int wi, .int ri, .int fm, .int lm])), (w4, .inl (cI, 200, .inl fW4)), (w5, .inl (cI, 200, .inl fW5)), (w6, .inl (cI, 200, .inl fW6)), (w7, .inl (cI, 200, .inl fW7))] s.heap := hP
  have hl := lv_entry ([.ref oW, .int i, .int wh]) (n := 3) (Nat.le_of_ble_eq_true rfl)
  rw [lg_entry_eq]
  generalize (lg_sl ([.ref oW, .int i, .int wh]) ++ List.replicate (3 - (lg_sl ([.ref oW, .int i, .int wh])).length) Slot.unset).toArray = ls at hl ⊢
  have hl : lv_has ls 3 [(0, .ref oW), (1, .int i), (2, .int wh)] := hl
  obtain ⟨QQ, hQQ⟩ : ∃ QQ : Array Value → State → Outcome → State → Prop, QQ = va_Qi (fun (r : Int32) (u : Int32) => r = u) (fun (r : Int32) t => va_P (dC, dI) vwCl [(oW, .inr (1, [.ref oC, .ref oK, .ref nw, .ref w1, .ref w2, .ref w3, .ref o7, .ref o8, .ref o9, .ref w4, .ref w5, .ref w6, .ref w7, .int ke, .int tl, .int fsh, .int wi, .int ri, .int fm, .int lm])), (w4, .inl (cI, 200, .inl fW4)), (w5, .inl (cI, 200, .inl fW5)), (w6, .inl (cI, 200, .inl fW6)), (w7, .inl (cI, 200, .inl fW7))] t.heap ∧ va_D A [(oW, .inr (1, [.ref oC, .ref oK, .ref nw, .ref w1, .ref w2, .ref w3, .ref o7, .ref o8, .ref o9, .ref w4, .ref w5, .ref w6, .ref w7, .int ke, .int tl, .int fsh, .int wi, .int ri, .int fm, .int lm])), (w4, .inl (cI, 200, .inl fW4)), (w5, .inl (cI, 200, .inl fW5)), (w6, .inl (cI, 200, .inl fW6)), (w7, .inl (cI, 200, .inl fW7))]) A := ⟨_, rfl⟩
  rw [← hQQ]
  refine lv_iload_n hx hb dX1_told_0 rfl (lv_at hl 1 rfl) ?_
  refine lv_if_lt (tgt := 12) hx hb dX1_told_1 (by decide) (fun c_1 => ?_) (fun c_1 => ?_)
  · have tc_1 : i.toInt < 0 := v_lt c_1
    refine lv_iconst (v := (-1)) hx hb dX1_told_12 (by decide) ?_
    have hP9 := hP.sub (ws' := [(oW, .inr (1, [.ref oC, .ref oK, .ref nw, .ref w1, .ref w2, .ref w3, .ref o7, .ref o8, .ref o9, .ref w4, .ref w5, .ref w6, .ref w7, .int ke, .int tl, .int fsh, .int wi, .int ri, .int fm, .int lm])), (w4, .inl (cI, 200, .inl fW4)), (w5, .inl (cI, 200, .inl fW5)), (w6, .inl (cI, 200, .inl fW6)), (w7, .inl (cI, 200, .inl fW7))]) [0, 1, 2, 3, 4] rfl
    have hD9 := hD.sub (ws' := [(oW, .inr (1, [.ref oC, .ref oK, .ref nw, .ref w1, .ref w2, .ref w3, .ref o7, .ref o8, .ref o9, .ref w4, .ref w5, .ref w6, .ref w7, .int ke, .int tl, .int fsh, .int wi, .int ri, .int fm, .int lm])), (w4, .inl (cI, 200, .inl fW4)), (w5, .inl (cI, 200, .inl fW5)), (w6, .inl (cI, 200, .inl fW6)), (w7, .inl (cI, 200, .inl fW7))]) [0, 1, 2, 3, 4] (by decide +kernel) rfl
    rw [hQQ]
    exact W.iret (v := (-1)) hx hb hr (fun t ht hW => ⟨⟨(-1), (-1), rfl, rfl, ⟨by rw [ht]; exact hP9, hD9⟩⟩, hS.F ht⟩) hS.2.2 dX1_told_13
  · have tc_1 : 0 ≤ i.toInt := v_nlt c_1
    refine lv_iload_n hx hb dX1_told_4 rfl (lv_at hl 1 rfl) ?_
    refine lv_aload_n hx hb dX1_told_5 rfl (lv_at hl 0 rfl) ?_
    refine va_get (D := (dC, dI)) (ci := 1) (v := .int ke) (C := RX1) (T := TX1) (N := 20) hx hb hts in_X1 hown hK hP 0 rfl rfl 13 (by decide) (hts (.fieldLink RX1 65 "TextMender$Choices" "kept" "I") (List.mem_of_getElem? (i := 1) rfl)) (fun _ h9 => h9) rfl dX1_told_6 ?_
    refine lv_icmp_lt (tgt := 14) hx hb dX1_told_9 (by decide) (fun c_2 => ?_) (fun c_2 => ?_)
    · have tc_2 : i.toInt < ke.toInt := v_lt c_2
      have rw2_0 := v_rng i
      refine lv_iload_n hx hb dX1_told_14 rfl (lv_at hl 2 rfl) ?_
      by_cases c_3 : wh = 0
      · refine lv_tableIn (tgt := 44) hx hb dX1_told_15 (by rw [c_3]; decide) (by rw [c_3]; decide) (by rw [c_3]; rfl) (by decide) ?_
        have tc_3 : wh.toInt = 0 := v_eq c_3
        refine lv_aload_n hx hb dX1_told_44 rfl (lv_at hl 0 rfl) ?_
        refine va_get (D := (dC, dI)) (ci := 1) (v := .ref w4) (C := RX1) (T := TX1) (N := 20) hx hb hts in_X1 hown hK hP 0 rfl rfl 9 (by decide) (hts (.fieldLink RX1 30 "TextMender$Choices" "firstByte" "[I") (List.mem_of_getElem? (i := 2) rfl)) (fun _ h9 => h9) rfl dX1_told_45 ?_
        refine lv_iload_n hx hb dX1_told_48 rfl (lv_at hl 1 rfl) ?_
        refine va_iald hx hb hK hP 1 0 rfl rfl (v_in (by omega)) dX1_told_49 ?_
        refine lv_topi (fun x_4 ex_4 => ?_)
        have hP9 := hP.sub (ws' := [(oW, .inr (1, [.ref oC, .ref oK, .ref nw, .ref w1, .ref w2, .ref w3, .ref o7, .ref o8, .ref o9, .ref w4, .ref w5, .ref w6, .ref w7, .int ke, .int tl, .int fsh, .int wi, .int ri, .int fm, .int lm])), (w4, .inl (cI, 200, .inl fW4)), (w5, .inl (cI, 200, .inl fW5)), (w6, .inl (cI, 200, .inl fW6)), (w7, .inl (cI, 200, .inl fW7))]) [0, 1, 2, 3, 4] rfl
        have hD9 := hD.sub (ws' := [(oW, .inr (1, [.ref oC, .ref oK, .ref nw, .ref w1, .ref w2, .ref w3, .ref o7, .ref o8, .ref o9, .ref w4, .ref w5, .ref w6, .ref w7, .int ke, .int tl, .int fsh, .int wi, .int ri, .int fm, .int lm])), (w4, .inl (cI, 200, .inl fW4)), (w5, .inl (cI, 200, .inl fW5)), (w6, .inl (cI, 200, .inl fW6)), (w7, .inl (cI, 200, .inl fW7))]) [0, 1, 2, 3, 4] (by decide +kernel) rfl
        rw [hQQ]
        exact W.iret (v := x_4) hx hb hr (fun t ht hW => ⟨⟨x_4, x_4, rfl, rfl, ⟨by rw [ht]; exact hP9, hD9⟩⟩, hS.F ht⟩) hS.2.2 dX1_told_50
      · skip
        have tc_3 : ¬ wh.toInt = 0 := v_ne c_3
        by_cases c_5 : wh = 1
        · refine lv_tableIn (tgt := 51) hx hb dX1_told_15 (by rw [c_5]; decide) (by rw [c_5]; decide) (by rw [c_5]; rfl) (by decide) ?_
          have tc_5 : wh.toInt = 1 := v_eq c_5
          refine lv_aload_n hx hb dX1_told_51 rfl (lv_at hl 0 rfl) ?_
          refine va_get (D := (dC, dI)) (ci := 1) (v := .ref w5) (C := RX1) (T := TX1) (N := 20) hx hb hts in_X1 hown hK hP 0 rfl rfl 10 (by decide) (hts (.fieldLink RX1 33 "TextMender$Choices" "secondByte" "[I") (List.mem_of_getElem? (i := 3) rfl)) (fun _ h9 => h9) rfl dX1_told_52 ?_
          refine lv_iload_n hx hb dX1_told_55 rfl (lv_at hl 1 rfl) ?_
          refine va_iald hx hb hK hP 2 0 rfl rfl (v_in (by omega)) dX1_told_56 ?_
          refine lv_topi (fun x_6 ex_6 => ?_)
          have hP9 := hP.sub (ws' := [(oW, .inr (1, [.ref oC, .ref oK, .ref nw, .ref w1, .ref w2, .ref w3, .ref o7, .ref o8, .ref o9, .ref w4, .ref w5, .ref w6, .ref w7, .int ke, .int tl, .int fsh, .int wi, .int ri, .int fm, .int lm])), (w4, .inl (cI, 200, .inl fW4)), (w5, .inl (cI, 200, .inl fW5)), (w6, .inl (cI, 200, .inl fW6)), (w7, .inl (cI, 200, .inl fW7))]) [0, 1, 2, 3, 4] rfl
          have hD9 := hD.sub (ws' := [(oW, .inr (1, [.ref oC, .ref oK, .ref nw, .ref w1, .ref w2, .ref w3, .ref o7, .ref o8, .ref o9, .ref w4, .ref w5, .ref w6, .ref w7, .int ke, .int tl, .int fsh, .int wi, .int ri, .int fm, .int lm])), (w4, .inl (cI, 200, .inl fW4)), (w5, .inl (cI, 200, .inl fW5)), (w6, .inl (cI, 200, .inl fW6)), (w7, .inl (cI, 200, .inl fW7))]) [0, 1, 2, 3, 4] (by decide +kernel) rfl
          rw [hQQ]
          exact W.iret (v := x_6) hx hb hr (fun t ht hW => ⟨⟨x_6, x_6, rfl, rfl, ⟨by rw [ht]; exact hP9, hD9⟩⟩, hS.F ht⟩) hS.2.2 dX1_told_57
        · skip
          have tc_5 : ¬ wh.toInt = 1 := v_ne c_5
          by_cases c_7 : wh = 2
          · refine lv_tableIn (tgt := 58) hx hb dX1_told_15 (by rw [c_7]; decide) (by rw [c_7]; decide) (by rw [c_7]; rfl) (by decide) ?_
            have tc_7 : wh.toInt = 2 := v_eq c_7
            refine lv_aload_n hx hb dX1_told_58 rfl (lv_at hl 0 rfl) ?_
            refine va_get (D := (dC, dI)) (ci := 1) (v := .ref w6) (C := RX1) (T := TX1) (N := 20) hx hb hts in_X1 hown hK hP 0 rfl rfl 11 (by decide) (hts (.fieldLink RX1 36 "TextMender$Choices" "costOf" "[I") (List.mem_of_getElem? (i := 4) rfl)) (fun _ h9 => h9) rfl dX1_told_59 ?_
            refine lv_iload_n hx hb dX1_told_62 rfl (lv_at hl 1 rfl) ?_
            refine va_iald hx hb hK hP 3 0 rfl rfl (v_in (by omega)) dX1_told_63 ?_
            refine lv_topi (fun x_8 ex_8 => ?_)
            have hP9 := hP.sub (ws' := [(oW, .inr (1, [.ref oC, .ref oK, .ref nw, .ref w1, .ref w2, .ref w3, .ref o7, .ref o8, .ref o9, .ref w4, .ref w5, .ref w6, .ref w7, .int ke, .int tl, .int fsh, .int wi, .int ri, .int fm, .int lm])), (w4, .inl (cI, 200, .inl fW4)), (w5, .inl (cI, 200, .inl fW5)), (w6, .inl (cI, 200, .inl fW6)), (w7, .inl (cI, 200, .inl fW7))]) [0, 1, 2, 3, 4] rfl
            have hD9 := hD.sub (ws' := [(oW, .inr (1, [.ref oC, .ref oK, .ref nw, .ref w1, .ref w2, .ref w3, .ref o7, .ref o8, .ref o9, .ref w4, .ref w5, .ref w6, .ref w7, .int ke, .int tl, .int fsh, .int wi, .int ri, .int fm, .int lm])), (w4, .inl (cI, 200, .inl fW4)), (w5, .inl (cI, 200, .inl fW5)), (w6, .inl (cI, 200, .inl fW6)), (w7, .inl (cI, 200, .inl fW7))]) [0, 1, 2, 3, 4] (by decide +kernel) rfl
            rw [hQQ]
            exact W.iret (v := x_8) hx hb hr (fun t ht hW => ⟨⟨x_8, x_8, rfl, rfl, ⟨by rw [ht]; exact hP9, hD9⟩⟩, hS.F ht⟩) hS.2.2 dX1_told_64
          · skip
            have tc_7 : ¬ wh.toInt = 2 := v_ne c_7
            by_cases c_9 : wh = 3
            · refine lv_tableIn (tgt := 65) hx hb dX1_told_15 (by rw [c_9]; decide) (by rw [c_9]; decide) (by rw [c_9]; rfl) (by decide) ?_
              have tc_9 : wh.toInt = 3 := v_eq c_9
              refine lv_aload_n hx hb dX1_told_65 rfl (lv_at hl 0 rfl) ?_
              refine va_get (D := (dC, dI)) (ci := 1) (v := .ref w7) (C := RX1) (T := TX1) (N := 20) hx hb hts in_X1 hown hK hP 0 rfl rfl 12 (by decide) (hts (.fieldLink RX1 39 "TextMender$Choices" "lengthOf" "[I") (List.mem_of_getElem? (i := 5) rfl)) (fun _ h9 => h9) rfl dX1_told_66 ?_
              refine lv_iload_n hx hb dX1_told_69 rfl (lv_at hl 1 rfl) ?_
              refine va_iald hx hb hK hP 4 0 rfl rfl (v_in (by omega)) dX1_told_70 ?_
              refine lv_topi (fun x_10 ex_10 => ?_)
              have hP9 := hP.sub (ws' := [(oW, .inr (1, [.ref oC, .ref oK, .ref nw, .ref w1, .ref w2, .ref w3, .ref o7, .ref o8, .ref o9, .ref w4, .ref w5, .ref w6, .ref w7, .int ke, .int tl, .int fsh, .int wi, .int ri, .int fm, .int lm])), (w4, .inl (cI, 200, .inl fW4)), (w5, .inl (cI, 200, .inl fW5)), (w6, .inl (cI, 200, .inl fW6)), (w7, .inl (cI, 200, .inl fW7))]) [0, 1, 2, 3, 4] rfl
              have hD9 := hD.sub (ws' := [(oW, .inr (1, [.ref oC, .ref oK, .ref nw, .ref w1, .ref w2, .ref w3, .ref o7, .ref o8, .ref o9, .ref w4, .ref w5, .ref w6, .ref w7, .int ke, .int tl, .int fsh, .int wi, .int ri, .int fm, .int lm])), (w4, .inl (cI, 200, .inl fW4)), (w5, .inl (cI, 200, .inl fW5)), (w6, .inl (cI, 200, .inl fW6)), (w7, .inl (cI, 200, .inl fW7))]) [0, 1, 2, 3, 4] (by decide +kernel) rfl
              rw [hQQ]
              exact W.iret (v := x_10) hx hb hr (fun t ht hW => ⟨⟨x_10, x_10, rfl, rfl, ⟨by rw [ht]; exact hP9, hD9⟩⟩, hS.F ht⟩) hS.2.2 dX1_told_71
            · skip
              have tc_9 : ¬ wh.toInt = 3 := v_ne c_9
              refine lv_tableOut (tgt := 72) hx hb dX1_told_15 (by omega) (by decide) ?_
              refine lv_iconst (v := (-1)) hx hb dX1_told_72 (by decide) ?_
              have hP9 := hP.sub (ws' := [(oW, .inr (1, [.ref oC, .ref oK, .ref nw, .ref w1, .ref w2, .ref w3, .ref o7, .ref o8, .ref o9, .ref w4, .ref w5, .ref w6, .ref w7, .int ke, .int tl, .int fsh, .int wi, .int ri, .int fm, .int lm])), (w4, .inl (cI, 200, .inl fW4)), (w5, .inl (cI, 200, .inl fW5)), (w6, .inl (cI, 200, .inl fW6)), (w7, .inl (cI, 200, .inl fW7))]) [0, 1, 2, 3, 4] rfl
              have hD9 := hD.sub (ws' := [(oW, .inr (1, [.ref oC, .ref oK, .ref nw, .ref w1, .ref w2, .ref w3, .ref o7, .ref o8, .ref o9, .ref w4, .ref w5, .ref w6, .ref w7, .int ke, .int tl, .int fsh, .int wi, .int ri, .int fm, .int lm])), (w4, .inl (cI, 200, .inl fW4)), (w5, .inl (cI, 200, .inl fW5)), (w6, .inl (cI, 200, .inl fW6)), (w7, .inl (cI, 200, .inl fW7))]) [0, 1, 2, 3, 4] (by decide +kernel) rfl
              rw [hQQ]
              exact W.iret (v := (-1)) hx hb hr (fun t ht hW => ⟨⟨(-1), (-1), rfl, rfl, ⟨by rw [ht]; exact hP9, hD9⟩⟩, hS.F ht⟩) hS.2.2 dX1_told_73
    · have tc_2 : ke.toInt ≤ i.toInt := v_nlt c_2
      have rw2_0 := v_rng i
      refine lv_iconst (v := (-1)) hx hb dX1_told_12 (by decide) ?_
      have hP9 := hP.sub (ws' := [(oW, .inr (1, [.ref oC, .ref oK, .ref nw, .ref w1, .ref w2, .ref w3, .ref o7, .ref o8, .ref o9, .ref w4, .ref w5, .ref w6, .ref w7, .int ke, .int tl, .int fsh, .int wi, .int ri, .int fm, .int lm])), (w4, .inl (cI, 200, .inl fW4)), (w5, .inl (cI, 200, .inl fW5)), (w6, .inl (cI, 200, .inl fW6)), (w7, .inl (cI, 200, .inl fW7))]) [0, 1, 2, 3, 4] rfl
      have hD9 := hD.sub (ws' := [(oW, .inr (1, [.ref oC, .ref oK, .ref nw, .ref w1, .ref w2, .ref w3, .ref o7, .ref o8, .ref o9, .ref w4, .ref w5, .ref w6, .ref w7, .int ke, .int tl, .int fsh, .int wi, .int ri, .int fm, .int lm])), (w4, .inl (cI, 200, .inl fW4)), (w5, .inl (cI, 200, .inl fW5)), (w6, .inl (cI, 200, .inl fW6)), (w7, .inl (cI, 200, .inl fW7))]) [0, 1, 2, 3, 4] (by decide +kernel) rfl
      rw [hQQ]
      exact W.iret (v := (-1)) hx hb hr (fun t ht hW => ⟨⟨(-1), (-1), rfl, rfl, ⟨by rw [ht]; exact hP9, hD9⟩⟩, hS.F ht⟩) hS.2.2 dX1_told_13

end

/-! 36.a.rows -/
section
theorem dX11_end_0 : decode cX11_end 0 = .ok (.iload_n 1, 1) := by decide +kernel
theorem dX11_end_1 : decode cX11_end 1 = .ok (.ifCond .lt 14, 3) := by decide +kernel
theorem dX11_end_15 : decode cX11_end 15 = .ok (.iconst 0, 1) := by decide +kernel
theorem dX11_end_16 : decode cX11_end 16 = .ok (.ireturn, 1) := by decide +kernel
theorem dX11_end_4 : decode cX11_end 4 = .ok (.iload_n 1, 1) := by decide +kernel
theorem dX11_end_5 : decode cX11_end 5 = .ok (.aload_n 0, 1) := by decide +kernel
theorem dX11_end_6 : decode cX11_end 6 = .ok (.getfield 30, 3) := by decide +kernel
set_option maxRecDepth 20000 in
theorem ggX11_end_X5_length : GoodIn wsX11_end wsX5_length := goodIn_r _ [6, 7, 24, 25] rfl (by decide +kernel)
set_option maxRecDepth 20000 in
theorem gX11_end_X5_length : GoodIn wsX11_end (wsV RX11 94 RX5 yX5_length wsX5_length) := goodIn_app (goodIn_r _ [2, 3, 4, 5] rfl (by decide +kernel)) ggX11_end_X5_length
theorem dX11_end_9 : decode cX11_end 9 = .ok (.invokevirtual 94, 3) := by decide +kernel
theorem dX11_end_12 : decode cX11_end 12 = .ok (.if_icmp .le 5, 3) := by decide +kernel
theorem dX11_end_17 : decode cX11_end 17 = .ok (.aload_n 0, 1) := by decide +kernel
theorem dX11_end_18 : decode cX11_end 18 = .ok (.getfield 30, 3) := by decide +kernel
theorem dX11_end_21 : decode cX11_end 21 = .ok (.iload_n 1, 1) := by decide +kernel
set_option maxRecDepth 20000 in
theorem ggX11_end_X5_cut : GoodIn wsX11_end wsX5_cut := goodIn_r _ [11, 7, 24, 25] rfl (by decide +kernel)
set_option maxRecDepth 20000 in
theorem gX11_end_X5_cut : GoodIn wsX11_end (wsV RX11 102 RX5 yX5_cut wsX5_cut) := goodIn_app (goodIn_r _ [8, 9, 10, 5] rfl (by decide +kernel)) ggX11_end_X5_cut
theorem dX11_end_22 : decode cX11_end 22 = .ok (.invokevirtual 102, 3) := by decide +kernel
theorem dX11_end_25 : decode cX11_end 25 = .ok (.iconst 1, 1) := by decide +kernel
theorem dX11_end_26 : decode cX11_end 26 = .ok (.ireturn, 1) := by decide +kernel
theorem dX11_span_0 : decode cX11_span 0 = .ok (.aload_n 0, 1) := by decide +kernel
theorem dX11_span_1 : decode cX11_span 1 = .ok (.iconst (-1), 1) := by decide +kernel
theorem dX11_span_2 : decode cX11_span 2 = .ok (.putfield 90, 3) := by decide +kernel
theorem dX11_span_5 : decode cX11_span 5 = .ok (.aload_n 0, 1) := by decide +kernel
theorem dX11_span_6 : decode cX11_span 6 = .ok (.getfield 40, 3) := by decide +kernel
theorem dX11_span_9 : decode cX11_span 9 = .ok (.iload_n 1, 1) := by decide +kernel
set_option maxRecDepth 20000 in
theorem ggX11_span_X2_toldCode : GoodIn wsX11_span wsX2_toldCode := goodIn_r _ [8, 9, 10, 65, 66] rfl (by decide +kernel)
set_option maxRecDepth 20000 in
theorem gX11_span_X2_toldCode : GoodIn wsX11_span (wsV RX11 129 RX2 yX2_toldCode wsX2_toldCode) := goodIn_app (goodIn_r _ [4, 5, 6, 7] rfl (by decide +kernel)) ggX11_span_X2_toldCode
theorem dX11_span_10 : decode cX11_span 10 = .ok (.invokevirtual 129, 3) := by decide +kernel
theorem dX11_span_13 : decode cX11_span 13 = .ok (.astore 6, 2) := by decide +kernel
theorem dX11_span_15 : decode cX11_span 15 = .ok (.aload 6, 2) := by decide +kernel
theorem dX11_span_17 : decode cX11_span 17 = .ok (.ifnull 17, 3) := by decide +kernel
theorem dX11_span_34 : decode cX11_span 34 = .ok (.iconst (-1), 1) := by decide +kernel
theorem dX11_span_35 : decode cX11_span 35 = .ok (.ireturn, 1) := by decide +kernel
theorem dX11_blank_0 : decode cX11_blank 0 = .ok (.aload_n 0, 1) := by decide +kernel
theorem dX11_blank_1 : decode cX11_blank 1 = .ok (.getfield 40, 3) := by decide +kernel
theorem dX11_blank_4 : decode cX11_blank 4 = .ok (.iload_n 1, 1) := by decide +kernel
set_option maxRecDepth 20000 in
theorem ggX11_blank_X2_toldCode : GoodIn wsX11_blank wsX2_toldCode := goodIn_r _ [7, 8, 9, 40, 41] rfl (by decide +kernel)
set_option maxRecDepth 20000 in
theorem gX11_blank_X2_toldCode : GoodIn wsX11_blank (wsV RX11 129 RX2 yX2_toldCode wsX2_toldCode) := goodIn_app (goodIn_r _ [3, 4, 5, 6] rfl (by decide +kernel)) ggX11_blank_X2_toldCode
theorem dX11_blank_5 : decode cX11_blank 5 = .ok (.invokevirtual 129, 3) := by decide +kernel
theorem dX11_blank_8 : decode cX11_blank 8 = .ok (.astore_n 2, 1) := by decide +kernel
theorem dX11_blank_9 : decode cX11_blank 9 = .ok (.aload_n 2, 1) := by decide +kernel
theorem dX11_blank_10 : decode cX11_blank 10 = .ok (.ifnonnull 5, 3) := by decide +kernel
theorem dX11_blank_13 : decode cX11_blank 13 = .ok (.iconst 0, 1) := by decide +kernel
theorem dX11_blank_14 : decode cX11_blank 14 = .ok (.ireturn, 1) := by decide +kernel
theorem dX11_marksOf_0 : decode cX11_marksOf 0 = .ok (.iconst 0, 1) := by decide +kernel
theorem dX11_marksOf_1 : decode cX11_marksOf 1 = .ok (.istore_n 1, 1) := by decide +kernel
theorem dX11_marksOf_2 : decode cX11_marksOf 2 = .ok (.iconst 0, 1) := by decide +kernel
theorem dX11_marksOf_3 : decode cX11_marksOf 3 = .ok (.istore_n 2, 1) := by decide +kernel
theorem dX11_marksOf_4 : decode cX11_marksOf 4 = .ok (.iload_n 2, 1) := by decide +kernel
theorem dX11_marksOf_5 : decode cX11_marksOf 5 = .ok (.aload_n 0, 1) := by decide +kernel
set_option maxRecDepth 20000 in
theorem ggX11_marksOf_X5_length : GoodIn wsX11_marksOf wsX5_length := goodIn_r _ [6, 7, 13, 14] rfl (by decide +kernel)
set_option maxRecDepth 20000 in
theorem gX11_marksOf_X5_length : GoodIn wsX11_marksOf (wsV RX11 94 RX5 yX5_length wsX5_length) := goodIn_app (goodIn_r _ [2, 3, 4, 5] rfl (by decide +kernel)) ggX11_marksOf_X5_length
theorem dX11_marksOf_6 : decode cX11_marksOf 6 = .ok (.invokevirtual 94, 3) := by decide +kernel
theorem dX11_marksOf_9 : decode cX11_marksOf 9 = .ok (.if_icmp .ge 23, 3) := by decide +kernel
theorem dX11_marksOf_32 : decode cX11_marksOf 32 = .ok (.iload_n 1, 1) := by decide +kernel
theorem dX11_marksOf_33 : decode cX11_marksOf 33 = .ok (.ireturn, 1) := by decide +kernel
theorem dX11_marksOf_12 : decode cX11_marksOf 12 = .ok (.aload_n 0, 1) := by decide +kernel
theorem dX11_marksOf_13 : decode cX11_marksOf 13 = .ok (.iload_n 2, 1) := by decide +kernel
set_option maxRecDepth 20000 in
theorem ggX11_marksOf_X5_get : GoodIn wsX11_marksOf wsX5_get := goodIn_r _ [11, 7, 12, 13, 14] rfl (by decide +kernel)
set_option maxRecDepth 20000 in
theorem gX11_marksOf_X5_get : GoodIn wsX11_marksOf (wsV RX11 167 RX5 yX5_get wsX5_get) := goodIn_app (goodIn_r _ [8, 9, 10, 5] rfl (by decide +kernel)) ggX11_marksOf_X5_get
theorem dX11_marksOf_14 : decode cX11_marksOf 14 = .ok (.invokevirtual 167, 3) := by decide +kernel
theorem dX11_marksOf_17 : decode cX11_marksOf 17 = .ok (.ldc_w 261, 3) := by decide +kernel
theorem dX11_marksOf_20 : decode cX11_marksOf 20 = .ok (.if_icmp .ne 6, 3) := by decide +kernel
theorem dX11_marksOf_26 : decode cX11_marksOf 26 = .ok (.iinc 2 1, 3) := by decide +kernel
theorem dX11_marksOf_29 : decode cX11_marksOf 29 = .ok (.goto (-25), 3) := by decide +kernel
theorem dX11_marksOf_23 : decode cX11_marksOf 23 = .ok (.iinc 1 1, 3) := by decide +kernel
theorem dX11_count_0 : decode cX11_count 0 = .ok (.iload_n 1, 1) := by decide +kernel
theorem dX11_count_1 : decode cX11_count 1 = .ok (.tableswitch 113 0 7 #[47, 55, 63, 71, 79, 87, 95, 104], 47) := by decide +kernel
theorem dX11_count_48 : decode cX11_count 48 = .ok (.aload_n 0, 1) := by decide +kernel
theorem dX11_count_49 : decode cX11_count 49 = .ok (.getfield 34, 3) := by decide +kernel
set_option maxRecDepth 20000 in
theorem ggX11_count_X5_length : GoodIn wsX11_count wsX5_length := goodIn_r _ [11, 12, 70, 71] rfl (by decide +kernel)
set_option maxRecDepth 20000 in
theorem gX11_count_X5_length : GoodIn wsX11_count (wsV RX11 94 RX5 yX5_length wsX5_length) := goodIn_app (goodIn_r _ [7, 8, 9, 10] rfl (by decide +kernel)) ggX11_count_X5_length
theorem dX11_count_52 : decode cX11_count 52 = .ok (.invokevirtual 94, 3) := by decide +kernel
theorem dX11_count_55 : decode cX11_count 55 = .ok (.ireturn, 1) := by decide +kernel
theorem dX11_count_56 : decode cX11_count 56 = .ok (.aload_n 0, 1) := by decide +kernel
theorem dX11_count_57 : decode cX11_count 57 = .ok (.getfield 30, 3) := by decide +kernel
theorem dX11_count_60 : decode cX11_count 60 = .ok (.invokevirtual 94, 3) := by decide +kernel
theorem dX11_count_63 : decode cX11_count 63 = .ok (.ireturn, 1) := by decide +kernel
theorem dX11_count_64 : decode cX11_count 64 = .ok (.aload_n 0, 1) := by decide +kernel
theorem dX11_count_65 : decode cX11_count 65 = .ok (.getfield 48, 3) := by decide +kernel
set_option maxRecDepth 20000 in
theorem ggX11_count_X4_length : GoodIn wsX11_count wsX4_length := goodIn_r _ [17, 18, 72, 73, 74, 75] rfl (by decide +kernel)
set_option maxRecDepth 20000 in
theorem gX11_count_X4_length : GoodIn wsX11_count (wsV RX11 150 RX4 yX4_length wsX4_length) := goodIn_app (goodIn_r _ [13, 14, 15, 16] rfl (by decide +kernel)) ggX11_count_X4_length
theorem dX11_count_68 : decode cX11_count 68 = .ok (.invokevirtual 150, 3) := by decide +kernel
theorem dX11_count_71 : decode cX11_count 71 = .ok (.ireturn, 1) := by decide +kernel
theorem dX11_count_72 : decode cX11_count 72 = .ok (.aload_n 0, 1) := by decide +kernel
theorem dX11_count_73 : decode cX11_count 73 = .ok (.getfield 59, 3) := by decide +kernel
set_option maxRecDepth 20000 in
theorem ggX11_count_X0_length : GoodIn wsX11_count wsX0_length := goodIn_r _ [23, 24, 76, 77, 78, 79] rfl (by decide +kernel)
set_option maxRecDepth 20000 in
theorem gX11_count_X0_length : GoodIn wsX11_count (wsV RX11 151 RX0 yX0_length wsX0_length) := goodIn_app (goodIn_r _ [19, 20, 21, 22] rfl (by decide +kernel)) ggX11_count_X0_length
theorem dX11_count_76 : decode cX11_count 76 = .ok (.invokevirtual 151, 3) := by decide +kernel
theorem dX11_count_79 : decode cX11_count 79 = .ok (.ireturn, 1) := by decide +kernel
theorem dX11_count_80 : decode cX11_count 80 = .ok (.aload_n 0, 1) := by decide +kernel
theorem dX11_count_81 : decode cX11_count 81 = .ok (.getfield 34, 3) := by decide +kernel
set_option maxRecDepth 20000 in
theorem ggX11_count_X11_marksOf : GoodIn wsX11_count wsX11_marksOf := goodIn_r _ [28, 29, 7, 8, 9, 10, 11, 12, 30, 31, 32, 33, 34, 70, 71] rfl (by decide +kernel)
set_option maxRecDepth 20000 in
theorem gX11_count_X11_marksOf : GoodIn wsX11_count (va_wsS RX11 152 yX11_marksOf wsX11_marksOf) := goodIn_app (goodIn_r _ [25, 26, 27] rfl (by decide +kernel)) ggX11_count_X11_marksOf
theorem dX11_count_84 : decode cX11_count 84 = .ok (.invokestatic 152, 3) := by decide +kernel
theorem dX11_count_87 : decode cX11_count 87 = .ok (.ireturn, 1) := by decide +kernel
theorem dX11_count_88 : decode cX11_count 88 = .ok (.aload_n 0, 1) := by decide +kernel
theorem dX11_count_89 : decode cX11_count 89 = .ok (.getfield 52, 3) := by decide +kernel
set_option maxRecDepth 20000 in
theorem ggX11_count_X3_length : GoodIn wsX11_count wsX3_length := goodIn_r _ [39, 40, 80, 81, 82] rfl (by decide +kernel)
set_option maxRecDepth 20000 in
theorem gX11_count_X3_length : GoodIn wsX11_count (wsV RX11 155 RX3 yX3_length wsX3_length) := goodIn_app (goodIn_r _ [35, 36, 37, 38] rfl (by decide +kernel)) ggX11_count_X3_length
theorem dX11_count_92 : decode cX11_count 92 = .ok (.invokevirtual 155, 3) := by decide +kernel
theorem dX11_count_95 : decode cX11_count 95 = .ok (.ireturn, 1) := by decide +kernel
theorem dX11_count_96 : decode cX11_count 96 = .ok (.aload_n 0, 1) := by decide +kernel
theorem dX11_count_97 : decode cX11_count 97 = .ok (.getfield 40, 3) := by decide +kernel
theorem dX11_count_100 : decode cX11_count 100 = .ok (.iconst 4, 1) := by decide +kernel
set_option maxRecDepth 20000 in
theorem ggX11_count_X2_lengthOf : GoodIn wsX11_count wsX2_lengthOf := goodIn_r _ [45, 46, 47, 48, 44, 49, 50, 51, 52, 53, 54, 55, 56, 57, 83, 84, 85, 86, 87, 88] rfl (by decide +kernel)
set_option maxRecDepth 20000 in
theorem gX11_count_X2_lengthOf : GoodIn wsX11_count (wsV RX11 156 RX2 yX2_lengthOf wsX2_lengthOf) := goodIn_app (goodIn_r _ [41, 42, 43, 44] rfl (by decide +kernel)) ggX11_count_X2_lengthOf
theorem dX11_count_101 : decode cX11_count 101 = .ok (.invokevirtual 156, 3) := by decide +kernel
theorem dX11_count_104 : decode cX11_count 104 = .ok (.ireturn, 1) := by decide +kernel
theorem dX11_count_105 : decode cX11_count 105 = .ok (.aload_n 0, 1) := by decide +kernel
theorem dX11_count_106 : decode cX11_count 106 = .ok (.getfield 40, 3) := by decide +kernel
theorem dX11_count_109 : decode cX11_count 109 = .ok (.iconst 5, 1) := by decide +kernel
theorem dX11_count_110 : decode cX11_count 110 = .ok (.invokevirtual 156, 3) := by decide +kernel
theorem dX11_count_113 : decode cX11_count 113 = .ok (.ireturn, 1) := by decide +kernel
theorem dX11_count_114 : decode cX11_count 114 = .ok (.iconst (-1), 1) := by decide +kernel
theorem dX11_count_115 : decode cX11_count 115 = .ok (.ireturn, 1) := by decide +kernel
theorem dX11_writes_0 : decode cX11_writes 0 = .ok (.aload_n 0, 1) := by decide +kernel
theorem dX11_writes_1 : decode cX11_writes 1 = .ok (.iconst (-1), 1) := by decide +kernel
theorem dX11_writes_2 : decode cX11_writes 2 = .ok (.putfield 90, 3) := by decide +kernel
theorem dX11_writes_5 : decode cX11_writes 5 = .ok (.iload_n 1, 1) := by decide +kernel
set_option maxRecDepth 20000 in
theorem ggX11_writes_X2_known : GoodIn wsX11_writes wsX2_known := goodIn_r _ [7] rfl (by decide +kernel)
set_option maxRecDepth 20000 in
theorem gX11_writes_X2_known : GoodIn wsX11_writes (va_wsS RX11 117 yX2_known wsX2_known) := goodIn_app (goodIn_r _ [4, 5, 6] rfl (by decide +kernel)) ggX11_writes_X2_known
theorem dX11_writes_6 : decode cX11_writes 6 = .ok (.invokestatic 117, 3) := by decide +kernel
theorem dX11_writes_9 : decode cX11_writes 9 = .ok (.ifCond .ne 5, 3) := by decide +kernel
theorem dX11_writes_14 : decode cX11_writes 14 = .ok (.aload_n 0, 1) := by decide +kernel
theorem dX11_writes_15 : decode cX11_writes 15 = .ok (.getfield 44, 3) := by decide +kernel
theorem dX11_writes_18 : decode cX11_writes 18 = .ok (.iload_n 1, 1) := by decide +kernel
theorem dX11_writes_19 : decode cX11_writes 19 = .ok (.aload_n 0, 1) := by decide +kernel
theorem dX11_writes_20 : decode cX11_writes 20 = .ok (.getfield 34, 3) := by decide +kernel
set_option maxRecDepth 20000 in
theorem ggX11_writes_X7_write : GoodIn wsX11_writes wsX7_write := goodIn_r _ [12, 13, 14, 15, 16, 17, 18, 19, 20, 21, 22, 23, 24, 25, 26, 27, 28, 29, 30, 31, 32, 33, 6, 34, 35, 36, 37, 38, 39, 40, 41, 42, 43, 44, 45, 46, 47, 48, 49, 50, 51, 52, 53, 54, 55, 56, 57, 58, 59, 60, 61, 62, 63, 64, 65, 82, 83, 84, 85, 86, 87, 88, 89, 90, 91, 92] rfl (by decide +kernel)
set_option maxRecDepth 20000 in
theorem gX11_writes_X7_write : GoodIn wsX11_writes (wsV RX11 249 RX7 yX7_write wsX7_write) := goodIn_app (goodIn_r _ [8, 9, 10, 11] rfl (by decide +kernel)) ggX11_writes_X7_write
theorem dX11_writes_23 : decode cX11_writes 23 = .ok (.invokevirtual 249, 3) := by decide +kernel
theorem dX11_writes_26 : decode cX11_writes 26 = .ok (.istore_n 2, 1) := by decide +kernel
theorem dX11_writes_27 : decode cX11_writes 27 = .ok (.aload_n 0, 1) := by decide +kernel
theorem dX11_writes_28 : decode cX11_writes 28 = .ok (.aload_n 0, 1) := by decide +kernel
theorem dX11_writes_29 : decode cX11_writes 29 = .ok (.getfield 44, 3) := by decide +kernel
set_option maxRecDepth 20000 in
theorem ggX11_writes_X7_fault : GoodIn wsX11_writes wsX7_fault := goodIn_r _ [69, 13, 82, 83, 84] rfl (by decide +kernel)
set_option maxRecDepth 20000 in
theorem gX11_writes_X7_fault : GoodIn wsX11_writes (wsV RX11 127 RX7 yX7_fault wsX7_fault) := goodIn_app (goodIn_r _ [66, 67, 68, 11] rfl (by decide +kernel)) ggX11_writes_X7_fault
theorem dX11_writes_32 : decode cX11_writes 32 = .ok (.invokevirtual 127, 3) := by decide +kernel
theorem dX11_writes_35 : decode cX11_writes 35 = .ok (.putfield 90, 3) := by decide +kernel
theorem dX11_writes_38 : decode cX11_writes 38 = .ok (.iload_n 2, 1) := by decide +kernel
theorem dX11_writes_39 : decode cX11_writes 39 = .ok (.ireturn, 1) := by decide +kernel
theorem dX11_writes_12 : decode cX11_writes 12 = .ok (.iconst 0, 1) := by decide +kernel
theorem dX11_writes_13 : decode cX11_writes 13 = .ok (.ireturn, 1) := by decide +kernel
theorem dX11_size_0 : decode cX11_size 0 = .ok (.aload_n 0, 1) := by decide +kernel
theorem dX11_size_1 : decode cX11_size 1 = .ok (.iload_n 1, 1) := by decide +kernel
set_option maxRecDepth 20000 in
theorem ggX11_size_X11_writes : GoodIn wsX11_size wsX11_writes := goodIn_r _ [6, 7, 1, 8, 9, 10, 11, 12, 13, 14, 15, 16, 17, 18, 19, 20, 21, 22, 23, 24, 25, 26, 27, 28, 29, 30, 31, 32, 33, 34, 35, 36, 37, 38, 39, 40, 41, 42, 43, 44, 45, 46, 47, 48, 49, 50, 51, 52, 53, 54, 55, 56, 57, 58, 59, 60, 61, 62, 63, 64, 65, 66, 67, 68, 69, 70, 71, 72, 73, 74, 80, 81, 82, 83, 84, 85, 86, 87, 88, 89, 90, 91, 92, 93, 94, 95, 96, 97, 98, 99, 100, 101, 102] rfl (by decide +kernel)
set_option maxRecDepth 20000 in
theorem gX11_size_X11_writes : GoodIn wsX11_size (wsV RX11 170 RX11 yX11_writes wsX11_writes) := goodIn_app (goodIn_r _ [2, 3, 4, 5] rfl (by decide +kernel)) ggX11_size_X11_writes
theorem dX11_size_2 : decode cX11_size 2 = .ok (.invokevirtual 170, 3) := by decide +kernel
theorem dX11_size_5 : decode cX11_size 5 = .ok (.ifCond .eq 16, 3) := by decide +kernel
theorem dX11_size_21 : decode cX11_size 21 = .ok (.iconst (-1), 1) := by decide +kernel
theorem dX11_size_22 : decode cX11_size 22 = .ok (.ireturn, 1) := by decide +kernel
theorem dX11_size_8 : decode cX11_size 8 = .ok (.aload_n 0, 1) := by decide +kernel
theorem dX11_size_9 : decode cX11_size 9 = .ok (.getfield 44, 3) := by decide +kernel
set_option maxRecDepth 20000 in
theorem ggX11_size_X7_bytes : GoodIn wsX11_size wsX7_bytes := goodIn_r _ [78, 19, 92, 93, 94] rfl (by decide +kernel)
set_option maxRecDepth 20000 in
theorem gX11_size_X7_bytes : GoodIn wsX11_size (wsV RX11 173 RX7 yX7_bytes wsX7_bytes) := goodIn_app (goodIn_r _ [75, 76, 77, 16] rfl (by decide +kernel)) ggX11_size_X7_bytes
theorem dX11_size_12 : decode cX11_size 12 = .ok (.invokevirtual 173, 3) := by decide +kernel
set_option maxRecDepth 20000 in
theorem ggX11_size_X5_length : GoodIn wsX11_size wsX5_length := goodIn_r _ [30, 26, 95, 96] rfl (by decide +kernel)
set_option maxRecDepth 20000 in
theorem gX11_size_X5_length : GoodIn wsX11_size (wsV RX11 94 RX5 yX5_length wsX5_length) := goodIn_app (goodIn_r _ [79, 28, 29, 24] rfl (by decide +kernel)) ggX11_size_X5_length
theorem dX11_size_15 : decode cX11_size 15 = .ok (.invokevirtual 94, 3) := by decide +kernel
theorem dX11_size_18 : decode cX11_size 18 = .ok (.goto 4, 3) := by decide +kernel
theorem dX11_byteOf_0 : decode cX11_byteOf 0 = .ok (.aload_n 0, 1) := by decide +kernel
theorem dX11_byteOf_1 : decode cX11_byteOf 1 = .ok (.iload_n 1, 1) := by decide +kernel
set_option maxRecDepth 20000 in
theorem ggX11_byteOf_X11_writes : GoodIn wsX11_byteOf wsX11_writes := goodIn_r _ [6, 7, 1, 8, 9, 10, 11, 12, 13, 14, 15, 16, 17, 18, 19, 20, 21, 22, 23, 24, 25, 26, 27, 28, 29, 30, 31, 32, 33, 34, 35, 36, 37, 38, 39, 40, 41, 42, 43, 44, 45, 46, 47, 48, 49, 50, 51, 52, 53, 54, 55, 56, 57, 58, 59, 60, 61, 62, 63, 64, 65, 66, 67, 68, 69, 70, 71, 72, 73, 74, 80, 81, 82, 83, 84, 85, 86, 87, 88, 89, 90, 91, 92, 93, 94, 95, 96, 97, 98, 99, 100, 101, 102] rfl (by decide +kernel)
set_option maxRecDepth 20000 in
theorem gX11_byteOf_X11_writes : GoodIn wsX11_byteOf (wsV RX11 170 RX11 yX11_writes wsX11_writes) := goodIn_app (goodIn_r _ [2, 3, 4, 5] rfl (by decide +kernel)) ggX11_byteOf_X11_writes
theorem dX11_byteOf_2 : decode cX11_byteOf 2 = .ok (.invokevirtual 170, 3) := by decide +kernel
theorem dX11_byteOf_5 : decode cX11_byteOf 5 = .ok (.ifCond .eq 17, 3) := by decide +kernel
theorem dX11_byteOf_22 : decode cX11_byteOf 22 = .ok (.iconst (-1), 1) := by decide +kernel
theorem dX11_byteOf_23 : decode cX11_byteOf 23 = .ok (.ireturn, 1) := by decide +kernel
theorem dX11_byteOf_8 : decode cX11_byteOf 8 = .ok (.aload_n 0, 1) := by decide +kernel
theorem dX11_byteOf_9 : decode cX11_byteOf 9 = .ok (.getfield 44, 3) := by decide +kernel
set_option maxRecDepth 20000 in
theorem ggX11_byteOf_X7_bytes : GoodIn wsX11_byteOf wsX7_bytes := goodIn_r _ [78, 19, 92, 93, 94] rfl (by decide +kernel)
set_option maxRecDepth 20000 in
theorem gX11_byteOf_X7_bytes : GoodIn wsX11_byteOf (wsV RX11 173 RX7 yX7_bytes wsX7_bytes) := goodIn_app (goodIn_r _ [75, 76, 77, 16] rfl (by decide +kernel)) ggX11_byteOf_X7_bytes
theorem dX11_byteOf_12 : decode cX11_byteOf 12 = .ok (.invokevirtual 173, 3) := by decide +kernel
theorem dX11_byteOf_15 : decode cX11_byteOf 15 = .ok (.iload_n 2, 1) := by decide +kernel
set_option maxRecDepth 20000 in
theorem ggX11_byteOf_X5_get : GoodIn wsX11_byteOf wsX5_get := goodIn_r _ [34, 26, 35, 95, 96] rfl (by decide +kernel)
set_option maxRecDepth 20000 in
theorem gX11_byteOf_X5_get : GoodIn wsX11_byteOf (wsV RX11 167 RX5 yX5_get wsX5_get) := goodIn_app (goodIn_r _ [79, 32, 33, 24] rfl (by decide +kernel)) ggX11_byteOf_X5_get
theorem dX11_byteOf_16 : decode cX11_byteOf 16 = .ok (.invokevirtual 167, 3) := by decide +kernel
theorem dX11_byteOf_19 : decode cX11_byteOf 19 = .ok (.goto 4, 3) := by decide +kernel
theorem dX11_where_0 : decode cX11_where 0 = .ok (.aload_n 0, 1) := by decide +kernel
theorem dX11_where_1 : decode cX11_where 1 = .ok (.getfield 90, 3) := by decide +kernel
theorem dX11_where_4 : decode cX11_where 4 = .ok (.ireturn, 1) := by decide +kernel
theorem dX11_safe_0 : decode cX11_safe 0 = .ok (.aload_n 0, 1) := by decide +kernel
theorem dX11_safe_1 : decode cX11_safe 1 = .ok (.iconst (-1), 1) := by decide +kernel
theorem dX11_safe_2 : decode cX11_safe 2 = .ok (.putfield 90, 3) := by decide +kernel
theorem dX11_safe_5 : decode cX11_safe 5 = .ok (.iload_n 1, 1) := by decide +kernel
set_option maxRecDepth 20000 in
theorem ggX11_safe_X2_known : GoodIn wsX11_safe wsX2_known := goodIn_r _ [6] rfl (by decide +kernel)
set_option maxRecDepth 20000 in
theorem gX11_safe_X2_known : GoodIn wsX11_safe (va_wsS RX11 117 yX2_known wsX2_known) := goodIn_app (goodIn_r _ [3, 4, 5] rfl (by decide +kernel)) ggX11_safe_X2_known
theorem dX11_safe_6 : decode cX11_safe 6 = .ok (.invokestatic 117, 3) := by decide +kernel
theorem dX11_safe_9 : decode cX11_safe 9 = .ok (.ifCond .eq 10, 3) := by decide +kernel
theorem dX11_safe_19 : decode cX11_safe 19 = .ok (.iconst (-1), 1) := by decide +kernel
theorem dX11_safe_20 : decode cX11_safe 20 = .ok (.ireturn, 1) := by decide +kernel
theorem dX11_safe_12 : decode cX11_safe 12 = .ok (.iload_n 2, 1) := by decide +kernel
theorem dX11_safe_13 : decode cX11_safe 13 = .ok (.invokestatic 117, 3) := by decide +kernel
theorem dX11_safe_16 : decode cX11_safe 16 = .ok (.ifCond .ne 5, 3) := by decide +kernel
theorem dX11_safe_21 : decode cX11_safe 21 = .ok (.aload_n 0, 1) := by decide +kernel
theorem dX11_safe_22 : decode cX11_safe 22 = .ok (.getfield 40, 3) := by decide +kernel
theorem dX11_safe_25 : decode cX11_safe 25 = .ok (.iload_n 1, 1) := by decide +kernel
theorem dX11_safe_26 : decode cX11_safe 26 = .ok (.iload_n 2, 1) := by decide +kernel
set_option maxRecDepth 20000 in
theorem ggX11_safe_X2_neverLost : GoodIn wsX11_safe wsX2_neverLost := goodIn_r _ [10, 11, 12, 13, 5, 14, 15, 16, 17, 18, 19, 20, 21, 22, 23, 24, 25, 26, 27, 28, 29, 30, 43, 44, 45, 46, 47, 48] rfl (by decide +kernel)
set_option maxRecDepth 20000 in
theorem gX11_safe_X2_neverLost : GoodIn wsX11_safe (wsV RX11 185 RX2 yX2_neverLost wsX2_neverLost) := goodIn_app (goodIn_r _ [7, 8, 9, 5] rfl (by decide +kernel)) ggX11_safe_X2_neverLost
theorem dX11_safe_27 : decode cX11_safe 27 = .ok (.invokevirtual 185, 3) := by decide +kernel
theorem dX11_safe_30 : decode cX11_safe 30 = .ok (.ifCond .eq 7, 3) := by decide +kernel
theorem dX11_safe_37 : decode cX11_safe 37 = .ok (.iconst 0, 1) := by decide +kernel
theorem dX11_safe_38 : decode cX11_safe 38 = .ok (.ireturn, 1) := by decide +kernel
theorem dX11_safe_33 : decode cX11_safe 33 = .ok (.iconst 1, 1) := by decide +kernel
theorem dX11_safe_34 : decode cX11_safe 34 = .ok (.goto 4, 3) := by decide +kernel
theorem dX11_rows_0 : decode cX11_rows 0 = .ok (.aload_n 0, 1) := by decide +kernel
theorem dX11_rows_1 : decode cX11_rows 1 = .ok (.iconst (-1), 1) := by decide +kernel
theorem dX11_rows_2 : decode cX11_rows 2 = .ok (.putfield 90, 3) := by decide +kernel
theorem dX11_rows_5 : decode cX11_rows 5 = .ok (.iload_n 1, 1) := by decide +kernel
theorem dX11_rows_6 : decode cX11_rows 6 = .ok (.iconst 1, 1) := by decide +kernel
theorem dX11_rows_7 : decode cX11_rows 7 = .ok (.if_icmp .lt 8, 3) := by decide +kernel
theorem dX11_rows_15 : decode cX11_rows 15 = .ok (.iconst (-1), 1) := by decide +kernel
theorem dX11_rows_16 : decode cX11_rows 16 = .ok (.ireturn, 1) := by decide +kernel
theorem dX11_rows_10 : decode cX11_rows 10 = .ok (.iload_n 1, 1) := by decide +kernel
theorem dX11_rows_11 : decode cX11_rows 11 = .ok (.iconst 3, 1) := by decide +kernel
theorem dX11_rows_12 : decode cX11_rows 12 = .ok (.if_icmp .le 5, 3) := by decide +kernel
theorem dX11_rows_17 : decode cX11_rows 17 = .ok (.aload_n 0, 1) := by decide +kernel
theorem dX11_rows_18 : decode cX11_rows 18 = .ok (.getfield 68, 3) := by decide +kernel
theorem dX11_rows_21 : decode cX11_rows 21 = .ok (.iload_n 1, 1) := by decide +kernel
theorem dX11_rows_22 : decode cX11_rows 22 = .ok (.aload_n 0, 1) := by decide +kernel
theorem dX11_rows_23 : decode cX11_rows 23 = .ok (.getfield 34, 3) := by decide +kernel
set_option maxRecDepth 20000 in
theorem ggX11_rows_X9_find : GoodIn wsX11_rows wsX9_find := goodIn_r _ [8, 9, 10, 11, 12, 13, 14, 15, 16, 17, 18, 19, 20, 21, 22, 23, 24, 25, 26, 27, 28, 29, 30, 31, 32, 33, 34, 35, 36, 37, 38, 39, 40, 41, 42, 43, 44, 45, 46, 47, 48, 49, 50, 51, 52, 53, 54, 55, 56, 57, 58, 59, 60, 61, 62, 63, 64, 65, 66, 67, 68, 69, 70, 71, 72, 73, 74, 75, 76, 77, 78, 79, 80, 81, 82, 83, 84, 85, 86, 87, 88, 89, 90, 91, 92, 93, 94, 95, 96, 97, 98, 99, 100, 101, 102, 103, 104, 105, 106, 107, 108, 109, 110, 111, 112, 113, 114, 115, 116, 117, 118, 119, 120, 121, 122, 123, 124, 125, 126, 127, 128, 129, 130, 131, 132, 133, 134, 135, 136, 137, 138, 139, 140, 7, 141, 142, 143, 144, 145, 146, 147, 148, 149, 150, 151, 152, 153, 154, 155, 156, 157, 158, 159, 160, 161, 162, 163, 164, 165, 166, 167, 168, 169, 170, 171, 172, 173, 174, 175, 176, 177, 198, 199, 200, 201, 202, 203, 204, 205, 206, 207, 208, 209, 210, 211, 212, 213, 214, 215, 216, 217, 218, 219, 220, 221, 222, 223, 224, 225, 226, 227] rfl (by decide +kernel)
set_option maxRecDepth 20000 in
theorem gX11_rows_X9_find : GoodIn wsX11_rows (wsV RX11 194 RX9 yX9_find wsX9_find) := goodIn_app (goodIn_r _ [4, 5, 6, 7] rfl (by decide +kernel)) ggX11_rows_X9_find
theorem dX11_rows_26 : decode cX11_rows 26 = .ok (.invokevirtual 194, 3) := by decide +kernel
theorem dX11_rows_29 : decode cX11_rows 29 = .ok (.aload_n 0, 1) := by decide +kernel
theorem dX11_rows_30 : decode cX11_rows 30 = .ok (.getfield 68, 3) := by decide +kernel
set_option maxRecDepth 20000 in
theorem ggX11_rows_X9_keepFound : GoodIn wsX11_rows wsX9_keepFound := goodIn_r _ [181, 182, 9, 183, 184, 143, 185, 177, 198, 199, 200, 201, 202, 203, 204, 205, 206, 207, 208, 209] rfl (by decide +kernel)
set_option maxRecDepth 20000 in
theorem gX11_rows_X9_keepFound : GoodIn wsX11_rows (wsV RX11 198 RX9 yX9_keepFound wsX9_keepFound) := goodIn_app (goodIn_r _ [178, 179, 180, 7] rfl (by decide +kernel)) ggX11_rows_X9_keepFound
theorem dX11_rows_33 : decode cX11_rows 33 = .ok (.invokevirtual 198, 3) := by decide +kernel
theorem dX11_rows_36 : decode cX11_rows 36 = .ok (.ireturn, 1) := by decide +kernel
theorem dX11_row_0 : decode cX11_row 0 = .ok (.aload_n 0, 1) := by decide +kernel
theorem dX11_row_1 : decode cX11_row 1 = .ok (.getfield 68, 3) := by decide +kernel
theorem dX11_row_4 : decode cX11_row 4 = .ok (.iload_n 1, 1) := by decide +kernel
theorem dX11_row_5 : decode cX11_row 5 = .ok (.iload_n 2, 1) := by decide +kernel
set_option maxRecDepth 20000 in
theorem ggX11_row_X9_told : GoodIn wsX11_row wsX9_told := goodIn_r _ [6, 7, 8, 9, 10, 23, 24, 25, 26, 27, 28, 29, 30, 31, 32, 33, 34] rfl (by decide +kernel)
set_option maxRecDepth 20000 in
theorem gX11_row_X9_told : GoodIn wsX11_row (wsV RX11 201 RX9 yX9_told wsX9_told) := goodIn_app (goodIn_r _ [2, 3, 4, 5] rfl (by decide +kernel)) ggX11_row_X9_told
theorem dX11_row_6 : decode cX11_row 6 = .ok (.invokevirtual 201, 3) := by decide +kernel
theorem dX11_row_9 : decode cX11_row 9 = .ok (.ireturn, 1) := by decide +kernel
theorem dX11_worth_0 : decode cX11_worth 0 = .ok (.aload_n 0, 1) := by decide +kernel
theorem dX11_worth_1 : decode cX11_worth 1 = .ok (.getfield 52, 3) := by decide +kernel
theorem dX11_worth_4 : decode cX11_worth 4 = .ok (.aload_n 0, 1) := by decide +kernel
theorem dX11_worth_5 : decode cX11_worth 5 = .ok (.getfield 34, 3) := by decide +kernel
set_option maxRecDepth 20000 in
theorem ggX11_worth_X3_ofText : GoodIn wsX11_worth wsX3_ofText := goodIn_r _ [7, 8, 9, 10, 11, 12, 13, 14, 15, 16, 17, 18, 19, 20, 21, 6, 22, 23, 24, 25, 26, 27, 28, 29, 30, 31, 32, 33, 34, 35, 36, 37, 38, 39, 52, 53, 54, 55, 56] rfl (by decide +kernel)
set_option maxRecDepth 20000 in
theorem gX11_worth_X3_ofText : GoodIn wsX11_worth (wsV RX11 211 RX3 yX3_ofText wsX3_ofText) := goodIn_app (goodIn_r _ [3, 4, 5, 6] rfl (by decide +kernel)) ggX11_worth_X3_ofText
theorem dX11_worth_8 : decode cX11_worth 8 = .ok (.invokevirtual 211, 3) := by decide +kernel
theorem dX11_worth_11 : decode cX11_worth 11 = .ok (.ireturn, 1) := by decide +kernel
theorem dX11_choice_0 : decode cX11_choice 0 = .ok (.aload_n 0, 1) := by decide +kernel
theorem dX11_choice_1 : decode cX11_choice 1 = .ok (.getfield 86, 3) := by decide +kernel
theorem dX11_choice_4 : decode cX11_choice 4 = .ok (.iload_n 1, 1) := by decide +kernel
theorem dX11_choice_5 : decode cX11_choice 5 = .ok (.iload_n 2, 1) := by decide +kernel
set_option maxRecDepth 20000 in
theorem ggX11_choice_X1_told : GoodIn wsX11_choice wsX1_told := goodIn_r _ [6, 7, 8, 9, 10, 11, 24, 25, 26, 27, 28, 29, 30, 31, 32, 33, 34, 35, 36, 37, 38, 39, 40, 41, 42, 43] rfl (by decide +kernel)
set_option maxRecDepth 20000 in
theorem gX11_choice_X1_told : GoodIn wsX11_choice (wsV RX11 242 RX1 yX1_told wsX1_told) := goodIn_app (goodIn_r _ [2, 3, 4, 5] rfl (by decide +kernel)) ggX11_choice_X1_told
theorem dX11_choice_6 : decode cX11_choice 6 = .ok (.invokevirtual 242, 3) := by decide +kernel
theorem dX11_choice_9 : decode cX11_choice 9 = .ok (.ireturn, 1) := by decide +kernel

end
