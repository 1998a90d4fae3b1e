def f_la (cd v : Int32) : Int32 := if cd = 0 then (if 128 ≤ v then (-1) else v) else if cd = 1 then v else if cd = 2 then (if 128 ≤ v then (-1) else v) else if cd = 3 then (if 128 ≤ v then (-1) else if v = 38 then (-1) else v) else (-1)
def f_wr (cd v : Int32) : Int32 := if cd = 2 then (if v < 192 then 1 else if v ≤ 193 then 0 else if 240 ≤ v then 0 else 1) else if cd = 3 then (if 128 ≤ v then 0 else 1) else if f_la cd v = (-1) then 0 else 1
def f_ok (a b v : Int32) : Bool := decide (f_wr a v = 0) || !decide (f_la b v = (-1))
def f_never (a b : Int32) : Int32 := if a = b then 1 else if (List.range 256).all (fun j => f_ok a b (nI j)) = true then 1 else 0
def f_safe (a b : Int32) : Int32 := if f_known a = 0 then (-1) else if f_known b = 0 then (-1) else if f_never a b = 0 then 0 else 1
def is_code (c : Int32) : Prop := c = 0 ∨ c = 1 ∨ c = 2 ∨ c = 3 ∨ c = 4 ∨ c = 5
theorem p_cases {c : Int32} (h1 : ¬ c < 0) (h2 : c ≤ 5) : is_code c := by
  have a1 : ¬ c.toInt < 0 := fun z => h1 (Int32.lt_iff_toInt_lt.mpr z)
  have a2 : c.toInt ≤ 5 := Int32.le_iff_toInt_le.mp h2
  have a3 : c.toInt = 0 ∨ c.toInt = 1 ∨ c.toInt = 2 ∨ c.toInt = 3 ∨ c.toInt = 4 ∨ c.toInt = 5 := by omega
  rcases a3 with z | z | z | z | z | z
  · exact Or.inl (Int32.toInt_inj.mp z)
  · exact Or.inr (Or.inl (Int32.toInt_inj.mp z))
  · exact Or.inr (Or.inr (Or.inl (Int32.toInt_inj.mp z)))
  · exact Or.inr (Or.inr (Or.inr (Or.inl (Int32.toInt_inj.mp z))))
  · exact Or.inr (Or.inr (Or.inr (Or.inr (Or.inl (Int32.toInt_inj.mp z)))))
  · exact Or.inr (Or.inr (Or.inr (Or.inr (Or.inr (Int32.toInt_inj.mp z)))))
theorem p_known {c : Int32} (h : ¬ f_known c = 0) : is_code c := by
  by_cases h1 : c < 0
  · exact absurd (by rw [f_known, if_pos h1]) h
  · by_cases h2 : 5 < c
    · exact absurd (by rw [f_known, if_neg h1, if_pos h2]) h
    · exact p_cases h1 (Int32.not_lt.mp h2)
theorem p_inof {v b : Int32} (n : Nat) (h1 : ¬ v < 0) (h2 : ¬ b ≤ v) (hb : b.toInt = n) : vp_in v n := by
  rw [vp_in_iff]
  have a1 : ¬ v.toInt < 0 := fun z => h1 (Int32.lt_iff_toInt_lt.mpr z)
  have a2 : ¬ b.toInt ≤ v.toInt := fun z => h2 (Int32.le_iff_toInt_le.mpr z)
  omega
theorem p_all {q : Nat → Bool} (h : ∀ j, j < 256 → q j = true) : (List.range 256).all q = true := List.all_eq_true.mpr (fun j hj => h j (List.mem_range.mp hj))
theorem p_notall {q : Nat → Bool} {i : Nat} (hi : i < 256) (h : q i = false) : ¬ (List.range 256).all q = true := fun z => by
  rw [List.all_eq_true.mp z i (List.mem_range.mpr hi)] at h
  cases h

set_option maxHeartbeats 4000000 in
set_option maxRecDepth 100000 in
theorem m_X10_letterFor (l : Launch) (dC : Nat → ClassId) (dI : Nat → Nat → Nat) (cI cS : ClassId) (sz : Nat) (o4 : Nat) (a41 : Nat) (a42 : Nat) (a43 : Nat) (v : Int32)  : Met l yX10_letterFor wsX10_letterFor ({ frames := 0, cells := 0, slots := 0, locals := 0 } : Room) (va_Pc [.ref o4, .int v] (fun U => U.heap.size = sz ∧ va_P (dC, dI) vwCl [(o4, .inr (10, [.ref a41, .ref a42, .ref a43, .int 0])), (a41, .inl (cI, 256, .inl (fun _ => (-1))))] U.heap ∧ va_K (dC, dI) vwCl [(cI, .int), (cS, .short)] U ∧ va_D (fun _ => True) [(o4, .inr (10, [.ref a41, .ref a42, .ref a43, .int 0])), (a41, .inl (cI, 256, .inl (fun _ => (-1))))])) (va_Qi (fun (r : Int32) (_ : Unit) => r = (-1)) (fun _ t => va_P (dC, dI) vwCl [(o4, .inr (10, [.ref a41, .ref a42, .ref a43, .int 0])), (a41, .inl (cI, 256, .inl (fun _ => (-1))))] t.heap ∧ va_D (va_A [(o4, .inr (10, [.ref a41, .ref a42, .ref a43, .int 0])), (a41, .inl (cI, 256, .inl (fun _ => (-1))))] sz) [(o4, .inr (10, [.ref a41, .ref a42, .ref a43, .int 0])), (a41, .inl (cI, 256, .inl (fun _ => (-1))))]) (va_A [(o4, .inr (10, [.ref a41, .ref a42, .ref a43, .int 0])), (a41, .inl (cI, 256, .inl (fun _ => (-1))))] sz)) 0 0 (va_A [(o4, .inr (10, [.ref a41, .ref a42, .ref a43, .int 0])), (a41, .inl (cI, 256, .inl (fun _ => (-1))))] sz) := by
  refine Met.ofW (cc := cX10_letterFor) (maxL := 2) (ret := (some .int)) (by decide) rfl ?_
  intro p e s m args below meth c s₁ B hml hv
  obtain ⟨rfl, hsz, hP, hK, hD0⟩ := hv
  have hx := B.exec
  have hb := B.bytes
  have hr := B.returns
  have hts := atoms_spec (ws := wsX10_letterFor) B.pre
  have hown : s.vm.findClass RX10 = some m.cls := findClass_of_methodNamed B.named
  have hlocks := B.notSynchronized
  have in_X10 : ∀ w ∈ wsX100, w ∈ wsX10_letterFor := fun _ h => List.mem_cons_of_mem _ (List.mem_append_right _ (h))
  subst hsz
  have hD := hD0.self (sz := s.heap.size)
  generalize hAe : va_A [(o4, .inr (10, [.ref a41, .ref a42, .ref a43, .int 0])), (a41, .inl (cI, 256, .inl (fun _ => (-1))))] s.heap.size = A at hD ⊢
  have hA : ∀ q : Nat, s.heap.size ≤ q → A q := fun q h => by rw [← hAe]; exact Or.inr h
  have hS : va_S A s.heap s.heap [] := va_S.rf
  have hP : va_P (dC, dI) vwCl [(o4, .inr (10, [.ref a41, .ref a42, .ref a43, .int 0])), (a41, .inl (cI, 256, .inl (fun _ => (-1))))] s.heap := hP
  have hl := lv_entry ([.ref o4, .int v]) (n := 2) (Nat.le_of_ble_eq_true rfl)
  rw [lg_entry_eq]
  generalize (lg_sl ([.ref o4, .int v]) ++ List.replicate (2 - (lg_sl ([.ref o4, .int v])).length) Slot.unset).toArray = ls at hl ⊢
  have hl : lv_has ls 2 [(0, .ref o4), (1, .int v)] := hl
  refine lv_iload_n hx hb dX10_letterFor_0 rfl (lv_at hl 1 rfl) ?_
  refine lv_if_lt (tgt := 20) hx hb dX10_letterFor_1 (by decide) (fun c_1 => ?_) (fun c_1 => ?_)
  · refine lv_iconst (v := (-1)) hx hb dX10_letterFor_20 (by decide) ?_
    have hP9 := hP.sub (ws' := [(o4, .inr (10, [.ref a41, .ref a42, .ref a43, .int 0])), (a41, .inl (cI, 256, .inl (fun _ => (-1))))]) [0, 1] rfl
    have hD9 := hD.sub (ws' := [(o4, .inr (10, [.ref a41, .ref a42, .ref a43, .int 0])), (a41, .inl (cI, 256, .inl (fun _ => (-1))))]) [0, 1] (by decide) rfl
    exact W.iret (v := (-1)) hx hb hr (fun t ht hW => ⟨⟨(-1), (), rfl, rfl, by rw [ht]; exact hP9, hD9⟩, hS.F ht⟩) (hS.2.2) dX10_letterFor_21
  · refine lv_iload_n hx hb dX10_letterFor_4 rfl (lv_at hl 1 rfl) ?_
    refine lv_sipush (v := 256) hx hb dX10_letterFor_5 (by decide) ?_
    refine lv_icmp_ge (tgt := 20) hx hb dX10_letterFor_8 (by decide) (fun c_2 => ?_) (fun c_2 => ?_)
    · refine lv_iconst (v := (-1)) hx hb dX10_letterFor_20 (by decide) ?_
      have hP9 := hP.sub (ws' := [(o4, .inr (10, [.ref a41, .ref a42, .ref a43, .int 0])), (a41, .inl (cI, 256, .inl (fun _ => (-1))))]) [0, 1] rfl
      have hD9 := hD.sub (ws' := [(o4, .inr (10, [.ref a41, .ref a42, .ref a43, .int 0])), (a41, .inl (cI, 256, .inl (fun _ => (-1))))]) [0, 1] (by decide) rfl
      exact W.iret (v := (-1)) hx hb hr (fun t ht hW => ⟨⟨(-1), (), rfl, rfl, by rw [ht]; exact hP9, hD9⟩, hS.F ht⟩) (hS.2.2) dX10_letterFor_21
    · refine lv_aload_n hx hb dX10_letterFor_11 rfl (lv_at hl 0 rfl) ?_
      refine va_get (D := (dC, dI)) (ci := 10) (v := .ref a41) (C := RX10) (T := TX10) (N := 4) hx hb hts in_X10 hown hK hP 0 rfl rfl 0 (by decide) (hts (.fieldLink RX10 9 "TextMender$ToldCode" "letterOf" "[I") (List.mem_of_getElem? (i := 1) rfl)) (fun _ h9 => h9) rfl dX10_letterFor_12 ?_
      refine lv_iload_n hx hb dX10_letterFor_15 rfl (lv_at hl 1 rfl) ?_
      refine va_iald hx hb hK hP 1 0 rfl rfl (p_inof 256 c_1 c_2 rfl) dX10_letterFor_16 ?_
      refine k_i (y := (-1)) rfl ?_
      refine lv_goto (tgt := 21) hx hb dX10_letterFor_17 (by decide) ?_
      have hP9 := hP.sub (ws' := [(o4, .inr (10, [.ref a41, .ref a42, .ref a43, .int 0])), (a41, .inl (cI, 256, .inl (fun _ => (-1))))]) [0, 1] rfl
      have hD9 := hD.sub (ws' := [(o4, .inr (10, [.ref a41, .ref a42, .ref a43, .int 0])), (a41, .inl (cI, 256, .inl (fun _ => (-1))))]) [0, 1] (by decide) rfl
      exact W.iret (v := (-1)) hx hb hr (fun t ht hW => ⟨⟨(-1), (), rfl, rfl, by rw [ht]; exact hP9, hD9⟩, hS.F ht⟩) (hS.2.2) dX10_letterFor_21

set_option maxHeartbeats 4000000 in
set_option maxRecDepth 100000 in
theorem m_X2_letterAlone_0 (l : Launch) (dC : Nat → ClassId) (dI : Nat → Nat → Nat) (cI cS : ClassId) (sz : Nat) (oC : Nat) (o4 : Nat) (o5 : Nat) (a41 : Nat) (a42 : Nat) (a43 : Nat) (a51 : Nat) (a52 : Nat) (a53 : Nat) (v : Int32)  : Met l yX2_letterAlone wsX2_letterAlone ({ frames := 1, cells := 0, slots := 0, locals := 21 } : Room) (va_Pc [.ref oC, .int 0, .int v] (fun U => U.heap.size = sz ∧ va_P (dC, dI) vwCl [(oC, .inr (2, [.ref o4, .ref o5])), (o4, .inr (10, [.ref a41, .ref a42, .ref a43, .int 0])), (a41, .inl (cI, 256, .inl (fun _ => (-1)))), (o5, .inr (10, [.ref a51, .ref a52, .ref a53, .int 0])), (a51, .inl (cI, 256, .inl (fun _ => (-1))))] U.heap ∧ va_K (dC, dI) vwCl [(cI, .int), (cS, .short)] U ∧ va_D (fun _ => True) [(oC, .inr (2, [.ref o4, .ref o5])), (o4, .inr (10, [.ref a41, .ref a42, .ref a43, .int 0])), (a41, .inl (cI, 256, .inl (fun _ => (-1)))), (o5, .inr (10, [.ref a51, .ref a52, .ref a53, .int 0])), (a51, .inl (cI, 256, .inl (fun _ => (-1))))])) (va_Qi (fun (r : Int32) (_ : Unit) => r = f_la 0 v) (fun _ t => va_P (dC, dI) vwCl [(oC, .inr (2, [.ref o4, .ref o5])), (o4, .inr (10, [.ref a41, .ref a42, .ref a43, .int 0])), (a41, .inl (cI, 256, .inl (fun _ => (-1)))), (o5, .inr (10, [.ref a51, .ref a52, .ref a53, .int 0])), (a51, .inl (cI, 256, .inl (fun _ => (-1))))] t.heap ∧ va_D (va_A [(oC, .inr (2, [.ref o4, .ref o5])), (o4, .inr (10, [.ref a41, .ref a42, .ref a43, .int 0])), (a41, .inl (cI, 256, .inl (fun _ => (-1)))), (o5, .inr (10, [.ref a51, .ref a52, .ref a53, .int 0])), (a51, .inl (cI, 256, .inl (fun _ => (-1))))] sz) [(oC, .inr (2, [.ref o4, .ref o5])), (o4, .inr (10, [.ref a41, .ref a42, .ref a43, .int 0])), (a41, .inl (cI, 256, .inl (fun _ => (-1)))), (o5, .inr (10, [.ref a51, .ref a52, .ref a53, .int 0])), (a51, .inl (cI, 256, .inl (fun _ => (-1))))]) (va_A [(oC, .inr (2, [.ref o4, .ref o5])), (o4, .inr (10, [.ref a41, .ref a42, .ref a43, .int 0])), (a41, .inl (cI, 256, .inl (fun _ => (-1)))), (o5, .inr (10, [.ref a51, .ref a52, .ref a53, .int 0])), (a51, .inl (cI, 256, .inl (fun _ => (-1))))] sz)) 0 0 (va_A [(oC, .inr (2, [.ref o4, .ref o5])), (o4, .inr (10, [.ref a41, .ref a42, .ref a43, .int 0])), (a41, .inl (cI, 256, .inl (fun _ => (-1)))), (o5, .inr (10, [.ref a51, .ref a52, .ref a53, .int 0])), (a51, .inl (cI, 256, .inl (fun _ => (-1))))] sz) := by
  refine Met.ofW (cc := cX2_letterAlone) (maxL := 4) (ret := (some .int)) (by decide) rfl ?_
  intro p e s m args below meth c s₁ B hml hv
  obtain ⟨rfl, hsz, hP, hK, hD0⟩ := hv
  have hx := B.exec
  have hb := B.bytes
  have hr := B.returns
  have hts := atoms_spec (ws := wsX2_letterAlone) B.pre
  have hown : s.vm.findClass RX2 = some m.cls := findClass_of_methodNamed B.named
  have hlocks := B.notSynchronized
  subst hsz
  have hD := hD0.self (sz := s.heap.size)
  generalize hAe : va_A [(oC, .inr (2, [.ref o4, .ref o5])), (o4, .inr (10, [.ref a41, .ref a42, .ref a43, .int 0])), (a41, .inl (cI, 256, .inl (fun _ => (-1)))), (o5, .inr (10, [.ref a51, .ref a52, .ref a53, .int 0])), (a51, .inl (cI, 256, .inl (fun _ => (-1))))] s.heap.size = A at hD ⊢
  have hA : ∀ q : Nat, s.heap.size ≤ q → A q := fun q h => by rw [← hAe]; exact Or.inr h
  have hS : va_S A s.heap s.heap [] := va_S.rf
  have hP : va_P (dC, dI) vwCl [(oC, .inr (2, [.ref o4, .ref o5])), (o4, .inr (10, [.ref a41, .ref a42, .ref a43, .int 0])), (a41, .inl (cI, 256, .inl (fun _ => (-1)))), (o5, .inr (10, [.ref a51, .ref a52, .ref a53, .int 0])), (a51, .inl (cI, 256, .inl (fun _ => (-1))))] s.heap := hP
  have hl := lv_entry ([.ref oC, .int 0, .int v]) (n := 4) (Nat.le_of_ble_eq_true rfl)
  rw [lg_entry_eq]
  generalize (lg_sl ([.ref oC, .int 0, .int v]) ++ List.replicate (4 - (lg_sl ([.ref oC, .int 0, .int v])).length) Slot.unset).toArray = ls at hl ⊢
  have hl : lv_has ls 4 [(0, .ref oC), (1, .int 0), (2, .int v)] := hl
  refine lv_iload_n hx hb dX2_letterAlone_0 rfl (lv_at hl 1 rfl) ?_
  refine lv_tableIn (tgt := 32) hx hb dX2_letterAlone_1 (by decide) (by decide) (by rfl) (by decide) ?_
  refine lv_iload_n hx hb dX2_letterAlone_32 rfl (lv_at hl 2 rfl) ?_
  refine lv_sipush (v := 128) hx hb dX2_letterAlone_33 (by decide) ?_
  refine lv_icmp_ge (tgt := 43) hx hb dX2_letterAlone_36 (by decide) (fun c_1 => ?_) (fun c_1 => ?_)
  · refine lv_iconst (v := (-1)) hx hb dX2_letterAlone_43 (by decide) ?_
    have hP9 := hP.sub (ws' := [(oC, .inr (2, [.ref o4, .ref o5])), (o4, .inr (10, [.ref a41, .ref a42, .ref a43, .int 0])), (a41, .inl (cI, 256, .inl (fun _ => (-1)))), (o5, .inr (10, [.ref a51, .ref a52, .ref a53, .int 0])), (a51, .inl (cI, 256, .inl (fun _ => (-1))))]) [0, 1, 2, 3, 4] rfl
    have hD9 := hD.sub (ws' := [(oC, .inr (2, [.ref o4, .ref o5])), (o4, .inr (10, [.ref a41, .ref a42, .ref a43, .int 0])), (a41, .inl (cI, 256, .inl (fun _ => (-1)))), (o5, .inr (10, [.ref a51, .ref a52, .ref a53, .int 0])), (a51, .inl (cI, 256, .inl (fun _ => (-1))))]) [0, 1, 2, 3, 4] (by decide) rfl
    exact W.iret (v := (-1)) hx hb hr (fun t ht hW => ⟨⟨(-1), (), rfl, by first | rfl | decide | simp [f_la, c_1], by rw [ht]; exact hP9, hD9⟩, hS.F ht⟩) (hS.2.2) dX2_letterAlone_44
  · refine lv_iload_n hx hb dX2_letterAlone_39 rfl (lv_at hl 2 rfl) ?_
    refine lv_goto (tgt := 44) hx hb dX2_letterAlone_40 (by decide) ?_
    have hP9 := hP.sub (ws' := [(oC, .inr (2, [.ref o4, .ref o5])), (o4, .inr (10, [.ref a41, .ref a42, .ref a43, .int 0])), (a41, .inl (cI, 256, .inl (fun _ => (-1)))), (o5, .inr (10, [.ref a51, .ref a52, .ref a53, .int 0])), (a51, .inl (cI, 256, .inl (fun _ => (-1))))]) [0, 1, 2, 3, 4] rfl
    have hD9 := hD.sub (ws' := [(oC, .inr (2, [.ref o4, .ref o5])), (o4, .inr (10, [.ref a41, .ref a42, .ref a43, .int 0])), (a41, .inl (cI, 256, .inl (fun _ => (-1)))), (o5, .inr (10, [.ref a51, .ref a52, .ref a53, .int 0])), (a51, .inl (cI, 256, .inl (fun _ => (-1))))]) [0, 1, 2, 3, 4] (by decide) rfl
    exact W.iret (v := v) hx hb hr (fun t ht hW => ⟨⟨v, (), rfl, by first | rfl | decide | simp [f_la, c_1], by rw [ht]; exact hP9, hD9⟩, hS.F ht⟩) (hS.2.2) dX2_letterAlone_44

set_option maxHeartbeats 4000000 in
set_option maxRecDepth 100000 in
theorem m_X2_letterAlone_1 (l : Launch) (dC : Nat → ClassId) (dI : Nat → Nat → Nat) (cI cS : ClassId) (sz : Nat) (oC : Nat) (o4 : Nat) (o5 : Nat) (a41 : Nat) (a42 : Nat) (a43 : Nat) (a51 : Nat) (a52 : Nat) (a53 : Nat) (v : Int32)  : Met l yX2_letterAlone wsX2_letterAlone ({ frames := 1, cells := 0, slots := 0, locals := 21 } : Room) (va_Pc [.ref oC, .int 1, .int v] (fun U => U.heap.size = sz ∧ va_P (dC, dI) vwCl [(oC, .inr (2, [.ref o4, .ref o5])), (o4, .inr (10, [.ref a41, .ref a42, .ref a43, .int 0])), (a41, .inl (cI, 256, .inl (fun _ => (-1)))), (o5, .inr (10, [.ref a51, .ref a52, .ref a53, .int 0])), (a51, .inl (cI, 256, .inl (fun _ => (-1))))] U.heap ∧ va_K (dC, dI) vwCl [(cI, .int), (cS, .short)] U ∧ va_D (fun _ => True) [(oC, .inr (2, [.ref o4, .ref o5])), (o4, .inr (10, [.ref a41, .ref a42, .ref a43, .int 0])), (a41, .inl (cI, 256, .inl (fun _ => (-1)))), (o5, .inr (10, [.ref a51, .ref a52, .ref a53, .int 0])), (a51, .inl (cI, 256, .inl (fun _ => (-1))))])) (va_Qi (fun (r : Int32) (_ : Unit) => r = f_la 1 v) (fun _ t => va_P (dC, dI) vwCl [(oC, .inr (2, [.ref o4, .ref o5])), (o4, .inr (10, [.ref a41, .ref a42, .ref a43, .int 0])), (a41, .inl (cI, 256, .inl (fun _ => (-1)))), (o5, .inr (10, [.ref a51, .ref a52, .ref a53, .int 0])), (a51, .inl (cI, 256, .inl (fun _ => (-1))))] t.heap ∧ va_D (va_A [(oC, .inr (2, [.ref o4, .ref o5])), (o4, .inr (10, [.ref a41, .ref a42, .ref a43, .int 0])), (a41, .inl (cI, 256, .inl (fun _ => (-1)))), (o5, .inr (10, [.ref a51, .ref a52, .ref a53, .int 0])), (a51, .inl (cI, 256, .inl (fun _ => (-1))))] sz) [(oC, .inr (2, [.ref o4, .ref o5])), (o4, .inr (10, [.ref a41, .ref a42, .ref a43, .int 0])), (a41, .inl (cI, 256, .inl (fun _ => (-1)))), (o5, .inr (10, [.ref a51, .ref a52, .ref a53, .int 0])), (a51, .inl (cI, 256, .inl (fun _ => (-1))))]) (va_A [(oC, .inr (2, [.ref o4, .ref o5])), (o4, .inr (10, [.ref a41, .ref a42, .ref a43, .int 0])), (a41, .inl (cI, 256, .inl (fun _ => (-1)))), (o5, .inr (10, [.ref a51, .ref a52, .ref a53, .int 0])), (a51, .inl (cI, 256, .inl (fun _ => (-1))))] sz)) 0 0 (va_A [(oC, .inr (2, [.ref o4, .ref o5])), (o4, .inr (10, [.ref a41, .ref a42, .ref a43, .int 0])), (a41, .inl (cI, 256, .inl (fun _ => (-1)))), (o5, .inr (10, [.ref a51, .ref a52, .ref a53, .int 0])), (a51, .inl (cI, 256, .inl (fun _ => (-1))))] sz) := by
  refine Met.ofW (cc := cX2_letterAlone) (maxL := 4) (ret := (some .int)) (by decide) rfl ?_
  intro p e s m args below meth c s₁ B hml hv
  obtain ⟨rfl, hsz, hP, hK, hD0⟩ := hv
  have hx := B.exec
  have hb := B.bytes
  have hr := B.returns
  have hts := atoms_spec (ws := wsX2_letterAlone) B.pre
  have hown : s.vm.findClass RX2 = some m.cls := findClass_of_methodNamed B.named
  have hlocks := B.notSynchronized
  subst hsz
  have hD := hD0.self (sz := s.heap.size)
  generalize hAe : va_A [(oC, .inr (2, [.ref o4, .ref o5])), (o4, .inr (10, [.ref a41, .ref a42, .ref a43, .int 0])), (a41, .inl (cI, 256, .inl (fun _ => (-1)))), (o5, .inr (10, [.ref a51, .ref a52, .ref a53, .int 0])), (a51, .inl (cI, 256, .inl (fun _ => (-1))))] s.heap.size = A at hD ⊢
  have hA : ∀ q : Nat, s.heap.size ≤ q → A q := fun q h => by rw [← hAe]; exact Or.inr h
  have hS : va_S A s.heap s.heap [] := va_S.rf
  have hP : va_P (dC, dI) vwCl [(oC, .inr (2, [.ref o4, .ref o5])), (o4, .inr (10, [.ref a41, .ref a42, .ref a43, .int 0])), (a41, .inl (cI, 256, .inl (fun _ => (-1)))), (o5, .inr (10, [.ref a51, .ref a52, .ref a53, .int 0])), (a51, .inl (cI, 256, .inl (fun _ => (-1))))] s.heap := hP
  have hl := lv_entry ([.ref oC, .int 1, .int v]) (n := 4) (Nat.le_of_ble_eq_true rfl)
  rw [lg_entry_eq]
  generalize (lg_sl ([.ref oC, .int 1, .int v]) ++ List.replicate (4 - (lg_sl ([.ref oC, .int 1, .int v])).length) Slot.unset).toArray = ls at hl ⊢
  have hl : lv_has ls 4 [(0, .ref oC), (1, .int 1), (2, .int v)] := hl
  refine lv_iload_n hx hb dX2_letterAlone_0 rfl (lv_at hl 1 rfl) ?_
  refine lv_tableIn (tgt := 45) hx hb dX2_letterAlone_1 (by decide) (by decide) (by rfl) (by decide) ?_
  refine lv_iload_n hx hb dX2_letterAlone_45 rfl (lv_at hl 2 rfl) ?_
  have hP9 := hP.sub (ws' := [(oC, .inr (2, [.ref o4, .ref o5])), (o4, .inr (10, [.ref a41, .ref a42, .ref a43, .int 0])), (a41, .inl (cI, 256, .inl (fun _ => (-1)))), (o5, .inr (10, [.ref a51, .ref a52, .ref a53, .int 0])), (a51, .inl (cI, 256, .inl (fun _ => (-1))))]) [0, 1, 2, 3, 4] rfl
  have hD9 := hD.sub (ws' := [(oC, .inr (2, [.ref o4, .ref o5])), (o4, .inr (10, [.ref a41, .ref a42, .ref a43, .int 0])), (a41, .inl (cI, 256, .inl (fun _ => (-1)))), (o5, .inr (10, [.ref a51, .ref a52, .ref a53, .int 0])), (a51, .inl (cI, 256, .inl (fun _ => (-1))))]) [0, 1, 2, 3, 4] (by decide) rfl
  exact W.iret (v := v) hx hb hr (fun t ht hW => ⟨⟨v, (), rfl, by first | rfl | decide | simp [f_la], by rw [ht]; exact hP9, hD9⟩, hS.F ht⟩) (hS.2.2) dX2_letterAlone_46

set_option maxHeartbeats 4000000 in
set_option maxRecDepth 100000 in
theorem m_X2_letterAlone_2 (l : Launch) (dC : Nat → ClassId) (dI : Nat → Nat → Nat) (cI cS : ClassId) (sz : Nat) (oC : Nat) (o4 : Nat) (o5 : Nat) (a41 : Nat) (a42 : Nat) (a43 : Nat) (a51 : Nat) (a52 : Nat) (a53 : Nat) (v : Int32)  : Met l yX2_letterAlone wsX2_letterAlone ({ frames := 1, cells := 0, slots := 0, locals := 21 } : Room) (va_Pc [.ref oC, .int 2, .int v] (fun U => U.heap.size = sz ∧ va_P (dC, dI) vwCl [(oC, .inr (2, [.ref o4, .ref o5])), (o4, .inr (10, [.ref a41, .ref a42, .ref a43, .int 0])), (a41, .inl (cI, 256, .inl (fun _ => (-1)))), (o5, .inr (10, [.ref a51, .ref a52, .ref a53, .int 0])), (a51, .inl (cI, 256, .inl (fun _ => (-1))))] U.heap ∧ va_K (dC, dI) vwCl [(cI, .int), (cS, .short)] U ∧ va_D (fun _ => True) [(oC, .inr (2, [.ref o4, .ref o5])), (o4, .inr (10, [.ref a41, .ref a42, .ref a43, .int 0])), (a41, .inl (cI, 256, .inl (fun _ => (-1)))), (o5, .inr (10, [.ref a51, .ref a52, .ref a53, .int 0])), (a51, .inl (cI, 256, .inl (fun _ => (-1))))])) (va_Qi (fun (r : Int32) (_ : Unit) => r = f_la 2 v) (fun _ t => va_P (dC, dI) vwCl [(oC, .inr (2, [.ref o4, .ref o5])), (o4, .inr (10, [.ref a41, .ref a42, .ref a43, .int 0])), (a41, .inl (cI, 256, .inl (fun _ => (-1)))), (o5, .inr (10, [.ref a51, .ref a52, .ref a53, .int 0])), (a51, .inl (cI, 256, .inl (fun _ => (-1))))] t.heap ∧ va_D (va_A [(oC, .inr (2, [.ref o4, .ref o5])), (o4, .inr (10, [.ref a41, .ref a42, .ref a43, .int 0])), (a41, .inl (cI, 256, .inl (fun _ => (-1)))), (o5, .inr (10, [.ref a51, .ref a52, .ref a53, .int 0])), (a51, .inl (cI, 256, .inl (fun _ => (-1))))] sz) [(oC, .inr (2, [.ref o4, .ref o5])), (o4, .inr (10, [.ref a41, .ref a42, .ref a43, .int 0])), (a41, .inl (cI, 256, .inl (fun _ => (-1)))), (o5, .inr (10, [.ref a51, .ref a52, .ref a53, .int 0])), (a51, .inl (cI, 256, .inl (fun _ => (-1))))]) (va_A [(oC, .inr (2, [.ref o4, .ref o5])), (o4, .inr (10, [.ref a41, .ref a42, .ref a43, .int 0])), (a41, .inl (cI, 256, .inl (fun _ => (-1)))), (o5, .inr (10, [.ref a51, .ref a52, .ref a53, .int 0])), (a51, .inl (cI, 256, .inl (fun _ => (-1))))] sz)) 0 0 (va_A [(oC, .inr (2, [.ref o4, .ref o5])), (o4, .inr (10, [.ref a41, .ref a42, .ref a43, .int 0])), (a41, .inl (cI, 256, .inl (fun _ => (-1)))), (o5, .inr (10, [.ref a51, .ref a52, .ref a53, .int 0])), (a51, .inl (cI, 256, .inl (fun _ => (-1))))] sz) := by
  refine Met.ofW (cc := cX2_letterAlone) (maxL := 4) (ret := (some .int)) (by decide) rfl ?_
  intro p e s m args below meth c s₁ B hml hv
  obtain ⟨rfl, hsz, hP, hK, hD0⟩ := hv
  have hx := B.exec
  have hb := B.bytes
  have hr := B.returns
  have hts := atoms_spec (ws := wsX2_letterAlone) B.pre
  have hown : s.vm.findClass RX2 = some m.cls := findClass_of_methodNamed B.named
  have hlocks := B.notSynchronized
  subst hsz
  have hD := hD0.self (sz := s.heap.size)
  generalize hAe : va_A [(oC, .inr (2, [.ref o4, .ref o5])), (o4, .inr (10, [.ref a41, .ref a42, .ref a43, .int 0])), (a41, .inl (cI, 256, .inl (fun _ => (-1)))), (o5, .inr (10, [.ref a51, .ref a52, .ref a53, .int 0])), (a51, .inl (cI, 256, .inl (fun _ => (-1))))] s.heap.size = A at hD ⊢
  have hA : ∀ q : Nat, s.heap.size ≤ q → A q := fun q h => by rw [← hAe]; exact Or.inr h
  have hS : va_S A s.heap s.heap [] := va_S.rf
  have hP : va_P (dC, dI) vwCl [(oC, .inr (2, [.ref o4, .ref o5])), (o4, .inr (10, [.ref a41, .ref a42, .ref a43, .int 0])), (a41, .inl (cI, 256, .inl (fun _ => (-1)))), (o5, .inr (10, [.ref a51, .ref a52, .ref a53, .int 0])), (a51, .inl (cI, 256, .inl (fun _ => (-1))))] s.heap := hP
  have hl := lv_entry ([.ref oC, .int 2, .int v]) (n := 4) (Nat.le_of_ble_eq_true rfl)
  rw [lg_entry_eq]
  generalize (lg_sl ([.ref oC, .int 2, .int v]) ++ List.replicate (4 - (lg_sl ([.ref oC, .int 2, .int v])).length) Slot.unset).toArray = ls at hl ⊢
  have hl : lv_has ls 4 [(0, .ref oC), (1, .int 2), (2, .int v)] := hl
  refine lv_iload_n hx hb dX2_letterAlone_0 rfl (lv_at hl 1 rfl) ?_
  refine lv_tableIn (tgt := 32) hx hb dX2_letterAlone_1 (by decide) (by decide) (by rfl) (by decide) ?_
  refine lv_iload_n hx hb dX2_letterAlone_32 rfl (lv_at hl 2 rfl) ?_
  refine lv_sipush (v := 128) hx hb dX2_letterAlone_33 (by decide) ?_
  refine lv_icmp_ge (tgt := 43) hx hb dX2_letterAlone_36 (by decide) (fun c_1 => ?_) (fun c_1 => ?_)
  · refine lv_iconst (v := (-1)) hx hb dX2_letterAlone_43 (by decide) ?_
    have hP9 := hP.sub (ws' := [(oC, .inr (2, [.ref o4, .ref o5])), (o4, .inr (10, [.ref a41, .ref a42, .ref a43, .int 0])), (a41, .inl (cI, 256, .inl (fun _ => (-1)))), (o5, .inr (10, [.ref a51, .ref a52, .ref a53, .int 0])), (a51, .inl (cI, 256, .inl (fun _ => (-1))))]) [0, 1, 2, 3, 4] rfl
    have hD9 := hD.sub (ws' := [(oC, .inr (2, [.ref o4, .ref o5])), (o4, .inr (10, [.ref a41, .ref a42, .ref a43, .int 0])), (a41, .inl (cI, 256, .inl (fun _ => (-1)))), (o5, .inr (10, [.ref a51, .ref a52, .ref a53, .int 0])), (a51, .inl (cI, 256, .inl (fun _ => (-1))))]) [0, 1, 2, 3, 4] (by decide) rfl
    exact W.iret (v := (-1)) hx hb hr (fun t ht hW => ⟨⟨(-1), (), rfl, by first | rfl | decide | simp [f_la, c_1], by rw [ht]; exact hP9, hD9⟩, hS.F ht⟩) (hS.2.2) dX2_letterAlone_44
  · refine lv_iload_n hx hb dX2_letterAlone_39 rfl (lv_at hl 2 rfl) ?_
    refine lv_goto (tgt := 44) hx hb dX2_letterAlone_40 (by decide) ?_
    have hP9 := hP.sub (ws' := [(oC, .inr (2, [.ref o4, .ref o5])), (o4, .inr (10, [.ref a41, .ref a42, .ref a43, .int 0])), (a41, .inl (cI, 256, .inl (fun _ => (-1)))), (o5, .inr (10, [.ref a51, .ref a52, .ref a53, .int 0])), (a51, .inl (cI, 256, .inl (fun _ => (-1))))]) [0, 1, 2, 3, 4] rfl
    have hD9 := hD.sub (ws' := [(oC, .inr (2, [.ref o4, .ref o5])), (o4, .inr (10, [.ref a41, .ref a42, .ref a43, .int 0])), (a41, .inl (cI, 256, .inl (fun _ => (-1)))), (o5, .inr (10, [.ref a51, .ref a52, .ref a53, .int 0])), (a51, .inl (cI, 256, .inl (fun _ => (-1))))]) [0, 1, 2, 3, 4] (by decide) rfl
    exact W.iret (v := v) hx hb hr (fun t ht hW => ⟨⟨v, (), rfl, by first | rfl | decide | simp [f_la, c_1], by rw [ht]; exact hP9, hD9⟩, hS.F ht⟩) (hS.2.2) dX2_letterAlone_44

set_option maxHeartbeats 4000000 in
set_option maxRecDepth 100000 in
theorem m_X2_letterAlone_3 (l : Launch) (dC : Nat → ClassId) (dI : Nat → Nat → Nat) (cI cS : ClassId) (sz : Nat) (oC : Nat) (o4 : Nat) (o5 : Nat) (a41 : Nat) (a42 : Nat) (a43 : Nat) (a51 : Nat) (a52 : Nat) (a53 : Nat) (v : Int32)  : Met l yX2_letterAlone wsX2_letterAlone ({ frames := 1, cells := 0, slots := 0, locals := 21 } : Room) (va_Pc [.ref oC, .int 3, .int v] (fun U => U.heap.size = sz ∧ va_P (dC, dI) vwCl [(oC, .inr (2, [.ref o4, .ref o5])), (o4, .inr (10, [.ref a41, .ref a42, .ref a43, .int 0])), (a41, .inl (cI, 256, .inl (fun _ => (-1)))), (o5, .inr (10, [.ref a51, .ref a52, .ref a53, .int 0])), (a51, .inl (cI, 256, .inl (fun _ => (-1))))] U.heap ∧ va_K (dC, dI) vwCl [(cI, .int), (cS, .short)] U ∧ va_D (fun _ => True) [(oC, .inr (2, [.ref o4, .ref o5])), (o4, .inr (10, [.ref a41, .ref a42, .ref a43, .int 0])), (a41, .inl (cI, 256, .inl (fun _ => (-1)))), (o5, .inr (10, [.ref a51, .ref a52, .ref a53, .int 0])), (a51, .inl (cI, 256, .inl (fun _ => (-1))))])) (va_Qi (fun (r : Int32) (_ : Unit) => r = f_la 3 v) (fun _ t => va_P (dC, dI) vwCl [(oC, .inr (2, [.ref o4, .ref o5])), (o4, .inr (10, [.ref a41, .ref a42, .ref a43, .int 0])), (a41, .inl (cI, 256, .inl (fun _ => (-1)))), (o5, .inr (10, [.ref a51, .ref a52, .ref a53, .int 0])), (a51, .inl (cI, 256, .inl (fun _ => (-1))))] t.heap ∧ va_D (va_A [(oC, .inr (2, [.ref o4, .ref o5])), (o4, .inr (10, [.ref a41, .ref a42, .ref a43, .int 0])), (a41, .inl (cI, 256, .inl (fun _ => (-1)))), (o5, .inr (10, [.ref a51, .ref a52, .ref a53, .int 0])), (a51, .inl (cI, 256, .inl (fun _ => (-1))))] sz) [(oC, .inr (2, [.ref o4, .ref o5])), (o4, .inr (10, [.ref a41, .ref a42, .ref a43, .int 0])), (a41, .inl (cI, 256, .inl (fun _ => (-1)))), (o5, .inr (10, [.ref a51, .ref a52, .ref a53, .int 0])), (a51, .inl (cI, 256, .inl (fun _ => (-1))))]) (va_A [(oC, .inr (2, [.ref o4, .ref o5])), (o4, .inr (10, [.ref a41, .ref a42, .ref a43, .int 0])), (a41, .inl (cI, 256, .inl (fun _ => (-1)))), (o5, .inr (10, [.ref a51, .ref a52, .ref a53, .int 0])), (a51, .inl (cI, 256, .inl (fun _ => (-1))))] sz)) 0 0 (va_A [(oC, .inr (2, [.ref o4, .ref o5])), (o4, .inr (10, [.ref a41, .ref a42, .ref a43, .int 0])), (a41, .inl (cI, 256, .inl (fun _ => (-1)))), (o5, .inr (10, [.ref a51, .ref a52, .ref a53, .int 0])), (a51, .inl (cI, 256, .inl (fun _ => (-1))))] sz) := by
  refine Met.ofW (cc := cX2_letterAlone) (maxL := 4) (ret := (some .int)) (by decide) rfl ?_
  intro p e s m args below meth c s₁ B hml hv
  obtain ⟨rfl, hsz, hP, hK, hD0⟩ := hv
  have hx := B.exec
  have hb := B.bytes
  have hr := B.returns
  have hts := atoms_spec (ws := wsX2_letterAlone) B.pre
  have hown : s.vm.findClass RX2 = some m.cls := findClass_of_methodNamed B.named
  have hlocks := B.notSynchronized
  subst hsz
  have hD := hD0.self (sz := s.heap.size)
  generalize hAe : va_A [(oC, .inr (2, [.ref o4, .ref o5])), (o4, .inr (10, [.ref a41, .ref a42, .ref a43, .int 0])), (a41, .inl (cI, 256, .inl (fun _ => (-1)))), (o5, .inr (10, [.ref a51, .ref a52, .ref a53, .int 0])), (a51, .inl (cI, 256, .inl (fun _ => (-1))))] s.heap.size = A at hD ⊢
  have hA : ∀ q : Nat, s.heap.size ≤ q → A q := fun q h => by rw [← hAe]; exact Or.inr h
  have hS : va_S A s.heap s.heap [] := va_S.rf
  have hP : va_P (dC, dI) vwCl [(oC, .inr (2, [.ref o4, .ref o5])), (o4, .inr (10, [.ref a41, .ref a42, .ref a43, .int 0])), (a41, .inl (cI, 256, .inl (fun _ => (-1)))), (o5, .inr (10, [.ref a51, .ref a52, .ref a53, .int 0])), (a51, .inl (cI, 256, .inl (fun _ => (-1))))] s.heap := hP
  have hl := lv_entry ([.ref oC, .int 3, .int v]) (n := 4) (Nat.le_of_ble_eq_true rfl)
  rw [lg_entry_eq]
  generalize (lg_sl ([.ref oC, .int 3, .int v]) ++ List.replicate (4 - (lg_sl ([.ref oC, .int 3, .int v])).length) Slot.unset).toArray = ls at hl ⊢
  have hl : lv_has ls 4 [(0, .ref oC), (1, .int 3), (2, .int v)] := hl
  refine lv_iload_n hx hb dX2_letterAlone_0 rfl (lv_at hl 1 rfl) ?_
  refine lv_tableIn (tgt := 47) hx hb dX2_letterAlone_1 (by decide) (by decide) (by rfl) (by decide) ?_
  refine lv_iload_n hx hb dX2_letterAlone_47 rfl (lv_at hl 2 rfl) ?_
  refine lv_sipush (v := 128) hx hb dX2_letterAlone_48 (by decide) ?_
  refine lv_icmp_ge (tgt := 64) hx hb dX2_letterAlone_51 (by decide) (fun c_1 => ?_) (fun c_1 => ?_)
  · refine lv_iconst (v := (-1)) hx hb dX2_letterAlone_64 (by decide) ?_
    have hP9 := hP.sub (ws' := [(oC, .inr (2, [.ref o4, .ref o5])), (o4, .inr (10, [.ref a41, .ref a42, .ref a43, .int 0])), (a41, .inl (cI, 256, .inl (fun _ => (-1)))), (o5, .inr (10, [.ref a51, .ref a52, .ref a53, .int 0])), (a51, .inl (cI, 256, .inl (fun _ => (-1))))]) [0, 1, 2, 3, 4] rfl
    have hD9 := hD.sub (ws' := [(oC, .inr (2, [.ref o4, .ref o5])), (o4, .inr (10, [.ref a41, .ref a42, .ref a43, .int 0])), (a41, .inl (cI, 256, .inl (fun _ => (-1)))), (o5, .inr (10, [.ref a51, .ref a52, .ref a53, .int 0])), (a51, .inl (cI, 256, .inl (fun _ => (-1))))]) [0, 1, 2, 3, 4] (by decide) rfl
    exact W.iret (v := (-1)) hx hb hr (fun t ht hW => ⟨⟨(-1), (), rfl, by first | rfl | decide | simp [f_la, c_1], by rw [ht]; exact hP9, hD9⟩, hS.F ht⟩) (hS.2.2) dX2_letterAlone_65
  · refine lv_iload_n hx hb dX2_letterAlone_54 rfl (lv_at hl 2 rfl) ?_
    refine lv_bipush (v := 38) hx hb dX2_letterAlone_55 (by decide) ?_
    refine lv_icmp_eq (tgt := 64) hx hb dX2_letterAlone_57 (by decide) (fun c_2 => ?_) (fun c_2 => ?_)
    · refine lv_iconst (v := (-1)) hx hb dX2_letterAlone_64 (by decide) ?_
      have hP9 := hP.sub (ws' := [(oC, .inr (2, [.ref o4, .ref o5])), (o4, .inr (10, [.ref a41, .ref a42, .ref a43, .int 0])), (a41, .inl (cI, 256, .inl (fun _ => (-1)))), (o5, .inr (10, [.ref a51, .ref a52, .ref a53, .int 0])), (a51, .inl (cI, 256, .inl (fun _ => (-1))))]) [0, 1, 2, 3, 4] rfl
      have hD9 := hD.sub (ws' := [(oC, .inr (2, [.ref o4, .ref o5])), (o4, .inr (10, [.ref a41, .ref a42, .ref a43, .int 0])), (a41, .inl (cI, 256, .inl (fun _ => (-1)))), (o5, .inr (10, [.ref a51, .ref a52, .ref a53, .int 0])), (a51, .inl (cI, 256, .inl (fun _ => (-1))))]) [0, 1, 2, 3, 4] (by decide) rfl
      exact W.iret (v := (-1)) hx hb hr (fun t ht hW => ⟨⟨(-1), (), rfl, by first | rfl | decide | simp [f_la, c_1, c_2], by rw [ht]; exact hP9, hD9⟩, hS.F ht⟩) (hS.2.2) dX2_letterAlone_65
    · refine lv_iload_n hx hb dX2_letterAlone_60 rfl (lv_at hl 2 rfl) ?_
      refine lv_goto (tgt := 65) hx hb dX2_letterAlone_61 (by decide) ?_
      have hP9 := hP.sub (ws' := [(oC, .inr (2, [.ref o4, .ref o5])), (o4, .inr (10, [.ref a41, .ref a42, .ref a43, .int 0])), (a41, .inl (cI, 256, .inl (fun _ => (-1)))), (o5, .inr (10, [.ref a51, .ref a52, .ref a53, .int 0])), (a51, .inl (cI, 256, .inl (fun _ => (-1))))]) [0, 1, 2, 3, 4] rfl
      have hD9 := hD.sub (ws' := [(oC, .inr (2, [.ref o4, .ref o5])), (o4, .inr (10, [.ref a41, .ref a42, .ref a43, .int 0])), (a41, .inl (cI, 256, .inl (fun _ => (-1)))), (o5, .inr (10, [.ref a51, .ref a52, .ref a53, .int 0])), (a51, .inl (cI, 256, .inl (fun _ => (-1))))]) [0, 1, 2, 3, 4] (by decide) rfl
      exact W.iret (v := v) hx hb hr (fun t ht hW => ⟨⟨v, (), rfl, by first | rfl | decide | simp [f_la, c_1, c_2], by rw [ht]; exact hP9, hD9⟩, hS.F ht⟩) (hS.2.2) dX2_letterAlone_65

set_option maxHeartbeats 4000000 in
set_option maxRecDepth 100000 in
theorem m_X2_letterAlone_4 (l : Launch) (dC : Nat → ClassId) (dI : Nat → Nat → Nat) (cI cS : ClassId) (sz : Nat) (oC : Nat) (o4 : Nat) (o5 : Nat) (a41 : Nat) (a42 : Nat) (a43 : Nat) (a51 : Nat) (a52 : Nat) (a53 : Nat) (v : Int32)  : Met l yX2_letterAlone wsX2_letterAlone ({ frames := 1, cells := 0, slots := 0, locals := 21 } : Room) (va_Pc [.ref oC, .int 4, .int v] (fun U => U.heap.size = sz ∧ va_P (dC, dI) vwCl [(oC, .inr (2, [.ref o4, .ref o5])), (o4, .inr (10, [.ref a41, .ref a42, .ref a43, .int 0])), (a41, .inl (cI, 256, .inl (fun _ => (-1)))), (o5, .inr (10, [.ref a51, .ref a52, .ref a53, .int 0])), (a51, .inl (cI, 256, .inl (fun _ => (-1))))] U.heap ∧ va_K (dC, dI) vwCl [(cI, .int), (cS, .short)] U ∧ va_D (fun _ => True) [(oC, .inr (2, [.ref o4, .ref o5])), (o4, .inr (10, [.ref a41, .ref a42, .ref a43, .int 0])), (a41, .inl (cI, 256, .inl (fun _ => (-1)))), (o5, .inr (10, [.ref a51, .ref a52, .ref a53, .int 0])), (a51, .inl (cI, 256, .inl (fun _ => (-1))))])) (va_Qi (fun (r : Int32) (_ : Unit) => r = f_la 4 v) (fun _ t => va_P (dC, dI) vwCl [(oC, .inr (2, [.ref o4, .ref o5])), (o4, .inr (10, [.ref a41, .ref a42, .ref a43, .int 0])), (a41, .inl (cI, 256, .inl (fun _ => (-1)))), (o5, .inr (10, [.ref a51, .ref a52, .ref a53, .int 0])), (a51, .inl (cI, 256, .inl (fun _ => (-1))))] t.heap ∧ va_D (va_A [(oC, .inr (2, [.ref o4, .ref o5])), (o4, .inr (10, [.ref a41, .ref a42, .ref a43, .int 0])), (a41, .inl (cI, 256, .inl (fun _ => (-1)))), (o5, .inr (10, [.ref a51, .ref a52, .ref a53, .int 0])), (a51, .inl (cI, 256, .inl (fun _ => (-1))))] sz) [(oC, .inr (2, [.ref o4, .ref o5])), (o4, .inr (10, [.ref a41, .ref a42, .ref a43, .int 0])), (a41, .inl (cI, 256, .inl (fun _ => (-1)))), (o5, .inr (10, [.ref a51, .ref a52, .ref a53, .int 0])), (a51, .inl (cI, 256, .inl (fun _ => (-1))))]) (va_A [(oC, .inr (2, [.ref o4, .ref o5])), (o4, .inr (10, [.ref a41, .ref a42, .ref a43, .int 0])), (a41, .inl (cI, 256, .inl (fun _ => (-1)))), (o5, .inr (10, [.ref a51, .ref a52, .ref a53, .int 0])), (a51, .inl (cI, 256, .inl (fun _ => (-1))))] sz)) 0 0 (va_A [(oC, .inr (2, [.ref o4, .ref o5])), (o4, .inr (10, [.ref a41, .ref a42, .ref a43, .int 0])), (a41, .inl (cI, 256, .inl (fun _ => (-1)))), (o5, .inr (10, [.ref a51, .ref a52, .ref a53, .int 0])), (a51, .inl (cI, 256, .inl (fun _ => (-1))))] sz) := by
  refine Met.ofW (cc := cX2_letterAlone) (maxL := 4) (ret := (some .int)) (by decide) rfl ?_
  intro p e s m args below meth c s₁ B hml hv
  obtain ⟨rfl, hsz, hP, hK, hD0⟩ := hv
  have hx := B.exec
  have hb := B.bytes
  have hr := B.returns
  have hts := atoms_spec (ws := wsX2_letterAlone) B.pre
  have hown : s.vm.findClass RX2 = some m.cls := findClass_of_methodNamed B.named
  have hlocks := B.notSynchronized
  subst hsz
  have hD := hD0.self (sz := s.heap.size)
  generalize hAe : va_A [(oC, .inr (2, [.ref o4, .ref o5])), (o4, .inr (10, [.ref a41, .ref a42, .ref a43, .int 0])), (a41, .inl (cI, 256, .inl (fun _ => (-1)))), (o5, .inr (10, [.ref a51, .ref a52, .ref a53, .int 0])), (a51, .inl (cI, 256, .inl (fun _ => (-1))))] s.heap.size = A at hD ⊢
  have hA : ∀ q : Nat, s.heap.size ≤ q → A q := fun q h => by rw [← hAe]; exact Or.inr h
  have hS : va_S A s.heap s.heap [] := va_S.rf
  have hP : va_P (dC, dI) vwCl [(oC, .inr (2, [.ref o4, .ref o5])), (o4, .inr (10, [.ref a41, .ref a42, .ref a43, .int 0])), (a41, .inl (cI, 256, .inl (fun _ => (-1)))), (o5, .inr (10, [.ref a51, .ref a52, .ref a53, .int 0])), (a51, .inl (cI, 256, .inl (fun _ => (-1))))] s.heap := hP
  have hl := lv_entry ([.ref oC, .int 4, .int v]) (n := 4) (Nat.le_of_ble_eq_true rfl)
  rw [lg_entry_eq]
  generalize (lg_sl ([.ref oC, .int 4, .int v]) ++ List.replicate (4 - (lg_sl ([.ref oC, .int 4, .int v])).length) Slot.unset).toArray = ls at hl ⊢
  have hl : lv_has ls 4 [(0, .ref oC), (1, .int 4), (2, .int v)] := hl
  refine lv_iload_n hx hb dX2_letterAlone_0 rfl (lv_at hl 1 rfl) ?_
  refine lv_tableOut (tgt := 66) hx hb dX2_letterAlone_1 (by decide) (by decide) ?_
  refine lv_aload_n hx hb dX2_letterAlone_66 rfl (lv_at hl 0 rfl) ?_
  refine lv_iload_n hx hb dX2_letterAlone_67 rfl (lv_at hl 1 rfl) ?_
  have hPc := hP.sub (ws' := [(oC, .inr (2, [.ref o4, .ref o5]))]) [0] rfl
  have hDc := hD.sub (ws' := [(oC, .inr (2, [.ref o4, .ref o5]))]) [0] (by decide) rfl
  have hFc := va_free (wc := [(oC, .inr (2, [.ref o4, .ref o5]))]) hD hS hA [0] rfl
  refine va_callr (va_runV (As := [.int 4]) (rest := []) ⟨hx, hb, hml, hown, hts⟩ (m_X2_toldCode_4 l dC dI cI cS s.heap.size oC o4 o5 ) (cwV 1 hts gX2_letterAlone_X2_toldCode rfl rfl rfl (by decide +kernel) ⟨Nat.le_of_ble_eq_true rfl, Nat.le_of_ble_eq_true rfl⟩) ⟨fun a U g mk q => by obtain ⟨q0, q1, qP, qK, qD⟩ := q; exact ⟨q0, q1, qP, va_K.moved (u := U) (U := U.calling g mk a) (Vm.Alike.refl U.vm) qK, qD⟩, va_recv hK hPc (ci := 2) (q0 := 0) rfl rfl, fun U hU hW => ⟨rfl, by rw [hU], by rw [hU]; exact hPc, va_K.moved hW.alike hK, hDc.weaken (fun _ _ _ _ => trivial)⟩⟩ rfl rfl hl.1 rfl (lv_room (Nat.le_of_ble_eq_true rfl)) dX2_letterAlone_68 ⟨Nat.le_of_ble_eq_true rfl, Nat.le_of_ble_eq_true rfl⟩) hS (fun q _ h => hFc q h) hFc (fun u r_1 t H1 locs ht hvm hw hB hz1 hk1 hS => ?_)
  obtain ⟨hra, hP1, hD1⟩ := hB
  rw [hra]
  rw [ht] at hP1
  obtain ⟨hP, hD⟩ := va_join (wr := [(o4, .inr (10, [.ref a41, .ref a42, .ref a43, .int 0])), (a41, .inl (cI, 256, .inl (fun _ => (-1)))), (o5, .inr (10, [.ref a51, .ref a52, .ref a53, .int 0])), (a51, .inl (cI, 256, .inl (fun _ => (-1))))]) (w1 := [(oC, .inr (2, [.ref o4, .ref o5]))]) hP hD [0] [1, 2, 3, 4] rfl rfl (by decide) (by decide) hk1 hFc hP1 hD1
  generalize H1 = H at hP hS ⊢
  have hP : va_P (dC, dI) vwCl [(o4, .inr (10, [.ref a41, .ref a42, .ref a43, .int 0])), (a41, .inl (cI, 256, .inl (fun _ => (-1)))), (o5, .inr (10, [.ref a51, .ref a52, .ref a53, .int 0])), (a51, .inl (cI, 256, .inl (fun _ => (-1)))), (oC, .inr (2, [.ref o4, .ref o5]))] H := hP
  have hD : va_D A [(o4, .inr (10, [.ref a41, .ref a42, .ref a43, .int 0])), (a41, .inl (cI, 256, .inl (fun _ => (-1)))), (o5, .inr (10, [.ref a51, .ref a52, .ref a53, .int 0])), (a51, .inl (cI, 256, .inl (fun _ => (-1)))), (oC, .inr (2, [.ref o4, .ref o5]))] := hD
  refine lv_astore_n (lv' := [(3, .ref o4), (0, .ref oC), (1, .int 4), (2, .int v)]) hx hb dX2_letterAlone_71 rfl hl (by decide) rfl (fun ls hl => ?_)
  refine lv_aload_n hx hb dX2_letterAlone_72 rfl (lv_at hl 0 rfl) ?_
  refine lv_ifnonnull (tgt := 80) hx hb dX2_letterAlone_73 (by decide) ?_
  refine lv_aload_n hx hb dX2_letterAlone_80 rfl (lv_at hl 0 rfl) ?_
  refine lv_iload_n hx hb dX2_letterAlone_81 rfl (lv_at hl 3 rfl) ?_
  have hPc := hP.sub (ws' := [(o4, .inr (10, [.ref a41, .ref a42, .ref a43, .int 0])), (a41, .inl (cI, 256, .inl (fun _ => (-1))))]) [0, 1] rfl
  have hDc := hD.sub (ws' := [(o4, .inr (10, [.ref a41, .ref a42, .ref a43, .int 0])), (a41, .inl (cI, 256, .inl (fun _ => (-1))))]) [0, 1] (by decide) rfl
  have hFc := va_free (wc := [(o4, .inr (10, [.ref a41, .ref a42, .ref a43, .int 0])), (a41, .inl (cI, 256, .inl (fun _ => (-1))))]) hD hS hA [0, 1] rfl
  refine va_calli (va_runV (As := [.int v]) (rest := []) ⟨hx, hb, hml, hown, hts⟩ (m_X10_letterFor l dC dI cI cS H.size o4 a41 a42 a43 v ) (cwV 1 hts gX2_letterAlone_X10_letterFor rfl rfl rfl (by decide +kernel) ⟨Nat.le_of_ble_eq_true rfl, Nat.le_of_ble_eq_true rfl⟩) ⟨fun a U g mk q => by obtain ⟨q0, q1, qP, qK, qD⟩ := q; exact ⟨q0, q1, qP, va_K.moved (u := U) (U := U.calling g mk a) (Vm.Alike.refl U.vm) qK, qD⟩, va_recv hK hPc (ci := 10) (q0 := 0) rfl rfl, fun U hU hW => ⟨rfl, by rw [hU], by rw [hU]; exact hPc, va_K.moved hW.alike hK, hDc.weaken (fun _ _ _ _ => trivial)⟩⟩ rfl rfl hl.1 rfl (lv_room (Nat.le_of_ble_eq_true rfl)) dX2_letterAlone_82 ⟨Nat.le_of_ble_eq_true rfl, Nat.le_of_ble_eq_true rfl⟩) hS (fun q _ h => hFc q h) hFc (fun r_2 u t H1 locs ht hvm hw hB hz1 hk1 hS => ?_)
  obtain ⟨hP1, hD1⟩ := hB
  rw [ht] at hP1
  obtain ⟨hP, hD⟩ := va_join (wr := [(o5, .inr (10, [.ref a51, .ref a52, .ref a53, .int 0])), (a51, .inl (cI, 256, .inl (fun _ => (-1)))), (oC, .inr (2, [.ref o4, .ref o5]))]) (w1 := [(o4, .inr (10, [.ref a41, .ref a42, .ref a43, .int 0])), (a41, .inl (cI, 256, .inl (fun _ => (-1))))]) hP hD [0, 1] [2, 3, 4] rfl rfl (by decide) (by decide) hk1 hFc hP1 hD1
  generalize H1 = H at hP hS ⊢
  have hP : va_P (dC, dI) vwCl [(o5, .inr (10, [.ref a51, .ref a52, .ref a53, .int 0])), (a51, .inl (cI, 256, .inl (fun _ => (-1)))), (oC, .inr (2, [.ref o4, .ref o5])), (o4, .inr (10, [.ref a41, .ref a42, .ref a43, .int 0])), (a41, .inl (cI, 256, .inl (fun _ => (-1))))] H := hP
  have hD : va_D A [(o5, .inr (10, [.ref a51, .ref a52, .ref a53, .int 0])), (a51, .inl (cI, 256, .inl (fun _ => (-1)))), (oC, .inr (2, [.ref o4, .ref o5])), (o4, .inr (10, [.ref a41, .ref a42, .ref a43, .int 0])), (a41, .inl (cI, 256, .inl (fun _ => (-1))))] := hD
  subst hw
  have hP9 := hP.sub (ws' := [(oC, .inr (2, [.ref o4, .ref o5])), (o4, .inr (10, [.ref a41, .ref a42, .ref a43, .int 0])), (a41, .inl (cI, 256, .inl (fun _ => (-1)))), (o5, .inr (10, [.ref a51, .ref a52, .ref a53, .int 0])), (a51, .inl (cI, 256, .inl (fun _ => (-1))))]) [2, 3, 4, 0, 1] rfl
  have hD9 := hD.sub (ws' := [(oC, .inr (2, [.ref o4, .ref o5])), (o4, .inr (10, [.ref a41, .ref a42, .ref a43, .int 0])), (a41, .inl (cI, 256, .inl (fun _ => (-1)))), (o5, .inr (10, [.ref a51, .ref a52, .ref a53, .int 0])), (a51, .inl (cI, 256, .inl (fun _ => (-1))))]) [2, 3, 4, 0, 1] (by decide) rfl
  exact W.iret (v := (-1)) hx hb hr (fun t ht hW => ⟨⟨(-1), (), rfl, by first | rfl | decide | simp [f_la], by rw [ht]; exact hP9, hD9⟩, hS.F ht⟩) (hS.2.2) dX2_letterAlone_85

set_option maxHeartbeats 4000000 in
set_option maxRecDepth 100000 in
theorem m_X2_letterAlone_5 (l : Launch) (dC : Nat → ClassId) (dI : Nat → Nat → Nat) (cI cS : ClassId) (sz : Nat) (oC : Nat) (o4 : Nat) (o5 : Nat) (a41 : Nat) (a42 : Nat) (a43 : Nat) (a51 : Nat) (a52 : Nat) (a53 : Nat) (v : Int32)  : Met l yX2_letterAlone wsX2_letterAlone ({ frames := 1, cells := 0, slots := 0, locals := 21 } : Room) (va_Pc [.ref oC, .int 5, .int v] (fun U => U.heap.size = sz ∧ va_P (dC, dI) vwCl [(oC, .inr (2, [.ref o4, .ref o5])), (o4, .inr (10, [.ref a41, .ref a42, .ref a43, .int 0])), (a41, .inl (cI, 256, .inl (fun _ => (-1)))), (o5, .inr (10, [.ref a51, .ref a52, .ref a53, .int 0])), (a51, .inl (cI, 256, .inl (fun _ => (-1))))] U.heap ∧ va_K (dC, dI) vwCl [(cI, .int), (cS, .short)] U ∧ va_D (fun _ => True) [(oC, .inr (2, [.ref o4, .ref o5])), (o4, .inr (10, [.ref a41, .ref a42, .ref a43, .int 0])), (a41, .inl (cI, 256, .inl (fun _ => (-1)))), (o5, .inr (10, [.ref a51, .ref a52, .ref a53, .int 0])), (a51, .inl (cI, 256, .inl (fun _ => (-1))))])) (va_Qi (fun (r : Int32) (_ : Unit) => r = f_la 5 v) (fun _ t => va_P (dC, dI) vwCl [(oC, .inr (2, [.ref o4, .ref o5])), (o4, .inr (10, [.ref a41, .ref a42, .ref a43, .int 0])), (a41, .inl (cI, 256, .inl (fun _ => (-1)))), (o5, .inr (10, [.ref a51, .ref a52, .ref a53, .int 0])), (a51, .inl (cI, 256, .inl (fun _ => (-1))))] t.heap ∧ va_D (va_A [(oC, .inr (2, [.ref o4, .ref o5])), (o4, .inr (10, [.ref a41, .ref a42, .ref a43, .int 0])), (a41, .inl (cI, 256, .inl (fun _ => (-1)))), (o5, .inr (10, [.ref a51, .ref a52, .ref a53, .int 0])), (a51, .inl (cI, 256, .inl (fun _ => (-1))))] sz) [(oC, .inr (2, [.ref o4, .ref o5])), (o4, .inr (10, [.ref a41, .ref a42, .ref a43, .int 0])), (a41, .inl (cI, 256, .inl (fun _ => (-1)))), (o5, .inr (10, [.ref a51, .ref a52, .ref a53, .int 0])), (a51, .inl (cI, 256, .inl (fun _ => (-1))))]) (va_A [(oC, .inr (2, [.ref o4, .ref o5])), (o4, .inr (10, [.ref a41, .ref a42, .ref a43, .int 0])), (a41, .inl (cI, 256, .inl (fun _ => (-1)))), (o5, .inr (10, [.ref a51, .ref a52, .ref a53, .int 0])), (a51, .inl (cI, 256, .inl (fun _ => (-1))))] sz)) 0 0 (va_A [(oC, .inr (2, [.ref o4, .ref o5])), (o4, .inr (10, [.ref a41, .ref a42, .ref a43, .int 0])), (a41, .inl (cI, 256, .inl (fun _ => (-1)))), (o5, .inr (10, [.ref a51, .ref a52, .ref a53, .int 0])), (a51, .inl (cI, 256, .inl (fun _ => (-1))))] sz) := by
  refine Met.ofW (cc := cX2_letterAlone) (maxL := 4) (ret := (some .int)) (by decide) rfl ?_
  intro p e s m args below meth c s₁ B hml hv
  obtain ⟨rfl, hsz, hP, hK, hD0⟩ := hv
  have hx := B.exec
  have hb := B.bytes
  have hr := B.returns
  have hts := atoms_spec (ws := wsX2_letterAlone) B.pre
  have hown : s.vm.findClass RX2 = some m.cls := findClass_of_methodNamed B.named
  have hlocks := B.notSynchronized
  subst hsz
  have hD := hD0.self (sz := s.heap.size)
  generalize hAe : va_A [(oC, .inr (2, [.ref o4, .ref o5])), (o4, .inr (10, [.ref a41, .ref a42, .ref a43, .int 0])), (a41, .inl (cI, 256, .inl (fun _ => (-1)))), (o5, .inr (10, [.ref a51, .ref a52, .ref a53, .int 0])), (a51, .inl (cI, 256, .inl (fun _ => (-1))))] s.heap.size = A at hD ⊢
  have hA : ∀ q : Nat, s.heap.size ≤ q → A q := fun q h => by rw [← hAe]; exact Or.inr h
  have hS : va_S A s.heap s.heap [] := va_S.rf
  have hP : va_P (dC, dI) vwCl [(oC, .inr (2, [.ref o4, .ref o5])), (o4, .inr (10, [.ref a41, .ref a42, .ref a43, .int 0])), (a41, .inl (cI, 256, .inl (fun _ => (-1)))), (o5, .inr (10, [.ref a51, .ref a52, .ref a53, .int 0])), (a51, .inl (cI, 256, .inl (fun _ => (-1))))] s.heap := hP
  have hl := lv_entry ([.ref oC, .int 5, .int v]) (n := 4) (Nat.le_of_ble_eq_true rfl)
  rw [lg_entry_eq]
  generalize (lg_sl ([.ref oC, .int 5, .int v]) ++ List.replicate (4 - (lg_sl ([.ref oC, .int 5, .int v])).length) Slot.unset).toArray = ls at hl ⊢
  have hl : lv_has ls 4 [(0, .ref oC), (1, .int 5), (2, .int v)] := hl
  refine lv_iload_n hx hb dX2_letterAlone_0 rfl (lv_at hl 1 rfl) ?_
  refine lv_tableOut (tgt := 66) hx hb dX2_letterAlone_1 (by decide) (by decide) ?_
  refine lv_aload_n hx hb dX2_letterAlone_66 rfl (lv_at hl 0 rfl) ?_
  refine lv_iload_n hx hb dX2_letterAlone_67 rfl (lv_at hl 1 rfl) ?_
  have hPc := hP.sub (ws' := [(oC, .inr (2, [.ref o4, .ref o5]))]) [0] rfl
  have hDc := hD.sub (ws' := [(oC, .inr (2, [.ref o4, .ref o5]))]) [0] (by decide) rfl
  have hFc := va_free (wc := [(oC, .inr (2, [.ref o4, .ref o5]))]) hD hS hA [0] rfl
  refine va_callr (va_runV (As := [.int 5]) (rest := []) ⟨hx, hb, hml, hown, hts⟩ (m_X2_toldCode_5 l dC dI cI cS s.heap.size oC o4 o5 ) (cwV 1 hts gX2_letterAlone_X2_toldCode rfl rfl rfl (by decide +kernel) ⟨Nat.le_of_ble_eq_true rfl, Nat.le_of_ble_eq_true rfl⟩) ⟨fun a U g mk q => by obtain ⟨q0, q1, qP, qK, qD⟩ := q; exact ⟨q0, q1, qP, va_K.moved (u := U) (U := U.calling g mk a) (Vm.Alike.refl U.vm) qK, qD⟩, va_recv hK hPc (ci := 2) (q0 := 0) rfl rfl, fun U hU hW => ⟨rfl, by rw [hU], by rw [hU]; exact hPc, va_K.moved hW.alike hK, hDc.weaken (fun _ _ _ _ => trivial)⟩⟩ rfl rfl hl.1 rfl (lv_room (Nat.le_of_ble_eq_true rfl)) dX2_letterAlone_68 ⟨Nat.le_of_ble_eq_true rfl, Nat.le_of_ble_eq_true rfl⟩) hS (fun q _ h => hFc q h) hFc (fun u r_1 t H1 locs ht hvm hw hB hz1 hk1 hS => ?_)
  obtain ⟨hra, hP1, hD1⟩ := hB
  rw [hra]
  rw [ht] at hP1
  obtain ⟨hP, hD⟩ := va_join (wr := [(o4, .inr (10, [.ref a41, .ref a42, .ref a43, .int 0])), (a41, .inl (cI, 256, .inl (fun _ => (-1)))), (o5, .inr (10, [.ref a51, .ref a52, .ref a53, .int 0])), (a51, .inl (cI, 256, .inl (fun _ => (-1))))]) (w1 := [(oC, .inr (2, [.ref o4, .ref o5]))]) hP hD [0] [1, 2, 3, 4] rfl rfl (by decide) (by decide) hk1 hFc hP1 hD1
  generalize H1 = H at hP hS ⊢
  have hP : va_P (dC, dI) vwCl [(o4, .inr (10, [.ref a41, .ref a42, .ref a43, .int 0])), (a41, .inl (cI, 256, .inl (fun _ => (-1)))), (o5, .inr (10, [.ref a51, .ref a52, .ref a53, .int 0])), (a51, .inl (cI, 256, .inl (fun _ => (-1)))), (oC, .inr (2, [.ref o4, .ref o5]))] H := hP
  have hD : va_D A [(o4, .inr (10, [.ref a41, .ref a42, .ref a43, .int 0])), (a41, .inl (cI, 256, .inl (fun _ => (-1)))), (o5, .inr (10, [.ref a51, .ref a52, .ref a53, .int 0])), (a51, .inl (cI, 256, .inl (fun _ => (-1)))), (oC, .inr (2, [.ref o4, .ref o5]))] := hD
  refine lv_astore_n (lv' := [(3, .ref o5), (0, .ref oC), (1, .int 5), (2, .int v)]) hx hb dX2_letterAlone_71 rfl hl (by decide) rfl (fun ls hl => ?_)
  refine lv_aload_n hx hb dX2_letterAlone_72 rfl (lv_at hl 0 rfl) ?_
  refine lv_ifnonnull (tgt := 80) hx hb dX2_letterAlone_73 (by decide) ?_
  refine lv_aload_n hx hb dX2_letterAlone_80 rfl (lv_at hl 0 rfl) ?_
  refine lv_iload_n hx hb dX2_letterAlone_81 rfl (lv_at hl 3 rfl) ?_
  have hPc := hP.sub (ws' := [(o5, .inr (10, [.ref a51, .ref a52, .ref a53, .int 0])), (a51, .inl (cI, 256, .inl (fun _ => (-1))))]) [2, 3] rfl
  have hDc := hD.sub (ws' := [(o5, .inr (10, [.ref a51, .ref a52, .ref a53, .int 0])), (a51, .inl (cI, 256, .inl (fun _ => (-1))))]) [2, 3] (by decide) rfl
  have hFc := va_free (wc := [(o5, .inr (10, [.ref a51, .ref a52, .ref a53, .int 0])), (a51, .inl (cI, 256, .inl (fun _ => (-1))))]) hD hS hA [2, 3] rfl
  refine va_calli (va_runV (As := [.int v]) (rest := []) ⟨hx, hb, hml, hown, hts⟩ (m_X10_letterFor l dC dI cI cS H.size o5 a51 a52 a53 v ) (cwV 1 hts gX2_letterAlone_X10_letterFor rfl rfl rfl (by decide +kernel) ⟨Nat.le_of_ble_eq_true rfl, Nat.le_of_ble_eq_true rfl⟩) ⟨fun a U g mk q => by obtain ⟨q0, q1, qP, qK, qD⟩ := q; exact ⟨q0, q1, qP, va_K.moved (u := U) (U := U.calling g mk a) (Vm.Alike.refl U.vm) qK, qD⟩, va_recv hK hPc (ci := 10) (q0 := 0) rfl rfl, fun U hU hW => ⟨rfl, by rw [hU], by rw [hU]; exact hPc, va_K.moved hW.alike hK, hDc.weaken (fun _ _ _ _ => trivial)⟩⟩ rfl rfl hl.1 rfl (lv_room (Nat.le_of_ble_eq_true rfl)) dX2_letterAlone_82 ⟨Nat.le_of_ble_eq_true rfl, Nat.le_of_ble_eq_true rfl⟩) hS (fun q _ h => hFc q h) hFc (fun r_2 u t H1 locs ht hvm hw hB hz1 hk1 hS => ?_)
  obtain ⟨hP1, hD1⟩ := hB
  rw [ht] at hP1
  obtain ⟨hP, hD⟩ := va_join (wr := [(o4, .inr (10, [.ref a41, .ref a42, .ref a43, .int 0])), (a41, .inl (cI, 256, .inl (fun _ => (-1)))), (oC, .inr (2, [.ref o4, .ref o5]))]) (w1 := [(o5, .inr (10, [.ref a51, .ref a52, .ref a53, .int 0])), (a51, .inl (cI, 256, .inl (fun _ => (-1))))]) hP hD [2, 3] [0, 1, 4] rfl rfl (by decide) (by decide) hk1 hFc hP1 hD1
  generalize H1 = H at hP hS ⊢
  have hP : va_P (dC, dI) vwCl [(o4, .inr (10, [.ref a41, .ref a42, .ref a43, .int 0])), (a41, .inl (cI, 256, .inl (fun _ => (-1)))), (oC, .inr (2, [.ref o4, .ref o5])), (o5, .inr (10, [.ref a51, .ref a52, .ref a53, .int 0])), (a51, .inl (cI, 256, .inl (fun _ => (-1))))] H := hP
  have hD : va_D A [(o4, .inr (10, [.ref a41, .ref a42, .ref a43, .int 0])), (a41, .inl (cI, 256, .inl (fun _ => (-1)))), (oC, .inr (2, [.ref o4, .ref o5])), (o5, .inr (10, [.ref a51, .ref a52, .ref a53, .int 0])), (a51, .inl (cI, 256, .inl (fun _ => (-1))))] := hD
  subst hw
  have hP9 := hP.sub (ws' := [(oC, .inr (2, [.ref o4, .ref o5])), (o4, .inr (10, [.ref a41, .ref a42, .ref a43, .int 0])), (a41, .inl (cI, 256, .inl (fun _ => (-1)))), (o5, .inr (10, [.ref a51, .ref a52, .ref a53, .int 0])), (a51, .inl (cI, 256, .inl (fun _ => (-1))))]) [2, 0, 1, 3, 4] rfl
  have hD9 := hD.sub (ws' := [(oC, .inr (2, [.ref o4, .ref o5])), (o4, .inr (10, [.ref a41, .ref a42, .ref a43, .int 0])), (a41, .inl (cI, 256, .inl (fun _ => (-1)))), (o5, .inr (10, [.ref a51, .ref a52, .ref a53, .int 0])), (a51, .inl (cI, 256, .inl (fun _ => (-1))))]) [2, 0, 1, 3, 4] (by decide) rfl
  exact W.iret (v := (-1)) hx hb hr (fun t ht hW => ⟨⟨(-1), (), rfl, by first | rfl | decide | simp [f_la], by rw [ht]; exact hP9, hD9⟩, hS.F ht⟩) (hS.2.2) dX2_letterAlone_85

theorem m_X2_letterAlone (l : Launch) (dC : Nat → ClassId) (dI : Nat → Nat → Nat) (cI cS : ClassId) (sz : Nat) (oC : Nat) (o4 : Nat) (o5 : Nat) (a41 : Nat) (a42 : Nat) (a43 : Nat) (a51 : Nat) (a52 : Nat) (a53 : Nat) (cd : Int32) (v : Int32) (hcd : is_code cd) : Met l yX2_letterAlone wsX2_letterAlone ({ frames := 1, cells := 0, slots := 0, locals := 21 } : Room) (va_Pc [.ref oC, .int cd, .int v] (fun U => U.heap.size = sz ∧ va_P (dC, dI) vwCl [(oC, .inr (2, [.ref o4, .ref o5])), (o4, .inr (10, [.ref a41, .ref a42, .ref a43, .int 0])), (a41, .inl (cI, 256, .inl (fun _ => (-1)))), (o5, .inr (10, [.ref a51, .ref a52, .ref a53, .int 0])), (a51, .inl (cI, 256, .inl (fun _ => (-1))))] U.heap ∧ va_K (dC, dI) vwCl [(cI, .int), (cS, .short)] U ∧ va_D (fun _ => True) [(oC, .inr (2, [.ref o4, .ref o5])), (o4, .inr (10, [.ref a41, .ref a42, .ref a43, .int 0])), (a41, .inl (cI, 256, .inl (fun _ => (-1)))), (o5, .inr (10, [.ref a51, .ref a52, .ref a53, .int 0])), (a51, .inl (cI, 256, .inl (fun _ => (-1))))])) (va_Qi (fun (r : Int32) (_ : Unit) => r = f_la cd v) (fun _ t => va_P (dC, dI) vwCl [(oC, .inr (2, [.ref o4, .ref o5])), (o4, .inr (10, [.ref a41, .ref a42, .ref a43, .int 0])), (a41, .inl (cI, 256, .inl (fun _ => (-1)))), (o5, .inr (10, [.ref a51, .ref a52, .ref a53, .int 0])), (a51, .inl (cI, 256, .inl (fun _ => (-1))))] t.heap ∧ va_D (va_A [(oC, .inr (2, [.ref o4, .ref o5])), (o4, .inr (10, [.ref a41, .ref a42, .ref a43, .int 0])), (a41, .inl (cI, 256, .inl (fun _ => (-1)))), (o5, .inr (10, [.ref a51, .ref a52, .ref a53, .int 0])), (a51, .inl (cI, 256, .inl (fun _ => (-1))))] sz) [(oC, .inr (2, [.ref o4, .ref o5])), (o4, .inr (10, [.ref a41, .ref a42, .ref a43, .int 0])), (a41, .inl (cI, 256, .inl (fun _ => (-1)))), (o5, .inr (10, [.ref a51, .ref a52, .ref a53, .int 0])), (a51, .inl (cI, 256, .inl (fun _ => (-1))))]) (va_A [(oC, .inr (2, [.ref o4, .ref o5])), (o4, .inr (10, [.ref a41, .ref a42, .ref a43, .int 0])), (a41, .inl (cI, 256, .inl (fun _ => (-1)))), (o5, .inr (10, [.ref a51, .ref a52, .ref a53, .int 0])), (a51, .inl (cI, 256, .inl (fun _ => (-1))))] sz)) 0 0 (va_A [(oC, .inr (2, [.ref o4, .ref o5])), (o4, .inr (10, [.ref a41, .ref a42, .ref a43, .int 0])), (a41, .inl (cI, 256, .inl (fun _ => (-1)))), (o5, .inr (10, [.ref a51, .ref a52, .ref a53, .int 0])), (a51, .inl (cI, 256, .inl (fun _ => (-1))))] sz) := by
  rcases hcd with rfl | rfl | rfl | rfl | rfl | rfl
  · exact m_X2_letterAlone_0 l dC dI cI cS sz oC o4 o5 a41 a42 a43 a51 a52 a53 v
  · exact m_X2_letterAlone_1 l dC dI cI cS sz oC o4 o5 a41 a42 a43 a51 a52 a53 v
  · exact m_X2_letterAlone_2 l dC dI cI cS sz oC o4 o5 a41 a42 a43 a51 a52 a53 v
  · exact m_X2_letterAlone_3 l dC dI cI cS sz oC o4 o5 a41 a42 a43 a51 a52 a53 v
  · exact m_X2_letterAlone_4 l dC dI cI cS sz oC o4 o5 a41 a42 a43 a51 a52 a53 v
  · exact m_X2_letterAlone_5 l dC dI cI cS sz oC o4 o5 a41 a42 a43 a51 a52 a53 v

set_option maxHeartbeats 4000000 in
set_option maxRecDepth 100000 in
theorem m_X2_isWritten_0 (l : Launch) (dC : Nat → ClassId) (dI : Nat → Nat → Nat) (cI cS : ClassId) (sz : Nat) (oC : Nat) (o4 : Nat) (o5 : Nat) (a41 : Nat) (a42 : Nat) (a43 : Nat) (a51 : Nat) (a52 : Nat) (a53 : Nat) (v : Int32)  : Met l yX2_isWritten wsX2_isWritten ({ frames := 2, cells := 0, slots := 0, locals := 44 } : Room) (va_Pc [.ref oC, .int 0, .int v] (fun U => U.heap.size = sz ∧ va_P (dC, dI) vwCl [(oC, .inr (2, [.ref o4, .ref o5])), (o4, .inr (10, [.ref a41, .ref a42, .ref a43, .int 0])), (a41, .inl (cI, 256, .inl (fun _ => (-1)))), (o5, .inr (10, [.ref a51, .ref a52, .ref a53, .int 0])), (a51, .inl (cI, 256, .inl (fun _ => (-1))))] U.heap ∧ va_K (dC, dI) vwCl [(cI, .int), (cS, .short)] U ∧ va_D (fun _ => True) [(oC, .inr (2, [.ref o4, .ref o5])), (o4, .inr (10, [.ref a41, .ref a42, .ref a43, .int 0])), (a41, .inl (cI, 256, .inl (fun _ => (-1)))), (o5, .inr (10, [.ref a51, .ref a52, .ref a53, .int 0])), (a51, .inl (cI, 256, .inl (fun _ => (-1))))])) (va_Qi (fun (r : Int32) (_ : Unit) => r = f_wr 0 v) (fun _ t => va_P (dC, dI) vwCl [(oC, .inr (2, [.ref o4, .ref o5])), (o4, .inr (10, [.ref a41, .ref a42, .ref a43, .int 0])), (a41, .inl (cI, 256, .inl (fun _ => (-1)))), (o5, .inr (10, [.ref a51, .ref a52, .ref a53, .int 0])), (a51, .inl (cI, 256, .inl (fun _ => (-1))))] t.heap ∧ va_D (va_A [(oC, .inr (2, [.ref o4, .ref o5])), (o4, .inr (10, [.ref a41, .ref a42, .ref a43, .int 0])), (a41, .inl (cI, 256, .inl (fun _ => (-1)))), (o5, .inr (10, [.ref a51, .ref a52, .ref a53, .int 0])), (a51, .inl (cI, 256, .inl (fun _ => (-1))))] sz) [(oC, .inr (2, [.ref o4, .ref o5])), (o4, .inr (10, [.ref a41, .ref a42, .ref a43, .int 0])), (a41, .inl (cI, 256, .inl (fun _ => (-1)))), (o5, .inr (10, [.ref a51, .ref a52, .ref a53, .int 0])), (a51, .inl (cI, 256, .inl (fun _ => (-1))))]) (va_A [(oC, .inr (2, [.ref o4, .ref o5])), (o4, .inr (10, [.ref a41, .ref a42, .ref a43, .int 0])), (a41, .inl (cI, 256, .inl (fun _ => (-1)))), (o5, .inr (10, [.ref a51, .ref a52, .ref a53, .int 0])), (a51, .inl (cI, 256, .inl (fun _ => (-1))))] sz)) 0 0 (va_A [(oC, .inr (2, [.ref o4, .ref o5])), (o4, .inr (10, [.ref a41, .ref a42, .ref a43, .int 0])), (a41, .inl (cI, 256, .inl (fun _ => (-1)))), (o5, .inr (10, [.ref a51, .ref a52, .ref a53, .int 0])), (a51, .inl (cI, 256, .inl (fun _ => (-1))))] sz) := by
  refine Met.ofW (cc := cX2_isWritten) (maxL := 3) (ret := (some .boolean)) (by decide) rfl ?_
  intro p e s m args below meth c s₁ B hml hv
  obtain ⟨rfl, hsz, hP, hK, hD0⟩ := hv
  have hx := B.exec
  have hb := B.bytes
  have hr := B.returns
  have hts := atoms_spec (ws := wsX2_isWritten) B.pre
  have hown : s.vm.findClass RX2 = some m.cls := findClass_of_methodNamed B.named
  have hlocks := B.notSynchronized
  subst hsz
  have hD := hD0.self (sz := s.heap.size)
  generalize hAe : va_A [(oC, .inr (2, [.ref o4, .ref o5])), (o4, .inr (10, [.ref a41, .ref a42, .ref a43, .int 0])), (a41, .inl (cI, 256, .inl (fun _ => (-1)))), (o5, .inr (10, [.ref a51, .ref a52, .ref a53, .int 0])), (a51, .inl (cI, 256, .inl (fun _ => (-1))))] s.heap.size = A at hD ⊢
  have hA : ∀ q : Nat, s.heap.size ≤ q → A q := fun q h => by rw [← hAe]; exact Or.inr h
  have hS : va_S A s.heap s.heap [] := va_S.rf
  have hP : va_P (dC, dI) vwCl [(oC, .inr (2, [.ref o4, .ref o5])), (o4, .inr (10, [.ref a41, .ref a42, .ref a43, .int 0])), (a41, .inl (cI, 256, .inl (fun _ => (-1)))), (o5, .inr (10, [.ref a51, .ref a52, .ref a53, .int 0])), (a51, .inl (cI, 256, .inl (fun _ => (-1))))] s.heap := hP
  have hl := lv_entry ([.ref oC, .int 0, .int v]) (n := 3) (Nat.le_of_ble_eq_true rfl)
  rw [lg_entry_eq]
  generalize (lg_sl ([.ref oC, .int 0, .int v]) ++ List.replicate (3 - (lg_sl ([.ref oC, .int 0, .int v])).length) Slot.unset).toArray = ls at hl ⊢
  have hl : lv_has ls 3 [(0, .ref oC), (1, .int 0), (2, .int v)] := hl
  refine lv_iload_n hx hb dX2_isWritten_0 rfl (lv_at hl 1 rfl) ?_
  refine lv_lookup (tgt := 68) hx hb dX2_isWritten_1 (by decide) (by rfl) (by decide) ?_
  refine lv_aload_n hx hb dX2_isWritten_68 rfl (lv_at hl 0 rfl) ?_
  refine lv_iload_n hx hb dX2_isWritten_69 rfl (lv_at hl 1 rfl) ?_
  refine lv_iload_n hx hb dX2_isWritten_70 rfl (lv_at hl 2 rfl) ?_
  have hPc := hP.sub (ws' := [(oC, .inr (2, [.ref o4, .ref o5])), (o4, .inr (10, [.ref a41, .ref a42, .ref a43, .int 0])), (a41, .inl (cI, 256, .inl (fun _ => (-1)))), (o5, .inr (10, [.ref a51, .ref a52, .ref a53, .int 0])), (a51, .inl (cI, 256, .inl (fun _ => (-1))))]) [0, 1, 2, 3, 4] rfl
  have hDc := hD.sub (ws' := [(oC, .inr (2, [.ref o4, .ref o5])), (o4, .inr (10, [.ref a41, .ref a42, .ref a43, .int 0])), (a41, .inl (cI, 256, .inl (fun _ => (-1)))), (o5, .inr (10, [.ref a51, .ref a52, .ref a53, .int 0])), (a51, .inl (cI, 256, .inl (fun _ => (-1))))]) [0, 1, 2, 3, 4] (by decide) rfl
  have hFc := va_free (wc := [(oC, .inr (2, [.ref o4, .ref o5])), (o4, .inr (10, [.ref a41, .ref a42, .ref a43, .int 0])), (a41, .inl (cI, 256, .inl (fun _ => (-1)))), (o5, .inr (10, [.ref a51, .ref a52, .ref a53, .int 0])), (a51, .inl (cI, 256, .inl (fun _ => (-1))))]) hD hS hA [0, 1, 2, 3, 4] rfl
  refine va_calli (va_runV (As := [.int 0, .int v]) (rest := []) ⟨hx, hb, hml, hown, hts⟩ (m_X2_letterAlone_0 l dC dI cI cS s.heap.size oC o4 o5 a41 a42 a43 a51 a52 a53 v ) (cwV 2 hts gX2_isWritten_X2_letterAlone rfl rfl rfl (by decide +kernel) ⟨Nat.le_of_ble_eq_true rfl, Nat.le_of_ble_eq_true rfl⟩) ⟨fun a U g mk q => by obtain ⟨q0, q1, qP, qK, qD⟩ := q; exact ⟨q0, q1, qP, va_K.moved (u := U) (U := U.calling g mk a) (Vm.Alike.refl U.vm) qK, qD⟩, va_recv hK hPc (ci := 2) (q0 := 0) rfl rfl, fun U hU hW => ⟨rfl, by rw [hU], by rw [hU]; exact hPc, va_K.moved hW.alike hK, hDc.weaken (fun _ _ _ _ => trivial)⟩⟩ rfl rfl hl.1 rfl (lv_room (Nat.le_of_ble_eq_true rfl)) dX2_isWritten_71 ⟨Nat.le_of_ble_eq_true rfl, Nat.le_of_ble_eq_true rfl⟩) hS (fun q _ h => hFc q h) hFc (fun r_1 u t H1 locs ht hvm hw hB hz1 hk1 hS => ?_)
  obtain ⟨hP1, hD1⟩ := hB
  rw [ht] at hP1
  obtain ⟨hP, hD⟩ := va_join (wr := []) (w1 := [(oC, .inr (2, [.ref o4, .ref o5])), (o4, .inr (10, [.ref a41, .ref a42, .ref a43, .int 0])), (a41, .inl (cI, 256, .inl (fun _ => (-1)))), (o5, .inr (10, [.ref a51, .ref a52, .ref a53, .int 0])), (a51, .inl (cI, 256, .inl (fun _ => (-1))))]) hP hD [0, 1, 2, 3, 4] [] rfl rfl (by decide) (by decide) hk1 hFc hP1 hD1
  generalize H1 = H at hP hS ⊢
  have hP : va_P (dC, dI) vwCl [(oC, .inr (2, [.ref o4, .ref o5])), (o4, .inr (10, [.ref a41, .ref a42, .ref a43, .int 0])), (a41, .inl (cI, 256, .inl (fun _ => (-1)))), (o5, .inr (10, [.ref a51, .ref a52, .ref a53, .int 0])), (a51, .inl (cI, 256, .inl (fun _ => (-1))))] H := hP
  have hD : va_D A [(oC, .inr (2, [.ref o4, .ref o5])), (o4, .inr (10, [.ref a41, .ref a42, .ref a43, .int 0])), (a41, .inl (cI, 256, .inl (fun _ => (-1)))), (o5, .inr (10, [.ref a51, .ref a52, .ref a53, .int 0])), (a51, .inl (cI, 256, .inl (fun _ => (-1))))] := hD
  rw [hw]
  refine lv_iconst (v := (-1)) hx hb dX2_isWritten_74 (by decide) ?_
  refine lv_icmp_eq (tgt := 82) hx hb dX2_isWritten_75 (by decide) (fun c_2 => ?_) (fun c_2 => ?_)
  · refine lv_iconst (v := 0) hx hb dX2_isWritten_82 (by decide) ?_
    have hP9 := hP.sub (ws' := [(oC, .inr (2, [.ref o4, .ref o5])), (o4, .inr (10, [.ref a41, .ref a42, .ref a43, .int 0])), (a41, .inl (cI, 256, .inl (fun _ => (-1)))), (o5, .inr (10, [.ref a51, .ref a52, .ref a53, .int 0])), (a51, .inl (cI, 256, .inl (fun _ => (-1))))]) [0, 1, 2, 3, 4] rfl
    have hD9 := hD.sub (ws' := [(oC, .inr (2, [.ref o4, .ref o5])), (o4, .inr (10, [.ref a41, .ref a42, .ref a43, .int 0])), (a41, .inl (cI, 256, .inl (fun _ => (-1)))), (o5, .inr (10, [.ref a51, .ref a52, .ref a53, .int 0])), (a51, .inl (cI, 256, .inl (fun _ => (-1))))]) [0, 1, 2, 3, 4] (by decide) rfl
    exact W.zret (v := 0) (ty := .boolean) hx hb hr (rfl) (fun t ht hW => ⟨⟨0, (), rfl, by first | rfl | decide | simp [f_wr, c_2], by rw [ht]; exact hP9, hD9⟩, hS.F ht⟩) (hS.2.2) dX2_isWritten_83
  · refine lv_iconst (v := 1) hx hb dX2_isWritten_78 (by decide) ?_
    refine lv_goto (tgt := 83) hx hb dX2_isWritten_79 (by decide) ?_
    have hP9 := hP.sub (ws' := [(oC, .inr (2, [.ref o4, .ref o5])), (o4, .inr (10, [.ref a41, .ref a42, .ref a43, .int 0])), (a41, .inl (cI, 256, .inl (fun _ => (-1)))), (o5, .inr (10, [.ref a51, .ref a52, .ref a53, .int 0])), (a51, .inl (cI, 256, .inl (fun _ => (-1))))]) [0, 1, 2, 3, 4] rfl
    have hD9 := hD.sub (ws' := [(oC, .inr (2, [.ref o4, .ref o5])), (o4, .inr (10, [.ref a41, .ref a42, .ref a43, .int 0])), (a41, .inl (cI, 256, .inl (fun _ => (-1)))), (o5, .inr (10, [.ref a51, .ref a52, .ref a53, .int 0])), (a51, .inl (cI, 256, .inl (fun _ => (-1))))]) [0, 1, 2, 3, 4] (by decide) rfl
    exact W.zret (v := 1) (ty := .boolean) hx hb hr (rfl) (fun t ht hW => ⟨⟨1, (), rfl, by first | rfl | decide | simp [f_wr, c_2], by rw [ht]; exact hP9, hD9⟩, hS.F ht⟩) (hS.2.2) dX2_isWritten_83

set_option maxHeartbeats 4000000 in
set_option maxRecDepth 100000 in
theorem m_X2_isWritten_1 (l : Launch) (dC : Nat → ClassId) (dI : Nat → Nat → Nat) (cI cS : ClassId) (sz : Nat) (oC : Nat) (o4 : Nat) (o5 : Nat) (a41 : Nat) (a42 : Nat) (a43 : Nat) (a51 : Nat) (a52 : Nat) (a53 : Nat) (v : Int32)  : Met l yX2_isWritten wsX2_isWritten ({ frames := 2, cells := 0, slots := 0, locals := 44 } : Room) (va_Pc [.ref oC, .int 1, .int v] (fun U => U.heap.size = sz ∧ va_P (dC, dI) vwCl [(oC, .inr (2, [.ref o4, .ref o5])), (o4, .inr (10, [.ref a41, .ref a42, .ref a43, .int 0])), (a41, .inl (cI, 256, .inl (fun _ => (-1)))), (o5, .inr (10, [.ref a51, .ref a52, .ref a53, .int 0])), (a51, .inl (cI, 256, .inl (fun _ => (-1))))] U.heap ∧ va_K (dC, dI) vwCl [(cI, .int), (cS, .short)] U ∧ va_D (fun _ => True) [(oC, .inr (2, [.ref o4, .ref o5])), (o4, .inr (10, [.ref a41, .ref a42, .ref a43, .int 0])), (a41, .inl (cI, 256, .inl (fun _ => (-1)))), (o5, .inr (10, [.ref a51, .ref a52, .ref a53, .int 0])), (a51, .inl (cI, 256, .inl (fun _ => (-1))))])) (va_Qi (fun (r : Int32) (_ : Unit) => r = f_wr 1 v) (fun _ t => va_P (dC, dI) vwCl [(oC, .inr (2, [.ref o4, .ref o5])), (o4, .inr (10, [.ref a41, .ref a42, .ref a43, .int 0])), (a41, .inl (cI, 256, .inl (fun _ => (-1)))), (o5, .inr (10, [.ref a51, .ref a52, .ref a53, .int 0])), (a51, .inl (cI, 256, .inl (fun _ => (-1))))] t.heap ∧ va_D (va_A [(oC, .inr (2, [.ref o4, .ref o5])), (o4, .inr (10, [.ref a41, .ref a42, .ref a43, .int 0])), (a41, .inl (cI, 256, .inl (fun _ => (-1)))), (o5, .inr (10, [.ref a51, .ref a52, .ref a53, .int 0])), (a51, .inl (cI, 256, .inl (fun _ => (-1))))] sz) [(oC, .inr (2, [.ref o4, .ref o5])), (o4, .inr (10, [.ref a41, .ref a42, .ref a43, .int 0])), (a41, .inl (cI, 256, .inl (fun _ => (-1)))), (o5, .inr (10, [.ref a51, .ref a52, .ref a53, .int 0])), (a51, .inl (cI, 256, .inl (fun _ => (-1))))]) (va_A [(oC, .inr (2, [.ref o4, .ref o5])), (o4, .inr (10, [.ref a41, .ref a42, .ref a43, .int 0])), (a41, .inl (cI, 256, .inl (fun _ => (-1)))), (o5, .inr (10, [.ref a51, .ref a52, .ref a53, .int 0])), (a51, .inl (cI, 256, .inl (fun _ => (-1))))] sz)) 0 0 (va_A [(oC, .inr (2, [.ref o4, .ref o5])), (o4, .inr (10, [.ref a41, .ref a42, .ref a43, .int 0])), (a41, .inl (cI, 256, .inl (fun _ => (-1)))), (o5, .inr (10, [.ref a51, .ref a52, .ref a53, .int 0])), (a51, .inl (cI, 256, .inl (fun _ => (-1))))] sz) := by
  refine Met.ofW (cc := cX2_isWritten) (maxL := 3) (ret := (some .boolean)) (by decide) rfl ?_
  intro p e s m args below meth c s₁ B hml hv
  obtain ⟨rfl, hsz, hP, hK, hD0⟩ := hv
  have hx := B.exec
  have hb := B.bytes
  have hr := B.returns
  have hts := atoms_spec (ws := wsX2_isWritten) B.pre
  have hown : s.vm.findClass RX2 = some m.cls := findClass_of_methodNamed B.named
  have hlocks := B.notSynchronized
  subst hsz
  have hD := hD0.self (sz := s.heap.size)
  generalize hAe : va_A [(oC, .inr (2, [.ref o4, .ref o5])), (o4, .inr (10, [.ref a41, .ref a42, .ref a43, .int 0])), (a41, .inl (cI, 256, .inl (fun _ => (-1)))), (o5, .inr (10, [.ref a51, .ref a52, .ref a53, .int 0])), (a51, .inl (cI, 256, .inl (fun _ => (-1))))] s.heap.size = A at hD ⊢
  have hA : ∀ q : Nat, s.heap.size ≤ q → A q := fun q h => by rw [← hAe]; exact Or.inr h
  have hS : va_S A s.heap s.heap [] := va_S.rf
  have hP : va_P (dC, dI) vwCl [(oC, .inr (2, [.ref o4, .ref o5])), (o4, .inr (10, [.ref a41, .ref a42, .ref a43, .int 0])), (a41, .inl (cI, 256, .inl (fun _ => (-1)))), (o5, .inr (10, [.ref a51, .ref a52, .ref a53, .int 0])), (a51, .inl (cI, 256, .inl (fun _ => (-1))))] s.heap := hP
  have hl := lv_entry ([.ref oC, .int 1, .int v]) (n := 3) (Nat.le_of_ble_eq_true rfl)
  rw [lg_entry_eq]
  generalize (lg_sl ([.ref oC, .int 1, .int v]) ++ List.replicate (3 - (lg_sl ([.ref oC, .int 1, .int v])).length) Slot.unset).toArray = ls at hl ⊢
  have hl : lv_has ls 3 [(0, .ref oC), (1, .int 1), (2, .int v)] := hl
  refine lv_iload_n hx hb dX2_isWritten_0 rfl (lv_at hl 1 rfl) ?_
  refine lv_lookup (tgt := 68) hx hb dX2_isWritten_1 (by decide) (by rfl) (by decide) ?_
  refine lv_aload_n hx hb dX2_isWritten_68 rfl (lv_at hl 0 rfl) ?_
  refine lv_iload_n hx hb dX2_isWritten_69 rfl (lv_at hl 1 rfl) ?_
  refine lv_iload_n hx hb dX2_isWritten_70 rfl (lv_at hl 2 rfl) ?_
  have hPc := hP.sub (ws' := [(oC, .inr (2, [.ref o4, .ref o5])), (o4, .inr (10, [.ref a41, .ref a42, .ref a43, .int 0])), (a41, .inl (cI, 256, .inl (fun _ => (-1)))), (o5, .inr (10, [.ref a51, .ref a52, .ref a53, .int 0])), (a51, .inl (cI, 256, .inl (fun _ => (-1))))]) [0, 1, 2, 3, 4] rfl
  have hDc := hD.sub (ws' := [(oC, .inr (2, [.ref o4, .ref o5])), (o4, .inr (10, [.ref a41, .ref a42, .ref a43, .int 0])), (a41, .inl (cI, 256, .inl (fun _ => (-1)))), (o5, .inr (10, [.ref a51, .ref a52, .ref a53, .int 0])), (a51, .inl (cI, 256, .inl (fun _ => (-1))))]) [0, 1, 2, 3, 4] (by decide) rfl
  have hFc := va_free (wc := [(oC, .inr (2, [.ref o4, .ref o5])), (o4, .inr (10, [.ref a41, .ref a42, .ref a43, .int 0])), (a41, .inl (cI, 256, .inl (fun _ => (-1)))), (o5, .inr (10, [.ref a51, .ref a52, .ref a53, .int 0])), (a51, .inl (cI, 256, .inl (fun _ => (-1))))]) hD hS hA [0, 1, 2, 3, 4] rfl
  refine va_calli (va_runV (As := [.int 1, .int v]) (rest := []) ⟨hx, hb, hml, hown, hts⟩ (m_X2_letterAlone_1 l dC dI cI cS s.heap.size oC o4 o5 a41 a42 a43 a51 a52 a53 v ) (cwV 2 hts gX2_isWritten_X2_letterAlone rfl rfl rfl (by decide +kernel) ⟨Nat.le_of_ble_eq_true rfl, Nat.le_of_ble_eq_true rfl⟩) ⟨fun a U g mk q => by obtain ⟨q0, q1, qP, qK, qD⟩ := q; exact ⟨q0, q1, qP, va_K.moved (u := U) (U := U.calling g mk a) (Vm.Alike.refl U.vm) qK, qD⟩, va_recv hK hPc (ci := 2) (q0 := 0) rfl rfl, fun U hU hW => ⟨rfl, by rw [hU], by rw [hU]; exact hPc, va_K.moved hW.alike hK, hDc.weaken (fun _ _ _ _ => trivial)⟩⟩ rfl rfl hl.1 rfl (lv_room (Nat.le_of_ble_eq_true rfl)) dX2_isWritten_71 ⟨Nat.le_of_ble_eq_true rfl, Nat.le_of_ble_eq_true rfl⟩) hS (fun q _ h => hFc q h) hFc (fun r_1 u t H1 locs ht hvm hw hB hz1 hk1 hS => ?_)
  obtain ⟨hP1, hD1⟩ := hB
  rw [ht] at hP1
  obtain ⟨hP, hD⟩ := va_join (wr := []) (w1 := [(oC, .inr (2, [.ref o4, .ref o5])), (o4, .inr (10, [.ref a41, .ref a42, .ref a43, .int 0])), (a41, .inl (cI, 256, .inl (fun _ => (-1)))), (o5, .inr (10, [.ref a51, .ref a52, .ref a53, .int 0])), (a51, .inl (cI, 256, .inl (fun _ => (-1))))]) hP hD [0, 1, 2, 3, 4] [] rfl rfl (by decide) (by decide) hk1 hFc hP1 hD1
  generalize H1 = H at hP hS ⊢
  have hP : va_P (dC, dI) vwCl [(oC, .inr (2, [.ref o4, .ref o5])), (o4, .inr (10, [.ref a41, .ref a42, .ref a43, .int 0])), (a41, .inl (cI, 256, .inl (fun _ => (-1)))), (o5, .inr (10, [.ref a51, .ref a52, .ref a53, .int 0])), (a51, .inl (cI, 256, .inl (fun _ => (-1))))] H := hP
  have hD : va_D A [(oC, .inr (2, [.ref o4, .ref o5])), (o4, .inr (10, [.ref a41, .ref a42, .ref a43, .int 0])), (a41, .inl (cI, 256, .inl (fun _ => (-1)))), (o5, .inr (10, [.ref a51, .ref a52, .ref a53, .int 0])), (a51, .inl (cI, 256, .inl (fun _ => (-1))))] := hD
  rw [hw]
  refine lv_iconst (v := (-1)) hx hb dX2_isWritten_74 (by decide) ?_
  refine lv_icmp_eq (tgt := 82) hx hb dX2_isWritten_75 (by decide) (fun c_2 => ?_) (fun c_2 => ?_)
  · refine lv_iconst (v := 0) hx hb dX2_isWritten_82 (by decide) ?_
    have hP9 := hP.sub (ws' := [(oC, .inr (2, [.ref o4, .ref o5])), (o4, .inr (10, [.ref a41, .ref a42, .ref a43, .int 0])), (a41, .inl (cI, 256, .inl (fun _ => (-1)))), (o5, .inr (10, [.ref a51, .ref a52, .ref a53, .int 0])), (a51, .inl (cI, 256, .inl (fun _ => (-1))))]) [0, 1, 2, 3, 4] rfl
    have hD9 := hD.sub (ws' := [(oC, .inr (2, [.ref o4, .ref o5])), (o4, .inr (10, [.ref a41, .ref a42, .ref a43, .int 0])), (a41, .inl (cI, 256, .inl (fun _ => (-1)))), (o5, .inr (10, [.ref a51, .ref a52, .ref a53, .int 0])), (a51, .inl (cI, 256, .inl (fun _ => (-1))))]) [0, 1, 2, 3, 4] (by decide) rfl
    exact W.zret (v := 0) (ty := .boolean) hx hb hr (rfl) (fun t ht hW => ⟨⟨0, (), rfl, by first | rfl | decide | simp [f_wr, c_2], by rw [ht]; exact hP9, hD9⟩, hS.F ht⟩) (hS.2.2) dX2_isWritten_83
  · refine lv_iconst (v := 1) hx hb dX2_isWritten_78 (by decide) ?_
    refine lv_goto (tgt := 83) hx hb dX2_isWritten_79 (by decide) ?_
    have hP9 := hP.sub (ws' := [(oC, .inr (2, [.ref o4, .ref o5])), (o4, .inr (10, [.ref a41, .ref a42, .ref a43, .int 0])), (a41, .inl (cI, 256, .inl (fun _ => (-1)))), (o5, .inr (10, [.ref a51, .ref a52, .ref a53, .int 0])), (a51, .inl (cI, 256, .inl (fun _ => (-1))))]) [0, 1, 2, 3, 4] rfl
    have hD9 := hD.sub (ws' := [(oC, .inr (2, [.ref o4, .ref o5])), (o4, .inr (10, [.ref a41, .ref a42, .ref a43, .int 0])), (a41, .inl (cI, 256, .inl (fun _ => (-1)))), (o5, .inr (10, [.ref a51, .ref a52, .ref a53, .int 0])), (a51, .inl (cI, 256, .inl (fun _ => (-1))))]) [0, 1, 2, 3, 4] (by decide) rfl
    exact W.zret (v := 1) (ty := .boolean) hx hb hr (rfl) (fun t ht hW => ⟨⟨1, (), rfl, by first | rfl | decide | simp [f_wr, c_2], by rw [ht]; exact hP9, hD9⟩, hS.F ht⟩) (hS.2.2) dX2_isWritten_83

set_option maxHeartbeats 4000000 in
set_option maxRecDepth 100000 in
theorem m_X2_isWritten_2 (l : Launch) (dC : Nat → ClassId) (dI : Nat → Nat → Nat) (cI cS : ClassId) (sz : Nat) (oC : Nat) (o4 : Nat) (o5 : Nat) (a41 : Nat) (a42 : Nat) (a43 : Nat) (a51 : Nat) (a52 : Nat) (a53 : Nat) (v : Int32)  : Met l yX2_isWritten wsX2_isWritten ({ frames := 2, cells := 0, slots := 0, locals := 44 } : Room) (va_Pc [.ref oC, .int 2, .int v] (fun U => U.heap.size = sz ∧ va_P (dC, dI) vwCl [(oC, .inr (2, [.ref o4, .ref o5])), (o4, .inr (10, [.ref a41, .ref a42, .ref a43, .int 0])), (a41, .inl (cI, 256, .inl (fun _ => (-1)))), (o5, .inr (10, [.ref a51, .ref a52, .ref a53, .int 0])), (a51, .inl (cI, 256, .inl (fun _ => (-1))))] U.heap ∧ va_K (dC, dI) vwCl [(cI, .int), (cS, .short)] U ∧ va_D (fun _ => True) [(oC, .inr (2, [.ref o4, .ref o5])), (o4, .inr (10, [.ref a41, .ref a42, .ref a43, .int 0])), (a41, .inl (cI, 256, .inl (fun _ => (-1)))), (o5, .inr (10, [.ref a51, .ref a52, .ref a53, .int 0])), (a51, .inl (cI, 256, .inl (fun _ => (-1))))])) (va_Qi (fun (r : Int32) (_ : Unit) => r = f_wr 2 v) (fun _ t => va_P (dC, dI) vwCl [(oC, .inr (2, [.ref o4, .ref o5])), (o4, .inr (10, [.ref a41, .ref a42, .ref a43, .int 0])), (a41, .inl (cI, 256, .inl (fun _ => (-1)))), (o5, .inr (10, [.ref a51, .ref a52, .ref a53, .int 0])), (a51, .inl (cI, 256, .inl (fun _ => (-1))))] t.heap ∧ va_D (va_A [(oC, .inr (2, [.ref o4, .ref o5])), (o4, .inr (10, [.ref a41, .ref a42, .ref a43, .int 0])), (a41, .inl (cI, 256, .inl (fun _ => (-1)))), (o5, .inr (10, [.ref a51, .ref a52, .ref a53, .int 0])), (a51, .inl (cI, 256, .inl (fun _ => (-1))))] sz) [(oC, .inr (2, [.ref o4, .ref o5])), (o4, .inr (10, [.ref a41, .ref a42, .ref a43, .int 0])), (a41, .inl (cI, 256, .inl (fun _ => (-1)))), (o5, .inr (10, [.ref a51, .ref a52, .ref a53, .int 0])), (a51, .inl (cI, 256, .inl (fun _ => (-1))))]) (va_A [(oC, .inr (2, [.ref o4, .ref o5])), (o4, .inr (10, [.ref a41, .ref a42, .ref a43, .int 0])), (a41, .inl (cI, 256, .inl (fun _ => (-1)))), (o5, .inr (10, [.ref a51, .ref a52, .ref a53, .int 0])), (a51, .inl (cI, 256, .inl (fun _ => (-1))))] sz)) 0 0 (va_A [(oC, .inr (2, [.ref o4, .ref o5])), (o4, .inr (10, [.ref a41, .ref a42, .ref a43, .int 0])), (a41, .inl (cI, 256, .inl (fun _ => (-1)))), (o5, .inr (10, [.ref a51, .ref a52, .ref a53, .int 0])), (a51, .inl (cI, 256, .inl (fun _ => (-1))))] sz) := by
  refine Met.ofW (cc := cX2_isWritten) (maxL := 3) (ret := (some .boolean)) (by decide) rfl ?_
  intro p e s m args below meth c s₁ B hml hv
  obtain ⟨rfl, hsz, hP, hK, hD0⟩ := hv
  have hx := B.exec
  have hb := B.bytes
  have hr := B.returns
  have hts := atoms_spec (ws := wsX2_isWritten) B.pre
  have hown : s.vm.findClass RX2 = some m.cls := findClass_of_methodNamed B.named
  have hlocks := B.notSynchronized
  subst hsz
  have hD := hD0.self (sz := s.heap.size)
  generalize hAe : va_A [(oC, .inr (2, [.ref o4, .ref o5])), (o4, .inr (10, [.ref a41, .ref a42, .ref a43, .int 0])), (a41, .inl (cI, 256, .inl (fun _ => (-1)))), (o5, .inr (10, [.ref a51, .ref a52, .ref a53, .int 0])), (a51, .inl (cI, 256, .inl (fun _ => (-1))))] s.heap.size = A at hD ⊢
  have hA : ∀ q : Nat, s.heap.size ≤ q → A q := fun q h => by rw [← hAe]; exact Or.inr h
  have hS : va_S A s.heap s.heap [] := va_S.rf
  have hP : va_P (dC, dI) vwCl [(oC, .inr (2, [.ref o4, .ref o5])), (o4, .inr (10, [.ref a41, .ref a42, .ref a43, .int 0])), (a41, .inl (cI, 256, .inl (fun _ => (-1)))), (o5, .inr (10, [.ref a51, .ref a52, .ref a53, .int 0])), (a51, .inl (cI, 256, .inl (fun _ => (-1))))] s.heap := hP
  have hl := lv_entry ([.ref oC, .int 2, .int v]) (n := 3) (Nat.le_of_ble_eq_true rfl)
  rw [lg_entry_eq]
  generalize (lg_sl ([.ref oC, .int 2, .int v]) ++ List.replicate (3 - (lg_sl ([.ref oC, .int 2, .int v])).length) Slot.unset).toArray = ls at hl ⊢
  have hl : lv_has ls 3 [(0, .ref oC), (1, .int 2), (2, .int v)] := hl
  refine lv_iload_n hx hb dX2_isWritten_0 rfl (lv_at hl 1 rfl) ?_
  refine lv_lookup (tgt := 28) hx hb dX2_isWritten_1 (by decide) (by rfl) (by decide) ?_
  refine lv_iload_n hx hb dX2_isWritten_28 rfl (lv_at hl 2 rfl) ?_
  refine lv_sipush (v := 192) hx hb dX2_isWritten_29 (by decide) ?_
  refine lv_icmp_lt (tgt := 49) hx hb dX2_isWritten_32 (by decide) (fun c_1 => ?_) (fun c_1 => ?_)
  · refine lv_iconst (v := 1) hx hb dX2_isWritten_49 (by decide) ?_
    refine lv_goto (tgt := 54) hx hb dX2_isWritten_50 (by decide) ?_
    have hP9 := hP.sub (ws' := [(oC, .inr (2, [.ref o4, .ref o5])), (o4, .inr (10, [.ref a41, .ref a42, .ref a43, .int 0])), (a41, .inl (cI, 256, .inl (fun _ => (-1)))), (o5, .inr (10, [.ref a51, .ref a52, .ref a53, .int 0])), (a51, .inl (cI, 256, .inl (fun _ => (-1))))]) [0, 1, 2, 3, 4] rfl
    have hD9 := hD.sub (ws' := [(oC, .inr (2, [.ref o4, .ref o5])), (o4, .inr (10, [.ref a41, .ref a42, .ref a43, .int 0])), (a41, .inl (cI, 256, .inl (fun _ => (-1)))), (o5, .inr (10, [.ref a51, .ref a52, .ref a53, .int 0])), (a51, .inl (cI, 256, .inl (fun _ => (-1))))]) [0, 1, 2, 3, 4] (by decide) rfl
    exact W.zret (v := 1) (ty := .boolean) hx hb hr (rfl) (fun t ht hW => ⟨⟨1, (), rfl, by first | rfl | decide | simp [f_wr, c_1], by rw [ht]; exact hP9, hD9⟩, hS.F ht⟩) (hS.2.2) dX2_isWritten_54
  · refine lv_iload_n hx hb dX2_isWritten_35 rfl (lv_at hl 2 rfl) ?_
    refine lv_sipush (v := 193) hx hb dX2_isWritten_36 (by decide) ?_
    refine lv_icmp_le (tgt := 53) hx hb dX2_isWritten_39 (by decide) (fun c_2 => ?_) (fun c_2 => ?_)
    · refine lv_iconst (v := 0) hx hb dX2_isWritten_53 (by decide) ?_
      have hP9 := hP.sub (ws' := [(oC, .inr (2, [.ref o4, .ref o5])), (o4, .inr (10, [.ref a41, .ref a42, .ref a43, .int 0])), (a41, .inl (cI, 256, .inl (fun _ => (-1)))), (o5, .inr (10, [.ref a51, .ref a52, .ref a53, .int 0])), (a51, .inl (cI, 256, .inl (fun _ => (-1))))]) [0, 1, 2, 3, 4] rfl
      have hD9 := hD.sub (ws' := [(oC, .inr (2, [.ref o4, .ref o5])), (o4, .inr (10, [.ref a41, .ref a42, .ref a43, .int 0])), (a41, .inl (cI, 256, .inl (fun _ => (-1)))), (o5, .inr (10, [.ref a51, .ref a52, .ref a53, .int 0])), (a51, .inl (cI, 256, .inl (fun _ => (-1))))]) [0, 1, 2, 3, 4] (by decide) rfl
      exact W.zret (v := 0) (ty := .boolean) hx hb hr (rfl) (fun t ht hW => ⟨⟨0, (), rfl, by first | rfl | decide | simp [f_wr, c_1, c_2], by rw [ht]; exact hP9, hD9⟩, hS.F ht⟩) (hS.2.2) dX2_isWritten_54
    · refine lv_iload_n hx hb dX2_isWritten_42 rfl (lv_at hl 2 rfl) ?_
      refine lv_sipush (v := 240) hx hb dX2_isWritten_43 (by decide) ?_
      refine lv_icmp_ge (tgt := 53) hx hb dX2_isWritten_46 (by decide) (fun c_3 => ?_) (fun c_3 => ?_)
      · refine lv_iconst (v := 0) hx hb dX2_isWritten_53 (by decide) ?_
        have hP9 := hP.sub (ws' := [(oC, .inr (2, [.ref o4, .ref o5])), (o4, .inr (10, [.ref a41, .ref a42, .ref a43, .int 0])), (a41, .inl (cI, 256, .inl (fun _ => (-1)))), (o5, .inr (10, [.ref a51, .ref a52, .ref a53, .int 0])), (a51, .inl (cI, 256, .inl (fun _ => (-1))))]) [0, 1, 2, 3, 4] rfl
        have hD9 := hD.sub (ws' := [(oC, .inr (2, [.ref o4, .ref o5])), (o4, .inr (10, [.ref a41, .ref a42, .ref a43, .int 0])), (a41, .inl (cI, 256, .inl (fun _ => (-1)))), (o5, .inr (10, [.ref a51, .ref a52, .ref a53, .int 0])), (a51, .inl (cI, 256, .inl (fun _ => (-1))))]) [0, 1, 2, 3, 4] (by decide) rfl
        exact W.zret (v := 0) (ty := .boolean) hx hb hr (rfl) (fun t ht hW => ⟨⟨0, (), rfl, by first | rfl | decide | simp [f_wr, c_1, c_2, c_3], by rw [ht]; exact hP9, hD9⟩, hS.F ht⟩) (hS.2.2) dX2_isWritten_54
      · refine lv_iconst (v := 1) hx hb dX2_isWritten_49 (by decide) ?_
        refine lv_goto (tgt := 54) hx hb dX2_isWritten_50 (by decide) ?_
        have hP9 := hP.sub (ws' := [(oC, .inr (2, [.ref o4, .ref o5])), (o4, .inr (10, [.ref a41, .ref a42, .ref a43, .int 0])), (a41, .inl (cI, 256, .inl (fun _ => (-1)))), (o5, .inr (10, [.ref a51, .ref a52, .ref a53, .int 0])), (a51, .inl (cI, 256, .inl (fun _ => (-1))))]) [0, 1, 2, 3, 4] rfl
        have hD9 := hD.sub (ws' := [(oC, .inr (2, [.ref o4, .ref o5])), (o4, .inr (10, [.ref a41, .ref a42, .ref a43, .int 0])), (a41, .inl (cI, 256, .inl (fun _ => (-1)))), (o5, .inr (10, [.ref a51, .ref a52, .ref a53, .int 0])), (a51, .inl (cI, 256, .inl (fun _ => (-1))))]) [0, 1, 2, 3, 4] (by decide) rfl
        exact W.zret (v := 1) (ty := .boolean) hx hb hr (rfl) (fun t ht hW => ⟨⟨1, (), rfl, by first | rfl | decide | simp [f_wr, c_1, c_2, c_3], by rw [ht]; exact hP9, hD9⟩, hS.F ht⟩) (hS.2.2) dX2_isWritten_54

set_option maxHeartbeats 4000000 in
set_option maxRecDepth 100000 in
theorem m_X2_isWritten_3 (l : Launch) (dC : Nat → ClassId) (dI : Nat → Nat → Nat) (cI cS : ClassId) (sz : Nat) (oC : Nat) (o4 : Nat) (o5 : Nat) (a41 : Nat) (a42 : Nat) (a43 : Nat) (a51 : Nat) (a52 : Nat) (a53 : Nat) (v : Int32)  : Met l yX2_isWritten wsX2_isWritten ({ frames := 2, cells := 0, slots := 0, locals := 44 } : Room) (va_Pc [.ref oC, .int 3, .int v] (fun U => U.heap.size = sz ∧ va_P (dC, dI) vwCl [(oC, .inr (2, [.ref o4, .ref o5])), (o4, .inr (10, [.ref a41, .ref a42, .ref a43, .int 0])), (a41, .inl (cI, 256, .inl (fun _ => (-1)))), (o5, .inr (10, [.ref a51, .ref a52, .ref a53, .int 0])), (a51, .inl (cI, 256, .inl (fun _ => (-1))))] U.heap ∧ va_K (dC, dI) vwCl [(cI, .int), (cS, .short)] U ∧ va_D (fun _ => True) [(oC, .inr (2, [.ref o4, .ref o5])), (o4, .inr (10, [.ref a41, .ref a42, .ref a43, .int 0])), (a41, .inl (cI, 256, .inl (fun _ => (-1)))), (o5, .inr (10, [.ref a51, .ref a52, .ref a53, .int 0])), (a51, .inl (cI, 256, .inl (fun _ => (-1))))])) (va_Qi (fun (r : Int32) (_ : Unit) => r = f_wr 3 v) (fun _ t => va_P (dC, dI) vwCl [(oC, .inr (2, [.ref o4, .ref o5])), (o4, .inr (10, [.ref a41, .ref a42, .ref a43, .int 0])), (a41, .inl (cI, 256, .inl (fun _ => (-1)))), (o5, .inr (10, [.ref a51, .ref a52, .ref a53, .int 0])), (a51, .inl (cI, 256, .inl (fun _ => (-1))))] t.heap ∧ va_D (va_A [(oC, .inr (2, [.ref o4, .ref o5])), (o4, .inr (10, [.ref a41, .ref a42, .ref a43, .int 0])), (a41, .inl (cI, 256, .inl (fun _ => (-1)))), (o5, .inr (10, [.ref a51, .ref a52, .ref a53, .int 0])), (a51, .inl (cI, 256, .inl (fun _ => (-1))))] sz) [(oC, .inr (2, [.ref o4, .ref o5])), (o4, .inr (10, [.ref a41, .ref a42, .ref a43, .int 0])), (a41, .inl (cI, 256, .inl (fun _ => (-1)))), (o5, .inr (10, [.ref a51, .ref a52, .ref a53, .int 0])), (a51, .inl (cI, 256, .inl (fun _ => (-1))))]) (va_A [(oC, .inr (2, [.ref o4, .ref o5])), (o4, .inr (10, [.ref a41, .ref a42, .ref a43, .int 0])), (a41, .inl (cI, 256, .inl (fun _ => (-1)))), (o5, .inr (10, [.ref a51, .ref a52, .ref a53, .int 0])), (a51, .inl (cI, 256, .inl (fun _ => (-1))))] sz)) 0 0 (va_A [(oC, .inr (2, [.ref o4, .ref o5])), (o4, .inr (10, [.ref a41, .ref a42, .ref a43, .int 0])), (a41, .inl (cI, 256, .inl (fun _ => (-1)))), (o5, .inr (10, [.ref a51, .ref a52, .ref a53, .int 0])), (a51, .inl (cI, 256, .inl (fun _ => (-1))))] sz) := by
  refine Met.ofW (cc := cX2_isWritten) (maxL := 3) (ret := (some .boolean)) (by decide) rfl ?_
  intro p e s m args below meth c s₁ B hml hv
  obtain ⟨rfl, hsz, hP, hK, hD0⟩ := hv
  have hx := B.exec
  have hb := B.bytes
  have hr := B.returns
  have hts := atoms_spec (ws := wsX2_isWritten) B.pre
  have hown : s.vm.findClass RX2 = some m.cls := findClass_of_methodNamed B.named
  have hlocks := B.notSynchronized
  subst hsz
  have hD := hD0.self (sz := s.heap.size)
  generalize hAe : va_A [(oC, .inr (2, [.ref o4, .ref o5])), (o4, .inr (10, [.ref a41, .ref a42, .ref a43, .int 0])), (a41, .inl (cI, 256, .inl (fun _ => (-1)))), (o5, .inr (10, [.ref a51, .ref a52, .ref a53, .int 0])), (a51, .inl (cI, 256, .inl (fun _ => (-1))))] s.heap.size = A at hD ⊢
  have hA : ∀ q : Nat, s.heap.size ≤ q → A q := fun q h => by rw [← hAe]; exact Or.inr h
  have hS : va_S A s.heap s.heap [] := va_S.rf
  have hP : va_P (dC, dI) vwCl [(oC, .inr (2, [.ref o4, .ref o5])), (o4, .inr (10, [.ref a41, .ref a42, .ref a43, .int 0])), (a41, .inl (cI, 256, .inl (fun _ => (-1)))), (o5, .inr (10, [.ref a51, .ref a52, .ref a53, .int 0])), (a51, .inl (cI, 256, .inl (fun _ => (-1))))] s.heap := hP
  have hl := lv_entry ([.ref oC, .int 3, .int v]) (n := 3) (Nat.le_of_ble_eq_true rfl)
  rw [lg_entry_eq]
  generalize (lg_sl ([.ref oC, .int 3, .int v]) ++ List.replicate (3 - (lg_sl ([.ref oC, .int 3, .int v])).length) Slot.unset).toArray = ls at hl ⊢
  have hl : lv_has ls 3 [(0, .ref oC), (1, .int 3), (2, .int v)] := hl
  refine lv_iload_n hx hb dX2_isWritten_0 rfl (lv_at hl 1 rfl) ?_
  refine lv_lookup (tgt := 55) hx hb dX2_isWritten_1 (by decide) (by rfl) (by decide) ?_
  refine lv_iload_n hx hb dX2_isWritten_55 rfl (lv_at hl 2 rfl) ?_
  refine lv_sipush (v := 128) hx hb dX2_isWritten_56 (by decide) ?_
  refine lv_icmp_ge (tgt := 66) hx hb dX2_isWritten_59 (by decide) (fun c_1 => ?_) (fun c_1 => ?_)
  · refine lv_iconst (v := 0) hx hb dX2_isWritten_66 (by decide) ?_
    have hP9 := hP.sub (ws' := [(oC, .inr (2, [.ref o4, .ref o5])), (o4, .inr (10, [.ref a41, .ref a42, .ref a43, .int 0])), (a41, .inl (cI, 256, .inl (fun _ => (-1)))), (o5, .inr (10, [.ref a51, .ref a52, .ref a53, .int 0])), (a51, .inl (cI, 256, .inl (fun _ => (-1))))]) [0, 1, 2, 3, 4] rfl
    have hD9 := hD.sub (ws' := [(oC, .inr (2, [.ref o4, .ref o5])), (o4, .inr (10, [.ref a41, .ref a42, .ref a43, .int 0])), (a41, .inl (cI, 256, .inl (fun _ => (-1)))), (o5, .inr (10, [.ref a51, .ref a52, .ref a53, .int 0])), (a51, .inl (cI, 256, .inl (fun _ => (-1))))]) [0, 1, 2, 3, 4] (by decide) rfl
    exact W.zret (v := 0) (ty := .boolean) hx hb hr (rfl) (fun t ht hW => ⟨⟨0, (), rfl, by first | rfl | decide | simp [f_wr, c_1], by rw [ht]; exact hP9, hD9⟩, hS.F ht⟩) (hS.2.2) dX2_isWritten_67
  · refine lv_iconst (v := 1) hx hb dX2_isWritten_62 (by decide) ?_
    refine lv_goto (tgt := 67) hx hb dX2_isWritten_63 (by decide) ?_
    have hP9 := hP.sub (ws' := [(oC, .inr (2, [.ref o4, .ref o5])), (o4, .inr (10, [.ref a41, .ref a42, .ref a43, .int 0])), (a41, .inl (cI, 256, .inl (fun _ => (-1)))), (o5, .inr (10, [.ref a51, .ref a52, .ref a53, .int 0])), (a51, .inl (cI, 256, .inl (fun _ => (-1))))]) [0, 1, 2, 3, 4] rfl
    have hD9 := hD.sub (ws' := [(oC, .inr (2, [.ref o4, .ref o5])), (o4, .inr (10, [.ref a41, .ref a42, .ref a43, .int 0])), (a41, .inl (cI, 256, .inl (fun _ => (-1)))), (o5, .inr (10, [.ref a51, .ref a52, .ref a53, .int 0])), (a51, .inl (cI, 256, .inl (fun _ => (-1))))]) [0, 1, 2, 3, 4] (by decide) rfl
    exact W.zret (v := 1) (ty := .boolean) hx hb hr (rfl) (fun t ht hW => ⟨⟨1, (), rfl, by first | rfl | decide | simp [f_wr, c_1], by rw [ht]; exact hP9, hD9⟩, hS.F ht⟩) (hS.2.2) dX2_isWritten_67

set_option maxHeartbeats 4000000 in
set_option maxRecDepth 100000 in
theorem m_X2_isWritten_4 (l : Launch) (dC : Nat → ClassId) (dI : Nat → Nat → Nat) (cI cS : ClassId) (sz : Nat) (oC : Nat) (o4 : Nat) (o5 : Nat) (a41 : Nat) (a42 : Nat) (a43 : Nat) (a51 : Nat) (a52 : Nat) (a53 : Nat) (v : Int32)  : Met l yX2_isWritten wsX2_isWritten ({ frames := 2, cells := 0, slots := 0, locals := 44 } : Room) (va_Pc [.ref oC, .int 4, .int v] (fun U => U.heap.size = sz ∧ va_P (dC, dI) vwCl [(oC, .inr (2, [.ref o4, .ref o5])), (o4, .inr (10, [.ref a41, .ref a42, .ref a43, .int 0])), (a41, .inl (cI, 256, .inl (fun _ => (-1)))), (o5, .inr (10, [.ref a51, .ref a52, .ref a53, .int 0])), (a51, .inl (cI, 256, .inl (fun _ => (-1))))] U.heap ∧ va_K (dC, dI) vwCl [(cI, .int), (cS, .short)] U ∧ va_D (fun _ => True) [(oC, .inr (2, [.ref o4, .ref o5])), (o4, .inr (10, [.ref a41, .ref a42, .ref a43, .int 0])), (a41, .inl (cI, 256, .inl (fun _ => (-1)))), (o5, .inr (10, [.ref a51, .ref a52, .ref a53, .int 0])), (a51, .inl (cI, 256, .inl (fun _ => (-1))))])) (va_Qi (fun (r : Int32) (_ : Unit) => r = f_wr 4 v) (fun _ t => va_P (dC, dI) vwCl [(oC, .inr (2, [.ref o4, .ref o5])), (o4, .inr (10, [.ref a41, .ref a42, .ref a43, .int 0])), (a41, .inl (cI, 256, .inl (fun _ => (-1)))), (o5, .inr (10, [.ref a51, .ref a52, .ref a53, .int 0])), (a51, .inl (cI, 256, .inl (fun _ => (-1))))] t.heap ∧ va_D (va_A [(oC, .inr (2, [.ref o4, .ref o5])), (o4, .inr (10, [.ref a41, .ref a42, .ref a43, .int 0])), (a41, .inl (cI, 256, .inl (fun _ => (-1)))), (o5, .inr (10, [.ref a51, .ref a52, .ref a53, .int 0])), (a51, .inl (cI, 256, .inl (fun _ => (-1))))] sz) [(oC, .inr (2, [.ref o4, .ref o5])), (o4, .inr (10, [.ref a41, .ref a42, .ref a43, .int 0])), (a41, .inl (cI, 256, .inl (fun _ => (-1)))), (o5, .inr (10, [.ref a51, .ref a52, .ref a53, .int 0])), (a51, .inl (cI, 256, .inl (fun _ => (-1))))]) (va_A [(oC, .inr (2, [.ref o4, .ref o5])), (o4, .inr (10, [.ref a41, .ref a42, .ref a43, .int 0])), (a41, .inl (cI, 256, .inl (fun _ => (-1)))), (o5, .inr (10, [.ref a51, .ref a52, .ref a53, .int 0])), (a51, .inl (cI, 256, .inl (fun _ => (-1))))] sz)) 0 0 (va_A [(oC, .inr (2, [.ref o4, .ref o5])), (o4, .inr (10, [.ref a41, .ref a42, .ref a43, .int 0])), (a41, .inl (cI, 256, .inl (fun _ => (-1)))), (o5, .inr (10, [.ref a51, .ref a52, .ref a53, .int 0])), (a51, .inl (cI, 256, .inl (fun _ => (-1))))] sz) := by
  refine Met.ofW (cc := cX2_isWritten) (maxL := 3) (ret := (some .boolean)) (by decide) rfl ?_
  intro p e s m args below meth c s₁ B hml hv
  obtain ⟨rfl, hsz, hP, hK, hD0⟩ := hv
  have hx := B.exec
  have hb := B.bytes
  have hr := B.returns
  have hts := atoms_spec (ws := wsX2_isWritten) B.pre
  have hown : s.vm.findClass RX2 = some m.cls := findClass_of_methodNamed B.named
  have hlocks := B.notSynchronized
  subst hsz
  have hD := hD0.self (sz := s.heap.size)
  generalize hAe : va_A [(oC, .inr (2, [.ref o4, .ref o5])), (o4, .inr (10, [.ref a41, .ref a42, .ref a43, .int 0])), (a41, .inl (cI, 256, .inl (fun _ => (-1)))), (o5, .inr (10, [.ref a51, .ref a52, .ref a53, .int 0])), (a51, .inl (cI, 256, .inl (fun _ => (-1))))] s.heap.size = A at hD ⊢
  have hA : ∀ q : Nat, s.heap.size ≤ q → A q := fun q h => by rw [← hAe]; exact Or.inr h
  have hS : va_S A s.heap s.heap [] := va_S.rf
  have hP : va_P (dC, dI) vwCl [(oC, .inr (2, [.ref o4, .ref o5])), (o4, .inr (10, [.ref a41, .ref a42, .ref a43, .int 0])), (a41, .inl (cI, 256, .inl (fun _ => (-1)))), (o5, .inr (10, [.ref a51, .ref a52, .ref a53, .int 0])), (a51, .inl (cI, 256, .inl (fun _ => (-1))))] s.heap := hP
  have hl := lv_entry ([.ref oC, .int 4, .int v]) (n := 3) (Nat.le_of_ble_eq_true rfl)
  rw [lg_entry_eq]
  generalize (lg_sl ([.ref oC, .int 4, .int v]) ++ List.replicate (3 - (lg_sl ([.ref oC, .int 4, .int v])).length) Slot.unset).toArray = ls at hl ⊢
  have hl : lv_has ls 3 [(0, .ref oC), (1, .int 4), (2, .int v)] := hl
  refine lv_iload_n hx hb dX2_isWritten_0 rfl (lv_at hl 1 rfl) ?_
  refine lv_lookup (tgt := 68) hx hb dX2_isWritten_1 (by decide) (by rfl) (by decide) ?_
  refine lv_aload_n hx hb dX2_isWritten_68 rfl (lv_at hl 0 rfl) ?_
  refine lv_iload_n hx hb dX2_isWritten_69 rfl (lv_at hl 1 rfl) ?_
  refine lv_iload_n hx hb dX2_isWritten_70 rfl (lv_at hl 2 rfl) ?_
  have hPc := hP.sub (ws' := [(oC, .inr (2, [.ref o4, .ref o5])), (o4, .inr (10, [.ref a41, .ref a42, .ref a43, .int 0])), (a41, .inl (cI, 256, .inl (fun _ => (-1)))), (o5, .inr (10, [.ref a51, .ref a52, .ref a53, .int 0])), (a51, .inl (cI, 256, .inl (fun _ => (-1))))]) [0, 1, 2, 3, 4] rfl
  have hDc := hD.sub (ws' := [(oC, .inr (2, [.ref o4, .ref o5])), (o4, .inr (10, [.ref a41, .ref a42, .ref a43, .int 0])), (a41, .inl (cI, 256, .inl (fun _ => (-1)))), (o5, .inr (10, [.ref a51, .ref a52, .ref a53, .int 0])), (a51, .inl (cI, 256, .inl (fun _ => (-1))))]) [0, 1, 2, 3, 4] (by decide) rfl
  have hFc := va_free (wc := [(oC, .inr (2, [.ref o4, .ref o5])), (o4, .inr (10, [.ref a41, .ref a42, .ref a43, .int 0])), (a41, .inl (cI, 256, .inl (fun _ => (-1)))), (o5, .inr (10, [.ref a51, .ref a52, .ref a53, .int 0])), (a51, .inl (cI, 256, .inl (fun _ => (-1))))]) hD hS hA [0, 1, 2, 3, 4] rfl
  refine va_calli (va_runV (As := [.int 4, .int v]) (rest := []) ⟨hx, hb, hml, hown, hts⟩ (m_X2_letterAlone_4 l dC dI cI cS s.heap.size oC o4 o5 a41 a42 a43 a51 a52 a53 v ) (cwV 2 hts gX2_isWritten_X2_letterAlone rfl rfl rfl (by decide +kernel) ⟨Nat.le_of_ble_eq_true rfl, Nat.le_of_ble_eq_true rfl⟩) ⟨fun a U g mk q => by obtain ⟨q0, q1, qP, qK, qD⟩ := q; exact ⟨q0, q1, qP, va_K.moved (u := U) (U := U.calling g mk a) (Vm.Alike.refl U.vm) qK, qD⟩, va_recv hK hPc (ci := 2) (q0 := 0) rfl rfl, fun U hU hW => ⟨rfl, by rw [hU], by rw [hU]; exact hPc, va_K.moved hW.alike hK, hDc.weaken (fun _ _ _ _ => trivial)⟩⟩ rfl rfl hl.1 rfl (lv_room (Nat.le_of_ble_eq_true rfl)) dX2_isWritten_71 ⟨Nat.le_of_ble_eq_true rfl, Nat.le_of_ble_eq_true rfl⟩) hS (fun q _ h => hFc q h) hFc (fun r_1 u t H1 locs ht hvm hw hB hz1 hk1 hS => ?_)
  obtain ⟨hP1, hD1⟩ := hB
  rw [ht] at hP1
  obtain ⟨hP, hD⟩ := va_join (wr := []) (w1 := [(oC, .inr (2, [.ref o4, .ref o5])), (o4, .inr (10, [.ref a41, .ref a42, .ref a43, .int 0])), (a41, .inl (cI, 256, .inl (fun _ => (-1)))), (o5, .inr (10, [.ref a51, .ref a52, .ref a53, .int 0])), (a51, .inl (cI, 256, .inl (fun _ => (-1))))]) hP hD [0, 1, 2, 3, 4] [] rfl rfl (by decide) (by decide) hk1 hFc hP1 hD1
  generalize H1 = H at hP hS ⊢
  have hP : va_P (dC, dI) vwCl [(oC, .inr (2, [.ref o4, .ref o5])), (o4, .inr (10, [.ref a41, .ref a42, .ref a43, .int 0])), (a41, .inl (cI, 256, .inl (fun _ => (-1)))), (o5, .inr (10, [.ref a51, .ref a52, .ref a53, .int 0])), (a51, .inl (cI, 256, .inl (fun _ => (-1))))] H := hP
  have hD : va_D A [(oC, .inr (2, [.ref o4, .ref o5])), (o4, .inr (10, [.ref a41, .ref a42, .ref a43, .int 0])), (a41, .inl (cI, 256, .inl (fun _ => (-1)))), (o5, .inr (10, [.ref a51, .ref a52, .ref a53, .int 0])), (a51, .inl (cI, 256, .inl (fun _ => (-1))))] := hD
  rw [hw]
  refine lv_iconst (v := (-1)) hx hb dX2_isWritten_74 (by decide) ?_
  refine lv_icmp_eq (tgt := 82) hx hb dX2_isWritten_75 (by decide) (fun c_2 => ?_) (fun c_2 => ?_)
  · refine lv_iconst (v := 0) hx hb dX2_isWritten_82 (by decide) ?_
    have hP9 := hP.sub (ws' := [(oC, .inr (2, [.ref o4, .ref o5])), (o4, .inr (10, [.ref a41, .ref a42, .ref a43, .int 0])), (a41, .inl (cI, 256, .inl (fun _ => (-1)))), (o5, .inr (10, [.ref a51, .ref a52, .ref a53, .int 0])), (a51, .inl (cI, 256, .inl (fun _ => (-1))))]) [0, 1, 2, 3, 4] rfl
    have hD9 := hD.sub (ws' := [(oC, .inr (2, [.ref o4, .ref o5])), (o4, .inr (10, [.ref a41, .ref a42, .ref a43, .int 0])), (a41, .inl (cI, 256, .inl (fun _ => (-1)))), (o5, .inr (10, [.ref a51, .ref a52, .ref a53, .int 0])), (a51, .inl (cI, 256, .inl (fun _ => (-1))))]) [0, 1, 2, 3, 4] (by decide) rfl
    exact W.zret (v := 0) (ty := .boolean) hx hb hr (rfl) (fun t ht hW => ⟨⟨0, (), rfl, by first | rfl | decide | simp [f_wr, c_2], by rw [ht]; exact hP9, hD9⟩, hS.F ht⟩) (hS.2.2) dX2_isWritten_83
  · refine lv_iconst (v := 1) hx hb dX2_isWritten_78 (by decide) ?_
    refine lv_goto (tgt := 83) hx hb dX2_isWritten_79 (by decide) ?_
    have hP9 := hP.sub (ws' := [(oC, .inr (2, [.ref o4, .ref o5])), (o4, .inr (10, [.ref a41, .ref a42, .ref a43, .int 0])), (a41, .inl (cI, 256, .inl (fun _ => (-1)))), (o5, .inr (10, [.ref a51, .ref a52, .ref a53, .int 0])), (a51, .inl (cI, 256, .inl (fun _ => (-1))))]) [0, 1, 2, 3, 4] rfl
    have hD9 := hD.sub (ws' := [(oC, .inr (2, [.ref o4, .ref o5])), (o4, .inr (10, [.ref a41, .ref a42, .ref a43, .int 0])), (a41, .inl (cI, 256, .inl (fun _ => (-1)))), (o5, .inr (10, [.ref a51, .ref a52, .ref a53, .int 0])), (a51, .inl (cI, 256, .inl (fun _ => (-1))))]) [0, 1, 2, 3, 4] (by decide) rfl
    exact W.zret (v := 1) (ty := .boolean) hx hb hr (rfl) (fun t ht hW => ⟨⟨1, (), rfl, by first | rfl | decide | simp [f_wr, c_2], by rw [ht]; exact hP9, hD9⟩, hS.F ht⟩) (hS.2.2) dX2_isWritten_83

set_option maxHeartbeats 4000000 in
set_option maxRecDepth 100000 in
theorem m_X2_isWritten_5 (l : Launch) (dC : Nat → ClassId) (dI : Nat → Nat → Nat) (cI cS : ClassId) (sz : Nat) (oC : Nat) (o4 : Nat) (o5 : Nat) (a41 : Nat) (a42 : Nat) (a43 : Nat) (a51 : Nat) (a52 : Nat) (a53 : Nat) (v : Int32)  : Met l yX2_isWritten wsX2_isWritten ({ frames := 2, cells := 0, slots := 0, locals := 44 } : Room) (va_Pc [.ref oC, .int 5, .int v] (fun U => U.heap.size = sz ∧ va_P (dC, dI) vwCl [(oC, .inr (2, [.ref o4, .ref o5])), (o4, .inr (10, [.ref a41, .ref a42, .ref a43, .int 0])), (a41, .inl (cI, 256, .inl (fun _ => (-1)))), (o5, .inr (10, [.ref a51, .ref a52, .ref a53, .int 0])), (a51, .inl (cI, 256, .inl (fun _ => (-1))))] U.heap ∧ va_K (dC, dI) vwCl [(cI, .int), (cS, .short)] U ∧ va_D (fun _ => True) [(oC, .inr (2, [.ref o4, .ref o5])), (o4, .inr (10, [.ref a41, .ref a42, .ref a43, .int 0])), (a41, .inl (cI, 256, .inl (fun _ => (-1)))), (o5, .inr (10, [.ref a51, .ref a52, .ref a53, .int 0])), (a51, .inl (cI, 256, .inl (fun _ => (-1))))])) (va_Qi (fun (r : Int32) (_ : Unit) => r = f_wr 5 v) (fun _ t => va_P (dC, dI) vwCl [(oC, .inr (2, [.ref o4, .ref o5])), (o4, .inr (10, [.ref a41, .ref a42, .ref a43, .int 0])), (a41, .inl (cI, 256, .inl (fun _ => (-1)))), (o5, .inr (10, [.ref a51, .ref a52, .ref a53, .int 0])), (a51, .inl (cI, 256, .inl (fun _ => (-1))))] t.heap ∧ va_D (va_A [(oC, .inr (2, [.ref o4, .ref o5])), (o4, .inr (10, [.ref a41, .ref a42, .ref a43, .int 0])), (a41, .inl (cI, 256, .inl (fun _ => (-1)))), (o5, .inr (10, [.ref a51, .ref a52, .ref a53, .int 0])), (a51, .inl (cI, 256, .inl (fun _ => (-1))))] sz) [(oC, .inr (2, [.ref o4, .ref o5])), (o4, .inr (10, [.ref a41, .ref a42, .ref a43, .int 0])), (a41, .inl (cI, 256, .inl (fun _ => (-1)))), (o5, .inr (10, [.ref a51, .ref a52, .ref a53, .int 0])), (a51, .inl (cI, 256, .inl (fun _ => (-1))))]) (va_A [(oC, .inr (2, [.ref o4, .ref o5])), (o4, .inr (10, [.ref a41, .ref a42, .ref a43, .int 0])), (a41, .inl (cI, 256, .inl (fun _ => (-1)))), (o5, .inr (10, [.ref a51, .ref a52, .ref a53, .int 0])), (a51, .inl (cI, 256, .inl (fun _ => (-1))))] sz)) 0 0 (va_A [(oC, .inr (2, [.ref o4, .ref o5])), (o4, .inr (10, [.ref a41, .ref a42, .ref a43, .int 0])), (a41, .inl (cI, 256, .inl (fun _ => (-1)))), (o5, .inr (10, [.ref a51, .ref a52, .ref a53, .int 0])), (a51, .inl (cI, 256, .inl (fun _ => (-1))))] sz) := by
  refine Met.ofW (cc := cX2_isWritten) (maxL := 3) (ret := (some .boolean)) (by decide) rfl ?_
  intro p e s m args below meth c s₁ B hml hv
  obtain ⟨rfl, hsz, hP, hK, hD0⟩ := hv
  have hx := B.exec
  have hb := B.bytes
  have hr := B.returns
  have hts := atoms_spec (ws := wsX2_isWritten) B.pre
  have hown : s.vm.findClass RX2 = some m.cls := findClass_of_methodNamed B.named
  have hlocks := B.notSynchronized
  subst hsz
  have hD := hD0.self (sz := s.heap.size)
  generalize hAe : va_A [(oC, .inr (2, [.ref o4, .ref o5])), (o4, .inr (10, [.ref a41, .ref a42, .ref a43, .int 0])), (a41, .inl (cI, 256, .inl (fun _ => (-1)))), (o5, .inr (10, [.ref a51, .ref a52, .ref a53, .int 0])), (a51, .inl (cI, 256, .inl (fun _ => (-1))))] s.heap.size = A at hD ⊢
  have hA : ∀ q : Nat, s.heap.size ≤ q → A q := fun q h => by rw [← hAe]; exact Or.inr h
  have hS : va_S A s.heap s.heap [] := va_S.rf
  have hP : va_P (dC, dI) vwCl [(oC, .inr (2, [.ref o4, .ref o5])), (o4, .inr (10, [.ref a41, .ref a42, .ref a43, .int 0])), (a41, .inl (cI, 256, .inl (fun _ => (-1)))), (o5, .inr (10, [.ref a51, .ref a52, .ref a53, .int 0])), (a51, .inl (cI, 256, .inl (fun _ => (-1))))] s.heap := hP
  have hl := lv_entry ([.ref oC, .int 5, .int v]) (n := 3) (Nat.le_of_ble_eq_true rfl)
  rw [lg_entry_eq]
  generalize (lg_sl ([.ref oC, .int 5, .int v]) ++ List.replicate (3 - (lg_sl ([.ref oC, .int 5, .int v])).length) Slot.unset).toArray = ls at hl ⊢
  have hl : lv_has ls 3 [(0, .ref oC), (1, .int 5), (2, .int v)] := hl
  refine lv_iload_n hx hb dX2_isWritten_0 rfl (lv_at hl 1 rfl) ?_
  refine lv_lookup (tgt := 68) hx hb dX2_isWritten_1 (by decide) (by rfl) (by decide) ?_
  refine lv_aload_n hx hb dX2_isWritten_68 rfl (lv_at hl 0 rfl) ?_
  refine lv_iload_n hx hb dX2_isWritten_69 rfl (lv_at hl 1 rfl) ?_
  refine lv_iload_n hx hb dX2_isWritten_70 rfl (lv_at hl 2 rfl) ?_
  have hPc := hP.sub (ws' := [(oC, .inr (2, [.ref o4, .ref o5])), (o4, .inr (10, [.ref a41, .ref a42, .ref a43, .int 0])), (a41, .inl (cI, 256, .inl (fun _ => (-1)))), (o5, .inr (10, [.ref a51, .ref a52, .ref a53, .int 0])), (a51, .inl (cI, 256, .inl (fun _ => (-1))))]) [0, 1, 2, 3, 4] rfl
  have hDc := hD.sub (ws' := [(oC, .inr (2, [.ref o4, .ref o5])), (o4, .inr (10, [.ref a41, .ref a42, .ref a43, .int 0])), (a41, .inl (cI, 256, .inl (fun _ => (-1)))), (o5, .inr (10, [.ref a51, .ref a52, .ref a53, .int 0])), (a51, .inl (cI, 256, .inl (fun _ => (-1))))]) [0, 1, 2, 3, 4] (by decide) rfl
  have hFc := va_free (wc := [(oC, .inr (2, [.ref o4, .ref o5])), (o4, .inr (10, [.ref a41, .ref a42, .ref a43, .int 0])), (a41, .inl (cI, 256, .inl (fun _ => (-1)))), (o5, .inr (10, [.ref a51, .ref a52, .ref a53, .int 0])), (a51, .inl (cI, 256, .inl (fun _ => (-1))))]) hD hS hA [0, 1, 2, 3, 4] rfl
  refine va_calli (va_runV (As := [.int 5, .int v]) (rest := []) ⟨hx, hb, hml, hown, hts⟩ (m_X2_letterAlone_5 l dC dI cI cS s.heap.size oC o4 o5 a41 a42 a43 a51 a52 a53 v ) (cwV 2 hts gX2_isWritten_X2_letterAlone rfl rfl rfl (by decide +kernel) ⟨Nat.le_of_ble_eq_true rfl, Nat.le_of_ble_eq_true rfl⟩) ⟨fun a U g mk q => by obtain ⟨q0, q1, qP, qK, qD⟩ := q; exact ⟨q0, q1, qP, va_K.moved (u := U) (U := U.calling g mk a) (Vm.Alike.refl U.vm) qK, qD⟩, va_recv hK hPc (ci := 2) (q0 := 0) rfl rfl, fun U hU hW => ⟨rfl, by rw [hU], by rw [hU]; exact hPc, va_K.moved hW.alike hK, hDc.weaken (fun _ _ _ _ => trivial)⟩⟩ rfl rfl hl.1 rfl (lv_room (Nat.le_of_ble_eq_true rfl)) dX2_isWritten_71 ⟨Nat.le_of_ble_eq_true rfl, Nat.le_of_ble_eq_true rfl⟩) hS (fun q _ h => hFc q h) hFc (fun r_1 u t H1 locs ht hvm hw hB hz1 hk1 hS => ?_)
  obtain ⟨hP1, hD1⟩ := hB
  rw [ht] at hP1
  obtain ⟨hP, hD⟩ := va_join (wr := []) (w1 := [(oC, .inr (2, [.ref o4, .ref o5])), (o4, .inr (10, [.ref a41, .ref a42, .ref a43, .int 0])), (a41, .inl (cI, 256, .inl (fun _ => (-1)))), (o5, .inr (10, [.ref a51, .ref a52, .ref a53, .int 0])), (a51, .inl (cI, 256, .inl (fun _ => (-1))))]) hP hD [0, 1, 2, 3, 4] [] rfl rfl (by decide) (by decide) hk1 hFc hP1 hD1
  generalize H1 = H at hP hS ⊢
  have hP : va_P (dC, dI) vwCl [(oC, .inr (2, [.ref o4, .ref o5])), (o4, .inr (10, [.ref a41, .ref a42, .ref a43, .int 0])), (a41, .inl (cI, 256, .inl (fun _ => (-1)))), (o5, .inr (10, [.ref a51, .ref a52, .ref a53, .int 0])), (a51, .inl (cI, 256, .inl (fun _ => (-1))))] H := hP
  have hD : va_D A [(oC, .inr (2, [.ref o4, .ref o5])), (o4, .inr (10, [.ref a41, .ref a42, .ref a43, .int 0])), (a41, .inl (cI, 256, .inl (fun _ => (-1)))), (o5, .inr (10, [.ref a51, .ref a52, .ref a53, .int 0])), (a51, .inl (cI, 256, .inl (fun _ => (-1))))] := hD
  rw [hw]
  refine lv_iconst (v := (-1)) hx hb dX2_isWritten_74 (by decide) ?_
  refine lv_icmp_eq (tgt := 82) hx hb dX2_isWritten_75 (by decide) (fun c_2 => ?_) (fun c_2 => ?_)
  · refine lv_iconst (v := 0) hx hb dX2_isWritten_82 (by decide) ?_
    have hP9 := hP.sub (ws' := [(oC, .inr (2, [.ref o4, .ref o5])), (o4, .inr (10, [.ref a41, .ref a42, .ref a43, .int 0])), (a41, .inl (cI, 256, .inl (fun _ => (-1)))), (o5, .inr (10, [.ref a51, .ref a52, .ref a53, .int 0])), (a51, .inl (cI, 256, .inl (fun _ => (-1))))]) [0, 1, 2, 3, 4] rfl
    have hD9 := hD.sub (ws' := [(oC, .inr (2, [.ref o4, .ref o5])), (o4, .inr (10, [.ref a41, .ref a42, .ref a43, .int 0])), (a41, .inl (cI, 256, .inl (fun _ => (-1)))), (o5, .inr (10, [.ref a51, .ref a52, .ref a53, .int 0])), (a51, .inl (cI, 256, .inl (fun _ => (-1))))]) [0, 1, 2, 3, 4] (by decide) rfl
    exact W.zret (v := 0) (ty := .boolean) hx hb hr (rfl) (fun t ht hW => ⟨⟨0, (), rfl, by first | rfl | decide | simp [f_wr, c_2], by rw [ht]; exact hP9, hD9⟩, hS.F ht⟩) (hS.2.2) dX2_isWritten_83
  · refine lv_iconst (v := 1) hx hb dX2_isWritten_78 (by decide) ?_
    refine lv_goto (tgt := 83) hx hb dX2_isWritten_79 (by decide) ?_
    have hP9 := hP.sub (ws' := [(oC, .inr (2, [.ref o4, .ref o5])), (o4, .inr (10, [.ref a41, .ref a42, .ref a43, .int 0])), (a41, .inl (cI, 256, .inl (fun _ => (-1)))), (o5, .inr (10, [.ref a51, .ref a52, .ref a53, .int 0])), (a51, .inl (cI, 256, .inl (fun _ => (-1))))]) [0, 1, 2, 3, 4] rfl
    have hD9 := hD.sub (ws' := [(oC, .inr (2, [.ref o4, .ref o5])), (o4, .inr (10, [.ref a41, .ref a42, .ref a43, .int 0])), (a41, .inl (cI, 256, .inl (fun _ => (-1)))), (o5, .inr (10, [.ref a51, .ref a52, .ref a53, .int 0])), (a51, .inl (cI, 256, .inl (fun _ => (-1))))]) [0, 1, 2, 3, 4] (by decide) rfl
    exact W.zret (v := 1) (ty := .boolean) hx hb hr (rfl) (fun t ht hW => ⟨⟨1, (), rfl, by first | rfl | decide | simp [f_wr, c_2], by rw [ht]; exact hP9, hD9⟩, hS.F ht⟩) (hS.2.2) dX2_isWritten_83

theorem m_X2_isWritten (l : Launch) (dC : Nat → ClassId) (dI : Nat → Nat → Nat) (cI cS : ClassId) (sz : Nat) (oC : Nat) (o4 : Nat) (o5 : Nat) (a41 : Nat) (a42 : Nat) (a43 : Nat) (a51 : Nat) (a52 : Nat) (a53 : Nat) (cd : Int32) (v : Int32) (hcd : is_code cd) : Met l yX2_isWritten wsX2_isWritten ({ frames := 2, cells := 0, slots := 0, locals := 44 } : Room) (va_Pc [.ref oC, .int cd, .int v] (fun U => U.heap.size = sz ∧ va_P (dC, dI) vwCl [(oC, .inr (2, [.ref o4, .ref o5])), (o4, .inr (10, [.ref a41, .ref a42, .ref a43, .int 0])), (a41, .inl (cI, 256, .inl (fun _ => (-1)))), (o5, .inr (10, [.ref a51, .ref a52, .ref a53, .int 0])), (a51, .inl (cI, 256, .inl (fun _ => (-1))))] U.heap ∧ va_K (dC, dI) vwCl [(cI, .int), (cS, .short)] U ∧ va_D (fun _ => True) [(oC, .inr (2, [.ref o4, .ref o5])), (o4, .inr (10, [.ref a41, .ref a42, .ref a43, .int 0])), (a41, .inl (cI, 256, .inl (fun _ => (-1)))), (o5, .inr (10, [.ref a51, .ref a52, .ref a53, .int 0])), (a51, .inl (cI, 256, .inl (fun _ => (-1))))])) (va_Qi (fun (r : Int32) (_ : Unit) => r = f_wr cd v) (fun _ t => va_P (dC, dI) vwCl [(oC, .inr (2, [.ref o4, .ref o5])), (o4, .inr (10, [.ref a41, .ref a42, .ref a43, .int 0])), (a41, .inl (cI, 256, .inl (fun _ => (-1)))), (o5, .inr (10, [.ref a51, .ref a52, .ref a53, .int 0])), (a51, .inl (cI, 256, .inl (fun _ => (-1))))] t.heap ∧ va_D (va_A [(oC, .inr (2, [.ref o4, .ref o5])), (o4, .inr (10, [.ref a41, .ref a42, .ref a43, .int 0])), (a41, .inl (cI, 256, .inl (fun _ => (-1)))), (o5, .inr (10, [.ref a51, .ref a52, .ref a53, .int 0])), (a51, .inl (cI, 256, .inl (fun _ => (-1))))] sz) [(oC, .inr (2, [.ref o4, .ref o5])), (o4, .inr (10, [.ref a41, .ref a42, .ref a43, .int 0])), (a41, .inl (cI, 256, .inl (fun _ => (-1)))), (o5, .inr (10, [.ref a51, .ref a52, .ref a53, .int 0])), (a51, .inl (cI, 256, .inl (fun _ => (-1))))]) (va_A [(oC, .inr (2, [.ref o4, .ref o5])), (o4, .inr (10, [.ref a41, .ref a42, .ref a43, .int 0])), (a41, .inl (cI, 256, .inl (fun _ => (-1)))), (o5, .inr (10, [.ref a51, .ref a52, .ref a53, .int 0])), (a51, .inl (cI, 256, .inl (fun _ => (-1))))] sz)) 0 0 (va_A [(oC, .inr (2, [.ref o4, .ref o5])), (o4, .inr (10, [.ref a41, .ref a42, .ref a43, .int 0])), (a41, .inl (cI, 256, .inl (fun _ => (-1)))), (o5, .inr (10, [.ref a51, .ref a52, .ref a53, .int 0])), (a51, .inl (cI, 256, .inl (fun _ => (-1))))] sz) := by
  rcases hcd with rfl | rfl | rfl | rfl | rfl | rfl
  · exact m_X2_isWritten_0 l dC dI cI cS sz oC o4 o5 a41 a42 a43 a51 a52 a53 v
  · exact m_X2_isWritten_1 l dC dI cI cS sz oC o4 o5 a41 a42 a43 a51 a52 a53 v
  · exact m_X2_isWritten_2 l dC dI cI cS sz oC o4 o5 a41 a42 a43 a51 a52 a53 v
  · exact m_X2_isWritten_3 l dC dI cI cS sz oC o4 o5 a41 a42 a43 a51 a52 a53 v
  · exact m_X2_isWritten_4 l dC dI cI cS sz oC o4 o5 a41 a42 a43 a51 a52 a53 v
  · exact m_X2_isWritten_5 l dC dI cI cS sz oC o4 o5 a41 a42 a43 a51 a52 a53 v

set_option maxHeartbeats 4000000 in
set_option maxRecDepth 100000 in
theorem m_X2_neverLost (l : Launch) (dC : Nat → ClassId) (dI : Nat → Nat → Nat) (cI cS : ClassId) (sz : Nat) (oC : Nat) (o4 : Nat) (o5 : Nat) (a41 : Nat) (a42 : Nat) (a43 : Nat) (a51 : Nat) (a52 : Nat) (a53 : Nat) (a : Int32) (b : Int32) (hca : is_code a) (hcb : is_code b) : Met l yX2_neverLost wsX2_neverLost ({ frames := 3, cells := 0, slots := 0, locals := 66 } : Room) (va_Pc [.ref oC, .int a, .int b] (fun U => U.heap.size = sz ∧ va_P (dC, dI) vwCl [(oC, .inr (2, [.ref o4, .ref o5])), (o4, .inr (10, [.ref a41, .ref a42, .ref a43, .int 0])), (a41, .inl (cI, 256, .inl (fun _ => (-1)))), (o5, .inr (10, [.ref a51, .ref a52, .ref a53, .int 0])), (a51, .inl (cI, 256, .inl (fun _ => (-1))))] U.heap ∧ va_K (dC, dI) vwCl [(cI, .int), (cS, .short)] U ∧ va_D (fun _ => True) [(oC, .inr (2, [.ref o4, .ref o5])), (o4, .inr (10, [.ref a41, .ref a42, .ref a43, .int 0])), (a41, .inl (cI, 256, .inl (fun _ => (-1)))), (o5, .inr (10, [.ref a51, .ref a52, .ref a53, .int 0])), (a51, .inl (cI, 256, .inl (fun _ => (-1))))])) (va_Qi (fun (r : Int32) (_ : Unit) => r = f_never a b) (fun _ _ => True) (va_A [(oC, .inr (2, [.ref o4, .ref o5])), (o4, .inr (10, [.ref a41, .ref a42, .ref a43, .int 0])), (a41, .inl (cI, 256, .inl (fun _ => (-1)))), (o5, .inr (10, [.ref a51, .ref a52, .ref a53, .int 0])), (a51, .inl (cI, 256, .inl (fun _ => (-1))))] sz)) 0 0 (va_A [(oC, .inr (2, [.ref o4, .ref o5])), (o4, .inr (10, [.ref a41, .ref a42, .ref a43, .int 0])), (a41, .inl (cI, 256, .inl (fun _ => (-1)))), (o5, .inr (10, [.ref a51, .ref a52, .ref a53, .int 0])), (a51, .inl (cI, 256, .inl (fun _ => (-1))))] sz) := by
  refine Met.ofW (cc := cX2_neverLost) (maxL := 4) (ret := (some .boolean)) (by decide) rfl ?_
  intro p e s m args below meth c s₁ B hml hv
  obtain ⟨rfl, hsz, hP, hK, hD0⟩ := hv
  have hx := B.exec
  have hb := B.bytes
  have hr := B.returns
  have hts := atoms_spec (ws := wsX2_neverLost) B.pre
  have hown : s.vm.findClass RX2 = some m.cls := findClass_of_methodNamed B.named
  have hlocks := B.notSynchronized
  subst hsz
  have hD := hD0.self (sz := s.heap.size)
  generalize hAe : va_A [(oC, .inr (2, [.ref o4, .ref o5])), (o4, .inr (10, [.ref a41, .ref a42, .ref a43, .int 0])), (a41, .inl (cI, 256, .inl (fun _ => (-1)))), (o5, .inr (10, [.ref a51, .ref a52, .ref a53, .int 0])), (a51, .inl (cI, 256, .inl (fun _ => (-1))))] s.heap.size = A at hD ⊢
  have hA : ∀ q : Nat, s.heap.size ≤ q → A q := fun q h => by rw [← hAe]; exact Or.inr h
  have hS : va_S A s.heap s.heap [] := va_S.rf
  have hP : va_P (dC, dI) vwCl [(oC, .inr (2, [.ref o4, .ref o5])), (o4, .inr (10, [.ref a41, .ref a42, .ref a43, .int 0])), (a41, .inl (cI, 256, .inl (fun _ => (-1)))), (o5, .inr (10, [.ref a51, .ref a52, .ref a53, .int 0])), (a51, .inl (cI, 256, .inl (fun _ => (-1))))] s.heap := hP
  have hl := lv_entry ([.ref oC, .int a, .int b]) (n := 4) (Nat.le_of_ble_eq_true rfl)
  rw [lg_entry_eq]
  generalize (lg_sl ([.ref oC, .int a, .int b]) ++ List.replicate (4 - (lg_sl ([.ref oC, .int a, .int b])).length) Slot.unset).toArray = ls at hl ⊢
  have hl : lv_has ls 4 [(0, .ref oC), (1, .int a), (2, .int b)] := hl
  refine lv_iload_n hx hb dX2_neverLost_0 rfl (lv_at hl 1 rfl) ?_
  refine lv_iload_n hx hb dX2_neverLost_1 rfl (lv_at hl 2 rfl) ?_
  refine lv_icmp_ne (tgt := 7) hx hb dX2_neverLost_2 (by decide) (fun c_1 => ?_) (fun c_1 => ?_)
  · refine lv_iconst (v := 0) hx hb dX2_neverLost_7 (by decide) ?_
    refine lv_istore_n (lv' := [(3, .int 0), (0, .ref oC), (1, .int a), (2, .int b)]) hx hb dX2_neverLost_8 rfl hl (by decide) rfl (fun ls hl => ?_)
    have LOOP_9 : ∀ (k_9 i_9 : Nat) (xc_9 : Int32)  (H : Heap) (locs : List Loc) (ls : Array Slot), i_9 + k_9 = 256 → xc_9 = nI i_9 →  (∀ j, j < i_9 → f_ok a b (nI j) = true) → va_P (dC, dI) vwCl [(oC, .inr (2, [.ref o4, .ref o5])), (o4, .inr (10, [.ref a41, .ref a42, .ref a43, .int 0])), (a41, .inl (cI, 256, .inl (fun _ => (-1)))), (o5, .inr (10, [.ref a51, .ref a52, .ref a53, .int 0])), (a51, .inl (cI, 256, .inl (fun _ => (-1))))] H → va_D A [(oC, .inr (2, [.ref o4, .ref o5])), (o4, .inr (10, [.ref a41, .ref a42, .ref a43, .int 0])), (a41, .inl (cI, 256, .inl (fun _ => (-1)))), (o5, .inr (10, [.ref a51, .ref a52, .ref a53, .int 0])), (a51, .inl (cI, 256, .inl (fun _ => (-1))))] → va_S A s.heap H locs → lv_has ls 4 [(3, .int xc_9), (0, .ref oC), (1, .int a), (2, .int b)] → W p l e (headSpec wsX2_neverLost ({ frames := 3, cells := 0, slots := 0, locals := 66 } : Room)).room s m ([.ref oC, .int a, .int b] : List Value).toArray below meth c H locs 0 0 (MQ below (va_Qi (fun (r : Int32) (_ : Unit) => r = f_never a b) (fun _ _ => True) A) ([.ref oC, .int a, .int b] : List Value).toArray s 0 0 A) (F0 m 9 ls []) := by
      intro k_9
      induction k_9 with
      | zero =>
        intro i_9 xc_9  H locs ls hi_9 hxc_9  hok hP hD hS hl
        have hi2_9 : i_9 = 256 := by omega
        refine lv_iload_n hx hb dX2_neverLost_9 rfl (lv_at hl 0 rfl) ?_
        refine lv_sipush (v := 256) hx hb dX2_neverLost_10 (by decide) ?_
        refine lv_icmp_ge (tgt := 43) hx hb dX2_neverLost_13 (by decide) (fun c_2 => ?_) (fun c_2 => absurd (by rw [hxc_9]; exact nI_le (a := 256) (b := i_9) (by omega) (by rw [hi2_9]; exact (by decide))) c_2)
        refine lv_iconst (v := 1) hx hb dX2_neverLost_43 (by decide) ?_
        exact W.zret (v := 1) (ty := .boolean) hx hb hr (rfl) (fun t ht hW => ⟨⟨1, (), rfl, by rw [f_never, if_neg c_1, if_pos (p_all (fun j hj => hok j (by omega)))], trivial⟩, hS.F ht⟩) (hS.2.2) dX2_neverLost_44
      | succ k_9 ih_9 =>
        intro i_9 xc_9  H locs ls hi_9 hxc_9  hok hP hD hS hl
        refine lv_iload_n hx hb dX2_neverLost_9 rfl (lv_at hl 0 rfl) ?_
        refine lv_sipush (v := 256) hx hb dX2_neverLost_10 (by decide) ?_
        refine lv_icmp_ge (tgt := 43) hx hb dX2_neverLost_13 (by decide) (fun c_3 => absurd c_3 (by rw [hxc_9]; exact nI_ge (a := i_9) (b := 256) (by omega) (by decide))) (fun c_3 => ?_)
        refine lv_aload_n hx hb dX2_neverLost_16 rfl (lv_at hl 1 rfl) ?_
        refine lv_iload_n hx hb dX2_neverLost_17 rfl (lv_at hl 2 rfl) ?_
        refine lv_iload_n hx hb dX2_neverLost_18 rfl (lv_at hl 0 rfl) ?_
        have hPc := hP.sub (ws' := [(oC, .inr (2, [.ref o4, .ref o5])), (o4, .inr (10, [.ref a41, .ref a42, .ref a43, .int 0])), (a41, .inl (cI, 256, .inl (fun _ => (-1)))), (o5, .inr (10, [.ref a51, .ref a52, .ref a53, .int 0])), (a51, .inl (cI, 256, .inl (fun _ => (-1))))]) [0, 1, 2, 3, 4] rfl
        have hDc := hD.sub (ws' := [(oC, .inr (2, [.ref o4, .ref o5])), (o4, .inr (10, [.ref a41, .ref a42, .ref a43, .int 0])), (a41, .inl (cI, 256, .inl (fun _ => (-1)))), (o5, .inr (10, [.ref a51, .ref a52, .ref a53, .int 0])), (a51, .inl (cI, 256, .inl (fun _ => (-1))))]) [0, 1, 2, 3, 4] (by decide) rfl
        have hFc := va_free (wc := [(oC, .inr (2, [.ref o4, .ref o5])), (o4, .inr (10, [.ref a41, .ref a42, .ref a43, .int 0])), (a41, .inl (cI, 256, .inl (fun _ => (-1)))), (o5, .inr (10, [.ref a51, .ref a52, .ref a53, .int 0])), (a51, .inl (cI, 256, .inl (fun _ => (-1))))]) hD hS hA [0, 1, 2, 3, 4] rfl
        refine va_calli (va_runV (As := [.int a, .int xc_9]) (rest := []) ⟨hx, hb, hml, hown, hts⟩ (m_X2_isWritten l dC dI cI cS H.size oC o4 o5 a41 a42 a43 a51 a52 a53 a xc_9 (by assumption)) (cwV 2 hts gX2_neverLost_X2_isWritten rfl rfl rfl (by decide +kernel) ⟨Nat.le_of_ble_eq_true rfl, Nat.le_of_ble_eq_true rfl⟩) ⟨fun a U g mk q => by obtain ⟨q0, q1, qP, qK, qD⟩ := q; exact ⟨q0, q1, qP, va_K.moved (u := U) (U := U.calling g mk a) (Vm.Alike.refl U.vm) qK, qD⟩, va_recv hK hPc (ci := 2) (q0 := 0) rfl rfl, fun U hU hW => ⟨rfl, by rw [hU], by rw [hU]; exact hPc, va_K.moved hW.alike hK, hDc.weaken (fun _ _ _ _ => trivial)⟩⟩ rfl rfl hl.1 rfl (lv_room (Nat.le_of_ble_eq_true rfl)) dX2_neverLost_19 ⟨Nat.le_of_ble_eq_true rfl, Nat.le_of_ble_eq_true rfl⟩) hS (fun q _ h => hFc q h) hFc (fun r_4 u t H1 locs ht hvm hw hB hz1 hk1 hS => ?_)
        obtain ⟨hP1, hD1⟩ := hB
        rw [ht] at hP1
        obtain ⟨hP, hD⟩ := va_join (wr := []) (w1 := [(oC, .inr (2, [.ref o4, .ref o5])), (o4, .inr (10, [.ref a41, .ref a42, .ref a43, .int 0])), (a41, .inl (cI, 256, .inl (fun _ => (-1)))), (o5, .inr (10, [.ref a51, .ref a52, .ref a53, .int 0])), (a51, .inl (cI, 256, .inl (fun _ => (-1))))]) hP hD [0, 1, 2, 3, 4] [] rfl rfl (by decide) (by decide) hk1 hFc hP1 hD1
        generalize H1 = H at hP hS ⊢
        have hP : va_P (dC, dI) vwCl [(oC, .inr (2, [.ref o4, .ref o5])), (o4, .inr (10, [.ref a41, .ref a42, .ref a43, .int 0])), (a41, .inl (cI, 256, .inl (fun _ => (-1)))), (o5, .inr (10, [.ref a51, .ref a52, .ref a53, .int 0])), (a51, .inl (cI, 256, .inl (fun _ => (-1))))] H := hP
        have hD : va_D A [(oC, .inr (2, [.ref o4, .ref o5])), (o4, .inr (10, [.ref a41, .ref a42, .ref a43, .int 0])), (a41, .inl (cI, 256, .inl (fun _ => (-1)))), (o5, .inr (10, [.ref a51, .ref a52, .ref a53, .int 0])), (a51, .inl (cI, 256, .inl (fun _ => (-1))))] := hD
        rw [hw]
        refine lv_if_eq (tgt := 37) hx hb dX2_neverLost_22 (by decide) (fun c_5 => ?_) (fun c_5 => ?_)
        · obtain ⟨x_6, ex_6⟩ : ∃ y : Int32, y = xc_9 + 1 := ⟨_, rfl⟩
          refine lv_iinc (v := x_6) (lv' := [(3, .int x_6), (0, .ref oC), (1, .int a), (2, .int b)]) hx hb dX2_neverLost_37 hl (k := 0) rfl (by rw [ex_6]; rfl) (by decide) rfl (fun ls hl => ?_)
          refine lv_goto (tgt := 9) hx hb dX2_neverLost_40 (by decide) ?_
          exact ih_9 (i_9 + 1) x_6  _ _ _ (by omega) (by rw [ex_6, hxc_9]; exact nI_1 i_9)  (lt_s hok (by rw [← hxc_9]; simp [f_ok, c_1, c_5])) hP hD hS (lv_sub hl [0, 1, 2, 3] rfl)
        · refine lv_aload_n hx hb dX2_neverLost_25 rfl (lv_at hl 1 rfl) ?_
          refine lv_iload_n hx hb dX2_neverLost_26 rfl (lv_at hl 3 rfl) ?_
          refine lv_iload_n hx hb dX2_neverLost_27 rfl (lv_at hl 0 rfl) ?_
          have hPc := hP.sub (ws' := [(oC, .inr (2, [.ref o4, .ref o5])), (o4, .inr (10, [.ref a41, .ref a42, .ref a43, .int 0])), (a41, .inl (cI, 256, .inl (fun _ => (-1)))), (o5, .inr (10, [.ref a51, .ref a52, .ref a53, .int 0])), (a51, .inl (cI, 256, .inl (fun _ => (-1))))]) [0, 1, 2, 3, 4] rfl
          have hDc := hD.sub (ws' := [(oC, .inr (2, [.ref o4, .ref o5])), (o4, .inr (10, [.ref a41, .ref a42, .ref a43, .int 0])), (a41, .inl (cI, 256, .inl (fun _ => (-1)))), (o5, .inr (10, [.ref a51, .ref a52, .ref a53, .int 0])), (a51, .inl (cI, 256, .inl (fun _ => (-1))))]) [0, 1, 2, 3, 4] (by decide) rfl
          have hFc := va_free (wc := [(oC, .inr (2, [.ref o4, .ref o5])), (o4, .inr (10, [.ref a41, .ref a42, .ref a43, .int 0])), (a41, .inl (cI, 256, .inl (fun _ => (-1)))), (o5, .inr (10, [.ref a51, .ref a52, .ref a53, .int 0])), (a51, .inl (cI, 256, .inl (fun _ => (-1))))]) hD hS hA [0, 1, 2, 3, 4] rfl
          refine va_calli (va_runV (As := [.int b, .int xc_9]) (rest := []) ⟨hx, hb, hml, hown, hts⟩ (m_X2_letterAlone l dC dI cI cS H.size oC o4 o5 a41 a42 a43 a51 a52 a53 b xc_9 (by assumption)) (cwV 2 hts gX2_neverLost_X2_letterAlone rfl rfl rfl (by decide +kernel) ⟨Nat.le_of_ble_eq_true rfl, Nat.le_of_ble_eq_true rfl⟩) ⟨fun a U g mk q => by obtain ⟨q0, q1, qP, qK, qD⟩ := q; exact ⟨q0, q1, qP, va_K.moved (u := U) (U := U.calling g mk a) (Vm.Alike.refl U.vm) qK, qD⟩, va_recv hK hPc (ci := 2) (q0 := 0) rfl rfl, fun U hU hW => ⟨rfl, by rw [hU], by rw [hU]; exact hPc, va_K.moved hW.alike hK, hDc.weaken (fun _ _ _ _ => trivial)⟩⟩ rfl rfl hl.1 rfl (lv_room (Nat.le_of_ble_eq_true rfl)) dX2_neverLost_28 ⟨Nat.le_of_ble_eq_true rfl, Nat.le_of_ble_eq_true rfl⟩) hS (fun q _ h => hFc q h) hFc (fun r_7 u t H1 locs ht hvm hw hB hz1 hk1 hS => ?_)
          obtain ⟨hP1, hD1⟩ := hB
          rw [ht] at hP1
          obtain ⟨hP, hD⟩ := va_join (wr := []) (w1 := [(oC, .inr (2, [.ref o4, .ref o5])), (o4, .inr (10, [.ref a41, .ref a42, .ref a43, .int 0])), (a41, .inl (cI, 256, .inl (fun _ => (-1)))), (o5, .inr (10, [.ref a51, .ref a52, .ref a53, .int 0])), (a51, .inl (cI, 256, .inl (fun _ => (-1))))]) hP hD [0, 1, 2, 3, 4] [] rfl rfl (by decide) (by decide) hk1 hFc hP1 hD1
          generalize H1 = H at hP hS ⊢
          have hP : va_P (dC, dI) vwCl [(oC, .inr (2, [.ref o4, .ref o5])), (o4, .inr (10, [.ref a41, .ref a42, .ref a43, .int 0])), (a41, .inl (cI, 256, .inl (fun _ => (-1)))), (o5, .inr (10, [.ref a51, .ref a52, .ref a53, .int 0])), (a51, .inl (cI, 256, .inl (fun _ => (-1))))] H := hP
          have hD : va_D A [(oC, .inr (2, [.ref o4, .ref o5])), (o4, .inr (10, [.ref a41, .ref a42, .ref a43, .int 0])), (a41, .inl (cI, 256, .inl (fun _ => (-1)))), (o5, .inr (10, [.ref a51, .ref a52, .ref a53, .int 0])), (a51, .inl (cI, 256, .inl (fun _ => (-1))))] := hD
          rw [hw]
          refine lv_iconst (v := (-1)) hx hb dX2_neverLost_31 (by decide) ?_
          refine lv_icmp_ne (tgt := 37) hx hb dX2_neverLost_32 (by decide) (fun c_8 => ?_) (fun c_8 => ?_)
          · obtain ⟨x_9, ex_9⟩ : ∃ y : Int32, y = xc_9 + 1 := ⟨_, rfl⟩
            refine lv_iinc (v := x_9) (lv' := [(3, .int x_9), (0, .ref oC), (1, .int a), (2, .int b)]) hx hb dX2_neverLost_37 hl (k := 0) rfl (by rw [ex_9]; rfl) (by decide) rfl (fun ls hl => ?_)
            refine lv_goto (tgt := 9) hx hb dX2_neverLost_40 (by decide) ?_
            exact ih_9 (i_9 + 1) x_9  _ _ _ (by omega) (by rw [ex_9, hxc_9]; exact nI_1 i_9)  (lt_s hok (by rw [← hxc_9]; simp [f_ok, c_1, c_5, c_8])) hP hD hS (lv_sub hl [0, 1, 2, 3] rfl)
          · refine lv_iconst (v := 0) hx hb dX2_neverLost_35 (by decide) ?_
            exact W.zret (v := 0) (ty := .boolean) hx hb hr (rfl) (fun t ht hW => ⟨⟨0, (), rfl, by rw [f_never, if_neg c_1, if_neg (p_notall (i := i_9) (by omega) (by rw [← hxc_9]; simp [f_ok, c_1, c_5, c_8]))], trivial⟩, hS.F ht⟩) (hS.2.2) dX2_neverLost_36
    exact LOOP_9 256 0 0  _ _ _ (by omega) nI_0.symm  (fun j hj => absurd hj (Nat.not_lt_zero j)) hP hD hS (lv_sub hl [0, 1, 2, 3] rfl)
  · refine lv_iconst (v := 1) hx hb dX2_neverLost_5 (by decide) ?_
    exact W.zret (v := 1) (ty := .boolean) hx hb hr (rfl) (fun t ht hW => ⟨⟨1, (), rfl, by rw [f_never, if_pos c_1], trivial⟩, hS.F ht⟩) (hS.2.2) dX2_neverLost_6

set_option maxHeartbeats 4000000 in
set_option maxRecDepth 100000 in
theorem x_safe (l : Launch) (dC : Nat → ClassId) (dI : Nat → Nat → Nat) (cI cS : ClassId) (sz : Nat) (oX : Nat) (nT : Nat) (nL : Nat) (nM : Nat) (oC : Nat) (oP : Nat) (oH : Nat) (oK : Nat) (oG : Nat) (oR : Nat) (oQ : Nat) (oW : Nat) (o4 : Nat) (o5 : Nat) (a41 : Nat) (a42 : Nat) (a43 : Nat) (a51 : Nat) (a52 : Nat) (a53 : Nat) (a : Int32) (b : Int32)  : Met l yX11_safe wsX11_safe ({ frames := 4, cells := 0, slots := 0, locals := 89 } : Room) (va_Pc [.ref oX, .int a, .int b] (fun U => U.heap.size = sz ∧ va_P (dC, dI) vwCl [(oX, .inr (11, [.ref nT, .ref nL, .ref nM, .ref oC, .ref oP, .ref oH, .ref oK, .ref oG, .ref oR, .ref oQ, .ref oW, .int (-1)])), (oC, .inr (2, [.ref o4, .ref o5])), (o4, .inr (10, [.ref a41, .ref a42, .ref a43, .int 0])), (a41, .inl (cI, 256, .inl (fun _ => (-1)))), (o5, .inr (10, [.ref a51, .ref a52, .ref a53, .int 0])), (a51, .inl (cI, 256, .inl (fun _ => (-1))))] U.heap ∧ va_K (dC, dI) vwCl [(cI, .int), (cS, .short)] U ∧ va_D (fun _ => True) [(oX, .inr (11, [.ref nT, .ref nL, .ref nM, .ref oC, .ref oP, .ref oH, .ref oK, .ref oG, .ref oR, .ref oQ, .ref oW, .int (-1)])), (oC, .inr (2, [.ref o4, .ref o5])), (o4, .inr (10, [.ref a41, .ref a42, .ref a43, .int 0])), (a41, .inl (cI, 256, .inl (fun _ => (-1)))), (o5, .inr (10, [.ref a51, .ref a52, .ref a53, .int 0])), (a51, .inl (cI, 256, .inl (fun _ => (-1))))])) (va_Qi (fun (r : Int32) (_ : Unit) => r = f_safe a b) (fun _ _ => True) (va_A [(oX, .inr (11, [.ref nT, .ref nL, .ref nM, .ref oC, .ref oP, .ref oH, .ref oK, .ref oG, .ref oR, .ref oQ, .ref oW, .int (-1)])), (oC, .inr (2, [.ref o4, .ref o5])), (o4, .inr (10, [.ref a41, .ref a42, .ref a43, .int 0])), (a41, .inl (cI, 256, .inl (fun _ => (-1)))), (o5, .inr (10, [.ref a51, .ref a52, .ref a53, .int 0])), (a51, .inl (cI, 256, .inl (fun _ => (-1))))] sz)) 0 0 (va_A [(oX, .inr (11, [.ref nT, .ref nL, .ref nM, .ref oC, .ref oP, .ref oH, .ref oK, .ref oG, .ref oR, .ref oQ, .ref oW, .int (-1)])), (oC, .inr (2, [.ref o4, .ref o5])), (o4, .inr (10, [.ref a41, .ref a42, .ref a43, .int 0])), (a41, .inl (cI, 256, .inl (fun _ => (-1)))), (o5, .inr (10, [.ref a51, .ref a52, .ref a53, .int 0])), (a51, .inl (cI, 256, .inl (fun _ => (-1))))] sz) := by
  refine Met.ofW (cc := cX11_safe) (maxL := 3) (ret := (some .int)) (by decide) rfl ?_
  intro p e s m args below meth c s₁ B hml hv
  obtain ⟨rfl, hsz, hP, hK, hD0⟩ := hv
  have hx := B.exec
  have hb := B.bytes
  have hr := B.returns
  have hts := atoms_spec (ws := wsX11_safe) B.pre
  have hown : s.vm.findClass RX11 = some m.cls := findClass_of_methodNamed B.named
  have hlocks := B.notSynchronized
  have in_X11 : ∀ w ∈ wsX110, w ∈ wsX11_safe := fun _ h => List.mem_cons_of_mem _ (List.mem_append_left _ (List.mem_append_left _ (List.mem_append_right _ (h))))
  subst hsz
  have hD := hD0.self (sz := s.heap.size)
  generalize hAe : va_A [(oX, .inr (11, [.ref nT, .ref nL, .ref nM, .ref oC, .ref oP, .ref oH, .ref oK, .ref oG, .ref oR, .ref oQ, .ref oW, .int (-1)])), (oC, .inr (2, [.ref o4, .ref o5])), (o4, .inr (10, [.ref a41, .ref a42, .ref a43, .int 0])), (a41, .inl (cI, 256, .inl (fun _ => (-1)))), (o5, .inr (10, [.ref a51, .ref a52, .ref a53, .int 0])), (a51, .inl (cI, 256, .inl (fun _ => (-1))))] s.heap.size = A at hD ⊢
  have hA : ∀ q : Nat, s.heap.size ≤ q → A q := fun q h => by rw [← hAe]; exact Or.inr h
  have hS : va_S A s.heap s.heap [] := va_S.rf
  have hP : va_P (dC, dI) vwCl [(oX, .inr (11, [.ref nT, .ref nL, .ref nM, .ref oC, .ref oP, .ref oH, .ref oK, .ref oG, .ref oR, .ref oQ, .ref oW, .int (-1)])), (oC, .inr (2, [.ref o4, .ref o5])), (o4, .inr (10, [.ref a41, .ref a42, .ref a43, .int 0])), (a41, .inl (cI, 256, .inl (fun _ => (-1)))), (o5, .inr (10, [.ref a51, .ref a52, .ref a53, .int 0])), (a51, .inl (cI, 256, .inl (fun _ => (-1))))] s.heap := hP
  have hl := lv_entry ([.ref oX, .int a, .int b]) (n := 3) (Nat.le_of_ble_eq_true rfl)
  rw [lg_entry_eq]
  generalize (lg_sl ([.ref oX, .int a, .int b]) ++ List.replicate (3 - (lg_sl ([.ref oX, .int a, .int b])).length) Slot.unset).toArray = ls at hl ⊢
  have hl : lv_has ls 3 [(0, .ref oX), (1, .int a), (2, .int b)] := hl
  refine lv_aload_n hx hb dX11_safe_0 rfl (lv_at hl 0 rfl) ?_
  refine lv_iconst (v := (-1)) hx hb dX11_safe_1 (by decide) ?_
  refine va_put (D := (dC, dI)) (ci := 11) (v := .int (-1)) (ty := .int) (C := RX11) (T := TX11) (N := 12) hx hb hts in_X11 tyX11 tyX11_ok nmX11 hown hK hP hD hS 0 rfl rfl 11 (by decide) (hts (.fieldLink RX11 90 "TextMender" "fault" "I") (List.mem_of_getElem? (i := 1) rfl)) (fun _ h9 => h9) rfl (by decide +kernel) rfl rfl (Nat.le_of_ble_eq_true rfl) dX11_safe_2 (fun H locs hP hD hS => ?_)
  have hP : va_P (dC, dI) vwCl [(oX, .inr (11, [.ref nT, .ref nL, .ref nM, .ref oC, .ref oP, .ref oH, .ref oK, .ref oG, .ref oR, .ref oQ, .ref oW, .int (-1)])), (oC, .inr (2, [.ref o4, .ref o5])), (o4, .inr (10, [.ref a41, .ref a42, .ref a43, .int 0])), (a41, .inl (cI, 256, .inl (fun _ => (-1)))), (o5, .inr (10, [.ref a51, .ref a52, .ref a53, .int 0])), (a51, .inl (cI, 256, .inl (fun _ => (-1))))] H := hP
  have hD : va_D A [(oX, .inr (11, [.ref nT, .ref nL, .ref nM, .ref oC, .ref oP, .ref oH, .ref oK, .ref oG, .ref oR, .ref oQ, .ref oW, .int (-1)])), (oC, .inr (2, [.ref o4, .ref o5])), (o4, .inr (10, [.ref a41, .ref a42, .ref a43, .int 0])), (a41, .inl (cI, 256, .inl (fun _ => (-1)))), (o5, .inr (10, [.ref a51, .ref a52, .ref a53, .int 0])), (a51, .inl (cI, 256, .inl (fun _ => (-1))))] := hD
  refine lv_iload_n hx hb dX11_safe_5 rfl (lv_at hl 1 rfl) ?_
  have hPc := hP.sub (ws' := []) [] rfl
  have hDc := hD.sub (ws' := []) [] (by decide) rfl
  have hFc := va_free (wc := []) hD hS hA [] rfl
  refine va_calli (va_runS (As := [.int a]) (rest := []) ⟨hx, hb, hml, hown, hts⟩ (m_X2_known l dC dI cI cS H.size a ) (va_cwS 1 hts gX11_safe_X2_known rfl rfl rfl (by decide +kernel) ⟨Nat.le_of_ble_eq_true rfl, Nat.le_of_ble_eq_true rfl⟩) ⟨fun a U g mk q => by obtain ⟨q0, q1, qP, qK, qD⟩ := q; exact ⟨q0, q1, qP, va_K.moved (u := U) (U := U.calling g mk a) (Vm.Alike.refl U.vm) qK, qD⟩, fun U hU hW => ⟨rfl, by rw [hU], by rw [hU]; exact hPc, va_K.moved hW.alike hK, hDc.weaken (fun _ _ _ _ => trivial)⟩⟩ rfl rfl hl.1 rfl (lv_room (Nat.le_of_ble_eq_true rfl)) dX11_safe_6 ⟨Nat.le_of_ble_eq_true rfl, Nat.le_of_ble_eq_true rfl⟩) hS (fun q _ h => hFc q h) hFc (fun r_1 u t H1 locs ht hvm hw hB hz1 hk1 hS => ?_)
  obtain ⟨hP1, hD1⟩ := hB
  rw [ht] at hP1
  obtain ⟨hP, hD⟩ := va_join (wr := [(oX, .inr (11, [.ref nT, .ref nL, .ref nM, .ref oC, .ref oP, .ref oH, .ref oK, .ref oG, .ref oR, .ref oQ, .ref oW, .int (-1)])), (oC, .inr (2, [.ref o4, .ref o5])), (o4, .inr (10, [.ref a41, .ref a42, .ref a43, .int 0])), (a41, .inl (cI, 256, .inl (fun _ => (-1)))), (o5, .inr (10, [.ref a51, .ref a52, .ref a53, .int 0])), (a51, .inl (cI, 256, .inl (fun _ => (-1))))]) (w1 := []) hP hD [] [0, 1, 2, 3, 4, 5] rfl rfl (by decide) (by decide) hk1 hFc hP1 hD1
  generalize H1 = H at hP hS ⊢
  have hP : va_P (dC, dI) vwCl [(oX, .inr (11, [.ref nT, .ref nL, .ref nM, .ref oC, .ref oP, .ref oH, .ref oK, .ref oG, .ref oR, .ref oQ, .ref oW, .int (-1)])), (oC, .inr (2, [.ref o4, .ref o5])), (o4, .inr (10, [.ref a41, .ref a42, .ref a43, .int 0])), (a41, .inl (cI, 256, .inl (fun _ => (-1)))), (o5, .inr (10, [.ref a51, .ref a52, .ref a53, .int 0])), (a51, .inl (cI, 256, .inl (fun _ => (-1))))] H := hP
  have hD : va_D A [(oX, .inr (11, [.ref nT, .ref nL, .ref nM, .ref oC, .ref oP, .ref oH, .ref oK, .ref oG, .ref oR, .ref oQ, .ref oW, .int (-1)])), (oC, .inr (2, [.ref o4, .ref o5])), (o4, .inr (10, [.ref a41, .ref a42, .ref a43, .int 0])), (a41, .inl (cI, 256, .inl (fun _ => (-1)))), (o5, .inr (10, [.ref a51, .ref a52, .ref a53, .int 0])), (a51, .inl (cI, 256, .inl (fun _ => (-1))))] := hD
  rw [hw]
  refine lv_if_eq (tgt := 19) hx hb dX11_safe_9 (by decide) (fun c_2 => ?_) (fun c_2 => ?_)
  · refine lv_iconst (v := (-1)) hx hb dX11_safe_19 (by decide) ?_
    exact W.iret (v := (-1)) hx hb hr (fun t ht hW => ⟨⟨(-1), (), rfl, by first | rfl | assumption | simp [f_safe, c_2], trivial⟩, hS.F ht⟩) (hS.2.2) dX11_safe_20
  · refine lv_iload_n hx hb dX11_safe_12 rfl (lv_at hl 2 rfl) ?_
    have hPc := hP.sub (ws' := []) [] rfl
    have hDc := hD.sub (ws' := []) [] (by decide) rfl
    have hFc := va_free (wc := []) hD hS hA [] rfl
    refine va_calli (va_runS (As := [.int b]) (rest := []) ⟨hx, hb, hml, hown, hts⟩ (m_X2_known l dC dI cI cS H.size b ) (va_cwS 1 hts gX11_safe_X2_known rfl rfl rfl (by decide +kernel) ⟨Nat.le_of_ble_eq_true rfl, Nat.le_of_ble_eq_true rfl⟩) ⟨fun a U g mk q => by obtain ⟨q0, q1, qP, qK, qD⟩ := q; exact ⟨q0, q1, qP, va_K.moved (u := U) (U := U.calling g mk a) (Vm.Alike.refl U.vm) qK, qD⟩, fun U hU hW => ⟨rfl, by rw [hU], by rw [hU]; exact hPc, va_K.moved hW.alike hK, hDc.weaken (fun _ _ _ _ => trivial)⟩⟩ rfl rfl hl.1 rfl (lv_room (Nat.le_of_ble_eq_true rfl)) dX11_safe_13 ⟨Nat.le_of_ble_eq_true rfl, Nat.le_of_ble_eq_true rfl⟩) hS (fun q _ h => hFc q h) hFc (fun r_3 u t H1 locs ht hvm hw hB hz1 hk1 hS => ?_)
    obtain ⟨hP1, hD1⟩ := hB
    rw [ht] at hP1
    obtain ⟨hP, hD⟩ := va_join (wr := [(oX, .inr (11, [.ref nT, .ref nL, .ref nM, .ref oC, .ref oP, .ref oH, .ref oK, .ref oG, .ref oR, .ref oQ, .ref oW, .int (-1)])), (oC, .inr (2, [.ref o4, .ref o5])), (o4, .inr (10, [.ref a41, .ref a42, .ref a43, .int 0])), (a41, .inl (cI, 256, .inl (fun _ => (-1)))), (o5, .inr (10, [.ref a51, .ref a52, .ref a53, .int 0])), (a51, .inl (cI, 256, .inl (fun _ => (-1))))]) (w1 := []) hP hD [] [0, 1, 2, 3, 4, 5] rfl rfl (by decide) (by decide) hk1 hFc hP1 hD1
    generalize H1 = H at hP hS ⊢
    have hP : va_P (dC, dI) vwCl [(oX, .inr (11, [.ref nT, .ref nL, .ref nM, .ref oC, .ref oP, .ref oH, .ref oK, .ref oG, .ref oR, .ref oQ, .ref oW, .int (-1)])), (oC, .inr (2, [.ref o4, .ref o5])), (o4, .inr (10, [.ref a41, .ref a42, .ref a43, .int 0])), (a41, .inl (cI, 256, .inl (fun _ => (-1)))), (o5, .inr (10, [.ref a51, .ref a52, .ref a53, .int 0])), (a51, .inl (cI, 256, .inl (fun _ => (-1))))] H := hP
    have hD : va_D A [(oX, .inr (11, [.ref nT, .ref nL, .ref nM, .ref oC, .ref oP, .ref oH, .ref oK, .ref oG, .ref oR, .ref oQ, .ref oW, .int (-1)])), (oC, .inr (2, [.ref o4, .ref o5])), (o4, .inr (10, [.ref a41, .ref a42, .ref a43, .int 0])), (a41, .inl (cI, 256, .inl (fun _ => (-1)))), (o5, .inr (10, [.ref a51, .ref a52, .ref a53, .int 0])), (a51, .inl (cI, 256, .inl (fun _ => (-1))))] := hD
    rw [hw]
    refine lv_if_ne (tgt := 21) hx hb dX11_safe_16 (by decide) (fun c_4 => ?_) (fun c_4 => ?_)
    · refine lv_aload_n hx hb dX11_safe_21 rfl (lv_at hl 0 rfl) ?_
      refine va_get (D := (dC, dI)) (ci := 11) (v := .ref oC) (C := RX11) (T := TX11) (N := 12) hx hb hts in_X11 hown hK hP 0 rfl rfl 3 (by decide) (hts (.fieldLink RX11 40 "TextMender" "codes" "LTextMender$Codes;") (List.mem_of_getElem? (i := 2) rfl)) (fun _ h9 => h9) rfl dX11_safe_22 ?_
      refine lv_iload_n hx hb dX11_safe_25 rfl (lv_at hl 1 rfl) ?_
      refine lv_iload_n hx hb dX11_safe_26 rfl (lv_at hl 2 rfl) ?_
      have hPc := hP.sub (ws' := [(oC, .inr (2, [.ref o4, .ref o5])), (o4, .inr (10, [.ref a41, .ref a42, .ref a43, .int 0])), (a41, .inl (cI, 256, .inl (fun _ => (-1)))), (o5, .inr (10, [.ref a51, .ref a52, .ref a53, .int 0])), (a51, .inl (cI, 256, .inl (fun _ => (-1))))]) [1, 2, 3, 4, 5] rfl
      have hDc := hD.sub (ws' := [(oC, .inr (2, [.ref o4, .ref o5])), (o4, .inr (10, [.ref a41, .ref a42, .ref a43, .int 0])), (a41, .inl (cI, 256, .inl (fun _ => (-1)))), (o5, .inr (10, [.ref a51, .ref a52, .ref a53, .int 0])), (a51, .inl (cI, 256, .inl (fun _ => (-1))))]) [1, 2, 3, 4, 5] (by decide) rfl
      have hFc := va_free (wc := [(oC, .inr (2, [.ref o4, .ref o5])), (o4, .inr (10, [.ref a41, .ref a42, .ref a43, .int 0])), (a41, .inl (cI, 256, .inl (fun _ => (-1)))), (o5, .inr (10, [.ref a51, .ref a52, .ref a53, .int 0])), (a51, .inl (cI, 256, .inl (fun _ => (-1))))]) hD hS hA [1, 2, 3, 4, 5] rfl
      refine va_calli (va_runV (As := [.int a, .int b]) (rest := []) ⟨hx, hb, hml, hown, hts⟩ (m_X2_neverLost l dC dI cI cS H.size oC o4 o5 a41 a42 a43 a51 a52 a53 a b (p_known c_2) (p_known c_4)) (cwV 2 hts gX11_safe_X2_neverLost rfl rfl rfl (by decide +kernel) ⟨Nat.le_of_ble_eq_true rfl, Nat.le_of_ble_eq_true rfl⟩) ⟨fun a U g mk q => by obtain ⟨q0, q1, qP, qK, qD⟩ := q; exact ⟨q0, q1, qP, va_K.moved (u := U) (U := U.calling g mk a) (Vm.Alike.refl U.vm) qK, qD⟩, va_recv hK hPc (ci := 2) (q0 := 0) rfl rfl, fun U hU hW => ⟨rfl, by rw [hU], by rw [hU]; exact hPc, va_K.moved hW.alike hK, hDc.weaken (fun _ _ _ _ => trivial)⟩⟩ rfl rfl hl.1 rfl (lv_room (Nat.le_of_ble_eq_true rfl)) dX11_safe_27 ⟨Nat.le_of_ble_eq_true rfl, Nat.le_of_ble_eq_true rfl⟩) hS (fun q _ h => hFc q h) hFc (fun r_5 u t H1 locs ht hvm hw hB hz1 hk1 hS => ?_)
      obtain ⟨hP, hD⟩ := va_join (wr := [(oX, .inr (11, [.ref nT, .ref nL, .ref nM, .ref oC, .ref oP, .ref oH, .ref oK, .ref oG, .ref oR, .ref oQ, .ref oW, .int (-1)]))]) (w1 := []) hP hD [1, 2, 3, 4, 5] [0] rfl rfl (by decide) (by decide) hk1 hFc p_P0 p_D0
      generalize H1 = H at hP hS ⊢
      have hP : va_P (dC, dI) vwCl [(oX, .inr (11, [.ref nT, .ref nL, .ref nM, .ref oC, .ref oP, .ref oH, .ref oK, .ref oG, .ref oR, .ref oQ, .ref oW, .int (-1)]))] H := hP
      have hD : va_D A [(oX, .inr (11, [.ref nT, .ref nL, .ref nM, .ref oC, .ref oP, .ref oH, .ref oK, .ref oG, .ref oR, .ref oQ, .ref oW, .int (-1)]))] := hD
      rw [hw]
      refine lv_if_eq (tgt := 37) hx hb dX11_safe_30 (by decide) (fun c_6 => ?_) (fun c_6 => ?_)
      · refine lv_iconst (v := 0) hx hb dX11_safe_37 (by decide) ?_
        exact W.iret (v := 0) hx hb hr (fun t ht hW => ⟨⟨0, (), rfl, by first | rfl | assumption | simp [f_safe, c_2, c_4, c_6], trivial⟩, hS.F ht⟩) (hS.2.2) dX11_safe_38
      · refine lv_iconst (v := 1) hx hb dX11_safe_33 (by decide) ?_
        refine lv_goto (tgt := 38) hx hb dX11_safe_34 (by decide) ?_
        exact W.iret (v := 1) hx hb hr (fun t ht hW => ⟨⟨1, (), rfl, by first | rfl | assumption | simp [f_safe, c_2, c_4, c_6], trivial⟩, hS.F ht⟩) (hS.2.2) dX11_safe_38
    · refine lv_iconst (v := (-1)) hx hb dX11_safe_19 (by decide) ?_
      exact W.iret (v := (-1)) hx hb hr (fun t ht hW => ⟨⟨(-1), (), rfl, by first | rfl | assumption | simp [f_safe, c_2, c_4], trivial⟩, hS.F ht⟩) (hS.2.2) dX11_safe_20
