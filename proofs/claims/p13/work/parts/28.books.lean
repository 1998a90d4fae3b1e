set_option maxHeartbeats 40000000 in
set_option maxRecDepth 100000 in
theorem m_X4_length (l : Launch) (dC : Nat → ClassId) (dI : Nat → Nat → Nat) (cI cS : ClassId) (sz : Nat) (oH : Nat) (oP : Nat) (h1 : Nat) (h2 : Nat) (lH : Int32) (g_lH : 0 ≤ lH.toInt ∧ lH.toInt ≤ 6) : Met l yX4_length wsX4_length ({ frames := 0, cells := 0, slots := 0, locals := 0 } : Room) (va_Pc [.ref oH] (fun U => U.heap.size = sz ∧ va_P (dC, dI) vwCl [(oH, .inr (4, [.ref oP, .ref h1, .ref h2, .int lH]))] U.heap ∧ va_K (dC, dI) vwCl [(cI, .int), (cS, .short)] U ∧ va_D (fun _ => True) [(oH, .inr (4, [.ref oP, .ref h1, .ref h2, .int lH]))])) (va_Qi (fun (r : Int32) (u : Int32) => r = u) (fun (r : Int32) t => va_P (dC, dI) vwCl [(oH, .inr (4, [.ref oP, .ref h1, .ref h2, .int lH]))] t.heap ∧ va_D (va_A [(oH, .inr (4, [.ref oP, .ref h1, .ref h2, .int lH]))] sz) [(oH, .inr (4, [.ref oP, .ref h1, .ref h2, .int lH]))] ∧ (r = lH)) (va_A [(oH, .inr (4, [.ref oP, .ref h1, .ref h2, .int lH]))] sz)) 0 0 (va_A [(oH, .inr (4, [.ref oP, .ref h1, .ref h2, .int lH]))] sz) := by
  refine Met.ofW (cc := cX4_length) (maxL := 1) (ret := (some .int)) (by decide) rfl ?_
  intro p e s m args below meth c s₁ B hml hv
  obtain ⟨rfl, hsz, hP, hK, hD0⟩ := hv
  have hx := B.exec
  have hb := B.bytes
  have hr := B.returns
  have hts := atoms_spec (ws := wsX4_length) B.pre
  have hown : s.vm.findClass RX4 = some m.cls := findClass_of_methodNamed B.named
  have hlocks := B.notSynchronized
  have in_X4 : ∀ w ∈ wsX40, w ∈ wsX4_length := fun _ h => List.mem_cons_of_mem _ (List.mem_append_right _ (h))
  subst hsz
  have hD := hD0.self (sz := s.heap.size)
  generalize hAe : va_A [(oH, .inr (4, [.ref oP, .ref h1, .ref h2, .int lH]))] s.heap.size = A at hD ⊢
  have hA : ∀ q : Nat, s.heap.size ≤ q → A q := fun q h => by rw [← hAe]; exact Or.inr h
  have hS : va_S A s.heap s.heap [] := va_S.rf
  have hP : va_P (dC, dI) vwCl [(oH, .inr (4, [.ref oP, .ref h1, .ref h2, .int lH]))] s.heap := hP
  have hl := lv_entry ([.ref oH]) (n := 1) (Nat.le_of_ble_eq_true rfl)
  rw [lg_entry_eq]
  generalize (lg_sl ([.ref oH]) ++ List.replicate (1 - (lg_sl ([.ref oH])).length) Slot.unset).toArray = ls at hl ⊢
  have hl : lv_has ls 1 [(0, .ref oH)] := hl
  obtain ⟨QQ, hQQ⟩ : ∃ QQ : Array Value → State → Outcome → State → Prop, QQ = va_Qi (fun (r : Int32) (u : Int32) => r = u) (fun (r : Int32) t => va_P (dC, dI) vwCl [(oH, .inr (4, [.ref oP, .ref h1, .ref h2, .int lH]))] t.heap ∧ va_D A [(oH, .inr (4, [.ref oP, .ref h1, .ref h2, .int lH]))] ∧ (r = lH)) A := ⟨_, rfl⟩
  rw [← hQQ]
  refine lv_aload_n hx hb dX4_length_0 rfl (lv_at hl 0 rfl) ?_
  refine va_get (D := (dC, dI)) (ci := 4) (v := .int lH) (C := RX4) (T := TX4) (N := 4) hx hb hts in_X4 hown hK hP 0 rfl rfl 3 (by decide) (hts (.fieldLink RX4 22 "TextMender$Harms" "length" "I") (List.mem_of_getElem? (i := 1) rfl)) (fun _ h9 => h9) rfl dX4_length_1 ?_
  have hP9 := hP.sub (ws' := [(oH, .inr (4, [.ref oP, .ref h1, .ref h2, .int lH]))]) [0] rfl
  have hD9 := hD.sub (ws' := [(oH, .inr (4, [.ref oP, .ref h1, .ref h2, .int lH]))]) [0] (by decide) rfl
  rw [hQQ]
  exact W.iret (v := lH) hx hb hr (fun t ht hW => ⟨⟨lH, lH, rfl, rfl, ⟨by rw [ht]; exact hP9, hD9, rfl⟩⟩, hS.F ht⟩) hS.2.2 dX4_length_4

set_option maxHeartbeats 40000000 in
set_option maxRecDepth 100000 in
theorem m_X4_empty (l : Launch) (dC : Nat → ClassId) (dI : Nat → Nat → Nat) (cI cS : ClassId) (sz : Nat) (oH : Nat) (oP : Nat) (h1 : Nat) (h2 : Nat) (lH : Int32) (g_lH : 0 ≤ lH.toInt ∧ lH.toInt ≤ 6) : Met l yX4_empty wsX4_empty ({ frames := 0, cells := 0, slots := 0, locals := 0 } : Room) (va_Pc [.ref oH] (fun U => U.heap.size = sz ∧ va_P (dC, dI) vwCl [(oH, .inr (4, [.ref oP, .ref h1, .ref h2, .int lH]))] U.heap ∧ va_K (dC, dI) vwCl [(cI, .int), (cS, .short)] U ∧ va_D (fun _ => True) [(oH, .inr (4, [.ref oP, .ref h1, .ref h2, .int lH]))])) (va_Qv (fun (_ : Unit) => True) (fun _ t => ∃ (lH' : Int32), va_P (dC, dI) vwCl [(oH, .inr (4, [.ref oP, .ref h1, .ref h2, .int lH']))] t.heap ∧ va_D (va_A [(oH, .inr (4, [.ref oP, .ref h1, .ref h2, .int lH]))] sz) [(oH, .inr (4, [.ref oP, .ref h1, .ref h2, .int lH']))] ∧ (0 ≤ lH'.toInt ∧ lH'.toInt ≤ 6) ∧ (lH' = 0)) (va_A [(oH, .inr (4, [.ref oP, .ref h1, .ref h2, .int lH]))] sz)) 0 0 (va_A [(oH, .inr (4, [.ref oP, .ref h1, .ref h2, .int lH]))] sz) := by
  refine Met.ofW (cc := cX4_empty) (maxL := 1) (ret := none) (by decide) rfl ?_
  intro p e s m args below meth c s₁ B hml hv
  obtain ⟨rfl, hsz, hP, hK, hD0⟩ := hv
  have hx := B.exec
  have hb := B.bytes
  have hr := B.returns
  have hts := atoms_spec (ws := wsX4_empty) B.pre
  have hown : s.vm.findClass RX4 = some m.cls := findClass_of_methodNamed B.named
  have hlocks := B.notSynchronized
  have in_X4 : ∀ w ∈ wsX40, w ∈ wsX4_empty := fun _ h => List.mem_cons_of_mem _ (List.mem_append_right _ (h))
  subst hsz
  have hD := hD0.self (sz := s.heap.size)
  generalize hAe : va_A [(oH, .inr (4, [.ref oP, .ref h1, .ref h2, .int lH]))] s.heap.size = A at hD ⊢
  have hA : ∀ q : Nat, s.heap.size ≤ q → A q := fun q h => by rw [← hAe]; exact Or.inr h
  have hS : va_S A s.heap s.heap [] := va_S.rf
  have hP : va_P (dC, dI) vwCl [(oH, .inr (4, [.ref oP, .ref h1, .ref h2, .int lH]))] s.heap := hP
  have hl := lv_entry ([.ref oH]) (n := 1) (Nat.le_of_ble_eq_true rfl)
  rw [lg_entry_eq]
  generalize (lg_sl ([.ref oH]) ++ List.replicate (1 - (lg_sl ([.ref oH])).length) Slot.unset).toArray = ls at hl ⊢
  have hl : lv_has ls 1 [(0, .ref oH)] := hl
  obtain ⟨QQ, hQQ⟩ : ∃ QQ : Array Value → State → Outcome → State → Prop, QQ = va_Qv (fun (_ : Unit) => True) (fun _ t => ∃ (lH' : Int32), va_P (dC, dI) vwCl [(oH, .inr (4, [.ref oP, .ref h1, .ref h2, .int lH']))] t.heap ∧ va_D A [(oH, .inr (4, [.ref oP, .ref h1, .ref h2, .int lH']))] ∧ (0 ≤ lH'.toInt ∧ lH'.toInt ≤ 6) ∧ (lH' = 0)) A := ⟨_, rfl⟩
  rw [← hQQ]
  refine lv_aload_n hx hb dX4_empty_0 rfl (lv_at hl 0 rfl) ?_
  refine lv_iconst (v := 0) hx hb dX4_empty_1 (by decide) ?_
  refine va_put (D := (dC, dI)) (ci := 4) (v := .int 0) (ty := .int) (C := RX4) (T := TX4) (N := 4) hx hb hts in_X4 tyX4 tyX4_ok nmX4 hown hK hP hD hS 0 rfl rfl 3 (by decide) (hts (.fieldLink RX4 22 "TextMender$Harms" "length" "I") (List.mem_of_getElem? (i := 1) rfl)) (fun _ h9 => h9) rfl (by decide +kernel) rfl rfl (Nat.le_of_ble_eq_true rfl) dX4_empty_2 (fun H locs hP hD hS => ?_)
  have hP : va_P (dC, dI) vwCl [(oH, .inr (4, [.ref oP, .ref h1, .ref h2, .int 0]))] H := hP
  have hD : va_D A [(oH, .inr (4, [.ref oP, .ref h1, .ref h2, .int 0]))] := hD
  have hP9 := hP.sub (ws' := [(oH, .inr (4, [.ref oP, .ref h1, .ref h2, .int 0]))]) [0] rfl
  have hD9 := hD.sub (ws' := [(oH, .inr (4, [.ref oP, .ref h1, .ref h2, .int 0]))]) [0] (by decide) rfl
  rw [hQQ]
  exact W.vret hx hb hr (fun t ht hW => ⟨⟨(), rfl, trivial, ⟨0, by rw [ht]; exact hP9, hD9, by decide, rfl⟩⟩, hS.F ht⟩) hS.2.2 dX4_empty_5

set_option maxHeartbeats 40000000 in
set_option maxRecDepth 100000 in
theorem m_X4_takeOff (l : Launch) (dC : Nat → ClassId) (dI : Nat → Nat → Nat) (cI cS : ClassId) (sz : Nat) (oH : Nat) (nx : Nat) (nd : Nat) (oP : Nat) (h1 : Nat) (h2 : Nat) (oC : Nat) (nB : Nat) (aB : Nat) (ax : Nat) (ad : Nat) (o4 : Nat) (o5 : Nat) (a41 : Nat) (a42 : Nat) (a43 : Nat) (a51 : Nat) (a52 : Nat) (a53 : Nat) (lH : Int32) (fH1 : Nat → Int32) (fH2 : Nat → Int32) (ft : Int32) (lB : Int32) (fB : Nat → Int32) (lx : Int32) (fx : Nat → Int32) (ld : Int32) (fd : Nat → Int32) (l4 : Int32) (f41 : Nat → Int32) (f42 : Nat → Int32) (f43 : Nat → Int32) (l5 : Int32) (f51 : Nat → Int32) (f52 : Nat → Int32) (f53 : Nat → Int32) (h : Int32) (g_lH : 0 ≤ lH.toInt ∧ lH.toInt ≤ 6) (g_lB : 0 ≤ lB.toInt ∧ lB.toInt ≤ 2400) (g_lx : 0 ≤ lx.toInt ∧ lx.toInt ≤ 300) (g_ld : 0 ≤ ld.toInt ∧ ld.toInt ≤ 300) : Met l yX4_takeOff wsX4_takeOff ({ frames := 5, cells := 0, slots := 0, locals := 124 } : Room) (va_Pc [.ref oH, .int h, .ref nx, .ref nd] (fun U => U.heap.size = sz ∧ va_P (dC, dI) vwCl [(oH, .inr (4, [.ref oP, .ref h1, .ref h2, .int lH])), (h1, .inl (cI, 6, .inl fH1)), (h2, .inl (cI, 6, .inl fH2)), (oP, .inr (7, [.ref oC, .ref nB, .int ft])), (nB, .inr (5, [.ref aB, .int lB])), (aB, .inl (cI, 2400, .inl fB)), (nx, .inr (5, [.ref ax, .int lx])), (ax, .inl (cI, 300, .inl fx)), (nd, .inr (5, [.ref ad, .int ld])), (ad, .inl (cI, 300, .inl fd)), (oC, .inr (2, [.ref o4, .ref o5])), (o4, .inr (10, [.ref a41, .ref a42, .ref a43, .int l4])), (a41, .inl (cI, 256, .inl f41)), (a42, .inl (cI, 512, .inl f42)), (a43, .inl (cI, 512, .inl f43)), (o5, .inr (10, [.ref a51, .ref a52, .ref a53, .int l5])), (a51, .inl (cI, 256, .inl f51)), (a52, .inl (cI, 512, .inl f52)), (a53, .inl (cI, 512, .inl f53))] U.heap ∧ va_K (dC, dI) vwCl [(cI, .int), (cS, .short)] U ∧ va_D (fun _ => True) [(oH, .inr (4, [.ref oP, .ref h1, .ref h2, .int lH])), (h1, .inl (cI, 6, .inl fH1)), (h2, .inl (cI, 6, .inl fH2)), (oP, .inr (7, [.ref oC, .ref nB, .int ft])), (nB, .inr (5, [.ref aB, .int lB])), (aB, .inl (cI, 2400, .inl fB)), (nx, .inr (5, [.ref ax, .int lx])), (ax, .inl (cI, 300, .inl fx)), (nd, .inr (5, [.ref ad, .int ld])), (ad, .inl (cI, 300, .inl fd)), (oC, .inr (2, [.ref o4, .ref o5])), (o4, .inr (10, [.ref a41, .ref a42, .ref a43, .int l4])), (a41, .inl (cI, 256, .inl f41)), (a42, .inl (cI, 512, .inl f42)), (a43, .inl (cI, 512, .inl f43)), (o5, .inr (10, [.ref a51, .ref a52, .ref a53, .int l5])), (a51, .inl (cI, 256, .inl f51)), (a52, .inl (cI, 512, .inl f52)), (a53, .inl (cI, 512, .inl f53))] ∧ va_Nw (.methodLinkNest RX2 52 yX11_isLetter "TextMender") U)) (va_Qi (fun (r : Int32) (u : Int32) => r = u) (fun (r : Int32) t => ∃ (ft' : Int32) (lB' : Int32) (fB' : Nat → Int32) (ld' : Int32) (fd' : Nat → Int32), va_P (dC, dI) vwCl [(oH, .inr (4, [.ref oP, .ref h1, .ref h2, .int lH])), (h1, .inl (cI, 6, .inl fH1)), (h2, .inl (cI, 6, .inl fH2)), (oP, .inr (7, [.ref oC, .ref nB, .int ft'])), (nB, .inr (5, [.ref aB, .int lB'])), (aB, .inl (cI, 2400, .inl fB')), (nx, .inr (5, [.ref ax, .int lx])), (ax, .inl (cI, 300, .inl fx)), (nd, .inr (5, [.ref ad, .int ld'])), (ad, .inl (cI, 300, .inl fd')), (oC, .inr (2, [.ref o4, .ref o5])), (o4, .inr (10, [.ref a41, .ref a42, .ref a43, .int l4])), (a41, .inl (cI, 256, .inl f41)), (a42, .inl (cI, 512, .inl f42)), (a43, .inl (cI, 512, .inl f43)), (o5, .inr (10, [.ref a51, .ref a52, .ref a53, .int l5])), (a51, .inl (cI, 256, .inl f51)), (a52, .inl (cI, 512, .inl f52)), (a53, .inl (cI, 512, .inl f53))] t.heap ∧ va_D (va_A [(oH, .inr (4, [.ref oP, .ref h1, .ref h2, .int lH])), (h1, .inl (cI, 6, .inl fH1)), (h2, .inl (cI, 6, .inl fH2)), (oP, .inr (7, [.ref oC, .ref nB, .int ft])), (nB, .inr (5, [.ref aB, .int lB])), (aB, .inl (cI, 2400, .inl fB)), (nx, .inr (5, [.ref ax, .int lx])), (ax, .inl (cI, 300, .inl fx)), (nd, .inr (5, [.ref ad, .int ld])), (ad, .inl (cI, 300, .inl fd)), (oC, .inr (2, [.ref o4, .ref o5])), (o4, .inr (10, [.ref a41, .ref a42, .ref a43, .int l4])), (a41, .inl (cI, 256, .inl f41)), (a42, .inl (cI, 512, .inl f42)), (a43, .inl (cI, 512, .inl f43)), (o5, .inr (10, [.ref a51, .ref a52, .ref a53, .int l5])), (a51, .inl (cI, 256, .inl f51)), (a52, .inl (cI, 512, .inl f52)), (a53, .inl (cI, 512, .inl f53))] sz) [(oH, .inr (4, [.ref oP, .ref h1, .ref h2, .int lH])), (h1, .inl (cI, 6, .inl fH1)), (h2, .inl (cI, 6, .inl fH2)), (oP, .inr (7, [.ref oC, .ref nB, .int ft'])), (nB, .inr (5, [.ref aB, .int lB'])), (aB, .inl (cI, 2400, .inl fB')), (nx, .inr (5, [.ref ax, .int lx])), (ax, .inl (cI, 300, .inl fx)), (nd, .inr (5, [.ref ad, .int ld'])), (ad, .inl (cI, 300, .inl fd')), (oC, .inr (2, [.ref o4, .ref o5])), (o4, .inr (10, [.ref a41, .ref a42, .ref a43, .int l4])), (a41, .inl (cI, 256, .inl f41)), (a42, .inl (cI, 512, .inl f42)), (a43, .inl (cI, 512, .inl f43)), (o5, .inr (10, [.ref a51, .ref a52, .ref a53, .int l5])), (a51, .inl (cI, 256, .inl f51)), (a52, .inl (cI, 512, .inl f52)), (a53, .inl (cI, 512, .inl f53))] ∧ (0 ≤ lB'.toInt ∧ lB'.toInt ≤ 2400) ∧ (0 ≤ ld'.toInt ∧ ld'.toInt ≤ 300) ∧ (0 ≤ r.toInt ∧ r.toInt ≤ 1)) (va_A [(oH, .inr (4, [.ref oP, .ref h1, .ref h2, .int lH])), (h1, .inl (cI, 6, .inl fH1)), (h2, .inl (cI, 6, .inl fH2)), (oP, .inr (7, [.ref oC, .ref nB, .int ft])), (nB, .inr (5, [.ref aB, .int lB])), (aB, .inl (cI, 2400, .inl fB)), (nx, .inr (5, [.ref ax, .int lx])), (ax, .inl (cI, 300, .inl fx)), (nd, .inr (5, [.ref ad, .int ld])), (ad, .inl (cI, 300, .inl fd)), (oC, .inr (2, [.ref o4, .ref o5])), (o4, .inr (10, [.ref a41, .ref a42, .ref a43, .int l4])), (a41, .inl (cI, 256, .inl f41)), (a42, .inl (cI, 512, .inl f42)), (a43, .inl (cI, 512, .inl f43)), (o5, .inr (10, [.ref a51, .ref a52, .ref a53, .int l5])), (a51, .inl (cI, 256, .inl f51)), (a52, .inl (cI, 512, .inl f52)), (a53, .inl (cI, 512, .inl f53))] sz)) 0 0 (va_A [(oH, .inr (4, [.ref oP, .ref h1, .ref h2, .int lH])), (h1, .inl (cI, 6, .inl fH1)), (h2, .inl (cI, 6, .inl fH2)), (oP, .inr (7, [.ref oC, .ref nB, .int ft])), (nB, .inr (5, [.ref aB, .int lB])), (aB, .inl (cI, 2400, .inl fB)), (nx, .inr (5, [.ref ax, .int lx])), (ax, .inl (cI, 300, .inl fx)), (nd, .inr (5, [.ref ad, .int ld])), (ad, .inl (cI, 300, .inl fd)), (oC, .inr (2, [.ref o4, .ref o5])), (o4, .inr (10, [.ref a41, .ref a42, .ref a43, .int l4])), (a41, .inl (cI, 256, .inl f41)), (a42, .inl (cI, 512, .inl f42)), (a43, .inl (cI, 512, .inl f43)), (o5, .inr (10, [.ref a51, .ref a52, .ref a53, .int l5])), (a51, .inl (cI, 256, .inl f51)), (a52, .inl (cI, 512, .inl f52)), (a53, .inl (cI, 512, .inl f53))] sz) := by
  refine Met.ofW (cc := cX4_takeOff) (maxL := 4) (ret := (some .boolean)) (by decide) rfl ?_
  intro p e s m args below meth c s₁ B hml hv
  obtain ⟨rfl, hsz, hP, hK, hD0, hN52⟩ := hv
  have hx := B.exec
  have hb := B.bytes
  have hr := B.returns
  have hts := atoms_spec (ws := wsX4_takeOff) B.pre
  have hown : s.vm.findClass RX4 = some m.cls := findClass_of_methodNamed B.named
  have hlocks := B.notSynchronized
  have in_X4 : ∀ w ∈ wsX40, w ∈ wsX4_takeOff := fun _ h => List.mem_cons_of_mem _ (List.mem_append_left _ (List.mem_append_left _ (List.mem_append_left _ (List.mem_append_left _ (List.mem_append_right _ (h))))))
  subst hsz
  have hD := hD0.self (sz := s.heap.size)
  generalize hAe : va_A [(oH, .inr (4, [.ref oP, .ref h1, .ref h2, .int lH])), (h1, .inl (cI, 6, .inl fH1)), (h2, .inl (cI, 6, .inl fH2)), (oP, .inr (7, [.ref oC, .ref nB, .int ft])), (nB, .inr (5, [.ref aB, .int lB])), (aB, .inl (cI, 2400, .inl fB)), (nx, .inr (5, [.ref ax, .int lx])), (ax, .inl (cI, 300, .inl fx)), (nd, .inr (5, [.ref ad, .int ld])), (ad, .inl (cI, 300, .inl fd)), (oC, .inr (2, [.ref o4, .ref o5])), (o4, .inr (10, [.ref a41, .ref a42, .ref a43, .int l4])), (a41, .inl (cI, 256, .inl f41)), (a42, .inl (cI, 512, .inl f42)), (a43, .inl (cI, 512, .inl f43)), (o5, .inr (10, [.ref a51, .ref a52, .ref a53, .int l5])), (a51, .inl (cI, 256, .inl f51)), (a52, .inl (cI, 512, .inl f52)), (a53, .inl (cI, 512, .inl f53))] s.heap.size = A at hD ⊢
  have hA : ∀ q : Nat, s.heap.size ≤ q → A q := fun q h => by rw [← hAe]; exact Or.inr h
  have hS : va_S A s.heap s.heap [] := va_S.rf
  have hP : va_P (dC, dI) vwCl [(oH, .inr (4, [.ref oP, .ref h1, .ref h2, .int lH])), (h1, .inl (cI, 6, .inl fH1)), (h2, .inl (cI, 6, .inl fH2)), (oP, .inr (7, [.ref oC, .ref nB, .int ft])), (nB, .inr (5, [.ref aB, .int lB])), (aB, .inl (cI, 2400, .inl fB)), (nx, .inr (5, [.ref ax, .int lx])), (ax, .inl (cI, 300, .inl fx)), (nd, .inr (5, [.ref ad, .int ld])), (ad, .inl (cI, 300, .inl fd)), (oC, .inr (2, [.ref o4, .ref o5])), (o4, .inr (10, [.ref a41, .ref a42, .ref a43, .int l4])), (a41, .inl (cI, 256, .inl f41)), (a42, .inl (cI, 512, .inl f42)), (a43, .inl (cI, 512, .inl f43)), (o5, .inr (10, [.ref a51, .ref a52, .ref a53, .int l5])), (a51, .inl (cI, 256, .inl f51)), (a52, .inl (cI, 512, .inl f52)), (a53, .inl (cI, 512, .inl f53))] s.heap := hP
  have hl := lv_entry ([.ref oH, .int h, .ref nx, .ref nd]) (n := 4) (Nat.le_of_ble_eq_true rfl)
  rw [lg_entry_eq]
  generalize (lg_sl ([.ref oH, .int h, .ref nx, .ref nd]) ++ List.replicate (4 - (lg_sl ([.ref oH, .int h, .ref nx, .ref nd])).length) Slot.unset).toArray = ls at hl ⊢
  have hl : lv_has ls 4 [(0, .ref oH), (1, .int h), (2, .ref nx), (3, .ref nd)] := hl
  obtain ⟨QQ, hQQ⟩ : ∃ QQ : Array Value → State → Outcome → State → Prop, QQ = va_Qi (fun (r : Int32) (u : Int32) => r = u) (fun (r : Int32) t => ∃ (ft' : Int32) (lB' : Int32) (fB' : Nat → Int32) (ld' : Int32) (fd' : Nat → Int32), va_P (dC, dI) vwCl [(oH, .inr (4, [.ref oP, .ref h1, .ref h2, .int lH])), (h1, .inl (cI, 6, .inl fH1)), (h2, .inl (cI, 6, .inl fH2)), (oP, .inr (7, [.ref oC, .ref nB, .int ft'])), (nB, .inr (5, [.ref aB, .int lB'])), (aB, .inl (cI, 2400, .inl fB')), (nx, .inr (5, [.ref ax, .int lx])), (ax, .inl (cI, 300, .inl fx)), (nd, .inr (5, [.ref ad, .int ld'])), (ad, .inl (cI, 300, .inl fd')), (oC, .inr (2, [.ref o4, .ref o5])), (o4, .inr (10, [.ref a41, .ref a42, .ref a43, .int l4])), (a41, .inl (cI, 256, .inl f41)), (a42, .inl (cI, 512, .inl f42)), (a43, .inl (cI, 512, .inl f43)), (o5, .inr (10, [.ref a51, .ref a52, .ref a53, .int l5])), (a51, .inl (cI, 256, .inl f51)), (a52, .inl (cI, 512, .inl f52)), (a53, .inl (cI, 512, .inl f53))] t.heap ∧ va_D A [(oH, .inr (4, [.ref oP, .ref h1, .ref h2, .int lH])), (h1, .inl (cI, 6, .inl fH1)), (h2, .inl (cI, 6, .inl fH2)), (oP, .inr (7, [.ref oC, .ref nB, .int ft'])), (nB, .inr (5, [.ref aB, .int lB'])), (aB, .inl (cI, 2400, .inl fB')), (nx, .inr (5, [.ref ax, .int lx])), (ax, .inl (cI, 300, .inl fx)), (nd, .inr (5, [.ref ad, .int ld'])), (ad, .inl (cI, 300, .inl fd')), (oC, .inr (2, [.ref o4, .ref o5])), (o4, .inr (10, [.ref a41, .ref a42, .ref a43, .int l4])), (a41, .inl (cI, 256, .inl f41)), (a42, .inl (cI, 512, .inl f42)), (a43, .inl (cI, 512, .inl f43)), (o5, .inr (10, [.ref a51, .ref a52, .ref a53, .int l5])), (a51, .inl (cI, 256, .inl f51)), (a52, .inl (cI, 512, .inl f52)), (a53, .inl (cI, 512, .inl f53))] ∧ (0 ≤ lB'.toInt ∧ lB'.toInt ≤ 2400) ∧ (0 ≤ ld'.toInt ∧ ld'.toInt ≤ 300) ∧ (0 ≤ r.toInt ∧ r.toInt ≤ 1)) A := ⟨_, rfl⟩
  rw [← hQQ]
  refine lv_iload_n hx hb dX4_takeOff_0 rfl (lv_at hl 1 rfl) ?_
  refine lv_if_lt (tgt := 40) hx hb dX4_takeOff_1 (by decide) (fun c_1 => ?_) (fun c_1 => ?_)
  · have tc_1 : h.toInt < 0 := v_lt c_1
    refine lv_iconst (v := 0) hx hb dX4_takeOff_40 (by decide) ?_
    have hP9 := hP.sub (ws' := [(oH, .inr (4, [.ref oP, .ref h1, .ref h2, .int lH])), (h1, .inl (cI, 6, .inl fH1)), (h2, .inl (cI, 6, .inl fH2)), (oP, .inr (7, [.ref oC, .ref nB, .int ft])), (nB, .inr (5, [.ref aB, .int lB])), (aB, .inl (cI, 2400, .inl fB)), (nx, .inr (5, [.ref ax, .int lx])), (ax, .inl (cI, 300, .inl fx)), (nd, .inr (5, [.ref ad, .int ld])), (ad, .inl (cI, 300, .inl fd)), (oC, .inr (2, [.ref o4, .ref o5])), (o4, .inr (10, [.ref a41, .ref a42, .ref a43, .int l4])), (a41, .inl (cI, 256, .inl f41)), (a42, .inl (cI, 512, .inl f42)), (a43, .inl (cI, 512, .inl f43)), (o5, .inr (10, [.ref a51, .ref a52, .ref a53, .int l5])), (a51, .inl (cI, 256, .inl f51)), (a52, .inl (cI, 512, .inl f52)), (a53, .inl (cI, 512, .inl f53))]) [0, 1, 2, 3, 4, 5, 6, 7, 8, 9, 10, 11, 12, 13, 14, 15, 16, 17, 18] rfl
    have hD9 := hD.sub (ws' := [(oH, .inr (4, [.ref oP, .ref h1, .ref h2, .int lH])), (h1, .inl (cI, 6, .inl fH1)), (h2, .inl (cI, 6, .inl fH2)), (oP, .inr (7, [.ref oC, .ref nB, .int ft])), (nB, .inr (5, [.ref aB, .int lB])), (aB, .inl (cI, 2400, .inl fB)), (nx, .inr (5, [.ref ax, .int lx])), (ax, .inl (cI, 300, .inl fx)), (nd, .inr (5, [.ref ad, .int ld])), (ad, .inl (cI, 300, .inl fd)), (oC, .inr (2, [.ref o4, .ref o5])), (o4, .inr (10, [.ref a41, .ref a42, .ref a43, .int l4])), (a41, .inl (cI, 256, .inl f41)), (a42, .inl (cI, 512, .inl f42)), (a43, .inl (cI, 512, .inl f43)), (o5, .inr (10, [.ref a51, .ref a52, .ref a53, .int l5])), (a51, .inl (cI, 256, .inl f51)), (a52, .inl (cI, 512, .inl f52)), (a53, .inl (cI, 512, .inl f53))]) [0, 1, 2, 3, 4, 5, 6, 7, 8, 9, 10, 11, 12, 13, 14, 15, 16, 17, 18] (by decide) rfl
    rw [hQQ]
    exact W.zret (v := 0) (ty := .boolean) hx hb hr (rfl) (fun t ht hW => ⟨⟨0, 0, rfl, rfl, ⟨ft, lB, fB, ld, fd, by rw [ht]; exact hP9, hD9, by omega, by omega, by decide⟩⟩, hS.F ht⟩) hS.2.2 dX4_takeOff_41
  · have tc_1 : 0 ≤ h.toInt := v_nlt c_1
    refine lv_iload_n hx hb dX4_takeOff_4 rfl (lv_at hl 1 rfl) ?_
    refine lv_aload_n hx hb dX4_takeOff_5 rfl (lv_at hl 0 rfl) ?_
    refine va_get (D := (dC, dI)) (ci := 4) (v := .int lH) (C := RX4) (T := TX4) (N := 4) hx hb hts in_X4 hown hK hP 0 rfl rfl 3 (by decide) (hts (.fieldLink RX4 22 "TextMender$Harms" "length" "I") (List.mem_of_getElem? (i := 1) rfl)) (fun _ h9 => h9) rfl dX4_takeOff_6 ?_
    refine lv_icmp_ge (tgt := 40) hx hb dX4_takeOff_9 (by decide) (fun c_2 => ?_) (fun c_2 => ?_)
    · have tc_2 : lH.toInt ≤ h.toInt := v_le c_2
      have rw2_0 := v_rng h
      refine lv_iconst (v := 0) hx hb dX4_takeOff_40 (by decide) ?_
      have hP9 := hP.sub (ws' := [(oH, .inr (4, [.ref oP, .ref h1, .ref h2, .int lH])), (h1, .inl (cI, 6, .inl fH1)), (h2, .inl (cI, 6, .inl fH2)), (oP, .inr (7, [.ref oC, .ref nB, .int ft])), (nB, .inr (5, [.ref aB, .int lB])), (aB, .inl (cI, 2400, .inl fB)), (nx, .inr (5, [.ref ax, .int lx])), (ax, .inl (cI, 300, .inl fx)), (nd, .inr (5, [.ref ad, .int ld])), (ad, .inl (cI, 300, .inl fd)), (oC, .inr (2, [.ref o4, .ref o5])), (o4, .inr (10, [.ref a41, .ref a42, .ref a43, .int l4])), (a41, .inl (cI, 256, .inl f41)), (a42, .inl (cI, 512, .inl f42)), (a43, .inl (cI, 512, .inl f43)), (o5, .inr (10, [.ref a51, .ref a52, .ref a53, .int l5])), (a51, .inl (cI, 256, .inl f51)), (a52, .inl (cI, 512, .inl f52)), (a53, .inl (cI, 512, .inl f53))]) [0, 1, 2, 3, 4, 5, 6, 7, 8, 9, 10, 11, 12, 13, 14, 15, 16, 17, 18] rfl
      have hD9 := hD.sub (ws' := [(oH, .inr (4, [.ref oP, .ref h1, .ref h2, .int lH])), (h1, .inl (cI, 6, .inl fH1)), (h2, .inl (cI, 6, .inl fH2)), (oP, .inr (7, [.ref oC, .ref nB, .int ft])), (nB, .inr (5, [.ref aB, .int lB])), (aB, .inl (cI, 2400, .inl fB)), (nx, .inr (5, [.ref ax, .int lx])), (ax, .inl (cI, 300, .inl fx)), (nd, .inr (5, [.ref ad, .int ld])), (ad, .inl (cI, 300, .inl fd)), (oC, .inr (2, [.ref o4, .ref o5])), (o4, .inr (10, [.ref a41, .ref a42, .ref a43, .int l4])), (a41, .inl (cI, 256, .inl f41)), (a42, .inl (cI, 512, .inl f42)), (a43, .inl (cI, 512, .inl f43)), (o5, .inr (10, [.ref a51, .ref a52, .ref a53, .int l5])), (a51, .inl (cI, 256, .inl f51)), (a52, .inl (cI, 512, .inl f52)), (a53, .inl (cI, 512, .inl f53))]) [0, 1, 2, 3, 4, 5, 6, 7, 8, 9, 10, 11, 12, 13, 14, 15, 16, 17, 18] (by decide) rfl
      rw [hQQ]
      exact W.zret (v := 0) (ty := .boolean) hx hb hr (rfl) (fun t ht hW => ⟨⟨0, 0, rfl, rfl, ⟨ft, lB, fB, ld, fd, by rw [ht]; exact hP9, hD9, by omega, by omega, by decide⟩⟩, hS.F ht⟩) hS.2.2 dX4_takeOff_41
    · have tc_2 : h.toInt < lH.toInt := v_nle c_2
      have rw2_0 := v_rng h
      refine lv_aload_n hx hb dX4_takeOff_12 rfl (lv_at hl 0 rfl) ?_
      refine va_get (D := (dC, dI)) (ci := 4) (v := .ref oP) (C := RX4) (T := TX4) (N := 4) hx hb hts in_X4 hown hK hP 0 rfl rfl 0 (by decide) (hts (.fieldLink RX4 18 "TextMender$Harms" "passage" "LTextMender$Passage;") (List.mem_of_getElem? (i := 2) rfl)) (fun _ h9 => h9) rfl dX4_takeOff_13 ?_
      refine lv_aload_n hx hb dX4_takeOff_16 rfl (lv_at hl 0 rfl) ?_
      refine va_get (D := (dC, dI)) (ci := 4) (v := .ref h2) (C := RX4) (T := TX4) (N := 4) hx hb hts in_X4 hown hK hP 0 rfl rfl 2 (by decide) (hts (.fieldLink RX4 15 "TextMender$Harms" "readIn" "[I") (List.mem_of_getElem? (i := 3) rfl)) (fun _ h9 => h9) rfl dX4_takeOff_17 ?_
      refine lv_iload_n hx hb dX4_takeOff_20 rfl (lv_at hl 1 rfl) ?_
      refine va_iald hx hb hK hP 2 0 rfl rfl (v_in (by omega)) dX4_takeOff_21 ?_
      refine lv_topi (fun x_3 ex_3 => ?_)
      refine lv_aload_n hx hb dX4_takeOff_22 rfl (lv_at hl 0 rfl) ?_
      refine va_get (D := (dC, dI)) (ci := 4) (v := .ref h1) (C := RX4) (T := TX4) (N := 4) hx hb hts in_X4 hown hK hP 0 rfl rfl 1 (by decide) (hts (.fieldLink RX4 9 "TextMender$Harms" "writtenIn" "[I") (List.mem_of_getElem? (i := 4) rfl)) (fun _ h9 => h9) rfl dX4_takeOff_23 ?_
      refine lv_iload_n hx hb dX4_takeOff_26 rfl (lv_at hl 1 rfl) ?_
      refine va_iald hx hb hK hP 1 0 rfl rfl (v_in (by omega)) dX4_takeOff_27 ?_
      refine lv_topi (fun x_4 ex_4 => ?_)
      refine lv_aload_n hx hb dX4_takeOff_28 rfl (lv_at hl 2 rfl) ?_
      refine lv_aload_n hx hb dX4_takeOff_29 rfl (lv_at hl 3 rfl) ?_
      have hPc := hP.sub (ws' := [(oP, .inr (7, [.ref oC, .ref nB, .int ft])), (nB, .inr (5, [.ref aB, .int lB])), (aB, .inl (cI, 2400, .inl fB)), (nx, .inr (5, [.ref ax, .int lx])), (ax, .inl (cI, 300, .inl fx)), (nd, .inr (5, [.ref ad, .int ld])), (ad, .inl (cI, 300, .inl fd)), (oC, .inr (2, [.ref o4, .ref o5])), (o4, .inr (10, [.ref a41, .ref a42, .ref a43, .int l4])), (a41, .inl (cI, 256, .inl f41)), (a42, .inl (cI, 512, .inl f42)), (a43, .inl (cI, 512, .inl f43)), (o5, .inr (10, [.ref a51, .ref a52, .ref a53, .int l5])), (a51, .inl (cI, 256, .inl f51)), (a52, .inl (cI, 512, .inl f52)), (a53, .inl (cI, 512, .inl f53))]) [3, 4, 5, 6, 7, 8, 9, 10, 11, 12, 13, 14, 15, 16, 17, 18] rfl
      have hDc := hD.sub (ws' := [(oP, .inr (7, [.ref oC, .ref nB, .int ft])), (nB, .inr (5, [.ref aB, .int lB])), (aB, .inl (cI, 2400, .inl fB)), (nx, .inr (5, [.ref ax, .int lx])), (ax, .inl (cI, 300, .inl fx)), (nd, .inr (5, [.ref ad, .int ld])), (ad, .inl (cI, 300, .inl fd)), (oC, .inr (2, [.ref o4, .ref o5])), (o4, .inr (10, [.ref a41, .ref a42, .ref a43, .int l4])), (a41, .inl (cI, 256, .inl f41)), (a42, .inl (cI, 512, .inl f42)), (a43, .inl (cI, 512, .inl f43)), (o5, .inr (10, [.ref a51, .ref a52, .ref a53, .int l5])), (a51, .inl (cI, 256, .inl f51)), (a52, .inl (cI, 512, .inl f52)), (a53, .inl (cI, 512, .inl f53))]) [3, 4, 5, 6, 7, 8, 9, 10, 11, 12, 13, 14, 15, 16, 17, 18] (by decide) rfl
      have hFc := va_free (wc := [(oP, .inr (7, [.ref oC, .ref nB, .int ft])), (nB, .inr (5, [.ref aB, .int lB])), (aB, .inl (cI, 2400, .inl fB)), (nx, .inr (5, [.ref ax, .int lx])), (ax, .inl (cI, 300, .inl fx)), (nd, .inr (5, [.ref ad, .int ld])), (ad, .inl (cI, 300, .inl fd)), (oC, .inr (2, [.ref o4, .ref o5])), (o4, .inr (10, [.ref a41, .ref a42, .ref a43, .int l4])), (a41, .inl (cI, 256, .inl f41)), (a42, .inl (cI, 512, .inl f42)), (a43, .inl (cI, 512, .inl f43)), (o5, .inr (10, [.ref a51, .ref a52, .ref a53, .int l5])), (a51, .inl (cI, 256, .inl f51)), (a52, .inl (cI, 512, .inl f52)), (a53, .inl (cI, 512, .inl f53))]) hD hS hA [3, 4, 5, 6, 7, 8, 9, 10, 11, 12, 13, 14, 15, 16, 17, 18] rfl
      refine va_calli (va_runV (As := [.int x_3, .int x_4, .ref nx, .ref nd]) (rest := []) ⟨hx, hb, hml, hown, hts⟩ (m_X7_pass l dC dI cI cS s.heap.size oP nx nd oC nB aB ax ad o4 o5 a41 a42 a43 a51 a52 a53 ft lB fB lx fx ld fd l4 f41 f42 f43 l5 f51 f52 f53 x_3 x_4 (by omega) (by omega) (by omega)) (cwV 4 hts gX4_takeOff_X7_pass rfl rfl rfl (by decide +kernel) ⟨Nat.le_of_ble_eq_true rfl, Nat.le_of_ble_eq_true rfl⟩) ⟨fun a U g mk q => by obtain ⟨q0, q1, qP, qK, qD, qN0⟩ := q; exact ⟨q0, q1, qP, va_K.moved (u := U) (U := U.calling g mk a) (Vm.Alike.refl U.vm) qK, qD, va_Nw.same rfl rfl qN0⟩, va_recv hK hPc (ci := 7) (q0 := 0) rfl rfl, fun U hU hW => ⟨rfl, by rw [hU], by rw [hU]; exact hPc, va_K.moved hW.alike hK, hDc.weaken (fun _ _ _ _ => trivial), va_Nw.warmM hW hN52⟩⟩ rfl rfl hl.1 rfl (lv_room (Nat.le_of_ble_eq_true rfl)) dX4_takeOff_30 ⟨Nat.le_of_ble_eq_true rfl, Nat.le_of_ble_eq_true rfl⟩) hS (fun q _ h => hFc q h) hFc (fun r_5 u t H1 locs ht hvm hw hB hz1 hk1 hS => ?_)
      subst hw
      obtain ⟨ft_5, lB_5, fB_5, ld_5, fd_5, hP1, hD1, hf5_0, hf5_1, hf5_2⟩ := hB
      rw [ht] at hP1
      obtain ⟨hP, hD⟩ := va_join (wr := [(oH, .inr (4, [.ref oP, .ref h1, .ref h2, .int lH])), (h1, .inl (cI, 6, .inl fH1)), (h2, .inl (cI, 6, .inl fH2))]) (w1 := [(oP, .inr (7, [.ref oC, .ref nB, .int ft_5])), (nB, .inr (5, [.ref aB, .int lB_5])), (aB, .inl (cI, 2400, .inl fB_5)), (nx, .inr (5, [.ref ax, .int lx])), (ax, .inl (cI, 300, .inl fx)), (nd, .inr (5, [.ref ad, .int ld_5])), (ad, .inl (cI, 300, .inl fd_5)), (oC, .inr (2, [.ref o4, .ref o5])), (o4, .inr (10, [.ref a41, .ref a42, .ref a43, .int l4])), (a41, .inl (cI, 256, .inl f41)), (a42, .inl (cI, 512, .inl f42)), (a43, .inl (cI, 512, .inl f43)), (o5, .inr (10, [.ref a51, .ref a52, .ref a53, .int l5])), (a51, .inl (cI, 256, .inl f51)), (a52, .inl (cI, 512, .inl f52)), (a53, .inl (cI, 512, .inl f53))]) hP hD [3, 4, 5, 6, 7, 8, 9, 10, 11, 12, 13, 14, 15, 16, 17, 18] [0, 1, 2] rfl rfl (by decide) (by decide) hk1 hFc hP1 hD1
      generalize H1 = H at hP hS ⊢
      have hP : va_P (dC, dI) vwCl [(oH, .inr (4, [.ref oP, .ref h1, .ref h2, .int lH])), (h1, .inl (cI, 6, .inl fH1)), (h2, .inl (cI, 6, .inl fH2)), (oP, .inr (7, [.ref oC, .ref nB, .int ft_5])), (nB, .inr (5, [.ref aB, .int lB_5])), (aB, .inl (cI, 2400, .inl fB_5)), (nx, .inr (5, [.ref ax, .int lx])), (ax, .inl (cI, 300, .inl fx)), (nd, .inr (5, [.ref ad, .int ld_5])), (ad, .inl (cI, 300, .inl fd_5)), (oC, .inr (2, [.ref o4, .ref o5])), (o4, .inr (10, [.ref a41, .ref a42, .ref a43, .int l4])), (a41, .inl (cI, 256, .inl f41)), (a42, .inl (cI, 512, .inl f42)), (a43, .inl (cI, 512, .inl f43)), (o5, .inr (10, [.ref a51, .ref a52, .ref a53, .int l5])), (a51, .inl (cI, 256, .inl f51)), (a52, .inl (cI, 512, .inl f52)), (a53, .inl (cI, 512, .inl f53))] H := hP
      have hD : va_D A [(oH, .inr (4, [.ref oP, .ref h1, .ref h2, .int lH])), (h1, .inl (cI, 6, .inl fH1)), (h2, .inl (cI, 6, .inl fH2)), (oP, .inr (7, [.ref oC, .ref nB, .int ft_5])), (nB, .inr (5, [.ref aB, .int lB_5])), (aB, .inl (cI, 2400, .inl fB_5)), (nx, .inr (5, [.ref ax, .int lx])), (ax, .inl (cI, 300, .inl fx)), (nd, .inr (5, [.ref ad, .int ld_5])), (ad, .inl (cI, 300, .inl fd_5)), (oC, .inr (2, [.ref o4, .ref o5])), (o4, .inr (10, [.ref a41, .ref a42, .ref a43, .int l4])), (a41, .inl (cI, 256, .inl f41)), (a42, .inl (cI, 512, .inl f42)), (a43, .inl (cI, 512, .inl f43)), (o5, .inr (10, [.ref a51, .ref a52, .ref a53, .int l5])), (a51, .inl (cI, 256, .inl f51)), (a52, .inl (cI, 512, .inl f52)), (a53, .inl (cI, 512, .inl f53))] := hD
      refine lv_if_eq (tgt := 40) hx hb dX4_takeOff_33 (by decide) (fun c_6 => ?_) (fun c_6 => ?_)
      · have tc_6 : r_5.toInt = 0 := v_eq c_6
        refine lv_iconst (v := 0) hx hb dX4_takeOff_40 (by decide) ?_
        have hP9 := hP.sub (ws' := [(oH, .inr (4, [.ref oP, .ref h1, .ref h2, .int lH])), (h1, .inl (cI, 6, .inl fH1)), (h2, .inl (cI, 6, .inl fH2)), (oP, .inr (7, [.ref oC, .ref nB, .int ft_5])), (nB, .inr (5, [.ref aB, .int lB_5])), (aB, .inl (cI, 2400, .inl fB_5)), (nx, .inr (5, [.ref ax, .int lx])), (ax, .inl (cI, 300, .inl fx)), (nd, .inr (5, [.ref ad, .int ld_5])), (ad, .inl (cI, 300, .inl fd_5)), (oC, .inr (2, [.ref o4, .ref o5])), (o4, .inr (10, [.ref a41, .ref a42, .ref a43, .int l4])), (a41, .inl (cI, 256, .inl f41)), (a42, .inl (cI, 512, .inl f42)), (a43, .inl (cI, 512, .inl f43)), (o5, .inr (10, [.ref a51, .ref a52, .ref a53, .int l5])), (a51, .inl (cI, 256, .inl f51)), (a52, .inl (cI, 512, .inl f52)), (a53, .inl (cI, 512, .inl f53))]) [0, 1, 2, 3, 4, 5, 6, 7, 8, 9, 10, 11, 12, 13, 14, 15, 16, 17, 18] rfl
        have hD9 := hD.sub (ws' := [(oH, .inr (4, [.ref oP, .ref h1, .ref h2, .int lH])), (h1, .inl (cI, 6, .inl fH1)), (h2, .inl (cI, 6, .inl fH2)), (oP, .inr (7, [.ref oC, .ref nB, .int ft_5])), (nB, .inr (5, [.ref aB, .int lB_5])), (aB, .inl (cI, 2400, .inl fB_5)), (nx, .inr (5, [.ref ax, .int lx])), (ax, .inl (cI, 300, .inl fx)), (nd, .inr (5, [.ref ad, .int ld_5])), (ad, .inl (cI, 300, .inl fd_5)), (oC, .inr (2, [.ref o4, .ref o5])), (o4, .inr (10, [.ref a41, .ref a42, .ref a43, .int l4])), (a41, .inl (cI, 256, .inl f41)), (a42, .inl (cI, 512, .inl f42)), (a43, .inl (cI, 512, .inl f43)), (o5, .inr (10, [.ref a51, .ref a52, .ref a53, .int l5])), (a51, .inl (cI, 256, .inl f51)), (a52, .inl (cI, 512, .inl f52)), (a53, .inl (cI, 512, .inl f53))]) [0, 1, 2, 3, 4, 5, 6, 7, 8, 9, 10, 11, 12, 13, 14, 15, 16, 17, 18] (by decide) rfl
        rw [hQQ]
        exact W.zret (v := 0) (ty := .boolean) hx hb hr (rfl) (fun t ht hW => ⟨⟨0, 0, rfl, rfl, ⟨ft_5, lB_5, fB_5, ld_5, fd_5, by rw [ht]; exact hP9, hD9, by omega, by omega, by decide⟩⟩, hS.F ht⟩) hS.2.2 dX4_takeOff_41
      · have tc_6 : ¬ r_5.toInt = 0 := v_ne c_6
        refine lv_iconst (v := 1) hx hb dX4_takeOff_36 (by decide) ?_
        refine lv_goto (tgt := 41) hx hb dX4_takeOff_37 (by decide) ?_
        have hP9 := hP.sub (ws' := [(oH, .inr (4, [.ref oP, .ref h1, .ref h2, .int lH])), (h1, .inl (cI, 6, .inl fH1)), (h2, .inl (cI, 6, .inl fH2)), (oP, .inr (7, [.ref oC, .ref nB, .int ft_5])), (nB, .inr (5, [.ref aB, .int lB_5])), (aB, .inl (cI, 2400, .inl fB_5)), (nx, .inr (5, [.ref ax, .int lx])), (ax, .inl (cI, 300, .inl fx)), (nd, .inr (5, [.ref ad, .int ld_5])), (ad, .inl (cI, 300, .inl fd_5)), (oC, .inr (2, [.ref o4, .ref o5])), (o4, .inr (10, [.ref a41, .ref a42, .ref a43, .int l4])), (a41, .inl (cI, 256, .inl f41)), (a42, .inl (cI, 512, .inl f42)), (a43, .inl (cI, 512, .inl f43)), (o5, .inr (10, [.ref a51, .ref a52, .ref a53, .int l5])), (a51, .inl (cI, 256, .inl f51)), (a52, .inl (cI, 512, .inl f52)), (a53, .inl (cI, 512, .inl f53))]) [0, 1, 2, 3, 4, 5, 6, 7, 8, 9, 10, 11, 12, 13, 14, 15, 16, 17, 18] rfl
        have hD9 := hD.sub (ws' := [(oH, .inr (4, [.ref oP, .ref h1, .ref h2, .int lH])), (h1, .inl (cI, 6, .inl fH1)), (h2, .inl (cI, 6, .inl fH2)), (oP, .inr (7, [.ref oC, .ref nB, .int ft_5])), (nB, .inr (5, [.ref aB, .int lB_5])), (aB, .inl (cI, 2400, .inl fB_5)), (nx, .inr (5, [.ref ax, .int lx])), (ax, .inl (cI, 300, .inl fx)), (nd, .inr (5, [.ref ad, .int ld_5])), (ad, .inl (cI, 300, .inl fd_5)), (oC, .inr (2, [.ref o4, .ref o5])), (o4, .inr (10, [.ref a41, .ref a42, .ref a43, .int l4])), (a41, .inl (cI, 256, .inl f41)), (a42, .inl (cI, 512, .inl f42)), (a43, .inl (cI, 512, .inl f43)), (o5, .inr (10, [.ref a51, .ref a52, .ref a53, .int l5])), (a51, .inl (cI, 256, .inl f51)), (a52, .inl (cI, 512, .inl f52)), (a53, .inl (cI, 512, .inl f53))]) [0, 1, 2, 3, 4, 5, 6, 7, 8, 9, 10, 11, 12, 13, 14, 15, 16, 17, 18] (by decide) rfl
        rw [hQQ]
        exact W.zret (v := 1) (ty := .boolean) hx hb hr (rfl) (fun t ht hW => ⟨⟨1, 1, rfl, rfl, ⟨ft_5, lB_5, fB_5, ld_5, fd_5, by rw [ht]; exact hP9, hD9, by omega, by omega, by decide⟩⟩, hS.F ht⟩) hS.2.2 dX4_takeOff_41

set_option maxHeartbeats 40000000 in
set_option maxRecDepth 100000 in
theorem m_X3_length (l : Launch) (dC : Nat → ClassId) (dI : Nat → Nat → Nat) (cI cS : ClassId) (sz : Nat) (oK : Nat) (k1 : Nat) (k2 : Nat) (lK : Int32) (g_lK : 0 ≤ lK.toInt ∧ lK.toInt ≤ 300) : Met l yX3_length wsX3_length ({ frames := 0, cells := 0, slots := 0, locals := 0 } : Room) (va_Pc [.ref oK] (fun U => U.heap.size = sz ∧ va_P (dC, dI) vwCl [(oK, .inr (3, [.ref k1, .ref k2, .int lK]))] U.heap ∧ va_K (dC, dI) vwCl [(cI, .int), (cS, .short)] U ∧ va_D (fun _ => True) [(oK, .inr (3, [.ref k1, .ref k2, .int lK]))])) (va_Qi (fun (r : Int32) (u : Int32) => r = u) (fun (r : Int32) t => va_P (dC, dI) vwCl [(oK, .inr (3, [.ref k1, .ref k2, .int lK]))] t.heap ∧ va_D (va_A [(oK, .inr (3, [.ref k1, .ref k2, .int lK]))] sz) [(oK, .inr (3, [.ref k1, .ref k2, .int lK]))] ∧ (r = lK)) (va_A [(oK, .inr (3, [.ref k1, .ref k2, .int lK]))] sz)) 0 0 (va_A [(oK, .inr (3, [.ref k1, .ref k2, .int lK]))] sz) := by
  refine Met.ofW (cc := cX3_length) (maxL := 1) (ret := (some .int)) (by decide) rfl ?_
  intro p e s m args below meth c s₁ B hml hv
  obtain ⟨rfl, hsz, hP, hK, hD0⟩ := hv
  have hx := B.exec
  have hb := B.bytes
  have hr := B.returns
  have hts := atoms_spec (ws := wsX3_length) B.pre
  have hown : s.vm.findClass RX3 = some m.cls := findClass_of_methodNamed B.named
  have hlocks := B.notSynchronized
  have in_X3 : ∀ w ∈ wsX30, w ∈ wsX3_length := fun _ h => List.mem_cons_of_mem _ (List.mem_append_right _ (h))
  subst hsz
  have hD := hD0.self (sz := s.heap.size)
  generalize hAe : va_A [(oK, .inr (3, [.ref k1, .ref k2, .int lK]))] s.heap.size = A at hD ⊢
  have hA : ∀ q : Nat, s.heap.size ≤ q → A q := fun q h => by rw [← hAe]; exact Or.inr h
  have hS : va_S A s.heap s.heap [] := va_S.rf
  have hP : va_P (dC, dI) vwCl [(oK, .inr (3, [.ref k1, .ref k2, .int lK]))] s.heap := hP
  have hl := lv_entry ([.ref oK]) (n := 1) (Nat.le_of_ble_eq_true rfl)
  rw [lg_entry_eq]
  generalize (lg_sl ([.ref oK]) ++ List.replicate (1 - (lg_sl ([.ref oK])).length) Slot.unset).toArray = ls at hl ⊢
  have hl : lv_has ls 1 [(0, .ref oK)] := hl
  obtain ⟨QQ, hQQ⟩ : ∃ QQ : Array Value → State → Outcome → State → Prop, QQ = va_Qi (fun (r : Int32) (u : Int32) => r = u) (fun (r : Int32) t => va_P (dC, dI) vwCl [(oK, .inr (3, [.ref k1, .ref k2, .int lK]))] t.heap ∧ va_D A [(oK, .inr (3, [.ref k1, .ref k2, .int lK]))] ∧ (r = lK)) A := ⟨_, rfl⟩
  rw [← hQQ]
  refine lv_aload_n hx hb dX3_length_0 rfl (lv_at hl 0 rfl) ?_
  refine va_get (D := (dC, dI)) (ci := 3) (v := .int lK) (C := RX3) (T := TX3) (N := 3) hx hb hts in_X3 hown hK hP 0 rfl rfl 2 (by decide) (hts (.fieldLink RX3 24 "TextMender$Costs" "length" "I") (List.mem_of_getElem? (i := 1) rfl)) (fun _ h9 => h9) rfl dX3_length_1 ?_
  have hP9 := hP.sub (ws' := [(oK, .inr (3, [.ref k1, .ref k2, .int lK]))]) [0] rfl
  have hD9 := hD.sub (ws' := [(oK, .inr (3, [.ref k1, .ref k2, .int lK]))]) [0] (by decide) rfl
  rw [hQQ]
  exact W.iret (v := lK) hx hb hr (fun t ht hW => ⟨⟨lK, lK, rfl, rfl, ⟨by rw [ht]; exact hP9, hD9, rfl⟩⟩, hS.F ht⟩) hS.2.2 dX3_length_4

set_option maxHeartbeats 40000000 in
set_option maxRecDepth 100000 in
theorem m_X3_pairOf (l : Launch) (dC : Nat → ClassId) (dI : Nat → Nat → Nat) (cI cS : ClassId) (sz : Nat) (x : Int32) (y : Int32)  : Met l yX3_pairOf wsX3_pairOf ({ frames := 0, cells := 0, slots := 0, locals := 0 } : Room) (va_Pc [.int x, .int y] (fun U => U.heap.size = sz ∧ va_P (dC, dI) vwCl [] U.heap ∧ va_K (dC, dI) vwCl [(cI, .int), (cS, .short)] U ∧ va_D (fun _ => True) [])) (va_Qi (fun (r : Int32) (u : Int32) => r = u) (fun (r : Int32) t => va_P (dC, dI) vwCl [] t.heap ∧ va_D (va_A [] sz) []) (va_A [] sz)) 0 0 (va_A [] sz) := by
  refine Met.ofW (cc := cX3_pairOf) (maxL := 2) (ret := (some .int)) (by decide) rfl ?_
  intro p e s m args below meth c s₁ B hml hv
  obtain ⟨rfl, hsz, hP, hK, hD0⟩ := hv
  have hx := B.exec
  have hb := B.bytes
  have hr := B.returns
  have hts := atoms_spec (ws := wsX3_pairOf) B.pre
  have hown : s.vm.findClass RX3 = some m.cls := findClass_of_methodNamed B.named
  have hlocks := B.notSynchronized
  subst hsz
  have hD := hD0.self (sz := s.heap.size)
  generalize hAe : va_A [] s.heap.size = A at hD ⊢
  have hA : ∀ q : Nat, s.heap.size ≤ q → A q := fun q h => by rw [← hAe]; exact Or.inr h
  have hS : va_S A s.heap s.heap [] := va_S.rf
  have hP : va_P (dC, dI) vwCl [] s.heap := hP
  have hl := lv_entry ([.int x, .int y]) (n := 2) (Nat.le_of_ble_eq_true rfl)
  rw [lg_entry_eq]
  generalize (lg_sl ([.int x, .int y]) ++ List.replicate (2 - (lg_sl ([.int x, .int y])).length) Slot.unset).toArray = ls at hl ⊢
  have hl : lv_has ls 2 [(0, .int x), (1, .int y)] := hl
  obtain ⟨QQ, hQQ⟩ : ∃ QQ : Array Value → State → Outcome → State → Prop, QQ = va_Qi (fun (r : Int32) (u : Int32) => r = u) (fun (r : Int32) t => va_P (dC, dI) vwCl [] t.heap ∧ va_D A []) A := ⟨_, rfl⟩
  rw [← hQQ]
  refine lv_iload_n hx hb dX3_pairOf_0 rfl (lv_at hl 0 rfl) ?_
  refine lv_bipush (v := 16) hx hb dX3_pairOf_1 (by decide) ?_
  refine lv_ishl hx hb dX3_pairOf_3 ?_
  refine lv_topi (fun x_1 ex_1 => ?_)
  refine lv_iload_n hx hb dX3_pairOf_4 rfl (lv_at hl 1 rfl) ?_
  refine lv_ior hx hb dX3_pairOf_5 ?_
  refine lv_topi (fun x_2 ex_2 => ?_)
  have hP9 := hP.sub (ws' := []) [] rfl
  have hD9 := hD.sub (ws' := []) [] (by decide) rfl
  rw [hQQ]
  exact W.iret (v := x_2) hx hb hr (fun t ht hW => ⟨⟨x_2, x_2, rfl, rfl, ⟨by rw [ht]; exact hP9, hD9⟩⟩, hS.F ht⟩) hS.2.2 dX3_pairOf_6

set_option maxHeartbeats 40000000 in
set_option maxRecDepth 100000 in
theorem m_X3_sortOutside (l : Launch) (dC : Nat → ClassId) (dI : Nat → Nat → Nat) (cI cS : ClassId) (sz : Nat) (x : Int32)  : Met l yX3_sortOutside wsX3_sortOutside ({ frames := 0, cells := 0, slots := 0, locals := 0 } : Room) (va_Pc [.int x] (fun U => U.heap.size = sz ∧ va_P (dC, dI) vwCl [] U.heap ∧ va_K (dC, dI) vwCl [(cI, .int), (cS, .short)] U ∧ va_D (fun _ => True) [])) (va_Qi (fun (r : Int32) (u : Int32) => r = u) (fun (r : Int32) t => va_P (dC, dI) vwCl [] t.heap ∧ va_D (va_A [] sz) [] ∧ (0 ≤ r.toInt ∧ r.toInt ≤ 7)) (va_A [] sz)) 0 0 (va_A [] sz) := by
  refine Met.ofW (cc := cX3_sortOutside) (maxL := 1) (ret := (some .int)) (by decide) rfl ?_
  intro p e s m args below meth c s₁ B hml hv
  obtain ⟨rfl, hsz, hP, hK, hD0⟩ := hv
  have hx := B.exec
  have hb := B.bytes
  have hr := B.returns
  have hts := atoms_spec (ws := wsX3_sortOutside) B.pre
  have hown : s.vm.findClass RX3 = some m.cls := findClass_of_methodNamed B.named
  have hlocks := B.notSynchronized
  subst hsz
  have hD := hD0.self (sz := s.heap.size)
  generalize hAe : va_A [] s.heap.size = A at hD ⊢
  have hA : ∀ q : Nat, s.heap.size ≤ q → A q := fun q h => by rw [← hAe]; exact Or.inr h
  have hS : va_S A s.heap s.heap [] := va_S.rf
  have hP : va_P (dC, dI) vwCl [] s.heap := hP
  have hl := lv_entry ([.int x]) (n := 1) (Nat.le_of_ble_eq_true rfl)
  rw [lg_entry_eq]
  generalize (lg_sl ([.int x]) ++ List.replicate (1 - (lg_sl ([.int x])).length) Slot.unset).toArray = ls at hl ⊢
  have hl : lv_has ls 1 [(0, .int x)] := hl
  obtain ⟨QQ, hQQ⟩ : ∃ QQ : Array Value → State → Outcome → State → Prop, QQ = va_Qi (fun (r : Int32) (u : Int32) => r = u) (fun (r : Int32) t => va_P (dC, dI) vwCl [] t.heap ∧ va_D A [] ∧ (0 ≤ r.toInt ∧ r.toInt ≤ 7)) A := ⟨_, rfl⟩
  rw [← hQQ]
  refine lv_iload_n hx hb dX3_sortOutside_0 rfl (lv_at hl 0 rfl) ?_
  refine lv_bipush (v := 32) hx hb dX3_sortOutside_1 (by decide) ?_
  refine lv_icmp_ne (tgt := 8) hx hb dX3_sortOutside_3 (by decide) (fun c_1 => ?_) (fun c_1 => ?_)
  · have tc_1 : ¬ x.toInt = 32 := v_ne c_1
    refine lv_iload_n hx hb dX3_sortOutside_8 rfl (lv_at hl 0 rfl) ?_
    refine lv_sipush (v := 192) hx hb dX3_sortOutside_9 (by decide) ?_
    refine lv_icmp_lt (tgt := 43) hx hb dX3_sortOutside_12 (by decide) (fun c_2 => ?_) (fun c_2 => ?_)
    · have tc_2 : x.toInt < 192 := v_lt c_2
      refine lv_iload_n hx hb dX3_sortOutside_43 rfl (lv_at hl 0 rfl) ?_
      refine lv_sipush (v := 880) hx hb dX3_sortOutside_44 (by decide) ?_
      refine lv_icmp_lt (tgt := 62) hx hb dX3_sortOutside_47 (by decide) (fun c_3 => ?_) (fun c_3 => by exfalso; have tc_3 : 880 ≤ x.toInt := v_nlt c_3; omega)
      have tc_3 : x.toInt < 880 := v_lt c_3
      refine lv_iconst (v := 0) hx hb dX3_sortOutside_62 (by decide) ?_
      have hP9 := hP.sub (ws' := []) [] rfl
      have hD9 := hD.sub (ws' := []) [] (by decide) rfl
      rw [hQQ]
      exact W.iret (v := 0) hx hb hr (fun t ht hW => ⟨⟨0, 0, rfl, rfl, ⟨by rw [ht]; exact hP9, hD9, by decide⟩⟩, hS.F ht⟩) hS.2.2 dX3_sortOutside_63
    · have tc_2 : 192 ≤ x.toInt := v_nlt c_2
      refine lv_iload_n hx hb dX3_sortOutside_15 rfl (lv_at hl 0 rfl) ?_
      refine lv_sipush (v := 591) hx hb dX3_sortOutside_16 (by decide) ?_
      refine lv_icmp_gt (tgt := 43) hx hb dX3_sortOutside_19 (by decide) (fun c_4 => ?_) (fun c_4 => ?_)
      · have tc_4 : 591 < x.toInt := v_lt c_4
        refine lv_iload_n hx hb dX3_sortOutside_43 rfl (lv_at hl 0 rfl) ?_
        refine lv_sipush (v := 880) hx hb dX3_sortOutside_44 (by decide) ?_
        refine lv_icmp_lt (tgt := 62) hx hb dX3_sortOutside_47 (by decide) (fun c_5 => ?_) (fun c_5 => ?_)
        · have tc_5 : x.toInt < 880 := v_lt c_5
          refine lv_iconst (v := 0) hx hb dX3_sortOutside_62 (by decide) ?_
          have hP9 := hP.sub (ws' := []) [] rfl
          have hD9 := hD.sub (ws' := []) [] (by decide) rfl
          rw [hQQ]
          exact W.iret (v := 0) hx hb hr (fun t ht hW => ⟨⟨0, 0, rfl, rfl, ⟨by rw [ht]; exact hP9, hD9, by decide⟩⟩, hS.F ht⟩) hS.2.2 dX3_sortOutside_63
        · have tc_5 : 880 ≤ x.toInt := v_nlt c_5
          refine lv_iload_n hx hb dX3_sortOutside_50 rfl (lv_at hl 0 rfl) ?_
          refine lv_sipush (v := 1327) hx hb dX3_sortOutside_51 (by decide) ?_
          refine lv_icmp_gt (tgt := 62) hx hb dX3_sortOutside_54 (by decide) (fun c_6 => ?_) (fun c_6 => ?_)
          · have tc_6 : 1327 < x.toInt := v_lt c_6
            refine lv_iconst (v := 0) hx hb dX3_sortOutside_62 (by decide) ?_
            have hP9 := hP.sub (ws' := []) [] rfl
            have hD9 := hD.sub (ws' := []) [] (by decide) rfl
            rw [hQQ]
            exact W.iret (v := 0) hx hb hr (fun t ht hW => ⟨⟨0, 0, rfl, rfl, ⟨by rw [ht]; exact hP9, hD9, by decide⟩⟩, hS.F ht⟩) hS.2.2 dX3_sortOutside_63
          · have tc_6 : x.toInt ≤ 1327 := v_nlt c_6
            refine lv_bipush (v := 7) hx hb dX3_sortOutside_57 (by decide) ?_
            refine lv_goto (tgt := 63) hx hb dX3_sortOutside_59 (by decide) ?_
            have hP9 := hP.sub (ws' := []) [] rfl
            have hD9 := hD.sub (ws' := []) [] (by decide) rfl
            rw [hQQ]
            exact W.iret (v := 7) hx hb hr (fun t ht hW => ⟨⟨7, 7, rfl, rfl, ⟨by rw [ht]; exact hP9, hD9, by decide⟩⟩, hS.F ht⟩) hS.2.2 dX3_sortOutside_63
      · have tc_4 : x.toInt ≤ 591 := v_nlt c_4
        refine lv_iload_n hx hb dX3_sortOutside_22 rfl (lv_at hl 0 rfl) ?_
        refine lv_sipush (v := 215) hx hb dX3_sortOutside_23 (by decide) ?_
        refine lv_icmp_eq (tgt := 36) hx hb dX3_sortOutside_26 (by decide) (fun c_7 => ?_) (fun c_7 => ?_)
        · have tc_7 : x.toInt = 215 := v_eq c_7
          refine lv_iconst (v := 0) hx hb dX3_sortOutside_36 (by decide) ?_
          refine lv_goto (tgt := 42) hx hb dX3_sortOutside_37 (by decide) ?_
          have hP9 := hP.sub (ws' := []) [] rfl
          have hD9 := hD.sub (ws' := []) [] (by decide) rfl
          rw [hQQ]
          exact W.iret (v := 0) hx hb hr (fun t ht hW => ⟨⟨0, 0, rfl, rfl, ⟨by rw [ht]; exact hP9, hD9, by decide⟩⟩, hS.F ht⟩) hS.2.2 dX3_sortOutside_42
        · have tc_7 : ¬ x.toInt = 215 := v_ne c_7
          refine lv_iload_n hx hb dX3_sortOutside_29 rfl (lv_at hl 0 rfl) ?_
          refine lv_sipush (v := 247) hx hb dX3_sortOutside_30 (by decide) ?_
          refine lv_icmp_ne (tgt := 40) hx hb dX3_sortOutside_33 (by decide) (fun c_8 => ?_) (fun c_8 => ?_)
          · have tc_8 : ¬ x.toInt = 247 := v_ne c_8
            refine lv_bipush (v := 6) hx hb dX3_sortOutside_40 (by decide) ?_
            have hP9 := hP.sub (ws' := []) [] rfl
            have hD9 := hD.sub (ws' := []) [] (by decide) rfl
            rw [hQQ]
            exact W.iret (v := 6) hx hb hr (fun t ht hW => ⟨⟨6, 6, rfl, rfl, ⟨by rw [ht]; exact hP9, hD9, by decide⟩⟩, hS.F ht⟩) hS.2.2 dX3_sortOutside_42
          · have tc_8 : x.toInt = 247 := v_eq c_8
            refine lv_iconst (v := 0) hx hb dX3_sortOutside_36 (by decide) ?_
            refine lv_goto (tgt := 42) hx hb dX3_sortOutside_37 (by decide) ?_
            have hP9 := hP.sub (ws' := []) [] rfl
            have hD9 := hD.sub (ws' := []) [] (by decide) rfl
            rw [hQQ]
            exact W.iret (v := 0) hx hb hr (fun t ht hW => ⟨⟨0, 0, rfl, rfl, ⟨by rw [ht]; exact hP9, hD9, by decide⟩⟩, hS.F ht⟩) hS.2.2 dX3_sortOutside_42
  · have tc_1 : x.toInt = 32 := v_eq c_1
    refine lv_iconst (v := 4) hx hb dX3_sortOutside_6 (by decide) ?_
    have hP9 := hP.sub (ws' := []) [] rfl
    have hD9 := hD.sub (ws' := []) [] (by decide) rfl
    rw [hQQ]
    exact W.iret (v := 4) hx hb hr (fun t ht hW => ⟨⟨4, 4, rfl, rfl, ⟨by rw [ht]; exact hP9, hD9, by decide⟩⟩, hS.F ht⟩) hS.2.2 dX3_sortOutside_7

set_option maxHeartbeats 40000000 in
set_option maxRecDepth 100000 in
theorem m_X3_sortOf (l : Launch) (dC : Nat → ClassId) (dI : Nat → Nat → Nat) (cI cS : ClassId) (sz : Nat) (x : Int32)  : Met l yX3_sortOf wsX3_sortOf ({ frames := 1, cells := 0, slots := 0, locals := 20 } : Room) (va_Pc [.int x] (fun U => U.heap.size = sz ∧ va_P (dC, dI) vwCl [] U.heap ∧ va_K (dC, dI) vwCl [(cI, .int), (cS, .short)] U ∧ va_D (fun _ => True) [])) (va_Qi (fun (r : Int32) (u : Int32) => r = u) (fun (r : Int32) t => va_P (dC, dI) vwCl [] t.heap ∧ va_D (va_A [] sz) [] ∧ (0 ≤ r.toInt ∧ r.toInt ≤ 7)) (va_A [] sz)) 0 0 (va_A [] sz) := by
  refine Met.ofW (cc := cX3_sortOf) (maxL := 1) (ret := (some .int)) (by decide) rfl ?_
  intro p e s m args below meth c s₁ B hml hv
  obtain ⟨rfl, hsz, hP, hK, hD0⟩ := hv
  have hx := B.exec
  have hb := B.bytes
  have hr := B.returns
  have hts := atoms_spec (ws := wsX3_sortOf) B.pre
  have hown : s.vm.findClass RX3 = some m.cls := findClass_of_methodNamed B.named
  have hlocks := B.notSynchronized
  subst hsz
  have hD := hD0.self (sz := s.heap.size)
  generalize hAe : va_A [] s.heap.size = A at hD ⊢
  have hA : ∀ q : Nat, s.heap.size ≤ q → A q := fun q h => by rw [← hAe]; exact Or.inr h
  have hS : va_S A s.heap s.heap [] := va_S.rf
  have hP : va_P (dC, dI) vwCl [] s.heap := hP
  have hl := lv_entry ([.int x]) (n := 1) (Nat.le_of_ble_eq_true rfl)
  rw [lg_entry_eq]
  generalize (lg_sl ([.int x]) ++ List.replicate (1 - (lg_sl ([.int x])).length) Slot.unset).toArray = ls at hl ⊢
  have hl : lv_has ls 1 [(0, .int x)] := hl
  obtain ⟨QQ, hQQ⟩ : ∃ QQ : Array Value → State → Outcome → State → Prop, QQ = va_Qi (fun (r : Int32) (u : Int32) => r = u) (fun (r : Int32) t => va_P (dC, dI) vwCl [] t.heap ∧ va_D A [] ∧ (0 ≤ r.toInt ∧ r.toInt ≤ 7)) A := ⟨_, rfl⟩
  rw [← hQQ]
  refine lv_iload_n hx hb dX3_sortOf_0 rfl (lv_at hl 0 rfl) ?_
  refine lv_bipush (v := 33) hx hb dX3_sortOf_1 (by decide) ?_
  refine lv_icmp_lt (tgt := 12) hx hb dX3_sortOf_3 (by decide) (fun c_1 => ?_) (fun c_1 => ?_)
  · have tc_1 : x.toInt < 33 := v_lt c_1
    refine lv_iload_n hx hb dX3_sortOf_12 rfl (lv_at hl 0 rfl) ?_
    have hPc := hP.sub (ws' := []) [] rfl
    have hDc := hD.sub (ws' := []) [] (by decide) rfl
    have hFc := va_free (wc := []) hD hS hA [] rfl
    refine va_calli (va_runS (As := [.int x]) (rest := []) ⟨hx, hb, hml, hown, hts⟩ (m_X3_sortOutside l dC dI cI cS s.heap.size x ) (va_cwS 1 hts gX3_sortOf_X3_sortOutside rfl rfl rfl (by decide +kernel) ⟨Nat.le_of_ble_eq_true rfl, Nat.le_of_ble_eq_true rfl⟩) ⟨fun a U g mk q => by obtain ⟨q0, q1, qP, qK, qD⟩ := q; exact ⟨q0, q1, qP, va_K.moved (u := U) (U := U.calling g mk a) (Vm.Alike.refl U.vm) qK, qD⟩, fun U hU hW => ⟨rfl, by rw [hU], by rw [hU]; exact hPc, va_K.moved hW.alike hK, hDc.weaken (fun _ _ _ _ => trivial)⟩⟩ rfl rfl hl.1 rfl (lv_room (Nat.le_of_ble_eq_true rfl)) dX3_sortOf_13 ⟨Nat.le_of_ble_eq_true rfl, Nat.le_of_ble_eq_true rfl⟩) hS (fun q _ h => hFc q h) hFc (fun r_2 u t H1 locs ht hvm hw hB hz1 hk1 hS => ?_)
    subst hw
    obtain ⟨hP1, hD1, hf2_0⟩ := hB
    rw [ht] at hP1
    obtain ⟨hP, hD⟩ := va_join (wr := []) (w1 := []) hP hD [] [] rfl rfl (by decide) (by decide) hk1 hFc hP1 hD1
    generalize H1 = H at hP hS ⊢
    have hP : va_P (dC, dI) vwCl [] H := hP
    have hD : va_D A [] := hD
    have hP9 := hP.sub (ws' := []) [] rfl
    have hD9 := hD.sub (ws' := []) [] (by decide) rfl
    rw [hQQ]
    exact W.iret (v := r_2) hx hb hr (fun t ht hW => ⟨⟨r_2, r_2, rfl, rfl, ⟨by rw [ht]; exact hP9, hD9, by omega⟩⟩, hS.F ht⟩) hS.2.2 dX3_sortOf_16
  · have tc_1 : 33 ≤ x.toInt := v_nlt c_1
    refine lv_iload_n hx hb dX3_sortOf_6 rfl (lv_at hl 0 rfl) ?_
    refine lv_bipush (v := 126) hx hb dX3_sortOf_7 (by decide) ?_
    refine lv_icmp_le (tgt := 17) hx hb dX3_sortOf_9 (by decide) (fun c_3 => ?_) (fun c_3 => ?_)
    · have tc_3 : x.toInt ≤ 126 := v_le c_3
      refine lv_iload_n hx hb dX3_sortOf_17 rfl (lv_at hl 0 rfl) ?_
      refine lv_bipush (v := 97) hx hb dX3_sortOf_18 (by decide) ?_
      refine lv_icmp_lt (tgt := 31) hx hb dX3_sortOf_20 (by decide) (fun c_4 => ?_) (fun c_4 => ?_)
      · have tc_4 : x.toInt < 97 := v_lt c_4
        refine lv_iload_n hx hb dX3_sortOf_31 rfl (lv_at hl 0 rfl) ?_
        refine lv_bipush (v := 65) hx hb dX3_sortOf_32 (by decide) ?_
        refine lv_icmp_lt (tgt := 45) hx hb dX3_sortOf_34 (by decide) (fun c_5 => ?_) (fun c_5 => ?_)
        · have tc_5 : x.toInt < 65 := v_lt c_5
          refine lv_iload_n hx hb dX3_sortOf_45 rfl (lv_at hl 0 rfl) ?_
          refine lv_bipush (v := 48) hx hb dX3_sortOf_46 (by decide) ?_
          refine lv_icmp_lt (tgt := 61) hx hb dX3_sortOf_48 (by decide) (fun c_6 => ?_) (fun c_6 => ?_)
          · have tc_6 : x.toInt < 48 := v_lt c_6
            refine lv_iconst (v := 5) hx hb dX3_sortOf_61 (by decide) ?_
            have hP9 := hP.sub (ws' := []) [] rfl
            have hD9 := hD.sub (ws' := []) [] (by decide) rfl
            rw [hQQ]
            exact W.iret (v := 5) hx hb hr (fun t ht hW => ⟨⟨5, 5, rfl, rfl, ⟨by rw [ht]; exact hP9, hD9, by decide⟩⟩, hS.F ht⟩) hS.2.2 dX3_sortOf_62
          · have tc_6 : 48 ≤ x.toInt := v_nlt c_6
            refine lv_iload_n hx hb dX3_sortOf_51 rfl (lv_at hl 0 rfl) ?_
            refine lv_bipush (v := 57) hx hb dX3_sortOf_52 (by decide) ?_
            refine lv_icmp_gt (tgt := 61) hx hb dX3_sortOf_54 (by decide) (fun c_7 => ?_) (fun c_7 => ?_)
            · have tc_7 : 57 < x.toInt := v_lt c_7
              refine lv_iconst (v := 5) hx hb dX3_sortOf_61 (by decide) ?_
              have hP9 := hP.sub (ws' := []) [] rfl
              have hD9 := hD.sub (ws' := []) [] (by decide) rfl
              rw [hQQ]
              exact W.iret (v := 5) hx hb hr (fun t ht hW => ⟨⟨5, 5, rfl, rfl, ⟨by rw [ht]; exact hP9, hD9, by decide⟩⟩, hS.F ht⟩) hS.2.2 dX3_sortOf_62
            · have tc_7 : x.toInt ≤ 57 := v_nlt c_7
              refine lv_iconst (v := 3) hx hb dX3_sortOf_57 (by decide) ?_
              refine lv_goto (tgt := 62) hx hb dX3_sortOf_58 (by decide) ?_
              have hP9 := hP.sub (ws' := []) [] rfl
              have hD9 := hD.sub (ws' := []) [] (by decide) rfl
              rw [hQQ]
              exact W.iret (v := 3) hx hb hr (fun t ht hW => ⟨⟨3, 3, rfl, rfl, ⟨by rw [ht]; exact hP9, hD9, by decide⟩⟩, hS.F ht⟩) hS.2.2 dX3_sortOf_62
        · have tc_5 : 65 ≤ x.toInt := v_nlt c_5
          refine lv_iload_n hx hb dX3_sortOf_37 rfl (lv_at hl 0 rfl) ?_
          refine lv_bipush (v := 90) hx hb dX3_sortOf_38 (by decide) ?_
          refine lv_icmp_gt (tgt := 45) hx hb dX3_sortOf_40 (by decide) (fun c_8 => ?_) (fun c_8 => ?_)
          · have tc_8 : 90 < x.toInt := v_lt c_8
            refine lv_iload_n hx hb dX3_sortOf_45 rfl (lv_at hl 0 rfl) ?_
            refine lv_bipush (v := 48) hx hb dX3_sortOf_46 (by decide) ?_
            refine lv_icmp_lt (tgt := 61) hx hb dX3_sortOf_48 (by decide) (fun c_9 => by exfalso; have tc_9 : x.toInt < 48 := v_lt c_9; omega) (fun c_9 => ?_)
            have tc_9 : 48 ≤ x.toInt := v_nlt c_9
            refine lv_iload_n hx hb dX3_sortOf_51 rfl (lv_at hl 0 rfl) ?_
            refine lv_bipush (v := 57) hx hb dX3_sortOf_52 (by decide) ?_
            refine lv_icmp_gt (tgt := 61) hx hb dX3_sortOf_54 (by decide) (fun c_10 => ?_) (fun c_10 => by exfalso; have tc_10 : x.toInt ≤ 57 := v_nlt c_10; omega)
            have tc_10 : 57 < x.toInt := v_lt c_10
            refine lv_iconst (v := 5) hx hb dX3_sortOf_61 (by decide) ?_
            have hP9 := hP.sub (ws' := []) [] rfl
            have hD9 := hD.sub (ws' := []) [] (by decide) rfl
            rw [hQQ]
            exact W.iret (v := 5) hx hb hr (fun t ht hW => ⟨⟨5, 5, rfl, rfl, ⟨by rw [ht]; exact hP9, hD9, by decide⟩⟩, hS.F ht⟩) hS.2.2 dX3_sortOf_62
          · have tc_8 : x.toInt ≤ 90 := v_nlt c_8
            refine lv_iconst (v := 2) hx hb dX3_sortOf_43 (by decide) ?_
            have hP9 := hP.sub (ws' := []) [] rfl
            have hD9 := hD.sub (ws' := []) [] (by decide) rfl
            rw [hQQ]
            exact W.iret (v := 2) hx hb hr (fun t ht hW => ⟨⟨2, 2, rfl, rfl, ⟨by rw [ht]; exact hP9, hD9, by decide⟩⟩, hS.F ht⟩) hS.2.2 dX3_sortOf_44
      · have tc_4 : 97 ≤ x.toInt := v_nlt c_4
        refine lv_iload_n hx hb dX3_sortOf_23 rfl (lv_at hl 0 rfl) ?_
        refine lv_bipush (v := 122) hx hb dX3_sortOf_24 (by decide) ?_
        refine lv_icmp_gt (tgt := 31) hx hb dX3_sortOf_26 (by decide) (fun c_11 => ?_) (fun c_11 => ?_)
        · have tc_11 : 122 < x.toInt := v_lt c_11
          refine lv_iload_n hx hb dX3_sortOf_31 rfl (lv_at hl 0 rfl) ?_
          refine lv_bipush (v := 65) hx hb dX3_sortOf_32 (by decide) ?_
          refine lv_icmp_lt (tgt := 45) hx hb dX3_sortOf_34 (by decide) (fun c_12 => by exfalso; have tc_12 : x.toInt < 65 := v_lt c_12; omega) (fun c_12 => ?_)
          have tc_12 : 65 ≤ x.toInt := v_nlt c_12
          refine lv_iload_n hx hb dX3_sortOf_37 rfl (lv_at hl 0 rfl) ?_
          refine lv_bipush (v := 90) hx hb dX3_sortOf_38 (by decide) ?_
          refine lv_icmp_gt (tgt := 45) hx hb dX3_sortOf_40 (by decide) (fun c_13 => ?_) (fun c_13 => by exfalso; have tc_13 : x.toInt ≤ 90 := v_nlt c_13; omega)
          have tc_13 : 90 < x.toInt := v_lt c_13
          refine lv_iload_n hx hb dX3_sortOf_45 rfl (lv_at hl 0 rfl) ?_
          refine lv_bipush (v := 48) hx hb dX3_sortOf_46 (by decide) ?_
          refine lv_icmp_lt (tgt := 61) hx hb dX3_sortOf_48 (by decide) (fun c_14 => by exfalso; have tc_14 : x.toInt < 48 := v_lt c_14; omega) (fun c_14 => ?_)
          have tc_14 : 48 ≤ x.toInt := v_nlt c_14
          refine lv_iload_n hx hb dX3_sortOf_51 rfl (lv_at hl 0 rfl) ?_
          refine lv_bipush (v := 57) hx hb dX3_sortOf_52 (by decide) ?_
          refine lv_icmp_gt (tgt := 61) hx hb dX3_sortOf_54 (by decide) (fun c_15 => ?_) (fun c_15 => by exfalso; have tc_15 : x.toInt ≤ 57 := v_nlt c_15; omega)
          have tc_15 : 57 < x.toInt := v_lt c_15
          refine lv_iconst (v := 5) hx hb dX3_sortOf_61 (by decide) ?_
          have hP9 := hP.sub (ws' := []) [] rfl
          have hD9 := hD.sub (ws' := []) [] (by decide) rfl
          rw [hQQ]
          exact W.iret (v := 5) hx hb hr (fun t ht hW => ⟨⟨5, 5, rfl, rfl, ⟨by rw [ht]; exact hP9, hD9, by decide⟩⟩, hS.F ht⟩) hS.2.2 dX3_sortOf_62
        · have tc_11 : x.toInt ≤ 122 := v_nlt c_11
          refine lv_iconst (v := 1) hx hb dX3_sortOf_29 (by decide) ?_
          have hP9 := hP.sub (ws' := []) [] rfl
          have hD9 := hD.sub (ws' := []) [] (by decide) rfl
          rw [hQQ]
          exact W.iret (v := 1) hx hb hr (fun t ht hW => ⟨⟨1, 1, rfl, rfl, ⟨by rw [ht]; exact hP9, hD9, by decide⟩⟩, hS.F ht⟩) hS.2.2 dX3_sortOf_30
    · have tc_3 : 126 < x.toInt := v_nle c_3
      refine lv_iload_n hx hb dX3_sortOf_12 rfl (lv_at hl 0 rfl) ?_
      have hPc := hP.sub (ws' := []) [] rfl
      have hDc := hD.sub (ws' := []) [] (by decide) rfl
      have hFc := va_free (wc := []) hD hS hA [] rfl
      refine va_calli (va_runS (As := [.int x]) (rest := []) ⟨hx, hb, hml, hown, hts⟩ (m_X3_sortOutside l dC dI cI cS s.heap.size x ) (va_cwS 1 hts gX3_sortOf_X3_sortOutside rfl rfl rfl (by decide +kernel) ⟨Nat.le_of_ble_eq_true rfl, Nat.le_of_ble_eq_true rfl⟩) ⟨fun a U g mk q => by obtain ⟨q0, q1, qP, qK, qD⟩ := q; exact ⟨q0, q1, qP, va_K.moved (u := U) (U := U.calling g mk a) (Vm.Alike.refl U.vm) qK, qD⟩, fun U hU hW => ⟨rfl, by rw [hU], by rw [hU]; exact hPc, va_K.moved hW.alike hK, hDc.weaken (fun _ _ _ _ => trivial)⟩⟩ rfl rfl hl.1 rfl (lv_room (Nat.le_of_ble_eq_true rfl)) dX3_sortOf_13 ⟨Nat.le_of_ble_eq_true rfl, Nat.le_of_ble_eq_true rfl⟩) hS (fun q _ h => hFc q h) hFc (fun r_16 u t H1 locs ht hvm hw hB hz1 hk1 hS => ?_)
      subst hw
      obtain ⟨hP1, hD1, hf16_0⟩ := hB
      rw [ht] at hP1
      obtain ⟨hP, hD⟩ := va_join (wr := []) (w1 := []) hP hD [] [] rfl rfl (by decide) (by decide) hk1 hFc hP1 hD1
      generalize H1 = H at hP hS ⊢
      have hP : va_P (dC, dI) vwCl [] H := hP
      have hD : va_D A [] := hD
      have hP9 := hP.sub (ws' := []) [] rfl
      have hD9 := hD.sub (ws' := []) [] (by decide) rfl
      rw [hQQ]
      exact W.iret (v := r_16) hx hb hr (fun t ht hW => ⟨⟨r_16, r_16, rfl, rfl, ⟨by rw [ht]; exact hP9, hD9, by omega⟩⟩, hS.F ht⟩) hS.2.2 dX3_sortOf_16

set_option maxHeartbeats 40000000 in
set_option maxRecDepth 100000 in
theorem m_X3_placeFor (l : Launch) (dC : Nat → ClassId) (dI : Nat → Nat → Nat) (cI cS : ClassId) (sz : Nat) (oK : Nat) (k1 : Nat) (k2 : Nat) (lK : Int32) (fK1 : Nat → Int32) (fK2 : Nat → Int32) (x : Int32) (y : Int32) (g_lK : 0 ≤ lK.toInt ∧ lK.toInt ≤ 300) : Met l yX3_placeFor wsX3_placeFor ({ frames := 1, cells := 0, slots := 0, locals := 21 } : Room) (va_Pc [.ref oK, .int x, .int y] (fun U => U.heap.size = sz ∧ va_P (dC, dI) vwCl [(oK, .inr (3, [.ref k1, .ref k2, .int lK])), (k1, .inl (cI, 1024, .inl fK1)), (k2, .inl (cI, 1024, .inl fK2))] U.heap ∧ va_K (dC, dI) vwCl [(cI, .int), (cS, .short)] U ∧ va_D (fun _ => True) [(oK, .inr (3, [.ref k1, .ref k2, .int lK])), (k1, .inl (cI, 1024, .inl fK1)), (k2, .inl (cI, 1024, .inl fK2))])) (va_Qi (fun (r : Int32) (u : Int32) => r = u) (fun (r : Int32) t => va_P (dC, dI) vwCl [(oK, .inr (3, [.ref k1, .ref k2, .int lK])), (k1, .inl (cI, 1024, .inl fK1)), (k2, .inl (cI, 1024, .inl fK2))] t.heap ∧ va_D (va_A [(oK, .inr (3, [.ref k1, .ref k2, .int lK])), (k1, .inl (cI, 1024, .inl fK1)), (k2, .inl (cI, 1024, .inl fK2))] sz) [(oK, .inr (3, [.ref k1, .ref k2, .int lK])), (k1, .inl (cI, 1024, .inl fK1)), (k2, .inl (cI, 1024, .inl fK2))] ∧ (-1 ≤ r.toInt ∧ r.toInt ≤ 1023)) (va_A [(oK, .inr (3, [.ref k1, .ref k2, .int lK])), (k1, .inl (cI, 1024, .inl fK1)), (k2, .inl (cI, 1024, .inl fK2))] sz)) 0 0 (va_A [(oK, .inr (3, [.ref k1, .ref k2, .int lK])), (k1, .inl (cI, 1024, .inl fK1)), (k2, .inl (cI, 1024, .inl fK2))] sz) := by
  refine Met.ofW (cc := cX3_placeFor) (maxL := 7) (ret := (some .int)) (by decide) rfl ?_
  intro p e s m args below meth c s₁ B hml hv
  obtain ⟨rfl, hsz, hP, hK, hD0⟩ := hv
  have hx := B.exec
  have hb := B.bytes
  have hr := B.returns
  have hts := atoms_spec (ws := wsX3_placeFor) B.pre
  have hown : s.vm.findClass RX3 = some m.cls := findClass_of_methodNamed B.named
  have hlocks := B.notSynchronized
  have in_X3 : ∀ w ∈ wsX30, w ∈ wsX3_placeFor := fun _ h => List.mem_cons_of_mem _ (List.mem_append_right _ (h))
  subst hsz
  have hD := hD0.self (sz := s.heap.size)
  generalize hAe : va_A [(oK, .inr (3, [.ref k1, .ref k2, .int lK])), (k1, .inl (cI, 1024, .inl fK1)), (k2, .inl (cI, 1024, .inl fK2))] s.heap.size = A at hD ⊢
  have hA : ∀ q : Nat, s.heap.size ≤ q → A q := fun q h => by rw [← hAe]; exact Or.inr h
  have hS : va_S A s.heap s.heap [] := va_S.rf
  have hP : va_P (dC, dI) vwCl [(oK, .inr (3, [.ref k1, .ref k2, .int lK])), (k1, .inl (cI, 1024, .inl fK1)), (k2, .inl (cI, 1024, .inl fK2))] s.heap := hP
  have hl := lv_entry ([.ref oK, .int x, .int y]) (n := 7) (Nat.le_of_ble_eq_true rfl)
  rw [lg_entry_eq]
  generalize (lg_sl ([.ref oK, .int x, .int y]) ++ List.replicate (7 - (lg_sl ([.ref oK, .int x, .int y])).length) Slot.unset).toArray = ls at hl ⊢
  have hl : lv_has ls 7 [(0, .ref oK), (1, .int x), (2, .int y)] := hl
  obtain ⟨QQ, hQQ⟩ : ∃ QQ : Array Value → State → Outcome → State → Prop, QQ = va_Qi (fun (r : Int32) (u : Int32) => r = u) (fun (r : Int32) t => va_P (dC, dI) vwCl [(oK, .inr (3, [.ref k1, .ref k2, .int lK])), (k1, .inl (cI, 1024, .inl fK1)), (k2, .inl (cI, 1024, .inl fK2))] t.heap ∧ va_D A [(oK, .inr (3, [.ref k1, .ref k2, .int lK])), (k1, .inl (cI, 1024, .inl fK1)), (k2, .inl (cI, 1024, .inl fK2))] ∧ (-1 ≤ r.toInt ∧ r.toInt ≤ 1023)) A := ⟨_, rfl⟩
  rw [← hQQ]
  refine lv_iload_n hx hb dX3_placeFor_0 rfl (lv_at hl 1 rfl) ?_
  refine lv_iload_n hx hb dX3_placeFor_1 rfl (lv_at hl 2 rfl) ?_
  have hPc := hP.sub (ws' := []) [] rfl
  have hDc := hD.sub (ws' := []) [] (by decide) rfl
  have hFc := va_free (wc := []) hD hS hA [] rfl
  refine va_calli (va_runS (As := [.int x, .int y]) (rest := []) ⟨hx, hb, hml, hown, hts⟩ (m_X3_pairOf l dC dI cI cS s.heap.size x y ) (va_cwS 2 hts gX3_placeFor_X3_pairOf rfl rfl rfl (by decide +kernel) ⟨Nat.le_of_ble_eq_true rfl, Nat.le_of_ble_eq_true rfl⟩) ⟨fun a U g mk q => by obtain ⟨q0, q1, qP, qK, qD⟩ := q; exact ⟨q0, q1, qP, va_K.moved (u := U) (U := U.calling g mk a) (Vm.Alike.refl U.vm) qK, qD⟩, fun U hU hW => ⟨rfl, by rw [hU], by rw [hU]; exact hPc, va_K.moved hW.alike hK, hDc.weaken (fun _ _ _ _ => trivial)⟩⟩ rfl rfl hl.1 rfl (lv_room (Nat.le_of_ble_eq_true rfl)) dX3_placeFor_2 ⟨Nat.le_of_ble_eq_true rfl, Nat.le_of_ble_eq_true rfl⟩) hS (fun q _ h => hFc q h) hFc (fun r_1 u t H1 locs ht hvm hw hB hz1 hk1 hS => ?_)
  subst hw
  obtain ⟨hP1, hD1⟩ := hB
  rw [ht] at hP1
  obtain ⟨hP, hD⟩ := va_join (wr := [(oK, .inr (3, [.ref k1, .ref k2, .int lK])), (k1, .inl (cI, 1024, .inl fK1)), (k2, .inl (cI, 1024, .inl fK2))]) (w1 := []) hP hD [] [0, 1, 2] rfl rfl (by decide) (by decide) hk1 hFc hP1 hD1
  generalize H1 = H at hP hS ⊢
  have hP : va_P (dC, dI) vwCl [(oK, .inr (3, [.ref k1, .ref k2, .int lK])), (k1, .inl (cI, 1024, .inl fK1)), (k2, .inl (cI, 1024, .inl fK2))] H := hP
  have hD : va_D A [(oK, .inr (3, [.ref k1, .ref k2, .int lK])), (k1, .inl (cI, 1024, .inl fK1)), (k2, .inl (cI, 1024, .inl fK2))] := hD
  refine lv_istore_n (lv' := [(3, .int r_1), (0, .ref oK), (1, .int x), (2, .int y)]) hx hb dX3_placeFor_5 rfl hl (by decide) rfl (fun ls hl => ?_)
  refine lv_iload_n hx hb dX3_placeFor_6 rfl (lv_at hl 0 rfl) ?_
  refine lv_ldc hx hb hown (hts (.constant RX3 53 (-1640531535)) (List.mem_of_getElem? (i := 1) rfl)) dX3_placeFor_7 ?_
  refine lv_imul hx hb dX3_placeFor_9 ?_
  refine lv_topi (fun x_2 ex_2 => ?_)
  have rv2_0 := v_rng r_1
  refine lv_bipush (v := 22) hx hb dX3_placeFor_10 (by decide) ?_
  obtain ⟨x_3, ex_3⟩ : ∃ v : Int32, v = ((x_2 : Int32).toUInt32 >>> ((22 : Int32).toUInt32 &&& Int32.toUInt32 31)).toInt32 := ⟨_, rfl⟩
  refine lv_iushr (v := x_3) hx hb dX3_placeFor_12 ex_3.symm ?_
  have tx_3 : 0 ≤ x_3.toInt ∧ x_3.toInt < 1024 := v_ushr 22 ex_3 (by decide) (by decide) (by decide)
  refine lv_istore (lv' := [(4, .int x_3), (3, .int r_1), (0, .ref oK), (1, .int x), (2, .int y)]) hx hb dX3_placeFor_13 hl (by decide) rfl (fun ls hl => ?_)
  refine lv_iconst (v := 0) hx hb dX3_placeFor_15 (by decide) ?_
  refine lv_istore (lv' := [(5, .int 0), (4, .int x_3), (3, .int r_1), (0, .ref oK), (1, .int x), (2, .int y)]) hx hb dX3_placeFor_16 hl (by decide) rfl (fun ls hl => ?_)
  have LOOP_18 : ∀ (k_18 : Nat) (k : Int32) (H : Heap) (locs : List Loc) (ls : Array Slot), (1024 - k.toInt : Int).toNat < k_18 → (0 ≤ k.toInt ∧ k.toInt ≤ 1024) → va_P (dC, dI) vwCl [(oK, .inr (3, [.ref k1, .ref k2, .int lK])), (k1, .inl (cI, 1024, .inl fK1)), (k2, .inl (cI, 1024, .inl fK2))] H → va_D A [(oK, .inr (3, [.ref k1, .ref k2, .int lK])), (k1, .inl (cI, 1024, .inl fK1)), (k2, .inl (cI, 1024, .inl fK2))] → va_S A s.heap H locs → lv_has ls 7 [(5, .int k), (4, .int x_3), (3, .int r_1), (0, .ref oK), (1, .int x), (2, .int y)] → W p l e (headSpec wsX3_placeFor ({ frames := 1, cells := 0, slots := 0, locals := 21 } : Room)).room s m ([.ref oK, .int x, .int y] : List Value).toArray below meth c H locs 0 0 (MQ below QQ ([.ref oK, .int x, .int y] : List Value).toArray s 0 0 A) (F0 m 18 ls []) := by
    intro k_18
    induction k_18 with
    | zero =>
      intro k H locs ls hm_18 g_k hP hD hS hl
      exact absurd hm_18 (Nat.not_lt_zero _)
    | succ k_18 ih_18 =>
      intro k H locs ls hm_18 g_k hP hD hS hl
      refine lv_iload hx hb dX3_placeFor_18 (lv_at hl 0 rfl) ?_
      refine lv_sipush (v := 1024) hx hb dX3_placeFor_20 (by decide) ?_
      refine lv_icmp_ge (tgt := 68) hx hb dX3_placeFor_23 (by decide) (fun c_4 => ?_) (fun c_4 => ?_)
      · have tc_4 : 1024 ≤ k.toInt := v_le c_4
        refine lv_iconst (v := (-1)) hx hb dX3_placeFor_68 (by decide) ?_
        have hP9 := hP.sub (ws' := [(oK, .inr (3, [.ref k1, .ref k2, .int lK])), (k1, .inl (cI, 1024, .inl fK1)), (k2, .inl (cI, 1024, .inl fK2))]) [0, 1, 2] rfl
        have hD9 := hD.sub (ws' := [(oK, .inr (3, [.ref k1, .ref k2, .int lK])), (k1, .inl (cI, 1024, .inl fK1)), (k2, .inl (cI, 1024, .inl fK2))]) [0, 1, 2] (by decide) rfl
        rw [hQQ]
        exact W.iret (v := (-1)) hx hb hr (fun t ht hW => ⟨⟨(-1), (-1), rfl, rfl, ⟨by rw [ht]; exact hP9, hD9, by decide⟩⟩, hS.F ht⟩) hS.2.2 dX3_placeFor_69
      · have tc_4 : k.toInt < 1024 := v_nle c_4
        refine lv_iload hx hb dX3_placeFor_26 (lv_at hl 1 rfl) ?_
        refine lv_iload hx hb dX3_placeFor_28 (lv_at hl 0 rfl) ?_
        refine lv_iadd hx hb dX3_placeFor_30 ?_
        refine lv_topi (fun x_5 ex_5 => ?_)
        have tx_5 : x_5.toInt = x_3.toInt + k.toInt := v_add ex_5 (by show -2147483648 ≤ x_3.toInt + k.toInt; omega) (by show x_3.toInt + k.toInt < 2147483648; omega)
        refine lv_sipush (v := 1023) hx hb dX3_placeFor_31 (by decide) ?_
        refine lv_iand hx hb dX3_placeFor_34 ?_
        refine lv_topi (fun x_6 ex_6 => ?_)
        have tx_6 : 0 ≤ x_6.toInt ∧ x_6.toInt < 1024 := v_and 10 ex_6 (by decide) (by decide)
        refine lv_istore (lv' := [(6, .int x_6), (5, .int k), (4, .int x_3), (3, .int r_1), (0, .ref oK), (1, .int x), (2, .int y)]) hx hb dX3_placeFor_35 hl (by decide) rfl (fun ls hl => ?_)
        refine lv_aload_n hx hb dX3_placeFor_37 rfl (lv_at hl 4 rfl) ?_
        refine va_get (D := (dC, dI)) (ci := 3) (v := .ref k2) (C := RX3) (T := TX3) (N := 3) hx hb hts in_X3 hown hK hP 0 rfl rfl 1 (by decide) (hts (.fieldLink RX3 15 "TextMender$Costs" "value" "[I") (List.mem_of_getElem? (i := 2) rfl)) (fun _ h9 => h9) rfl dX3_placeFor_38 ?_
        refine lv_iload hx hb dX3_placeFor_41 (lv_at hl 0 rfl) ?_
        refine va_iald hx hb hK hP 2 0 rfl rfl (v_in (by omega)) dX3_placeFor_43 ?_
        refine lv_topi (fun x_7 ex_7 => ?_)
        refine lv_iconst (v := (-1)) hx hb dX3_placeFor_44 (by decide) ?_
        refine lv_icmp_eq (tgt := 59) hx hb dX3_placeFor_45 (by decide) (fun c_8 => ?_) (fun c_8 => ?_)
        · have tc_8 : x_7.toInt = (-1) := v_eq c_8
          refine lv_iload hx hb dX3_placeFor_59 (lv_at hl 0 rfl) ?_
          have hP9 := hP.sub (ws' := [(oK, .inr (3, [.ref k1, .ref k2, .int lK])), (k1, .inl (cI, 1024, .inl fK1)), (k2, .inl (cI, 1024, .inl fK2))]) [0, 1, 2] rfl
          have hD9 := hD.sub (ws' := [(oK, .inr (3, [.ref k1, .ref k2, .int lK])), (k1, .inl (cI, 1024, .inl fK1)), (k2, .inl (cI, 1024, .inl fK2))]) [0, 1, 2] (by decide) rfl
          rw [hQQ]
          exact W.iret (v := x_6) hx hb hr (fun t ht hW => ⟨⟨x_6, x_6, rfl, rfl, ⟨by rw [ht]; exact hP9, hD9, by omega⟩⟩, hS.F ht⟩) hS.2.2 dX3_placeFor_61
        · have tc_8 : ¬ x_7.toInt = (-1) := v_ne c_8
          refine lv_aload_n hx hb dX3_placeFor_48 rfl (lv_at hl 4 rfl) ?_
          refine va_get (D := (dC, dI)) (ci := 3) (v := .ref k1) (C := RX3) (T := TX3) (N := 3) hx hb hts in_X3 hown hK hP 0 rfl rfl 0 (by decide) (hts (.fieldLink RX3 11 "TextMender$Costs" "pair" "[I") (List.mem_of_getElem? (i := 3) rfl)) (fun _ h9 => h9) rfl dX3_placeFor_49 ?_
          refine lv_iload hx hb dX3_placeFor_52 (lv_at hl 0 rfl) ?_
          refine va_iald hx hb hK hP 1 0 rfl rfl (v_in (by omega)) dX3_placeFor_54 ?_
          refine lv_topi (fun x_9 ex_9 => ?_)
          refine lv_iload_n hx hb dX3_placeFor_55 rfl (lv_at hl 3 rfl) ?_
          refine lv_icmp_ne (tgt := 62) hx hb dX3_placeFor_56 (by decide) (fun c_10 => ?_) (fun c_10 => ?_)
          · have tc_10 : ¬ x_9.toInt = r_1.toInt := v_ne c_10
            have rw10_0 := v_rng x_9
            obtain ⟨x_11, ex_11⟩ : ∃ y : Int32, y = k + 1 := ⟨_, rfl⟩
            have tx_11 : x_11.toInt = k.toInt + 1 := v_add ex_11 (by show -2147483648 ≤ k.toInt + 1; omega) (by show k.toInt + 1 < 2147483648; omega)
            refine lv_iinc (v := x_11) (lv' := [(5, .int x_11), (6, .int x_6), (4, .int x_3), (3, .int r_1), (0, .ref oK), (1, .int x), (2, .int y)]) hx hb dX3_placeFor_62 hl (k := 1) rfl (by rw [ex_11]; rfl) (by decide) rfl (fun ls hl => ?_)
            refine lv_goto (tgt := 18) hx hb dX3_placeFor_65 (by decide) ?_
            exact ih_18 x_11 _ _ _ (by have hm9 := hm_18; show ((1024 - x_11.toInt : Int)).toNat < k_18; omega) (by show 0 ≤ x_11.toInt ∧ x_11.toInt ≤ 1024; omega) hP hD hS (lv_sub hl [0, 2, 3, 4, 5, 6] rfl)
          · have tc_10 : x_9.toInt = r_1.toInt := v_eq c_10
            have rw10_0 := v_rng x_9
            refine lv_iload hx hb dX3_placeFor_59 (lv_at hl 0 rfl) ?_
            have hP9 := hP.sub (ws' := [(oK, .inr (3, [.ref k1, .ref k2, .int lK])), (k1, .inl (cI, 1024, .inl fK1)), (k2, .inl (cI, 1024, .inl fK2))]) [0, 1, 2] rfl
            have hD9 := hD.sub (ws' := [(oK, .inr (3, [.ref k1, .ref k2, .int lK])), (k1, .inl (cI, 1024, .inl fK1)), (k2, .inl (cI, 1024, .inl fK2))]) [0, 1, 2] (by decide) rfl
            rw [hQQ]
            exact W.iret (v := x_6) hx hb hr (fun t ht hW => ⟨⟨x_6, x_6, rfl, rfl, ⟨by rw [ht]; exact hP9, hD9, by omega⟩⟩, hS.F ht⟩) hS.2.2 dX3_placeFor_61
  exact LOOP_18 _ 0 _ _ _ (Nat.lt_succ_self _) (by decide) hP hD hS (lv_sub hl [0, 1, 2, 3, 4, 5] rfl)

set_option maxHeartbeats 40000000 in
set_option maxRecDepth 100000 in
theorem m_X3_of (l : Launch) (dC : Nat → ClassId) (dI : Nat → Nat → Nat) (cI cS : ClassId) (sz : Nat) (oK : Nat) (k1 : Nat) (k2 : Nat) (lK : Int32) (fK1 : Nat → Int32) (fK2 : Nat → Int32) (x : Int32) (y : Int32) (g_lK : 0 ≤ lK.toInt ∧ lK.toInt ≤ 300) : Met l yX3_of wsX3_of ({ frames := 2, cells := 0, slots := 0, locals := 47 } : Room) (va_Pc [.ref oK, .int x, .int y] (fun U => U.heap.size = sz ∧ va_P (dC, dI) vwCl [(oK, .inr (3, [.ref k1, .ref k2, .int lK])), (k1, .inl (cI, 1024, .inl fK1)), (k2, .inl (cI, 1024, .inl fK2))] U.heap ∧ va_K (dC, dI) vwCl [(cI, .int), (cS, .short)] U ∧ va_D (fun _ => True) [(oK, .inr (3, [.ref k1, .ref k2, .int lK])), (k1, .inl (cI, 1024, .inl fK1)), (k2, .inl (cI, 1024, .inl fK2))])) (va_Qi (fun (r : Int32) (u : Int32) => r = u) (fun (r : Int32) t => va_P (dC, dI) vwCl [(oK, .inr (3, [.ref k1, .ref k2, .int lK])), (k1, .inl (cI, 1024, .inl fK1)), (k2, .inl (cI, 1024, .inl fK2))] t.heap ∧ va_D (va_A [(oK, .inr (3, [.ref k1, .ref k2, .int lK])), (k1, .inl (cI, 1024, .inl fK1)), (k2, .inl (cI, 1024, .inl fK2))] sz) [(oK, .inr (3, [.ref k1, .ref k2, .int lK])), (k1, .inl (cI, 1024, .inl fK1)), (k2, .inl (cI, 1024, .inl fK2))]) (va_A [(oK, .inr (3, [.ref k1, .ref k2, .int lK])), (k1, .inl (cI, 1024, .inl fK1)), (k2, .inl (cI, 1024, .inl fK2))] sz)) 0 0 (va_A [(oK, .inr (3, [.ref k1, .ref k2, .int lK])), (k1, .inl (cI, 1024, .inl fK1)), (k2, .inl (cI, 1024, .inl fK2))] sz) := by
  refine Met.ofW (cc := cX3_of) (maxL := 7) (ret := (some .int)) (by decide) rfl ?_
  intro p e s m args below meth c s₁ B hml hv
  obtain ⟨rfl, hsz, hP, hK, hD0⟩ := hv
  have hx := B.exec
  have hb := B.bytes
  have hr := B.returns
  have hts := atoms_spec (ws := wsX3_of) B.pre
  have hown : s.vm.findClass RX3 = some m.cls := findClass_of_methodNamed B.named
  have hlocks := B.notSynchronized
  have in_X3 : ∀ w ∈ wsX30, w ∈ wsX3_of := fun _ h => List.mem_cons_of_mem _ (List.mem_append_right _ (h))
  subst hsz
  have hD := hD0.self (sz := s.heap.size)
  generalize hAe : va_A [(oK, .inr (3, [.ref k1, .ref k2, .int lK])), (k1, .inl (cI, 1024, .inl fK1)), (k2, .inl (cI, 1024, .inl fK2))] s.heap.size = A at hD ⊢
  have hA : ∀ q : Nat, s.heap.size ≤ q → A q := fun q h => by rw [← hAe]; exact Or.inr h
  have hS : va_S A s.heap s.heap [] := va_S.rf
  have hP : va_P (dC, dI) vwCl [(oK, .inr (3, [.ref k1, .ref k2, .int lK])), (k1, .inl (cI, 1024, .inl fK1)), (k2, .inl (cI, 1024, .inl fK2))] s.heap := hP
  have hl := lv_entry ([.ref oK, .int x, .int y]) (n := 7) (Nat.le_of_ble_eq_true rfl)
  rw [lg_entry_eq]
  generalize (lg_sl ([.ref oK, .int x, .int y]) ++ List.replicate (7 - (lg_sl ([.ref oK, .int x, .int y])).length) Slot.unset).toArray = ls at hl ⊢
  have hl : lv_has ls 7 [(0, .ref oK), (1, .int x), (2, .int y)] := hl
  obtain ⟨QQ, hQQ⟩ : ∃ QQ : Array Value → State → Outcome → State → Prop, QQ = va_Qi (fun (r : Int32) (u : Int32) => r = u) (fun (r : Int32) t => va_P (dC, dI) vwCl [(oK, .inr (3, [.ref k1, .ref k2, .int lK])), (k1, .inl (cI, 1024, .inl fK1)), (k2, .inl (cI, 1024, .inl fK2))] t.heap ∧ va_D A [(oK, .inr (3, [.ref k1, .ref k2, .int lK])), (k1, .inl (cI, 1024, .inl fK1)), (k2, .inl (cI, 1024, .inl fK2))]) A := ⟨_, rfl⟩
  rw [← hQQ]
  refine lv_aload_n hx hb dX3_of_0 rfl (lv_at hl 0 rfl) ?_
  refine va_get (D := (dC, dI)) (ci := 3) (v := .int lK) (C := RX3) (T := TX3) (N := 3) hx hb hts in_X3 hown hK hP 0 rfl rfl 2 (by decide) (hts (.fieldLink RX3 24 "TextMender$Costs" "length" "I") (List.mem_of_getElem? (i := 1) rfl)) (fun _ h9 => h9) rfl dX3_of_1 ?_
  refine lv_if_ne (tgt := 11) hx hb dX3_of_4 (by decide) (fun c_1 => ?_) (fun c_1 => ?_)
  · have tc_1 : ¬ lK.toInt = 0 := v_ne c_1
    refine lv_aload_n hx hb dX3_of_11 rfl (lv_at hl 0 rfl) ?_
    refine lv_iload_n hx hb dX3_of_12 rfl (lv_at hl 1 rfl) ?_
    refine lv_iload_n hx hb dX3_of_13 rfl (lv_at hl 2 rfl) ?_
    have hPc := hP.sub (ws' := [(oK, .inr (3, [.ref k1, .ref k2, .int lK])), (k1, .inl (cI, 1024, .inl fK1)), (k2, .inl (cI, 1024, .inl fK2))]) [0, 1, 2] rfl
    have hDc := hD.sub (ws' := [(oK, .inr (3, [.ref k1, .ref k2, .int lK])), (k1, .inl (cI, 1024, .inl fK1)), (k2, .inl (cI, 1024, .inl fK2))]) [0, 1, 2] (by decide) rfl
    have hFc := va_free (wc := [(oK, .inr (3, [.ref k1, .ref k2, .int lK])), (k1, .inl (cI, 1024, .inl fK1)), (k2, .inl (cI, 1024, .inl fK2))]) hD hS hA [0, 1, 2] rfl
    refine va_calli (va_runV (As := [.int x, .int y]) (rest := []) ⟨hx, hb, hml, hown, hts⟩ (m_X3_placeFor l dC dI cI cS s.heap.size oK k1 k2 lK fK1 fK2 x y (by omega)) (cwV 2 hts gX3_of_X3_placeFor rfl rfl rfl (by decide +kernel) ⟨Nat.le_of_ble_eq_true rfl, Nat.le_of_ble_eq_true rfl⟩) ⟨fun a U g mk q => by obtain ⟨q0, q1, qP, qK, qD⟩ := q; exact ⟨q0, q1, qP, va_K.moved (u := U) (U := U.calling g mk a) (Vm.Alike.refl U.vm) qK, qD⟩, va_recv hK hPc (ci := 3) (q0 := 0) rfl rfl, fun U hU hW => ⟨rfl, by rw [hU], by rw [hU]; exact hPc, va_K.moved hW.alike hK, hDc.weaken (fun _ _ _ _ => trivial)⟩⟩ rfl rfl hl.1 rfl (lv_room (Nat.le_of_ble_eq_true rfl)) dX3_of_14 ⟨Nat.le_of_ble_eq_true rfl, Nat.le_of_ble_eq_true rfl⟩) hS (fun q _ h => hFc q h) hFc (fun r_2 u t H1 locs ht hvm hw hB hz1 hk1 hS => ?_)
    subst hw
    obtain ⟨hP1, hD1, hf2_0⟩ := hB
    rw [ht] at hP1
    obtain ⟨hP, hD⟩ := va_join (wr := []) (w1 := [(oK, .inr (3, [.ref k1, .ref k2, .int lK])), (k1, .inl (cI, 1024, .inl fK1)), (k2, .inl (cI, 1024, .inl fK2))]) hP hD [0, 1, 2] [] rfl rfl (by decide) (by decide) hk1 hFc hP1 hD1
    generalize H1 = H at hP hS ⊢
    have hP : va_P (dC, dI) vwCl [(oK, .inr (3, [.ref k1, .ref k2, .int lK])), (k1, .inl (cI, 1024, .inl fK1)), (k2, .inl (cI, 1024, .inl fK2))] H := hP
    have hD : va_D A [(oK, .inr (3, [.ref k1, .ref k2, .int lK])), (k1, .inl (cI, 1024, .inl fK1)), (k2, .inl (cI, 1024, .inl fK2))] := hD
    refine lv_istore_n (lv' := [(3, .int r_2), (0, .ref oK), (1, .int x), (2, .int y)]) hx hb dX3_of_17 rfl hl (by decide) rfl (fun ls hl => ?_)
    refine lv_iload_n hx hb dX3_of_18 rfl (lv_at hl 0 rfl) ?_
    refine lv_iconst (v := (-1)) hx hb dX3_of_19 (by decide) ?_
    refine lv_icmp_eq (tgt := 40) hx hb dX3_of_20 (by decide) (fun c_3 => ?_) (fun c_3 => ?_)
    · have tc_3 : r_2.toInt = (-1) := v_eq c_3
      refine lv_iload_n hx hb dX3_of_40 rfl (lv_at hl 2 rfl) ?_
      have hPc := hP.sub (ws' := []) [] rfl
      have hDc := hD.sub (ws' := []) [] (by decide) rfl
      have hFc := va_free (wc := []) hD hS hA [] rfl
      refine va_calli (va_runS (As := [.int x]) (rest := []) ⟨hx, hb, hml, hown, hts⟩ (m_X3_sortOf l dC dI cI cS H.size x ) (va_cwS 1 hts gX3_of_X3_sortOf rfl rfl rfl (by decide +kernel) ⟨Nat.le_of_ble_eq_true rfl, Nat.le_of_ble_eq_true rfl⟩) ⟨fun a U g mk q => by obtain ⟨q0, q1, qP, qK, qD⟩ := q; exact ⟨q0, q1, qP, va_K.moved (u := U) (U := U.calling g mk a) (Vm.Alike.refl U.vm) qK, qD⟩, fun U hU hW => ⟨rfl, by rw [hU], by rw [hU]; exact hPc, va_K.moved hW.alike hK, hDc.weaken (fun _ _ _ _ => trivial)⟩⟩ rfl rfl hl.1 rfl (lv_room (Nat.le_of_ble_eq_true rfl)) dX3_of_41 ⟨Nat.le_of_ble_eq_true rfl, Nat.le_of_ble_eq_true rfl⟩) hS (fun q _ h => hFc q h) hFc (fun r_4 u t H1 locs ht hvm hw hB hz1 hk1 hS => ?_)
      subst hw
      obtain ⟨hP1, hD1, hf4_0⟩ := hB
      rw [ht] at hP1
      obtain ⟨hP, hD⟩ := va_join (wr := [(oK, .inr (3, [.ref k1, .ref k2, .int lK])), (k1, .inl (cI, 1024, .inl fK1)), (k2, .inl (cI, 1024, .inl fK2))]) (w1 := []) hP hD [] [0, 1, 2] rfl rfl (by decide) (by decide) hk1 hFc hP1 hD1
      generalize H1 = H at hP hS ⊢
      have hP : va_P (dC, dI) vwCl [(oK, .inr (3, [.ref k1, .ref k2, .int lK])), (k1, .inl (cI, 1024, .inl fK1)), (k2, .inl (cI, 1024, .inl fK2))] H := hP
      have hD : va_D A [(oK, .inr (3, [.ref k1, .ref k2, .int lK])), (k1, .inl (cI, 1024, .inl fK1)), (k2, .inl (cI, 1024, .inl fK2))] := hD
      refine lv_istore (lv' := [(4, .int r_4), (3, .int r_2), (0, .ref oK), (1, .int x), (2, .int y)]) hx hb dX3_of_44 hl (by decide) rfl (fun ls hl => ?_)
      refine lv_iload_n hx hb dX3_of_46 rfl (lv_at hl 4 rfl) ?_
      have hPc := hP.sub (ws' := []) [] rfl
      have hDc := hD.sub (ws' := []) [] (by decide) rfl
      have hFc := va_free (wc := []) hD hS hA [] rfl
      refine va_calli (va_runS (As := [.int y]) (rest := []) ⟨hx, hb, hml, hown, hts⟩ (m_X3_sortOf l dC dI cI cS H.size y ) (va_cwS 1 hts gX3_of_X3_sortOf rfl rfl rfl (by decide +kernel) ⟨Nat.le_of_ble_eq_true rfl, Nat.le_of_ble_eq_true rfl⟩) ⟨fun a U g mk q => by obtain ⟨q0, q1, qP, qK, qD⟩ := q; exact ⟨q0, q1, qP, va_K.moved (u := U) (U := U.calling g mk a) (Vm.Alike.refl U.vm) qK, qD⟩, fun U hU hW => ⟨rfl, by rw [hU], by rw [hU]; exact hPc, va_K.moved hW.alike hK, hDc.weaken (fun _ _ _ _ => trivial)⟩⟩ rfl rfl hl.1 rfl (lv_room (Nat.le_of_ble_eq_true rfl)) dX3_of_47 ⟨Nat.le_of_ble_eq_true rfl, Nat.le_of_ble_eq_true rfl⟩) hS (fun q _ h => hFc q h) hFc (fun r_5 u t H1 locs ht hvm hw hB hz1 hk1 hS => ?_)
      subst hw
      obtain ⟨hP1, hD1, hf5_0⟩ := hB
      rw [ht] at hP1
      obtain ⟨hP, hD⟩ := va_join (wr := [(oK, .inr (3, [.ref k1, .ref k2, .int lK])), (k1, .inl (cI, 1024, .inl fK1)), (k2, .inl (cI, 1024, .inl fK2))]) (w1 := []) hP hD [] [0, 1, 2] rfl rfl (by decide) (by decide) hk1 hFc hP1 hD1
      generalize H1 = H at hP hS ⊢
      have hP : va_P (dC, dI) vwCl [(oK, .inr (3, [.ref k1, .ref k2, .int lK])), (k1, .inl (cI, 1024, .inl fK1)), (k2, .inl (cI, 1024, .inl fK2))] H := hP
      have hD : va_D A [(oK, .inr (3, [.ref k1, .ref k2, .int lK])), (k1, .inl (cI, 1024, .inl fK1)), (k2, .inl (cI, 1024, .inl fK2))] := hD
      refine lv_istore (lv' := [(5, .int r_5), (4, .int r_4), (3, .int r_2), (0, .ref oK), (1, .int x), (2, .int y)]) hx hb dX3_of_50 hl (by decide) rfl (fun ls hl => ?_)
      refine lv_iload hx hb dX3_of_52 (lv_at hl 1 rfl) ?_
      refine lv_iload hx hb dX3_of_54 (lv_at hl 0 rfl) ?_
      refine lv_icmp_ne (tgt := 63) hx hb dX3_of_56 (by decide) (fun c_6 => ?_) (fun c_6 => ?_)
      · have tc_6 : ¬ r_4.toInt = r_5.toInt := v_ne c_6
        refine lv_bipush (v := 9) hx hb dX3_of_63 (by decide) ?_
        refine lv_istore (lv' := [(6, .int 9), (5, .int r_5), (4, .int r_4), (3, .int r_2), (0, .ref oK), (1, .int x), (2, .int y)]) hx hb dX3_of_65 hl (by decide) rfl (fun ls hl => ?_)
        refine lv_iload hx hb dX3_of_67 (lv_at hl 0 rfl) ?_
        refine lv_iload hx hb dX3_of_69 (lv_at hl 2 rfl) ?_
        refine lv_if_ne (tgt := 79) hx hb dX3_of_71 (by decide) (fun c_7 => ?_) (fun c_7 => ?_)
        · have tc_7 : ¬ r_4.toInt = 0 := v_ne c_7
          refine lv_iconst (v := 0) hx hb dX3_of_79 (by decide) ?_
          refine lv_iadd hx hb dX3_of_80 ?_
          refine k_i (y := 9) (by decide) ?_
          refine lv_istore (lv' := [(6, .int 9), (5, .int r_5), (4, .int r_4), (3, .int r_2), (0, .ref oK), (1, .int x), (2, .int y)]) hx hb dX3_of_81 hl (by decide) rfl (fun ls hl => ?_)
          refine lv_iload hx hb dX3_of_83 (lv_at hl 0 rfl) ?_
          refine lv_iload hx hb dX3_of_85 (lv_at hl 1 rfl) ?_
          refine lv_if_ne (tgt := 95) hx hb dX3_of_87 (by decide) (fun c_8 => ?_) (fun c_8 => ?_)
          · have tc_8 : ¬ r_5.toInt = 0 := v_ne c_8
            refine lv_iconst (v := 0) hx hb dX3_of_95 (by decide) ?_
            refine lv_iadd hx hb dX3_of_96 ?_
            refine k_i (y := 9) (by decide) ?_
            have hP9 := hP.sub (ws' := [(oK, .inr (3, [.ref k1, .ref k2, .int lK])), (k1, .inl (cI, 1024, .inl fK1)), (k2, .inl (cI, 1024, .inl fK2))]) [0, 1, 2] rfl
            have hD9 := hD.sub (ws' := [(oK, .inr (3, [.ref k1, .ref k2, .int lK])), (k1, .inl (cI, 1024, .inl fK1)), (k2, .inl (cI, 1024, .inl fK2))]) [0, 1, 2] (by decide) rfl
            rw [hQQ]
            exact W.iret (v := 9) hx hb hr (fun t ht hW => ⟨⟨9, 9, rfl, rfl, ⟨by rw [ht]; exact hP9, hD9⟩⟩, hS.F ht⟩) hS.2.2 dX3_of_97
          · have tc_8 : r_5.toInt = 0 := v_eq c_8
            refine lv_bipush (v := 30) hx hb dX3_of_90 (by decide) ?_
            refine lv_goto (tgt := 96) hx hb dX3_of_92 (by decide) ?_
            refine lv_iadd hx hb dX3_of_96 ?_
            refine k_i (y := 39) (by decide) ?_
            have hP9 := hP.sub (ws' := [(oK, .inr (3, [.ref k1, .ref k2, .int lK])), (k1, .inl (cI, 1024, .inl fK1)), (k2, .inl (cI, 1024, .inl fK2))]) [0, 1, 2] rfl
            have hD9 := hD.sub (ws' := [(oK, .inr (3, [.ref k1, .ref k2, .int lK])), (k1, .inl (cI, 1024, .inl fK1)), (k2, .inl (cI, 1024, .inl fK2))]) [0, 1, 2] (by decide) rfl
            rw [hQQ]
            exact W.iret (v := 39) hx hb hr (fun t ht hW => ⟨⟨39, 39, rfl, rfl, ⟨by rw [ht]; exact hP9, hD9⟩⟩, hS.F ht⟩) hS.2.2 dX3_of_97
        · have tc_7 : r_4.toInt = 0 := v_eq c_7
          refine lv_bipush (v := 30) hx hb dX3_of_74 (by decide) ?_
          refine lv_goto (tgt := 80) hx hb dX3_of_76 (by decide) ?_
          refine lv_iadd hx hb dX3_of_80 ?_
          refine k_i (y := 39) (by decide) ?_
          refine lv_istore (lv' := [(6, .int 39), (5, .int r_5), (4, .int r_4), (3, .int r_2), (0, .ref oK), (1, .int x), (2, .int y)]) hx hb dX3_of_81 hl (by decide) rfl (fun ls hl => ?_)
          refine lv_iload hx hb dX3_of_83 (lv_at hl 0 rfl) ?_
          refine lv_iload hx hb dX3_of_85 (lv_at hl 1 rfl) ?_
          refine lv_if_ne (tgt := 95) hx hb dX3_of_87 (by decide) (fun c_9 => ?_) (fun c_9 => ?_)
          · have tc_9 : ¬ r_5.toInt = 0 := v_ne c_9
            refine lv_iconst (v := 0) hx hb dX3_of_95 (by decide) ?_
            refine lv_iadd hx hb dX3_of_96 ?_
            refine k_i (y := 39) (by decide) ?_
            have hP9 := hP.sub (ws' := [(oK, .inr (3, [.ref k1, .ref k2, .int lK])), (k1, .inl (cI, 1024, .inl fK1)), (k2, .inl (cI, 1024, .inl fK2))]) [0, 1, 2] rfl
            have hD9 := hD.sub (ws' := [(oK, .inr (3, [.ref k1, .ref k2, .int lK])), (k1, .inl (cI, 1024, .inl fK1)), (k2, .inl (cI, 1024, .inl fK2))]) [0, 1, 2] (by decide) rfl
            rw [hQQ]
            exact W.iret (v := 39) hx hb hr (fun t ht hW => ⟨⟨39, 39, rfl, rfl, ⟨by rw [ht]; exact hP9, hD9⟩⟩, hS.F ht⟩) hS.2.2 dX3_of_97
          · have tc_9 : r_5.toInt = 0 := v_eq c_9
            refine lv_bipush (v := 30) hx hb dX3_of_90 (by decide) ?_
            refine lv_goto (tgt := 96) hx hb dX3_of_92 (by decide) ?_
            refine lv_iadd hx hb dX3_of_96 ?_
            refine k_i (y := 69) (by decide) ?_
            have hP9 := hP.sub (ws' := [(oK, .inr (3, [.ref k1, .ref k2, .int lK])), (k1, .inl (cI, 1024, .inl fK1)), (k2, .inl (cI, 1024, .inl fK2))]) [0, 1, 2] rfl
            have hD9 := hD.sub (ws' := [(oK, .inr (3, [.ref k1, .ref k2, .int lK])), (k1, .inl (cI, 1024, .inl fK1)), (k2, .inl (cI, 1024, .inl fK2))]) [0, 1, 2] (by decide) rfl
            rw [hQQ]
            exact W.iret (v := 69) hx hb hr (fun t ht hW => ⟨⟨69, 69, rfl, rfl, ⟨by rw [ht]; exact hP9, hD9⟩⟩, hS.F ht⟩) hS.2.2 dX3_of_97
      · have tc_6 : r_4.toInt = r_5.toInt := v_eq c_6
        refine lv_iconst (v := 4) hx hb dX3_of_59 (by decide) ?_
        refine lv_goto (tgt := 65) hx hb dX3_of_60 (by decide) ?_
        refine lv_istore (lv' := [(6, .int 4), (5, .int r_5), (4, .int r_4), (3, .int r_2), (0, .ref oK), (1, .int x), (2, .int y)]) hx hb dX3_of_65 hl (by decide) rfl (fun ls hl => ?_)
        refine lv_iload hx hb dX3_of_67 (lv_at hl 0 rfl) ?_
        refine lv_iload hx hb dX3_of_69 (lv_at hl 2 rfl) ?_
        refine lv_if_ne (tgt := 79) hx hb dX3_of_71 (by decide) (fun c_10 => ?_) (fun c_10 => ?_)
        · have tc_10 : ¬ r_4.toInt = 0 := v_ne c_10
          refine lv_iconst (v := 0) hx hb dX3_of_79 (by decide) ?_
          refine lv_iadd hx hb dX3_of_80 ?_
          refine k_i (y := 4) (by decide) ?_
          refine lv_istore (lv' := [(6, .int 4), (5, .int r_5), (4, .int r_4), (3, .int r_2), (0, .ref oK), (1, .int x), (2, .int y)]) hx hb dX3_of_81 hl (by decide) rfl (fun ls hl => ?_)
          refine lv_iload hx hb dX3_of_83 (lv_at hl 0 rfl) ?_
          refine lv_iload hx hb dX3_of_85 (lv_at hl 1 rfl) ?_
          refine lv_if_ne (tgt := 95) hx hb dX3_of_87 (by decide) (fun c_11 => ?_) (fun c_11 => ?_)
          · have tc_11 : ¬ r_5.toInt = 0 := v_ne c_11
            refine lv_iconst (v := 0) hx hb dX3_of_95 (by decide) ?_
            refine lv_iadd hx hb dX3_of_96 ?_
            refine k_i (y := 4) (by decide) ?_
            have hP9 := hP.sub (ws' := [(oK, .inr (3, [.ref k1, .ref k2, .int lK])), (k1, .inl (cI, 1024, .inl fK1)), (k2, .inl (cI, 1024, .inl fK2))]) [0, 1, 2] rfl
            have hD9 := hD.sub (ws' := [(oK, .inr (3, [.ref k1, .ref k2, .int lK])), (k1, .inl (cI, 1024, .inl fK1)), (k2, .inl (cI, 1024, .inl fK2))]) [0, 1, 2] (by decide) rfl
            rw [hQQ]
            exact W.iret (v := 4) hx hb hr (fun t ht hW => ⟨⟨4, 4, rfl, rfl, ⟨by rw [ht]; exact hP9, hD9⟩⟩, hS.F ht⟩) hS.2.2 dX3_of_97
          · have tc_11 : r_5.toInt = 0 := v_eq c_11
            refine lv_bipush (v := 30) hx hb dX3_of_90 (by decide) ?_
            refine lv_goto (tgt := 96) hx hb dX3_of_92 (by decide) ?_
            refine lv_iadd hx hb dX3_of_96 ?_
            refine k_i (y := 34) (by decide) ?_
            have hP9 := hP.sub (ws' := [(oK, .inr (3, [.ref k1, .ref k2, .int lK])), (k1, .inl (cI, 1024, .inl fK1)), (k2, .inl (cI, 1024, .inl fK2))]) [0, 1, 2] rfl
            have hD9 := hD.sub (ws' := [(oK, .inr (3, [.ref k1, .ref k2, .int lK])), (k1, .inl (cI, 1024, .inl fK1)), (k2, .inl (cI, 1024, .inl fK2))]) [0, 1, 2] (by decide) rfl
            rw [hQQ]
            exact W.iret (v := 34) hx hb hr (fun t ht hW => ⟨⟨34, 34, rfl, rfl, ⟨by rw [ht]; exact hP9, hD9⟩⟩, hS.F ht⟩) hS.2.2 dX3_of_97
        · have tc_10 : r_4.toInt = 0 := v_eq c_10
          refine lv_bipush (v := 30) hx hb dX3_of_74 (by decide) ?_
          refine lv_goto (tgt := 80) hx hb dX3_of_76 (by decide) ?_
          refine lv_iadd hx hb dX3_of_80 ?_
          refine k_i (y := 34) (by decide) ?_
          refine lv_istore (lv' := [(6, .int 34), (5, .int r_5), (4, .int r_4), (3, .int r_2), (0, .ref oK), (1, .int x), (2, .int y)]) hx hb dX3_of_81 hl (by decide) rfl (fun ls hl => ?_)
          refine lv_iload hx hb dX3_of_83 (lv_at hl 0 rfl) ?_
          refine lv_iload hx hb dX3_of_85 (lv_at hl 1 rfl) ?_
          refine lv_if_ne (tgt := 95) hx hb dX3_of_87 (by decide) (fun c_12 => ?_) (fun c_12 => ?_)
          · have tc_12 : ¬ r_5.toInt = 0 := v_ne c_12
            refine lv_iconst (v := 0) hx hb dX3_of_95 (by decide) ?_
            refine lv_iadd hx hb dX3_of_96 ?_
            refine k_i (y := 34) (by decide) ?_
            have hP9 := hP.sub (ws' := [(oK, .inr (3, [.ref k1, .ref k2, .int lK])), (k1, .inl (cI, 1024, .inl fK1)), (k2, .inl (cI, 1024, .inl fK2))]) [0, 1, 2] rfl
            have hD9 := hD.sub (ws' := [(oK, .inr (3, [.ref k1, .ref k2, .int lK])), (k1, .inl (cI, 1024, .inl fK1)), (k2, .inl (cI, 1024, .inl fK2))]) [0, 1, 2] (by decide) rfl
            rw [hQQ]
            exact W.iret (v := 34) hx hb hr (fun t ht hW => ⟨⟨34, 34, rfl, rfl, ⟨by rw [ht]; exact hP9, hD9⟩⟩, hS.F ht⟩) hS.2.2 dX3_of_97
          · have tc_12 : r_5.toInt = 0 := v_eq c_12
            refine lv_bipush (v := 30) hx hb dX3_of_90 (by decide) ?_
            refine lv_goto (tgt := 96) hx hb dX3_of_92 (by decide) ?_
            refine lv_iadd hx hb dX3_of_96 ?_
            refine k_i (y := 64) (by decide) ?_
            have hP9 := hP.sub (ws' := [(oK, .inr (3, [.ref k1, .ref k2, .int lK])), (k1, .inl (cI, 1024, .inl fK1)), (k2, .inl (cI, 1024, .inl fK2))]) [0, 1, 2] rfl
            have hD9 := hD.sub (ws' := [(oK, .inr (3, [.ref k1, .ref k2, .int lK])), (k1, .inl (cI, 1024, .inl fK1)), (k2, .inl (cI, 1024, .inl fK2))]) [0, 1, 2] (by decide) rfl
            rw [hQQ]
            exact W.iret (v := 64) hx hb hr (fun t ht hW => ⟨⟨64, 64, rfl, rfl, ⟨by rw [ht]; exact hP9, hD9⟩⟩, hS.F ht⟩) hS.2.2 dX3_of_97
    · have tc_3 : ¬ r_2.toInt = (-1) := v_ne c_3
      refine lv_aload_n hx hb dX3_of_23 rfl (lv_at hl 1 rfl) ?_
      refine va_get (D := (dC, dI)) (ci := 3) (v := .ref k2) (C := RX3) (T := TX3) (N := 3) hx hb hts in_X3 hown hK hP 0 rfl rfl 1 (by decide) (hts (.fieldLink RX3 15 "TextMender$Costs" "value" "[I") (List.mem_of_getElem? (i := 2) rfl)) (fun _ h9 => h9) rfl dX3_of_24 ?_
      refine lv_iload_n hx hb dX3_of_27 rfl (lv_at hl 0 rfl) ?_
      refine va_iald hx hb hK hP 2 0 rfl rfl (v_in (by omega)) dX3_of_28 ?_
      refine lv_topi (fun x_13 ex_13 => ?_)
      refine lv_iconst (v := (-1)) hx hb dX3_of_29 (by decide) ?_
      refine lv_icmp_eq (tgt := 40) hx hb dX3_of_30 (by decide) (fun c_14 => ?_) (fun c_14 => ?_)
      · have tc_14 : x_13.toInt = (-1) := v_eq c_14
        refine lv_iload_n hx hb dX3_of_40 rfl (lv_at hl 2 rfl) ?_
        have hPc := hP.sub (ws' := []) [] rfl
        have hDc := hD.sub (ws' := []) [] (by decide) rfl
        have hFc := va_free (wc := []) hD hS hA [] rfl
        refine va_calli (va_runS (As := [.int x]) (rest := []) ⟨hx, hb, hml, hown, hts⟩ (m_X3_sortOf l dC dI cI cS H.size x ) (va_cwS 1 hts gX3_of_X3_sortOf rfl rfl rfl (by decide +kernel) ⟨Nat.le_of_ble_eq_true rfl, Nat.le_of_ble_eq_true rfl⟩) ⟨fun a U g mk q => by obtain ⟨q0, q1, qP, qK, qD⟩ := q; exact ⟨q0, q1, qP, va_K.moved (u := U) (U := U.calling g mk a) (Vm.Alike.refl U.vm) qK, qD⟩, fun U hU hW => ⟨rfl, by rw [hU], by rw [hU]; exact hPc, va_K.moved hW.alike hK, hDc.weaken (fun _ _ _ _ => trivial)⟩⟩ rfl rfl hl.1 rfl (lv_room (Nat.le_of_ble_eq_true rfl)) dX3_of_41 ⟨Nat.le_of_ble_eq_true rfl, Nat.le_of_ble_eq_true rfl⟩) hS (fun q _ h => hFc q h) hFc (fun r_15 u t H1 locs ht hvm hw hB hz1 hk1 hS => ?_)
        subst hw
        obtain ⟨hP1, hD1, hf15_0⟩ := hB
        rw [ht] at hP1
        obtain ⟨hP, hD⟩ := va_join (wr := [(oK, .inr (3, [.ref k1, .ref k2, .int lK])), (k1, .inl (cI, 1024, .inl fK1)), (k2, .inl (cI, 1024, .inl fK2))]) (w1 := []) hP hD [] [0, 1, 2] rfl rfl (by decide) (by decide) hk1 hFc hP1 hD1
        generalize H1 = H at hP hS ⊢
        have hP : va_P (dC, dI) vwCl [(oK, .inr (3, [.ref k1, .ref k2, .int lK])), (k1, .inl (cI, 1024, .inl fK1)), (k2, .inl (cI, 1024, .inl fK2))] H := hP
        have hD : va_D A [(oK, .inr (3, [.ref k1, .ref k2, .int lK])), (k1, .inl (cI, 1024, .inl fK1)), (k2, .inl (cI, 1024, .inl fK2))] := hD
        refine lv_istore (lv' := [(4, .int r_15), (3, .int r_2), (0, .ref oK), (1, .int x), (2, .int y)]) hx hb dX3_of_44 hl (by decide) rfl (fun ls hl => ?_)
        refine lv_iload_n hx hb dX3_of_46 rfl (lv_at hl 4 rfl) ?_
        have hPc := hP.sub (ws' := []) [] rfl
        have hDc := hD.sub (ws' := []) [] (by decide) rfl
        have hFc := va_free (wc := []) hD hS hA [] rfl
        refine va_calli (va_runS (As := [.int y]) (rest := []) ⟨hx, hb, hml, hown, hts⟩ (m_X3_sortOf l dC dI cI cS H.size y ) (va_cwS 1 hts gX3_of_X3_sortOf rfl rfl rfl (by decide +kernel) ⟨Nat.le_of_ble_eq_true rfl, Nat.le_of_ble_eq_true rfl⟩) ⟨fun a U g mk q => by obtain ⟨q0, q1, qP, qK, qD⟩ := q; exact ⟨q0, q1, qP, va_K.moved (u := U) (U := U.calling g mk a) (Vm.Alike.refl U.vm) qK, qD⟩, fun U hU hW => ⟨rfl, by rw [hU], by rw [hU]; exact hPc, va_K.moved hW.alike hK, hDc.weaken (fun _ _ _ _ => trivial)⟩⟩ rfl rfl hl.1 rfl (lv_room (Nat.le_of_ble_eq_true rfl)) dX3_of_47 ⟨Nat.le_of_ble_eq_true rfl, Nat.le_of_ble_eq_true rfl⟩) hS (fun q _ h => hFc q h) hFc (fun r_16 u t H1 locs ht hvm hw hB hz1 hk1 hS => ?_)
        subst hw
        obtain ⟨hP1, hD1, hf16_0⟩ := hB
        rw [ht] at hP1
        obtain ⟨hP, hD⟩ := va_join (wr := [(oK, .inr (3, [.ref k1, .ref k2, .int lK])), (k1, .inl (cI, 1024, .inl fK1)), (k2, .inl (cI, 1024, .inl fK2))]) (w1 := []) hP hD [] [0, 1, 2] rfl rfl (by decide) (by decide) hk1 hFc hP1 hD1
        generalize H1 = H at hP hS ⊢
        have hP : va_P (dC, dI) vwCl [(oK, .inr (3, [.ref k1, .ref k2, .int lK])), (k1, .inl (cI, 1024, .inl fK1)), (k2, .inl (cI, 1024, .inl fK2))] H := hP
        have hD : va_D A [(oK, .inr (3, [.ref k1, .ref k2, .int lK])), (k1, .inl (cI, 1024, .inl fK1)), (k2, .inl (cI, 1024, .inl fK2))] := hD
        refine lv_istore (lv' := [(5, .int r_16), (4, .int r_15), (3, .int r_2), (0, .ref oK), (1, .int x), (2, .int y)]) hx hb dX3_of_50 hl (by decide) rfl (fun ls hl => ?_)
        refine lv_iload hx hb dX3_of_52 (lv_at hl 1 rfl) ?_
        refine lv_iload hx hb dX3_of_54 (lv_at hl 0 rfl) ?_
        refine lv_icmp_ne (tgt := 63) hx hb dX3_of_56 (by decide) (fun c_17 => ?_) (fun c_17 => ?_)
        · have tc_17 : ¬ r_15.toInt = r_16.toInt := v_ne c_17
          refine lv_bipush (v := 9) hx hb dX3_of_63 (by decide) ?_
          refine lv_istore (lv' := [(6, .int 9), (5, .int r_16), (4, .int r_15), (3, .int r_2), (0, .ref oK), (1, .int x), (2, .int y)]) hx hb dX3_of_65 hl (by decide) rfl (fun ls hl => ?_)
          refine lv_iload hx hb dX3_of_67 (lv_at hl 0 rfl) ?_
          refine lv_iload hx hb dX3_of_69 (lv_at hl 2 rfl) ?_
          refine lv_if_ne (tgt := 79) hx hb dX3_of_71 (by decide) (fun c_18 => ?_) (fun c_18 => ?_)
          · have tc_18 : ¬ r_15.toInt = 0 := v_ne c_18
            refine lv_iconst (v := 0) hx hb dX3_of_79 (by decide) ?_
            refine lv_iadd hx hb dX3_of_80 ?_
            refine k_i (y := 9) (by decide) ?_
            refine lv_istore (lv' := [(6, .int 9), (5, .int r_16), (4, .int r_15), (3, .int r_2), (0, .ref oK), (1, .int x), (2, .int y)]) hx hb dX3_of_81 hl (by decide) rfl (fun ls hl => ?_)
            refine lv_iload hx hb dX3_of_83 (lv_at hl 0 rfl) ?_
            refine lv_iload hx hb dX3_of_85 (lv_at hl 1 rfl) ?_
            refine lv_if_ne (tgt := 95) hx hb dX3_of_87 (by decide) (fun c_19 => ?_) (fun c_19 => ?_)
            · have tc_19 : ¬ r_16.toInt = 0 := v_ne c_19
              refine lv_iconst (v := 0) hx hb dX3_of_95 (by decide) ?_
              refine lv_iadd hx hb dX3_of_96 ?_
              refine k_i (y := 9) (by decide) ?_
              have hP9 := hP.sub (ws' := [(oK, .inr (3, [.ref k1, .ref k2, .int lK])), (k1, .inl (cI, 1024, .inl fK1)), (k2, .inl (cI, 1024, .inl fK2))]) [0, 1, 2] rfl
              have hD9 := hD.sub (ws' := [(oK, .inr (3, [.ref k1, .ref k2, .int lK])), (k1, .inl (cI, 1024, .inl fK1)), (k2, .inl (cI, 1024, .inl fK2))]) [0, 1, 2] (by decide) rfl
              rw [hQQ]
              exact W.iret (v := 9) hx hb hr (fun t ht hW => ⟨⟨9, 9, rfl, rfl, ⟨by rw [ht]; exact hP9, hD9⟩⟩, hS.F ht⟩) hS.2.2 dX3_of_97
            · have tc_19 : r_16.toInt = 0 := v_eq c_19
              refine lv_bipush (v := 30) hx hb dX3_of_90 (by decide) ?_
              refine lv_goto (tgt := 96) hx hb dX3_of_92 (by decide) ?_
              refine lv_iadd hx hb dX3_of_96 ?_
              refine k_i (y := 39) (by decide) ?_
              have hP9 := hP.sub (ws' := [(oK, .inr (3, [.ref k1, .ref k2, .int lK])), (k1, .inl (cI, 1024, .inl fK1)), (k2, .inl (cI, 1024, .inl fK2))]) [0, 1, 2] rfl
              have hD9 := hD.sub (ws' := [(oK, .inr (3, [.ref k1, .ref k2, .int lK])), (k1, .inl (cI, 1024, .inl fK1)), (k2, .inl (cI, 1024, .inl fK2))]) [0, 1, 2] (by decide) rfl
              rw [hQQ]
              exact W.iret (v := 39) hx hb hr (fun t ht hW => ⟨⟨39, 39, rfl, rfl, ⟨by rw [ht]; exact hP9, hD9⟩⟩, hS.F ht⟩) hS.2.2 dX3_of_97
          · have tc_18 : r_15.toInt = 0 := v_eq c_18
            refine lv_bipush (v := 30) hx hb dX3_of_74 (by decide) ?_
            refine lv_goto (tgt := 80) hx hb dX3_of_76 (by decide) ?_
            refine lv_iadd hx hb dX3_of_80 ?_
            refine k_i (y := 39) (by decide) ?_
            refine lv_istore (lv' := [(6, .int 39), (5, .int r_16), (4, .int r_15), (3, .int r_2), (0, .ref oK), (1, .int x), (2, .int y)]) hx hb dX3_of_81 hl (by decide) rfl (fun ls hl => ?_)
            refine lv_iload hx hb dX3_of_83 (lv_at hl 0 rfl) ?_
            refine lv_iload hx hb dX3_of_85 (lv_at hl 1 rfl) ?_
            refine lv_if_ne (tgt := 95) hx hb dX3_of_87 (by decide) (fun c_20 => ?_) (fun c_20 => ?_)
            · have tc_20 : ¬ r_16.toInt = 0 := v_ne c_20
              refine lv_iconst (v := 0) hx hb dX3_of_95 (by decide) ?_
              refine lv_iadd hx hb dX3_of_96 ?_
              refine k_i (y := 39) (by decide) ?_
              have hP9 := hP.sub (ws' := [(oK, .inr (3, [.ref k1, .ref k2, .int lK])), (k1, .inl (cI, 1024, .inl fK1)), (k2, .inl (cI, 1024, .inl fK2))]) [0, 1, 2] rfl
              have hD9 := hD.sub (ws' := [(oK, .inr (3, [.ref k1, .ref k2, .int lK])), (k1, .inl (cI, 1024, .inl fK1)), (k2, .inl (cI, 1024, .inl fK2))]) [0, 1, 2] (by decide) rfl
              rw [hQQ]
              exact W.iret (v := 39) hx hb hr (fun t ht hW => ⟨⟨39, 39, rfl, rfl, ⟨by rw [ht]; exact hP9, hD9⟩⟩, hS.F ht⟩) hS.2.2 dX3_of_97
            · have tc_20 : r_16.toInt = 0 := v_eq c_20
              refine lv_bipush (v := 30) hx hb dX3_of_90 (by decide) ?_
              refine lv_goto (tgt := 96) hx hb dX3_of_92 (by decide) ?_
              refine lv_iadd hx hb dX3_of_96 ?_
              refine k_i (y := 69) (by decide) ?_
              have hP9 := hP.sub (ws' := [(oK, .inr (3, [.ref k1, .ref k2, .int lK])), (k1, .inl (cI, 1024, .inl fK1)), (k2, .inl (cI, 1024, .inl fK2))]) [0, 1, 2] rfl
              have hD9 := hD.sub (ws' := [(oK, .inr (3, [.ref k1, .ref k2, .int lK])), (k1, .inl (cI, 1024, .inl fK1)), (k2, .inl (cI, 1024, .inl fK2))]) [0, 1, 2] (by decide) rfl
              rw [hQQ]
              exact W.iret (v := 69) hx hb hr (fun t ht hW => ⟨⟨69, 69, rfl, rfl, ⟨by rw [ht]; exact hP9, hD9⟩⟩, hS.F ht⟩) hS.2.2 dX3_of_97
        · have tc_17 : r_15.toInt = r_16.toInt := v_eq c_17
          refine lv_iconst (v := 4) hx hb dX3_of_59 (by decide) ?_
          refine lv_goto (tgt := 65) hx hb dX3_of_60 (by decide) ?_
          refine lv_istore (lv' := [(6, .int 4), (5, .int r_16), (4, .int r_15), (3, .int r_2), (0, .ref oK), (1, .int x), (2, .int y)]) hx hb dX3_of_65 hl (by decide) rfl (fun ls hl => ?_)
          refine lv_iload hx hb dX3_of_67 (lv_at hl 0 rfl) ?_
          refine lv_iload hx hb dX3_of_69 (lv_at hl 2 rfl) ?_
          refine lv_if_ne (tgt := 79) hx hb dX3_of_71 (by decide) (fun c_21 => ?_) (fun c_21 => ?_)
          · have tc_21 : ¬ r_15.toInt = 0 := v_ne c_21
            refine lv_iconst (v := 0) hx hb dX3_of_79 (by decide) ?_
            refine lv_iadd hx hb dX3_of_80 ?_
            refine k_i (y := 4) (by decide) ?_
            refine lv_istore (lv' := [(6, .int 4), (5, .int r_16), (4, .int r_15), (3, .int r_2), (0, .ref oK), (1, .int x), (2, .int y)]) hx hb dX3_of_81 hl (by decide) rfl (fun ls hl => ?_)
            refine lv_iload hx hb dX3_of_83 (lv_at hl 0 rfl) ?_
            refine lv_iload hx hb dX3_of_85 (lv_at hl 1 rfl) ?_
            refine lv_if_ne (tgt := 95) hx hb dX3_of_87 (by decide) (fun c_22 => ?_) (fun c_22 => ?_)
            · have tc_22 : ¬ r_16.toInt = 0 := v_ne c_22
              refine lv_iconst (v := 0) hx hb dX3_of_95 (by decide) ?_
              refine lv_iadd hx hb dX3_of_96 ?_
              refine k_i (y := 4) (by decide) ?_
              have hP9 := hP.sub (ws' := [(oK, .inr (3, [.ref k1, .ref k2, .int lK])), (k1, .inl (cI, 1024, .inl fK1)), (k2, .inl (cI, 1024, .inl fK2))]) [0, 1, 2] rfl
              have hD9 := hD.sub (ws' := [(oK, .inr (3, [.ref k1, .ref k2, .int lK])), (k1, .inl (cI, 1024, .inl fK1)), (k2, .inl (cI, 1024, .inl fK2))]) [0, 1, 2] (by decide) rfl
              rw [hQQ]
              exact W.iret (v := 4) hx hb hr (fun t ht hW => ⟨⟨4, 4, rfl, rfl, ⟨by rw [ht]; exact hP9, hD9⟩⟩, hS.F ht⟩) hS.2.2 dX3_of_97
            · have tc_22 : r_16.toInt = 0 := v_eq c_22
              refine lv_bipush (v := 30) hx hb dX3_of_90 (by decide) ?_
              refine lv_goto (tgt := 96) hx hb dX3_of_92 (by decide) ?_
              refine lv_iadd hx hb dX3_of_96 ?_
              refine k_i (y := 34) (by decide) ?_
              have hP9 := hP.sub (ws' := [(oK, .inr (3, [.ref k1, .ref k2, .int lK])), (k1, .inl (cI, 1024, .inl fK1)), (k2, .inl (cI, 1024, .inl fK2))]) [0, 1, 2] rfl
              have hD9 := hD.sub (ws' := [(oK, .inr (3, [.ref k1, .ref k2, .int lK])), (k1, .inl (cI, 1024, .inl fK1)), (k2, .inl (cI, 1024, .inl fK2))]) [0, 1, 2] (by decide) rfl
              rw [hQQ]
              exact W.iret (v := 34) hx hb hr (fun t ht hW => ⟨⟨34, 34, rfl, rfl, ⟨by rw [ht]; exact hP9, hD9⟩⟩, hS.F ht⟩) hS.2.2 dX3_of_97
          · have tc_21 : r_15.toInt = 0 := v_eq c_21
            refine lv_bipush (v := 30) hx hb dX3_of_74 (by decide) ?_
            refine lv_goto (tgt := 80) hx hb dX3_of_76 (by decide) ?_
            refine lv_iadd hx hb dX3_of_80 ?_
            refine k_i (y := 34) (by decide) ?_
            refine lv_istore (lv' := [(6, .int 34), (5, .int r_16), (4, .int r_15), (3, .int r_2), (0, .ref oK), (1, .int x), (2, .int y)]) hx hb dX3_of_81 hl (by decide) rfl (fun ls hl => ?_)
            refine lv_iload hx hb dX3_of_83 (lv_at hl 0 rfl) ?_
            refine lv_iload hx hb dX3_of_85 (lv_at hl 1 rfl) ?_
            refine lv_if_ne (tgt := 95) hx hb dX3_of_87 (by decide) (fun c_23 => ?_) (fun c_23 => ?_)
            · have tc_23 : ¬ r_16.toInt = 0 := v_ne c_23
              refine lv_iconst (v := 0) hx hb dX3_of_95 (by decide) ?_
              refine lv_iadd hx hb dX3_of_96 ?_
              refine k_i (y := 34) (by decide) ?_
              have hP9 := hP.sub (ws' := [(oK, .inr (3, [.ref k1, .ref k2, .int lK])), (k1, .inl (cI, 1024, .inl fK1)), (k2, .inl (cI, 1024, .inl fK2))]) [0, 1, 2] rfl
              have hD9 := hD.sub (ws' := [(oK, .inr (3, [.ref k1, .ref k2, .int lK])), (k1, .inl (cI, 1024, .inl fK1)), (k2, .inl (cI, 1024, .inl fK2))]) [0, 1, 2] (by decide) rfl
              rw [hQQ]
              exact W.iret (v := 34) hx hb hr (fun t ht hW => ⟨⟨34, 34, rfl, rfl, ⟨by rw [ht]; exact hP9, hD9⟩⟩, hS.F ht⟩) hS.2.2 dX3_of_97
            · have tc_23 : r_16.toInt = 0 := v_eq c_23
              refine lv_bipush (v := 30) hx hb dX3_of_90 (by decide) ?_
              refine lv_goto (tgt := 96) hx hb dX3_of_92 (by decide) ?_
              refine lv_iadd hx hb dX3_of_96 ?_
              refine k_i (y := 64) (by decide) ?_
              have hP9 := hP.sub (ws' := [(oK, .inr (3, [.ref k1, .ref k2, .int lK])), (k1, .inl (cI, 1024, .inl fK1)), (k2, .inl (cI, 1024, .inl fK2))]) [0, 1, 2] rfl
              have hD9 := hD.sub (ws' := [(oK, .inr (3, [.ref k1, .ref k2, .int lK])), (k1, .inl (cI, 1024, .inl fK1)), (k2, .inl (cI, 1024, .inl fK2))]) [0, 1, 2] (by decide) rfl
              rw [hQQ]
              exact W.iret (v := 64) hx hb hr (fun t ht hW => ⟨⟨64, 64, rfl, rfl, ⟨by rw [ht]; exact hP9, hD9⟩⟩, hS.F ht⟩) hS.2.2 dX3_of_97
      · have tc_14 : ¬ x_13.toInt = (-1) := v_ne c_14
        refine lv_aload_n hx hb dX3_of_33 rfl (lv_at hl 1 rfl) ?_
        refine va_get (D := (dC, dI)) (ci := 3) (v := .ref k2) (C := RX3) (T := TX3) (N := 3) hx hb hts in_X3 hown hK hP 0 rfl rfl 1 (by decide) (hts (.fieldLink RX3 15 "TextMender$Costs" "value" "[I") (List.mem_of_getElem? (i := 2) rfl)) (fun _ h9 => h9) rfl dX3_of_34 ?_
        refine lv_iload_n hx hb dX3_of_37 rfl (lv_at hl 0 rfl) ?_
        refine va_iald hx hb hK hP 2 0 rfl rfl (v_in (by omega)) dX3_of_38 ?_
        refine k_i (y := x_13) ex_13.symm ?_
        have hP9 := hP.sub (ws' := [(oK, .inr (3, [.ref k1, .ref k2, .int lK])), (k1, .inl (cI, 1024, .inl fK1)), (k2, .inl (cI, 1024, .inl fK2))]) [0, 1, 2] rfl
        have hD9 := hD.sub (ws' := [(oK, .inr (3, [.ref k1, .ref k2, .int lK])), (k1, .inl (cI, 1024, .inl fK1)), (k2, .inl (cI, 1024, .inl fK2))]) [0, 1, 2] (by decide) rfl
        rw [hQQ]
        exact W.iret (v := x_13) hx hb hr (fun t ht hW => ⟨⟨x_13, x_13, rfl, rfl, ⟨by rw [ht]; exact hP9, hD9⟩⟩, hS.F ht⟩) hS.2.2 dX3_of_39
  · have tc_1 : lK.toInt = 0 := v_eq c_1
    refine lv_iconst (v := (-1)) hx hb dX3_of_7 (by decide) ?_
    refine lv_goto (tgt := 17) hx hb dX3_of_8 (by decide) ?_
    refine lv_istore_n (lv' := [(3, .int (-1)), (0, .ref oK), (1, .int x), (2, .int y)]) hx hb dX3_of_17 rfl hl (by decide) rfl (fun ls hl => ?_)
    refine lv_iload_n hx hb dX3_of_18 rfl (lv_at hl 0 rfl) ?_
    refine lv_iconst (v := (-1)) hx hb dX3_of_19 (by decide) ?_
    refine lv_icmp_eq (tgt := 40) hx hb dX3_of_20 (by decide) (fun c_24 => ?_) (fun c_24 => absurd c_24 (by decide))
    refine lv_iload_n hx hb dX3_of_40 rfl (lv_at hl 2 rfl) ?_
    have hPc := hP.sub (ws' := []) [] rfl
    have hDc := hD.sub (ws' := []) [] (by decide) rfl
    have hFc := va_free (wc := []) hD hS hA [] rfl
    refine va_calli (va_runS (As := [.int x]) (rest := []) ⟨hx, hb, hml, hown, hts⟩ (m_X3_sortOf l dC dI cI cS s.heap.size x ) (va_cwS 1 hts gX3_of_X3_sortOf rfl rfl rfl (by decide +kernel) ⟨Nat.le_of_ble_eq_true rfl, Nat.le_of_ble_eq_true rfl⟩) ⟨fun a U g mk q => by obtain ⟨q0, q1, qP, qK, qD⟩ := q; exact ⟨q0, q1, qP, va_K.moved (u := U) (U := U.calling g mk a) (Vm.Alike.refl U.vm) qK, qD⟩, fun U hU hW => ⟨rfl, by rw [hU], by rw [hU]; exact hPc, va_K.moved hW.alike hK, hDc.weaken (fun _ _ _ _ => trivial)⟩⟩ rfl rfl hl.1 rfl (lv_room (Nat.le_of_ble_eq_true rfl)) dX3_of_41 ⟨Nat.le_of_ble_eq_true rfl, Nat.le_of_ble_eq_true rfl⟩) hS (fun q _ h => hFc q h) hFc (fun r_25 u t H1 locs ht hvm hw hB hz1 hk1 hS => ?_)
    subst hw
    obtain ⟨hP1, hD1, hf25_0⟩ := hB
    rw [ht] at hP1
    obtain ⟨hP, hD⟩ := va_join (wr := [(oK, .inr (3, [.ref k1, .ref k2, .int lK])), (k1, .inl (cI, 1024, .inl fK1)), (k2, .inl (cI, 1024, .inl fK2))]) (w1 := []) hP hD [] [0, 1, 2] rfl rfl (by decide) (by decide) hk1 hFc hP1 hD1
    generalize H1 = H at hP hS ⊢
    have hP : va_P (dC, dI) vwCl [(oK, .inr (3, [.ref k1, .ref k2, .int lK])), (k1, .inl (cI, 1024, .inl fK1)), (k2, .inl (cI, 1024, .inl fK2))] H := hP
    have hD : va_D A [(oK, .inr (3, [.ref k1, .ref k2, .int lK])), (k1, .inl (cI, 1024, .inl fK1)), (k2, .inl (cI, 1024, .inl fK2))] := hD
    refine lv_istore (lv' := [(4, .int r_25), (3, .int (-1)), (0, .ref oK), (1, .int x), (2, .int y)]) hx hb dX3_of_44 hl (by decide) rfl (fun ls hl => ?_)
    refine lv_iload_n hx hb dX3_of_46 rfl (lv_at hl 4 rfl) ?_
    have hPc := hP.sub (ws' := []) [] rfl
    have hDc := hD.sub (ws' := []) [] (by decide) rfl
    have hFc := va_free (wc := []) hD hS hA [] rfl
    refine va_calli (va_runS (As := [.int y]) (rest := []) ⟨hx, hb, hml, hown, hts⟩ (m_X3_sortOf l dC dI cI cS H.size y ) (va_cwS 1 hts gX3_of_X3_sortOf rfl rfl rfl (by decide +kernel) ⟨Nat.le_of_ble_eq_true rfl, Nat.le_of_ble_eq_true rfl⟩) ⟨fun a U g mk q => by obtain ⟨q0, q1, qP, qK, qD⟩ := q; exact ⟨q0, q1, qP, va_K.moved (u := U) (U := U.calling g mk a) (Vm.Alike.refl U.vm) qK, qD⟩, fun U hU hW => ⟨rfl, by rw [hU], by rw [hU]; exact hPc, va_K.moved hW.alike hK, hDc.weaken (fun _ _ _ _ => trivial)⟩⟩ rfl rfl hl.1 rfl (lv_room (Nat.le_of_ble_eq_true rfl)) dX3_of_47 ⟨Nat.le_of_ble_eq_true rfl, Nat.le_of_ble_eq_true rfl⟩) hS (fun q _ h => hFc q h) hFc (fun r_26 u t H1 locs ht hvm hw hB hz1 hk1 hS => ?_)
    subst hw
    obtain ⟨hP1, hD1, hf26_0⟩ := hB
    rw [ht] at hP1
    obtain ⟨hP, hD⟩ := va_join (wr := [(oK, .inr (3, [.ref k1, .ref k2, .int lK])), (k1, .inl (cI, 1024, .inl fK1)), (k2, .inl (cI, 1024, .inl fK2))]) (w1 := []) hP hD [] [0, 1, 2] rfl rfl (by decide) (by decide) hk1 hFc hP1 hD1
    generalize H1 = H at hP hS ⊢
    have hP : va_P (dC, dI) vwCl [(oK, .inr (3, [.ref k1, .ref k2, .int lK])), (k1, .inl (cI, 1024, .inl fK1)), (k2, .inl (cI, 1024, .inl fK2))] H := hP
    have hD : va_D A [(oK, .inr (3, [.ref k1, .ref k2, .int lK])), (k1, .inl (cI, 1024, .inl fK1)), (k2, .inl (cI, 1024, .inl fK2))] := hD
    refine lv_istore (lv' := [(5, .int r_26), (4, .int r_25), (3, .int (-1)), (0, .ref oK), (1, .int x), (2, .int y)]) hx hb dX3_of_50 hl (by decide) rfl (fun ls hl => ?_)
    refine lv_iload hx hb dX3_of_52 (lv_at hl 1 rfl) ?_
    refine lv_iload hx hb dX3_of_54 (lv_at hl 0 rfl) ?_
    refine lv_icmp_ne (tgt := 63) hx hb dX3_of_56 (by decide) (fun c_27 => ?_) (fun c_27 => ?_)
    · have tc_27 : ¬ r_25.toInt = r_26.toInt := v_ne c_27
      refine lv_bipush (v := 9) hx hb dX3_of_63 (by decide) ?_
      refine lv_istore (lv' := [(6, .int 9), (5, .int r_26), (4, .int r_25), (3, .int (-1)), (0, .ref oK), (1, .int x), (2, .int y)]) hx hb dX3_of_65 hl (by decide) rfl (fun ls hl => ?_)
      refine lv_iload hx hb dX3_of_67 (lv_at hl 0 rfl) ?_
      refine lv_iload hx hb dX3_of_69 (lv_at hl 2 rfl) ?_
      refine lv_if_ne (tgt := 79) hx hb dX3_of_71 (by decide) (fun c_28 => ?_) (fun c_28 => ?_)
      · have tc_28 : ¬ r_25.toInt = 0 := v_ne c_28
        refine lv_iconst (v := 0) hx hb dX3_of_79 (by decide) ?_
        refine lv_iadd hx hb dX3_of_80 ?_
        refine k_i (y := 9) (by decide) ?_
        refine lv_istore (lv' := [(6, .int 9), (5, .int r_26), (4, .int r_25), (3, .int (-1)), (0, .ref oK), (1, .int x), (2, .int y)]) hx hb dX3_of_81 hl (by decide) rfl (fun ls hl => ?_)
        refine lv_iload hx hb dX3_of_83 (lv_at hl 0 rfl) ?_
        refine lv_iload hx hb dX3_of_85 (lv_at hl 1 rfl) ?_
        refine lv_if_ne (tgt := 95) hx hb dX3_of_87 (by decide) (fun c_29 => ?_) (fun c_29 => ?_)
        · have tc_29 : ¬ r_26.toInt = 0 := v_ne c_29
          refine lv_iconst (v := 0) hx hb dX3_of_95 (by decide) ?_
          refine lv_iadd hx hb dX3_of_96 ?_
          refine k_i (y := 9) (by decide) ?_
          have hP9 := hP.sub (ws' := [(oK, .inr (3, [.ref k1, .ref k2, .int lK])), (k1, .inl (cI, 1024, .inl fK1)), (k2, .inl (cI, 1024, .inl fK2))]) [0, 1, 2] rfl
          have hD9 := hD.sub (ws' := [(oK, .inr (3, [.ref k1, .ref k2, .int lK])), (k1, .inl (cI, 1024, .inl fK1)), (k2, .inl (cI, 1024, .inl fK2))]) [0, 1, 2] (by decide) rfl
          rw [hQQ]
          exact W.iret (v := 9) hx hb hr (fun t ht hW => ⟨⟨9, 9, rfl, rfl, ⟨by rw [ht]; exact hP9, hD9⟩⟩, hS.F ht⟩) hS.2.2 dX3_of_97
        · have tc_29 : r_26.toInt = 0 := v_eq c_29
          refine lv_bipush (v := 30) hx hb dX3_of_90 (by decide) ?_
          refine lv_goto (tgt := 96) hx hb dX3_of_92 (by decide) ?_
          refine lv_iadd hx hb dX3_of_96 ?_
          refine k_i (y := 39) (by decide) ?_
          have hP9 := hP.sub (ws' := [(oK, .inr (3, [.ref k1, .ref k2, .int lK])), (k1, .inl (cI, 1024, .inl fK1)), (k2, .inl (cI, 1024, .inl fK2))]) [0, 1, 2] rfl
          have hD9 := hD.sub (ws' := [(oK, .inr (3, [.ref k1, .ref k2, .int lK])), (k1, .inl (cI, 1024, .inl fK1)), (k2, .inl (cI, 1024, .inl fK2))]) [0, 1, 2] (by decide) rfl
          rw [hQQ]
          exact W.iret (v := 39) hx hb hr (fun t ht hW => ⟨⟨39, 39, rfl, rfl, ⟨by rw [ht]; exact hP9, hD9⟩⟩, hS.F ht⟩) hS.2.2 dX3_of_97
      · have tc_28 : r_25.toInt = 0 := v_eq c_28
        refine lv_bipush (v := 30) hx hb dX3_of_74 (by decide) ?_
        refine lv_goto (tgt := 80) hx hb dX3_of_76 (by decide) ?_
        refine lv_iadd hx hb dX3_of_80 ?_
        refine k_i (y := 39) (by decide) ?_
        refine lv_istore (lv' := [(6, .int 39), (5, .int r_26), (4, .int r_25), (3, .int (-1)), (0, .ref oK), (1, .int x), (2, .int y)]) hx hb dX3_of_81 hl (by decide) rfl (fun ls hl => ?_)
        refine lv_iload hx hb dX3_of_83 (lv_at hl 0 rfl) ?_
        refine lv_iload hx hb dX3_of_85 (lv_at hl 1 rfl) ?_
        refine lv_if_ne (tgt := 95) hx hb dX3_of_87 (by decide) (fun c_30 => ?_) (fun c_30 => ?_)
        · have tc_30 : ¬ r_26.toInt = 0 := v_ne c_30
          refine lv_iconst (v := 0) hx hb dX3_of_95 (by decide) ?_
          refine lv_iadd hx hb dX3_of_96 ?_
          refine k_i (y := 39) (by decide) ?_
          have hP9 := hP.sub (ws' := [(oK, .inr (3, [.ref k1, .ref k2, .int lK])), (k1, .inl (cI, 1024, .inl fK1)), (k2, .inl (cI, 1024, .inl fK2))]) [0, 1, 2] rfl
          have hD9 := hD.sub (ws' := [(oK, .inr (3, [.ref k1, .ref k2, .int lK])), (k1, .inl (cI, 1024, .inl fK1)), (k2, .inl (cI, 1024, .inl fK2))]) [0, 1, 2] (by decide) rfl
          rw [hQQ]
          exact W.iret (v := 39) hx hb hr (fun t ht hW => ⟨⟨39, 39, rfl, rfl, ⟨by rw [ht]; exact hP9, hD9⟩⟩, hS.F ht⟩) hS.2.2 dX3_of_97
        · have tc_30 : r_26.toInt = 0 := v_eq c_30
          refine lv_bipush (v := 30) hx hb dX3_of_90 (by decide) ?_
          refine lv_goto (tgt := 96) hx hb dX3_of_92 (by decide) ?_
          refine lv_iadd hx hb dX3_of_96 ?_
          refine k_i (y := 69) (by decide) ?_
          have hP9 := hP.sub (ws' := [(oK, .inr (3, [.ref k1, .ref k2, .int lK])), (k1, .inl (cI, 1024, .inl fK1)), (k2, .inl (cI, 1024, .inl fK2))]) [0, 1, 2] rfl
          have hD9 := hD.sub (ws' := [(oK, .inr (3, [.ref k1, .ref k2, .int lK])), (k1, .inl (cI, 1024, .inl fK1)), (k2, .inl (cI, 1024, .inl fK2))]) [0, 1, 2] (by decide) rfl
          rw [hQQ]
          exact W.iret (v := 69) hx hb hr (fun t ht hW => ⟨⟨69, 69, rfl, rfl, ⟨by rw [ht]; exact hP9, hD9⟩⟩, hS.F ht⟩) hS.2.2 dX3_of_97
    · have tc_27 : r_25.toInt = r_26.toInt := v_eq c_27
      refine lv_iconst (v := 4) hx hb dX3_of_59 (by decide) ?_
      refine lv_goto (tgt := 65) hx hb dX3_of_60 (by decide) ?_
      refine lv_istore (lv' := [(6, .int 4), (5, .int r_26), (4, .int r_25), (3, .int (-1)), (0, .ref oK), (1, .int x), (2, .int y)]) hx hb dX3_of_65 hl (by decide) rfl (fun ls hl => ?_)
      refine lv_iload hx hb dX3_of_67 (lv_at hl 0 rfl) ?_
      refine lv_iload hx hb dX3_of_69 (lv_at hl 2 rfl) ?_
      refine lv_if_ne (tgt := 79) hx hb dX3_of_71 (by decide) (fun c_31 => ?_) (fun c_31 => ?_)
      · have tc_31 : ¬ r_25.toInt = 0 := v_ne c_31
        refine lv_iconst (v := 0) hx hb dX3_of_79 (by decide) ?_
        refine lv_iadd hx hb dX3_of_80 ?_
        refine k_i (y := 4) (by decide) ?_
        refine lv_istore (lv' := [(6, .int 4), (5, .int r_26), (4, .int r_25), (3, .int (-1)), (0, .ref oK), (1, .int x), (2, .int y)]) hx hb dX3_of_81 hl (by decide) rfl (fun ls hl => ?_)
        refine lv_iload hx hb dX3_of_83 (lv_at hl 0 rfl) ?_
        refine lv_iload hx hb dX3_of_85 (lv_at hl 1 rfl) ?_
        refine lv_if_ne (tgt := 95) hx hb dX3_of_87 (by decide) (fun c_32 => ?_) (fun c_32 => ?_)
        · have tc_32 : ¬ r_26.toInt = 0 := v_ne c_32
          refine lv_iconst (v := 0) hx hb dX3_of_95 (by decide) ?_
          refine lv_iadd hx hb dX3_of_96 ?_
          refine k_i (y := 4) (by decide) ?_
          have hP9 := hP.sub (ws' := [(oK, .inr (3, [.ref k1, .ref k2, .int lK])), (k1, .inl (cI, 1024, .inl fK1)), (k2, .inl (cI, 1024, .inl fK2))]) [0, 1, 2] rfl
          have hD9 := hD.sub (ws' := [(oK, .inr (3, [.ref k1, .ref k2, .int lK])), (k1, .inl (cI, 1024, .inl fK1)), (k2, .inl (cI, 1024, .inl fK2))]) [0, 1, 2] (by decide) rfl
          rw [hQQ]
          exact W.iret (v := 4) hx hb hr (fun t ht hW => ⟨⟨4, 4, rfl, rfl, ⟨by rw [ht]; exact hP9, hD9⟩⟩, hS.F ht⟩) hS.2.2 dX3_of_97
        · have tc_32 : r_26.toInt = 0 := v_eq c_32
          refine lv_bipush (v := 30) hx hb dX3_of_90 (by decide) ?_
          refine lv_goto (tgt := 96) hx hb dX3_of_92 (by decide) ?_
          refine lv_iadd hx hb dX3_of_96 ?_
          refine k_i (y := 34) (by decide) ?_
          have hP9 := hP.sub (ws' := [(oK, .inr (3, [.ref k1, .ref k2, .int lK])), (k1, .inl (cI, 1024, .inl fK1)), (k2, .inl (cI, 1024, .inl fK2))]) [0, 1, 2] rfl
          have hD9 := hD.sub (ws' := [(oK, .inr (3, [.ref k1, .ref k2, .int lK])), (k1, .inl (cI, 1024, .inl fK1)), (k2, .inl (cI, 1024, .inl fK2))]) [0, 1, 2] (by decide) rfl
          rw [hQQ]
          exact W.iret (v := 34) hx hb hr (fun t ht hW => ⟨⟨34, 34, rfl, rfl, ⟨by rw [ht]; exact hP9, hD9⟩⟩, hS.F ht⟩) hS.2.2 dX3_of_97
      · have tc_31 : r_25.toInt = 0 := v_eq c_31
        refine lv_bipush (v := 30) hx hb dX3_of_74 (by decide) ?_
        refine lv_goto (tgt := 80) hx hb dX3_of_76 (by decide) ?_
        refine lv_iadd hx hb dX3_of_80 ?_
        refine k_i (y := 34) (by decide) ?_
        refine lv_istore (lv' := [(6, .int 34), (5, .int r_26), (4, .int r_25), (3, .int (-1)), (0, .ref oK), (1, .int x), (2, .int y)]) hx hb dX3_of_81 hl (by decide) rfl (fun ls hl => ?_)
        refine lv_iload hx hb dX3_of_83 (lv_at hl 0 rfl) ?_
        refine lv_iload hx hb dX3_of_85 (lv_at hl 1 rfl) ?_
        refine lv_if_ne (tgt := 95) hx hb dX3_of_87 (by decide) (fun c_33 => ?_) (fun c_33 => ?_)
        · have tc_33 : ¬ r_26.toInt = 0 := v_ne c_33
          refine lv_iconst (v := 0) hx hb dX3_of_95 (by decide) ?_
          refine lv_iadd hx hb dX3_of_96 ?_
          refine k_i (y := 34) (by decide) ?_
          have hP9 := hP.sub (ws' := [(oK, .inr (3, [.ref k1, .ref k2, .int lK])), (k1, .inl (cI, 1024, .inl fK1)), (k2, .inl (cI, 1024, .inl fK2))]) [0, 1, 2] rfl
          have hD9 := hD.sub (ws' := [(oK, .inr (3, [.ref k1, .ref k2, .int lK])), (k1, .inl (cI, 1024, .inl fK1)), (k2, .inl (cI, 1024, .inl fK2))]) [0, 1, 2] (by decide) rfl
          rw [hQQ]
          exact W.iret (v := 34) hx hb hr (fun t ht hW => ⟨⟨34, 34, rfl, rfl, ⟨by rw [ht]; exact hP9, hD9⟩⟩, hS.F ht⟩) hS.2.2 dX3_of_97
        · have tc_33 : r_26.toInt = 0 := v_eq c_33
          refine lv_bipush (v := 30) hx hb dX3_of_90 (by decide) ?_
          refine lv_goto (tgt := 96) hx hb dX3_of_92 (by decide) ?_
          refine lv_iadd hx hb dX3_of_96 ?_
          refine k_i (y := 64) (by decide) ?_
          have hP9 := hP.sub (ws' := [(oK, .inr (3, [.ref k1, .ref k2, .int lK])), (k1, .inl (cI, 1024, .inl fK1)), (k2, .inl (cI, 1024, .inl fK2))]) [0, 1, 2] rfl
          have hD9 := hD.sub (ws' := [(oK, .inr (3, [.ref k1, .ref k2, .int lK])), (k1, .inl (cI, 1024, .inl fK1)), (k2, .inl (cI, 1024, .inl fK2))]) [0, 1, 2] (by decide) rfl
          rw [hQQ]
          exact W.iret (v := 64) hx hb hr (fun t ht hW => ⟨⟨64, 64, rfl, rfl, ⟨by rw [ht]; exact hP9, hD9⟩⟩, hS.F ht⟩) hS.2.2 dX3_of_97

set_option maxHeartbeats 40000000 in
set_option maxRecDepth 100000 in
theorem m_X3_ofText (l : Launch) (dC : Nat → ClassId) (dI : Nat → Nat → Nat) (cI cS : ClassId) (sz : Nat) (oK : Nat) (nx : Nat) (k1 : Nat) (k2 : Nat) (ax : Nat) (lK : Int32) (fK1 : Nat → Int32) (fK2 : Nat → Int32) (lx : Int32) (fx : Nat → Int32) (g_lK : 0 ≤ lK.toInt ∧ lK.toInt ≤ 300) (g_lx : 0 ≤ lx.toInt ∧ lx.toInt ≤ 300) : Met l yX3_ofText wsX3_ofText ({ frames := 3, cells := 0, slots := 0, locals := 73 } : Room) (va_Pc [.ref oK, .ref nx] (fun U => U.heap.size = sz ∧ va_P (dC, dI) vwCl [(oK, .inr (3, [.ref k1, .ref k2, .int lK])), (k1, .inl (cI, 1024, .inl fK1)), (k2, .inl (cI, 1024, .inl fK2)), (nx, .inr (5, [.ref ax, .int lx])), (ax, .inl (cI, 300, .inl fx))] U.heap ∧ va_K (dC, dI) vwCl [(cI, .int), (cS, .short)] U ∧ va_D (fun _ => True) [(oK, .inr (3, [.ref k1, .ref k2, .int lK])), (k1, .inl (cI, 1024, .inl fK1)), (k2, .inl (cI, 1024, .inl fK2)), (nx, .inr (5, [.ref ax, .int lx])), (ax, .inl (cI, 300, .inl fx))])) (va_Qi (fun (r : Int32) (u : Int32) => r = u) (fun (r : Int32) t => va_P (dC, dI) vwCl [(oK, .inr (3, [.ref k1, .ref k2, .int lK])), (k1, .inl (cI, 1024, .inl fK1)), (k2, .inl (cI, 1024, .inl fK2)), (nx, .inr (5, [.ref ax, .int lx])), (ax, .inl (cI, 300, .inl fx))] t.heap ∧ va_D (va_A [(oK, .inr (3, [.ref k1, .ref k2, .int lK])), (k1, .inl (cI, 1024, .inl fK1)), (k2, .inl (cI, 1024, .inl fK2)), (nx, .inr (5, [.ref ax, .int lx])), (ax, .inl (cI, 300, .inl fx))] sz) [(oK, .inr (3, [.ref k1, .ref k2, .int lK])), (k1, .inl (cI, 1024, .inl fK1)), (k2, .inl (cI, 1024, .inl fK2)), (nx, .inr (5, [.ref ax, .int lx])), (ax, .inl (cI, 300, .inl fx))]) (va_A [(oK, .inr (3, [.ref k1, .ref k2, .int lK])), (k1, .inl (cI, 1024, .inl fK1)), (k2, .inl (cI, 1024, .inl fK2)), (nx, .inr (5, [.ref ax, .int lx])), (ax, .inl (cI, 300, .inl fx))] sz)) 0 0 (va_A [(oK, .inr (3, [.ref k1, .ref k2, .int lK])), (k1, .inl (cI, 1024, .inl fK1)), (k2, .inl (cI, 1024, .inl fK2)), (nx, .inr (5, [.ref ax, .int lx])), (ax, .inl (cI, 300, .inl fx))] sz) := by
  refine Met.ofW (cc := cX3_ofText) (maxL := 6) (ret := (some .int)) (by decide) rfl ?_
  intro p e s m args below meth c s₁ B hml hv
  obtain ⟨rfl, hsz, hP, hK, hD0⟩ := hv
  have hx := B.exec
  have hb := B.bytes
  have hr := B.returns
  have hts := atoms_spec (ws := wsX3_ofText) B.pre
  have hown : s.vm.findClass RX3 = some m.cls := findClass_of_methodNamed B.named
  have hlocks := B.notSynchronized
  subst hsz
  have hD := hD0.self (sz := s.heap.size)
  generalize hAe : va_A [(oK, .inr (3, [.ref k1, .ref k2, .int lK])), (k1, .inl (cI, 1024, .inl fK1)), (k2, .inl (cI, 1024, .inl fK2)), (nx, .inr (5, [.ref ax, .int lx])), (ax, .inl (cI, 300, .inl fx))] s.heap.size = A at hD ⊢
  have hA : ∀ q : Nat, s.heap.size ≤ q → A q := fun q h => by rw [← hAe]; exact Or.inr h
  have hS : va_S A s.heap s.heap [] := va_S.rf
  have hP : va_P (dC, dI) vwCl [(oK, .inr (3, [.ref k1, .ref k2, .int lK])), (k1, .inl (cI, 1024, .inl fK1)), (k2, .inl (cI, 1024, .inl fK2)), (nx, .inr (5, [.ref ax, .int lx])), (ax, .inl (cI, 300, .inl fx))] s.heap := hP
  have hl := lv_entry ([.ref oK, .ref nx]) (n := 6) (Nat.le_of_ble_eq_true rfl)
  rw [lg_entry_eq]
  generalize (lg_sl ([.ref oK, .ref nx]) ++ List.replicate (6 - (lg_sl ([.ref oK, .ref nx])).length) Slot.unset).toArray = ls at hl ⊢
  have hl : lv_has ls 6 [(0, .ref oK), (1, .ref nx)] := hl
  obtain ⟨QQ, hQQ⟩ : ∃ QQ : Array Value → State → Outcome → State → Prop, QQ = va_Qi (fun (r : Int32) (u : Int32) => r = u) (fun (r : Int32) t => va_P (dC, dI) vwCl [(oK, .inr (3, [.ref k1, .ref k2, .int lK])), (k1, .inl (cI, 1024, .inl fK1)), (k2, .inl (cI, 1024, .inl fK2)), (nx, .inr (5, [.ref ax, .int lx])), (ax, .inl (cI, 300, .inl fx))] t.heap ∧ va_D A [(oK, .inr (3, [.ref k1, .ref k2, .int lK])), (k1, .inl (cI, 1024, .inl fK1)), (k2, .inl (cI, 1024, .inl fK2)), (nx, .inr (5, [.ref ax, .int lx])), (ax, .inl (cI, 300, .inl fx))]) A := ⟨_, rfl⟩
  rw [← hQQ]
  refine lv_iconst (v := 0) hx hb dX3_ofText_0 (by decide) ?_
  refine lv_istore_n (lv' := [(2, .int 0), (0, .ref oK), (1, .ref nx)]) hx hb dX3_ofText_1 rfl hl (by decide) rfl (fun ls hl => ?_)
  refine lv_bipush (v := 32) hx hb dX3_ofText_2 (by decide) ?_
  refine lv_istore_n (lv' := [(3, .int 32), (2, .int 0), (0, .ref oK), (1, .ref nx)]) hx hb dX3_ofText_4 rfl hl (by decide) rfl (fun ls hl => ?_)
  refine lv_iconst (v := 0) hx hb dX3_ofText_5 (by decide) ?_
  refine lv_istore (lv' := [(4, .int 0), (3, .int 32), (2, .int 0), (0, .ref oK), (1, .ref nx)]) hx hb dX3_ofText_6 hl (by decide) rfl (fun ls hl => ?_)
  have LOOP_8 : ∀ (k_8 : Nat) (su : Int32) (be : Int32) (i : Int32) (H : Heap) (locs : List Loc) (ls : Array Slot), (lx.toInt - i.toInt : Int).toNat < k_8 → (0 ≤ i.toInt ∧ i.toInt ≤ 300) → va_P (dC, dI) vwCl [(oK, .inr (3, [.ref k1, .ref k2, .int lK])), (k1, .inl (cI, 1024, .inl fK1)), (k2, .inl (cI, 1024, .inl fK2)), (nx, .inr (5, [.ref ax, .int lx])), (ax, .inl (cI, 300, .inl fx))] H → va_D A [(oK, .inr (3, [.ref k1, .ref k2, .int lK])), (k1, .inl (cI, 1024, .inl fK1)), (k2, .inl (cI, 1024, .inl fK2)), (nx, .inr (5, [.ref ax, .int lx])), (ax, .inl (cI, 300, .inl fx))] → va_S A s.heap H locs → lv_has ls 6 [(4, .int i), (3, .int be), (2, .int su), (0, .ref oK), (1, .ref nx)] → W p l e (headSpec wsX3_ofText ({ frames := 3, cells := 0, slots := 0, locals := 73 } : Room)).room s m ([.ref oK, .ref nx] : List Value).toArray below meth c H locs 0 0 (MQ below QQ ([.ref oK, .ref nx] : List Value).toArray s 0 0 A) (F0 m 8 ls []) := by
    intro k_8
    induction k_8 with
    | zero =>
      intro su be i H locs ls hm_8 g_i hP hD hS hl
      exact absurd hm_8 (Nat.not_lt_zero _)
    | succ k_8 ih_8 =>
      intro su be i H locs ls hm_8 g_i hP hD hS hl
      refine lv_iload hx hb dX3_ofText_8 (lv_at hl 0 rfl) ?_
      refine lv_aload_n hx hb dX3_ofText_10 rfl (lv_at hl 4 rfl) ?_
      have hPc := hP.sub (ws' := [(nx, .inr (5, [.ref ax, .int lx]))]) [3] rfl
      have hDc := hD.sub (ws' := [(nx, .inr (5, [.ref ax, .int lx]))]) [3] (by decide) rfl
      have hFc := va_free (wc := [(nx, .inr (5, [.ref ax, .int lx]))]) hD hS hA [3] rfl
      refine va_calli (va_runV (As := []) (rest := [.int i]) ⟨hx, hb, hml, hown, hts⟩ (m_X5_length l dC dI cI cS H.size nx ax lx ) (cwV 0 hts gX3_ofText_X5_length rfl rfl rfl (by decide +kernel) ⟨Nat.le_of_ble_eq_true rfl, Nat.le_of_ble_eq_true rfl⟩) ⟨fun a U g mk q => by obtain ⟨q0, q1, qP, qK, qD⟩ := q; exact ⟨q0, q1, qP, va_K.moved (u := U) (U := U.calling g mk a) (Vm.Alike.refl U.vm) qK, qD⟩, va_recv hK hPc (ci := 5) (q0 := 0) rfl rfl, fun U hU hW => ⟨rfl, by rw [hU], by rw [hU]; exact hPc, va_K.moved hW.alike hK, hDc.weaken (fun _ _ _ _ => trivial)⟩⟩ rfl rfl hl.1 rfl (lv_room (Nat.le_of_ble_eq_true rfl)) dX3_ofText_11 ⟨Nat.le_of_ble_eq_true rfl, Nat.le_of_ble_eq_true rfl⟩) hS (fun q _ h => hFc q h) hFc (fun r_1 u t H1 locs ht hvm hw hB hz1 hk1 hS => ?_)
      subst hw
      obtain ⟨hP1, hD1, hf1_0⟩ := hB
      rw [ht] at hP1
      obtain ⟨hP, hD⟩ := va_join (wr := [(oK, .inr (3, [.ref k1, .ref k2, .int lK])), (k1, .inl (cI, 1024, .inl fK1)), (k2, .inl (cI, 1024, .inl fK2)), (ax, .inl (cI, 300, .inl fx))]) (w1 := [(nx, .inr (5, [.ref ax, .int lx]))]) hP hD [3] [0, 1, 2, 4] rfl rfl (by decide) (by decide) hk1 hFc hP1 hD1
      generalize H1 = H at hP hS ⊢
      have hP : va_P (dC, dI) vwCl [(oK, .inr (3, [.ref k1, .ref k2, .int lK])), (k1, .inl (cI, 1024, .inl fK1)), (k2, .inl (cI, 1024, .inl fK2)), (ax, .inl (cI, 300, .inl fx)), (nx, .inr (5, [.ref ax, .int lx]))] H := hP
      have hD : va_D A [(oK, .inr (3, [.ref k1, .ref k2, .int lK])), (k1, .inl (cI, 1024, .inl fK1)), (k2, .inl (cI, 1024, .inl fK2)), (ax, .inl (cI, 300, .inl fx)), (nx, .inr (5, [.ref ax, .int lx]))] := hD
      rw [hf1_0]
      refine lv_icmp_ge (tgt := 44) hx hb dX3_ofText_14 (by decide) (fun c_2 => ?_) (fun c_2 => ?_)
      · have tc_2 : lx.toInt ≤ i.toInt := v_le c_2
        refine lv_iload_n hx hb dX3_ofText_44 rfl (lv_at hl 2 rfl) ?_
        refine lv_aload_n hx hb dX3_ofText_45 rfl (lv_at hl 3 rfl) ?_
        refine lv_iload_n hx hb dX3_ofText_46 rfl (lv_at hl 1 rfl) ?_
        refine lv_bipush (v := 32) hx hb dX3_ofText_47 (by decide) ?_
        have hPc := hP.sub (ws' := [(oK, .inr (3, [.ref k1, .ref k2, .int lK])), (k1, .inl (cI, 1024, .inl fK1)), (k2, .inl (cI, 1024, .inl fK2))]) [0, 1, 2] rfl
        have hDc := hD.sub (ws' := [(oK, .inr (3, [.ref k1, .ref k2, .int lK])), (k1, .inl (cI, 1024, .inl fK1)), (k2, .inl (cI, 1024, .inl fK2))]) [0, 1, 2] (by decide) rfl
        have hFc := va_free (wc := [(oK, .inr (3, [.ref k1, .ref k2, .int lK])), (k1, .inl (cI, 1024, .inl fK1)), (k2, .inl (cI, 1024, .inl fK2))]) hD hS hA [0, 1, 2] rfl
        refine va_calli (va_runV (As := [.int be, .int 32]) (rest := [.int su]) ⟨hx, hb, hml, hown, hts⟩ (m_X3_of l dC dI cI cS H.size oK k1 k2 lK fK1 fK2 be 32 (by omega)) (cwV 2 hts gX3_ofText_X3_of rfl rfl rfl (by decide +kernel) ⟨Nat.le_of_ble_eq_true rfl, Nat.le_of_ble_eq_true rfl⟩) ⟨fun a U g mk q => by obtain ⟨q0, q1, qP, qK, qD⟩ := q; exact ⟨q0, q1, qP, va_K.moved (u := U) (U := U.calling g mk a) (Vm.Alike.refl U.vm) qK, qD⟩, va_recv hK hPc (ci := 3) (q0 := 0) rfl rfl, fun U hU hW => ⟨rfl, by rw [hU], by rw [hU]; exact hPc, va_K.moved hW.alike hK, hDc.weaken (fun _ _ _ _ => trivial)⟩⟩ rfl rfl hl.1 rfl (lv_room (Nat.le_of_ble_eq_true rfl)) dX3_ofText_49 ⟨Nat.le_of_ble_eq_true rfl, Nat.le_of_ble_eq_true rfl⟩) hS (fun q _ h => hFc q h) hFc (fun r_3 u t H1 locs ht hvm hw hB hz1 hk1 hS => ?_)
        subst hw
        obtain ⟨hP1, hD1⟩ := hB
        rw [ht] at hP1
        obtain ⟨hP, hD⟩ := va_join (wr := [(ax, .inl (cI, 300, .inl fx)), (nx, .inr (5, [.ref ax, .int lx]))]) (w1 := [(oK, .inr (3, [.ref k1, .ref k2, .int lK])), (k1, .inl (cI, 1024, .inl fK1)), (k2, .inl (cI, 1024, .inl fK2))]) hP hD [0, 1, 2] [3, 4] rfl rfl (by decide) (by decide) hk1 hFc hP1 hD1
        generalize H1 = H at hP hS ⊢
        have hP : va_P (dC, dI) vwCl [(ax, .inl (cI, 300, .inl fx)), (nx, .inr (5, [.ref ax, .int lx])), (oK, .inr (3, [.ref k1, .ref k2, .int lK])), (k1, .inl (cI, 1024, .inl fK1)), (k2, .inl (cI, 1024, .inl fK2))] H := hP
        have hD : va_D A [(ax, .inl (cI, 300, .inl fx)), (nx, .inr (5, [.ref ax, .int lx])), (oK, .inr (3, [.ref k1, .ref k2, .int lK])), (k1, .inl (cI, 1024, .inl fK1)), (k2, .inl (cI, 1024, .inl fK2))] := hD
        refine lv_iadd hx hb dX3_ofText_52 ?_
        refine lv_topi (fun x_4 ex_4 => ?_)
        have rv4_0 := v_rng su
        have rv4_1 := v_rng r_3
        have hP9 := hP.sub (ws' := [(oK, .inr (3, [.ref k1, .ref k2, .int lK])), (k1, .inl (cI, 1024, .inl fK1)), (k2, .inl (cI, 1024, .inl fK2)), (nx, .inr (5, [.ref ax, .int lx])), (ax, .inl (cI, 300, .inl fx))]) [2, 3, 4, 1, 0] rfl
        have hD9 := hD.sub (ws' := [(oK, .inr (3, [.ref k1, .ref k2, .int lK])), (k1, .inl (cI, 1024, .inl fK1)), (k2, .inl (cI, 1024, .inl fK2)), (nx, .inr (5, [.ref ax, .int lx])), (ax, .inl (cI, 300, .inl fx))]) [2, 3, 4, 1, 0] (by decide) rfl
        rw [hQQ]
        exact W.iret (v := x_4) hx hb hr (fun t ht hW => ⟨⟨x_4, x_4, rfl, rfl, ⟨by rw [ht]; exact hP9, hD9⟩⟩, hS.F ht⟩) hS.2.2 dX3_ofText_53
      · have tc_2 : i.toInt < lx.toInt := v_nle c_2
        refine lv_aload_n hx hb dX3_ofText_17 rfl (lv_at hl 4 rfl) ?_
        refine lv_iload hx hb dX3_ofText_18 (lv_at hl 0 rfl) ?_
        have hPc := hP.sub (ws' := [(nx, .inr (5, [.ref ax, .int lx])), (ax, .inl (cI, 300, .inl fx))]) [4, 3] rfl
        have hDc := hD.sub (ws' := [(nx, .inr (5, [.ref ax, .int lx])), (ax, .inl (cI, 300, .inl fx))]) [4, 3] (by decide) rfl
        have hFc := va_free (wc := [(nx, .inr (5, [.ref ax, .int lx])), (ax, .inl (cI, 300, .inl fx))]) hD hS hA [4, 3] rfl
        refine va_calli (va_runV (As := [.int i]) (rest := []) ⟨hx, hb, hml, hown, hts⟩ (m_X5_get l dC dI cI cS H.size nx ax 300 lx fx i (by omega) (by omega)) (cwV 1 hts gX3_ofText_X5_get rfl rfl rfl (by decide +kernel) ⟨Nat.le_of_ble_eq_true rfl, Nat.le_of_ble_eq_true rfl⟩) ⟨fun a U g mk q => by obtain ⟨q0, q1, qP, qK, qD⟩ := q; exact ⟨q0, q1, qP, va_K.moved (u := U) (U := U.calling g mk a) (Vm.Alike.refl U.vm) qK, qD⟩, va_recv hK hPc (ci := 5) (q0 := 0) rfl rfl, fun U hU hW => ⟨rfl, by rw [hU], by rw [hU]; exact hPc, va_K.moved hW.alike hK, hDc.weaken (fun _ _ _ _ => trivial)⟩⟩ rfl rfl hl.1 rfl (lv_room (Nat.le_of_ble_eq_true rfl)) dX3_ofText_20 ⟨Nat.le_of_ble_eq_true rfl, Nat.le_of_ble_eq_true rfl⟩) hS (fun q _ h => hFc q h) hFc (fun r_5 u t H1 locs ht hvm hw hB hz1 hk1 hS => ?_)
        subst hw
        obtain ⟨hP1, hD1, hf5_0⟩ := hB
        rw [ht] at hP1
        obtain ⟨hP, hD⟩ := va_join (wr := [(oK, .inr (3, [.ref k1, .ref k2, .int lK])), (k1, .inl (cI, 1024, .inl fK1)), (k2, .inl (cI, 1024, .inl fK2))]) (w1 := [(nx, .inr (5, [.ref ax, .int lx])), (ax, .inl (cI, 300, .inl fx))]) hP hD [4, 3] [0, 1, 2] rfl rfl (by decide) (by decide) hk1 hFc hP1 hD1
        generalize H1 = H at hP hS ⊢
        have hP : va_P (dC, dI) vwCl [(oK, .inr (3, [.ref k1, .ref k2, .int lK])), (k1, .inl (cI, 1024, .inl fK1)), (k2, .inl (cI, 1024, .inl fK2)), (nx, .inr (5, [.ref ax, .int lx])), (ax, .inl (cI, 300, .inl fx))] H := hP
        have hD : va_D A [(oK, .inr (3, [.ref k1, .ref k2, .int lK])), (k1, .inl (cI, 1024, .inl fK1)), (k2, .inl (cI, 1024, .inl fK2)), (nx, .inr (5, [.ref ax, .int lx])), (ax, .inl (cI, 300, .inl fx))] := hD
        refine lv_istore (lv' := [(5, .int r_5), (4, .int i), (3, .int be), (2, .int su), (0, .ref oK), (1, .ref nx)]) hx hb dX3_ofText_23 hl (by decide) rfl (fun ls hl => ?_)
        refine lv_iload_n hx hb dX3_ofText_25 rfl (lv_at hl 3 rfl) ?_
        refine lv_aload_n hx hb dX3_ofText_26 rfl (lv_at hl 4 rfl) ?_
        refine lv_iload_n hx hb dX3_ofText_27 rfl (lv_at hl 2 rfl) ?_
        refine lv_iload hx hb dX3_ofText_28 (lv_at hl 0 rfl) ?_
        have hPc := hP.sub (ws' := [(oK, .inr (3, [.ref k1, .ref k2, .int lK])), (k1, .inl (cI, 1024, .inl fK1)), (k2, .inl (cI, 1024, .inl fK2))]) [0, 1, 2] rfl
        have hDc := hD.sub (ws' := [(oK, .inr (3, [.ref k1, .ref k2, .int lK])), (k1, .inl (cI, 1024, .inl fK1)), (k2, .inl (cI, 1024, .inl fK2))]) [0, 1, 2] (by decide) rfl
        have hFc := va_free (wc := [(oK, .inr (3, [.ref k1, .ref k2, .int lK])), (k1, .inl (cI, 1024, .inl fK1)), (k2, .inl (cI, 1024, .inl fK2))]) hD hS hA [0, 1, 2] rfl
        refine va_calli (va_runV (As := [.int be, .int r_5]) (rest := [.int su]) ⟨hx, hb, hml, hown, hts⟩ (m_X3_of l dC dI cI cS H.size oK k1 k2 lK fK1 fK2 be r_5 (by omega)) (cwV 2 hts gX3_ofText_X3_of rfl rfl rfl (by decide +kernel) ⟨Nat.le_of_ble_eq_true rfl, Nat.le_of_ble_eq_true rfl⟩) ⟨fun a U g mk q => by obtain ⟨q0, q1, qP, qK, qD⟩ := q; exact ⟨q0, q1, qP, va_K.moved (u := U) (U := U.calling g mk a) (Vm.Alike.refl U.vm) qK, qD⟩, va_recv hK hPc (ci := 3) (q0 := 0) rfl rfl, fun U hU hW => ⟨rfl, by rw [hU], by rw [hU]; exact hPc, va_K.moved hW.alike hK, hDc.weaken (fun _ _ _ _ => trivial)⟩⟩ rfl rfl hl.1 rfl (lv_room (Nat.le_of_ble_eq_true rfl)) dX3_ofText_30 ⟨Nat.le_of_ble_eq_true rfl, Nat.le_of_ble_eq_true rfl⟩) hS (fun q _ h => hFc q h) hFc (fun r_6 u t H1 locs ht hvm hw hB hz1 hk1 hS => ?_)
        subst hw
        obtain ⟨hP1, hD1⟩ := hB
        rw [ht] at hP1
        obtain ⟨hP, hD⟩ := va_join (wr := [(nx, .inr (5, [.ref ax, .int lx])), (ax, .inl (cI, 300, .inl fx))]) (w1 := [(oK, .inr (3, [.ref k1, .ref k2, .int lK])), (k1, .inl (cI, 1024, .inl fK1)), (k2, .inl (cI, 1024, .inl fK2))]) hP hD [0, 1, 2] [3, 4] rfl rfl (by decide) (by decide) hk1 hFc hP1 hD1
        generalize H1 = H at hP hS ⊢
        have hP : va_P (dC, dI) vwCl [(nx, .inr (5, [.ref ax, .int lx])), (ax, .inl (cI, 300, .inl fx)), (oK, .inr (3, [.ref k1, .ref k2, .int lK])), (k1, .inl (cI, 1024, .inl fK1)), (k2, .inl (cI, 1024, .inl fK2))] H := hP
        have hD : va_D A [(nx, .inr (5, [.ref ax, .int lx])), (ax, .inl (cI, 300, .inl fx)), (oK, .inr (3, [.ref k1, .ref k2, .int lK])), (k1, .inl (cI, 1024, .inl fK1)), (k2, .inl (cI, 1024, .inl fK2))] := hD
        refine lv_iadd hx hb dX3_ofText_33 ?_
        refine lv_topi (fun x_7 ex_7 => ?_)
        have rv7_0 := v_rng su
        have rv7_1 := v_rng r_6
        refine lv_istore_n (lv' := [(2, .int x_7), (5, .int r_5), (4, .int i), (3, .int be), (0, .ref oK), (1, .ref nx)]) hx hb dX3_ofText_34 rfl hl (by decide) rfl (fun ls hl => ?_)
        refine lv_iload hx hb dX3_ofText_35 (lv_at hl 1 rfl) ?_
        refine lv_istore_n (lv' := [(3, .int r_5), (2, .int x_7), (5, .int r_5), (4, .int i), (0, .ref oK), (1, .ref nx)]) hx hb dX3_ofText_37 rfl hl (by decide) rfl (fun ls hl => ?_)
        obtain ⟨x_8, ex_8⟩ : ∃ y : Int32, y = i + 1 := ⟨_, rfl⟩
        have tx_8 : x_8.toInt = i.toInt + 1 := v_add ex_8 (by show -2147483648 ≤ i.toInt + 1; omega) (by show i.toInt + 1 < 2147483648; omega)
        refine lv_iinc (v := x_8) (lv' := [(4, .int x_8), (3, .int r_5), (2, .int x_7), (5, .int r_5), (0, .ref oK), (1, .ref nx)]) hx hb dX3_ofText_38 hl (k := 3) rfl (by rw [ex_8]; rfl) (by decide) rfl (fun ls hl => ?_)
        refine lv_goto (tgt := 8) hx hb dX3_ofText_41 (by decide) ?_
        exact ih_8 x_7 r_5 x_8 _ _ _ (by have hm9 := hm_8; show ((lx.toInt - x_8.toInt : Int)).toNat < k_8; omega) (by show 0 ≤ x_8.toInt ∧ x_8.toInt ≤ 300; omega) (hP.sub [2, 3, 4, 0, 1] rfl) (hD.sub [2, 3, 4, 0, 1] (by decide) rfl) hS (lv_sub hl [0, 1, 2, 4, 5] rfl)
  exact LOOP_8 _ 0 32 0 _ _ _ (Nat.lt_succ_self _) (by decide) hP hD hS (lv_sub hl [0, 1, 2, 3, 4] rfl)

set_option maxHeartbeats 40000000 in
set_option maxRecDepth 100000 in
theorem m_X0_length (l : Launch) (dC : Nat → ClassId) (dI : Nat → Nat → Nat) (cI cS : ClassId) (sz : Nat) (oG : Nat) (g1 : Nat) (g2 : Nat) (gn : Int32) (lG : Int32) (g_gn : 0 ≤ gn.toInt ∧ gn.toInt ≤ 19) (g_lG : 0 ≤ lG.toInt ∧ lG.toInt ≤ 20) : Met l yX0_length wsX0_length ({ frames := 0, cells := 0, slots := 0, locals := 0 } : Room) (va_Pc [.ref oG] (fun U => U.heap.size = sz ∧ va_P (dC, dI) vwCl [(oG, .inr (0, [.ref g1, .ref g2, .int gn, .int lG]))] U.heap ∧ va_K (dC, dI) vwCl [(cI, .int), (cS, .short)] U ∧ va_D (fun _ => True) [(oG, .inr (0, [.ref g1, .ref g2, .int gn, .int lG]))])) (va_Qi (fun (r : Int32) (u : Int32) => r = u) (fun (r : Int32) t => va_P (dC, dI) vwCl [(oG, .inr (0, [.ref g1, .ref g2, .int gn, .int lG]))] t.heap ∧ va_D (va_A [(oG, .inr (0, [.ref g1, .ref g2, .int gn, .int lG]))] sz) [(oG, .inr (0, [.ref g1, .ref g2, .int gn, .int lG]))] ∧ (r = lG)) (va_A [(oG, .inr (0, [.ref g1, .ref g2, .int gn, .int lG]))] sz)) 0 0 (va_A [(oG, .inr (0, [.ref g1, .ref g2, .int gn, .int lG]))] sz) := by
  refine Met.ofW (cc := cX0_length) (maxL := 1) (ret := (some .int)) (by decide) rfl ?_
  intro p e s m args below meth c s₁ B hml hv
  obtain ⟨rfl, hsz, hP, hK, hD0⟩ := hv
  have hx := B.exec
  have hb := B.bytes
  have hr := B.returns
  have hts := atoms_spec (ws := wsX0_length) B.pre
  have hown : s.vm.findClass RX0 = some m.cls := findClass_of_methodNamed B.named
  have hlocks := B.notSynchronized
  have in_X0 : ∀ w ∈ wsX00, w ∈ wsX0_length := fun _ h => List.mem_cons_of_mem _ (List.mem_append_right _ (h))
  subst hsz
  have hD := hD0.self (sz := s.heap.size)
  generalize hAe : va_A [(oG, .inr (0, [.ref g1, .ref g2, .int gn, .int lG]))] s.heap.size = A at hD ⊢
  have hA : ∀ q : Nat, s.heap.size ≤ q → A q := fun q h => by rw [← hAe]; exact Or.inr h
  have hS : va_S A s.heap s.heap [] := va_S.rf
  have hP : va_P (dC, dI) vwCl [(oG, .inr (0, [.ref g1, .ref g2, .int gn, .int lG]))] s.heap := hP
  have hl := lv_entry ([.ref oG]) (n := 1) (Nat.le_of_ble_eq_true rfl)
  rw [lg_entry_eq]
  generalize (lg_sl ([.ref oG]) ++ List.replicate (1 - (lg_sl ([.ref oG])).length) Slot.unset).toArray = ls at hl ⊢
  have hl : lv_has ls 1 [(0, .ref oG)] := hl
  obtain ⟨QQ, hQQ⟩ : ∃ QQ : Array Value → State → Outcome → State → Prop, QQ = va_Qi (fun (r : Int32) (u : Int32) => r = u) (fun (r : Int32) t => va_P (dC, dI) vwCl [(oG, .inr (0, [.ref g1, .ref g2, .int gn, .int lG]))] t.heap ∧ va_D A [(oG, .inr (0, [.ref g1, .ref g2, .int gn, .int lG]))] ∧ (r = lG)) A := ⟨_, rfl⟩
  rw [← hQQ]
  refine lv_aload_n hx hb dX0_length_0 rfl (lv_at hl 0 rfl) ?_
  refine va_get (D := (dC, dI)) (ci := 0) (v := .int lG) (C := RX0) (T := TX0) (N := 4) hx hb hts in_X0 hown hK hP 0 rfl rfl 3 (by decide) (hts (.fieldLink RX0 22 "TextMender$Changes" "length" "I") (List.mem_of_getElem? (i := 1) rfl)) (fun _ h9 => h9) rfl dX0_length_1 ?_
  have hP9 := hP.sub (ws' := [(oG, .inr (0, [.ref g1, .ref g2, .int gn, .int lG]))]) [0] rfl
  have hD9 := hD.sub (ws' := [(oG, .inr (0, [.ref g1, .ref g2, .int gn, .int lG]))]) [0] (by decide) rfl
  rw [hQQ]
  exact W.iret (v := lG) hx hb hr (fun t ht hW => ⟨⟨lG, lG, rfl, rfl, ⟨by rw [ht]; exact hP9, hD9, rfl⟩⟩, hS.F ht⟩) hS.2.2 dX0_length_4
