set_option maxHeartbeats 4000000 in
set_option maxRecDepth 100000 in
theorem x_size (l : Launch) (dC : Nat → ClassId) (dI : Nat → Nat → Nat) (cI cS : ClassId) (sz : Nat) (oX : Nat) (nT : Nat) (nL : Nat) (nM : Nat) (oC : Nat) (oP : Nat) (oH : Nat) (oK : Nat) (oG : Nat) (oR : Nat) (oQ : Nat) (oW : Nat) (aL : Nat) (nB : Nat) (aB : Nat) (cd : Int32)  : Met l yX11_size wsX11_size ({ frames := 3, cells := 0, slots := 0, locals := 66 } : Room) (va_Pc [.ref oX, .int cd] (fun U => U.heap.size = sz ∧ va_P (dC, dI) vwCl [(oX, .inr (11, [.ref nT, .ref nL, .ref nM, .ref oC, .ref oP, .ref oH, .ref oK, .ref oG, .ref oR, .ref oQ, .ref oW, .int (-1)])), (nL, .inr (5, [.ref aL, .int 0])), (oP, .inr (7, [.ref oC, .ref nB, .int (-1)])), (nB, .inr (5, [.ref aB, .int 0]))] U.heap ∧ va_K (dC, dI) vwCl [(cI, .int), (cS, .short)] U ∧ va_D (fun _ => True) [(oX, .inr (11, [.ref nT, .ref nL, .ref nM, .ref oC, .ref oP, .ref oH, .ref oK, .ref oG, .ref oR, .ref oQ, .ref oW, .int (-1)])), (nL, .inr (5, [.ref aL, .int 0])), (oP, .inr (7, [.ref oC, .ref nB, .int (-1)])), (nB, .inr (5, [.ref aB, .int 0]))])) (va_Qi (fun (r : Int32) (_ : Unit) => r = f_one cd) (fun _ _ => True) (va_A [(oX, .inr (11, [.ref nT, .ref nL, .ref nM, .ref oC, .ref oP, .ref oH, .ref oK, .ref oG, .ref oR, .ref oQ, .ref oW, .int (-1)])), (nL, .inr (5, [.ref aL, .int 0])), (oP, .inr (7, [.ref oC, .ref nB, .int (-1)])), (nB, .inr (5, [.ref aB, .int 0]))] sz)) 0 0 (va_A [(oX, .inr (11, [.ref nT, .ref nL, .ref nM, .ref oC, .ref oP, .ref oH, .ref oK, .ref oG, .ref oR, .ref oQ, .ref oW, .int (-1)])), (nL, .inr (5, [.ref aL, .int 0])), (oP, .inr (7, [.ref oC, .ref nB, .int (-1)])), (nB, .inr (5, [.ref aB, .int 0]))] sz) := by
  refine Met.ofW (cc := cX11_size) (maxL := 2) (ret := (some .int)) (by decide) rfl ?_
  intro p e s m args below meth c s₁ B hml hv
  obtain ⟨rfl, hsz, hP, hK, hD0⟩ := hv
  have hx := B.exec
  have hb := B.bytes
  have hr := B.returns
  have hts := atoms_spec (ws := wsX11_size) B.pre
  have hown : s.vm.findClass RX11 = some m.cls := findClass_of_methodNamed B.named
  have hlocks := B.notSynchronized
  have in_X11 : ∀ w ∈ wsX110, w ∈ wsX11_size := fun _ h => List.mem_cons_of_mem _ (List.mem_append_left _ (List.mem_append_left _ (List.mem_append_left _ (List.mem_append_left _ (List.mem_append_right _ (h))))))
  subst hsz
  have hD := hD0.self (sz := s.heap.size)
  generalize hAe : va_A [(oX, .inr (11, [.ref nT, .ref nL, .ref nM, .ref oC, .ref oP, .ref oH, .ref oK, .ref oG, .ref oR, .ref oQ, .ref oW, .int (-1)])), (nL, .inr (5, [.ref aL, .int 0])), (oP, .inr (7, [.ref oC, .ref nB, .int (-1)])), (nB, .inr (5, [.ref aB, .int 0]))] s.heap.size = A at hD ⊢
  have hA : ∀ q : Nat, s.heap.size ≤ q → A q := fun q h => by rw [← hAe]; exact Or.inr h
  have hS : va_S A s.heap s.heap [] := va_S.rf
  have hP : va_P (dC, dI) vwCl [(oX, .inr (11, [.ref nT, .ref nL, .ref nM, .ref oC, .ref oP, .ref oH, .ref oK, .ref oG, .ref oR, .ref oQ, .ref oW, .int (-1)])), (nL, .inr (5, [.ref aL, .int 0])), (oP, .inr (7, [.ref oC, .ref nB, .int (-1)])), (nB, .inr (5, [.ref aB, .int 0]))] s.heap := hP
  have hl := lv_entry ([.ref oX, .int cd]) (n := 2) (Nat.le_of_ble_eq_true rfl)
  rw [lg_entry_eq]
  generalize (lg_sl ([.ref oX, .int cd]) ++ List.replicate (2 - (lg_sl ([.ref oX, .int cd])).length) Slot.unset).toArray = ls at hl ⊢
  have hl : lv_has ls 2 [(0, .ref oX), (1, .int cd)] := hl
  refine lv_aload_n hx hb dX11_size_0 rfl (lv_at hl 0 rfl) ?_
  refine lv_iload_n hx hb dX11_size_1 rfl (lv_at hl 1 rfl) ?_
  have hPc := hP.sub (ws' := [(oX, .inr (11, [.ref nT, .ref nL, .ref nM, .ref oC, .ref oP, .ref oH, .ref oK, .ref oG, .ref oR, .ref oQ, .ref oW, .int (-1)])), (nL, .inr (5, [.ref aL, .int 0])), (oP, .inr (7, [.ref oC, .ref nB, .int (-1)])), (nB, .inr (5, [.ref aB, .int 0]))]) [0, 1, 2, 3] rfl
  have hDc := hD.sub (ws' := [(oX, .inr (11, [.ref nT, .ref nL, .ref nM, .ref oC, .ref oP, .ref oH, .ref oK, .ref oG, .ref oR, .ref oQ, .ref oW, .int (-1)])), (nL, .inr (5, [.ref aL, .int 0])), (oP, .inr (7, [.ref oC, .ref nB, .int (-1)])), (nB, .inr (5, [.ref aB, .int 0]))]) [0, 1, 2, 3] (by decide) rfl
  have hFc := va_free (wc := [(oX, .inr (11, [.ref nT, .ref nL, .ref nM, .ref oC, .ref oP, .ref oH, .ref oK, .ref oG, .ref oR, .ref oQ, .ref oW, .int (-1)])), (nL, .inr (5, [.ref aL, .int 0])), (oP, .inr (7, [.ref oC, .ref nB, .int (-1)])), (nB, .inr (5, [.ref aB, .int 0]))]) hD hS hA [0, 1, 2, 3] rfl
  refine va_calli (va_runV (As := [.int cd]) (rest := []) ⟨hx, hb, hml, hown, hts⟩ (m_X11_writes l dC dI cI cS s.heap.size oX nT nL nM oC oP oH oK oG oR oQ oW aL nB aB cd ) (cwV 1 hts gX11_size_X11_writes rfl rfl rfl (by decide +kernel) ⟨Nat.le_of_ble_eq_true rfl, Nat.le_of_ble_eq_true rfl⟩) ⟨fun a U g mk q => by obtain ⟨q0, q1, qP, qK, qD⟩ := q; exact ⟨q0, q1, qP, va_K.moved (u := U) (U := U.calling g mk a) (Vm.Alike.refl U.vm) qK, qD⟩, va_recv hK hPc (ci := 11) (q0 := 0) rfl rfl, fun U hU hW => ⟨rfl, by rw [hU], by rw [hU]; exact hPc, va_K.moved hW.alike hK, hDc.weaken (fun _ _ _ _ => trivial)⟩⟩ rfl rfl hl.1 rfl (lv_room (Nat.le_of_ble_eq_true rfl)) dX11_size_2 ⟨Nat.le_of_ble_eq_true rfl, Nat.le_of_ble_eq_true rfl⟩) hS (fun q _ h => hFc q h) hFc (fun r_1 u t H1 locs ht hvm hw hB hz1 hk1 hS => ?_)
  obtain ⟨hP1, hD1⟩ := hB
  rw [ht] at hP1
  obtain ⟨hP, hD⟩ := va_join (wr := []) (w1 := [(oX, .inr (11, [.ref nT, .ref nL, .ref nM, .ref oC, .ref oP, .ref oH, .ref oK, .ref oG, .ref oR, .ref oQ, .ref oW, .int (-1)])), (nL, .inr (5, [.ref aL, .int 0])), (oP, .inr (7, [.ref oC, .ref nB, .int (-1)])), (nB, .inr (5, [.ref aB, .int 0]))]) hP hD [0, 1, 2, 3] [] rfl rfl (by decide) (by decide) hk1 hFc hP1 hD1
  generalize H1 = H at hP hS ⊢
  have hP : va_P (dC, dI) vwCl [(oX, .inr (11, [.ref nT, .ref nL, .ref nM, .ref oC, .ref oP, .ref oH, .ref oK, .ref oG, .ref oR, .ref oQ, .ref oW, .int (-1)])), (nL, .inr (5, [.ref aL, .int 0])), (oP, .inr (7, [.ref oC, .ref nB, .int (-1)])), (nB, .inr (5, [.ref aB, .int 0]))] H := hP
  have hD : va_D A [(oX, .inr (11, [.ref nT, .ref nL, .ref nM, .ref oC, .ref oP, .ref oH, .ref oK, .ref oG, .ref oR, .ref oQ, .ref oW, .int (-1)])), (nL, .inr (5, [.ref aL, .int 0])), (oP, .inr (7, [.ref oC, .ref nB, .int (-1)])), (nB, .inr (5, [.ref aB, .int 0]))] := hD
  subst hw
  refine lv_if_eq (tgt := 21) hx hb dX11_size_5 (by decide) (fun c_2 => ?_) (fun c_2 => ?_)
  · refine lv_iconst (v := (-1)) hx hb dX11_size_21 (by decide) ?_
    exact W.iret (v := (-1)) hx hb hr (fun t ht hW => ⟨⟨(-1), (), rfl, by first | rfl | assumption | simp [f_one, c_2], trivial⟩, hS.F ht⟩) (hS.2.2) dX11_size_22
  · refine lv_aload_n hx hb dX11_size_8 rfl (lv_at hl 0 rfl) ?_
    refine va_get (D := (dC, dI)) (ci := 11) (v := .ref oP) (C := RX11) (T := TX11) (N := 12) hx hb hts in_X11 hown hK hP 0 rfl rfl 4 (by decide) (hts (.fieldLink RX11 44 "TextMender" "passage" "LTextMender$Passage;") (List.mem_of_getElem? (i := 1) rfl)) (fun _ h9 => h9) rfl dX11_size_9 ?_
    have hPc := hP.sub (ws' := [(oP, .inr (7, [.ref oC, .ref nB, .int (-1)]))]) [2] rfl
    have hDc := hD.sub (ws' := [(oP, .inr (7, [.ref oC, .ref nB, .int (-1)]))]) [2] (by decide) rfl
    have hFc := va_free (wc := [(oP, .inr (7, [.ref oC, .ref nB, .int (-1)]))]) hD hS hA [2] rfl
    refine va_callr (va_runV (As := []) (rest := []) ⟨hx, hb, hml, hown, hts⟩ (m_X7_bytes l dC dI cI cS H.size oP oC nB ) (cwV 0 hts gX11_size_X7_bytes rfl rfl rfl (by decide +kernel) ⟨Nat.le_of_ble_eq_true rfl, Nat.le_of_ble_eq_true rfl⟩) ⟨fun a U g mk q => by obtain ⟨q0, q1, qP, qK, qD⟩ := q; exact ⟨q0, q1, qP, va_K.moved (u := U) (U := U.calling g mk a) (Vm.Alike.refl U.vm) qK, qD⟩, va_recv hK hPc (ci := 7) (q0 := 0) rfl rfl, fun U hU hW => ⟨rfl, by rw [hU], by rw [hU]; exact hPc, va_K.moved hW.alike hK, hDc.weaken (fun _ _ _ _ => trivial)⟩⟩ rfl rfl hl.1 rfl (lv_room (Nat.le_of_ble_eq_true rfl)) dX11_size_12 ⟨Nat.le_of_ble_eq_true rfl, Nat.le_of_ble_eq_true rfl⟩) hS (fun q _ h => hFc q h) hFc (fun u r_3 t H1 locs ht hvm hw hB hz1 hk1 hS => ?_)
    obtain ⟨hra, hP1, hD1⟩ := hB
    rw [hra]
    rw [ht] at hP1
    obtain ⟨hP, hD⟩ := va_join (wr := [(oX, .inr (11, [.ref nT, .ref nL, .ref nM, .ref oC, .ref oP, .ref oH, .ref oK, .ref oG, .ref oR, .ref oQ, .ref oW, .int (-1)])), (nL, .inr (5, [.ref aL, .int 0])), (nB, .inr (5, [.ref aB, .int 0]))]) (w1 := [(oP, .inr (7, [.ref oC, .ref nB, .int (-1)]))]) hP hD [2] [0, 1, 3] rfl rfl (by decide) (by decide) hk1 hFc hP1 hD1
    generalize H1 = H at hP hS ⊢
    have hP : va_P (dC, dI) vwCl [(oX, .inr (11, [.ref nT, .ref nL, .ref nM, .ref oC, .ref oP, .ref oH, .ref oK, .ref oG, .ref oR, .ref oQ, .ref oW, .int (-1)])), (nL, .inr (5, [.ref aL, .int 0])), (nB, .inr (5, [.ref aB, .int 0])), (oP, .inr (7, [.ref oC, .ref nB, .int (-1)]))] H := hP
    have hD : va_D A [(oX, .inr (11, [.ref nT, .ref nL, .ref nM, .ref oC, .ref oP, .ref oH, .ref oK, .ref oG, .ref oR, .ref oQ, .ref oW, .int (-1)])), (nL, .inr (5, [.ref aL, .int 0])), (nB, .inr (5, [.ref aB, .int 0])), (oP, .inr (7, [.ref oC, .ref nB, .int (-1)]))] := hD
    have hPc := hP.sub (ws' := [(nB, .inr (5, [.ref aB, .int 0]))]) [2] rfl
    have hDc := hD.sub (ws' := [(nB, .inr (5, [.ref aB, .int 0]))]) [2] (by decide) rfl
    have hFc := va_free (wc := [(nB, .inr (5, [.ref aB, .int 0]))]) hD hS hA [2] rfl
    refine va_calli (va_runV (As := []) (rest := []) ⟨hx, hb, hml, hown, hts⟩ (m_X5_length l dC dI cI cS H.size nB aB 0 ) (cwV 0 hts gX11_size_X5_length rfl rfl rfl (by decide +kernel) ⟨Nat.le_of_ble_eq_true rfl, Nat.le_of_ble_eq_true rfl⟩) ⟨fun a U g mk q => by obtain ⟨q0, q1, qP, qK, qD⟩ := q; exact ⟨q0, q1, qP, va_K.moved (u := U) (U := U.calling g mk a) (Vm.Alike.refl U.vm) qK, qD⟩, va_recv hK hPc (ci := 5) (q0 := 0) rfl rfl, fun U hU hW => ⟨rfl, by rw [hU], by rw [hU]; exact hPc, va_K.moved hW.alike hK, hDc.weaken (fun _ _ _ _ => trivial)⟩⟩ rfl rfl hl.1 rfl (lv_room (Nat.le_of_ble_eq_true rfl)) dX11_size_15 ⟨Nat.le_of_ble_eq_true rfl, Nat.le_of_ble_eq_true rfl⟩) hS (fun q _ h => hFc q h) hFc (fun r_4 u t H1 locs ht hvm hw hB hz1 hk1 hS => ?_)
    obtain ⟨hP1, hD1⟩ := hB
    rw [ht] at hP1
    obtain ⟨hP, hD⟩ := va_join (wr := [(oX, .inr (11, [.ref nT, .ref nL, .ref nM, .ref oC, .ref oP, .ref oH, .ref oK, .ref oG, .ref oR, .ref oQ, .ref oW, .int (-1)])), (nL, .inr (5, [.ref aL, .int 0])), (oP, .inr (7, [.ref oC, .ref nB, .int (-1)]))]) (w1 := [(nB, .inr (5, [.ref aB, .int 0]))]) hP hD [2] [0, 1, 3] rfl rfl (by decide) (by decide) hk1 hFc hP1 hD1
    generalize H1 = H at hP hS ⊢
    have hP : va_P (dC, dI) vwCl [(oX, .inr (11, [.ref nT, .ref nL, .ref nM, .ref oC, .ref oP, .ref oH, .ref oK, .ref oG, .ref oR, .ref oQ, .ref oW, .int (-1)])), (nL, .inr (5, [.ref aL, .int 0])), (oP, .inr (7, [.ref oC, .ref nB, .int (-1)])), (nB, .inr (5, [.ref aB, .int 0]))] H := hP
    have hD : va_D A [(oX, .inr (11, [.ref nT, .ref nL, .ref nM, .ref oC, .ref oP, .ref oH, .ref oK, .ref oG, .ref oR, .ref oQ, .ref oW, .int (-1)])), (nL, .inr (5, [.ref aL, .int 0])), (oP, .inr (7, [.ref oC, .ref nB, .int (-1)])), (nB, .inr (5, [.ref aB, .int 0]))] := hD
    subst hw
    refine lv_goto (tgt := 22) hx hb dX11_size_18 (by decide) ?_
    exact W.iret (v := 0) hx hb hr (fun t ht hW => ⟨⟨0, (), rfl, by first | rfl | assumption | simp [f_one, c_2], trivial⟩, hS.F ht⟩) (hS.2.2) dX11_size_22

set_option maxHeartbeats 4000000 in
set_option maxRecDepth 100000 in
theorem x_byteOf (l : Launch) (dC : Nat → ClassId) (dI : Nat → Nat → Nat) (cI cS : ClassId) (sz : Nat) (oX : Nat) (nT : Nat) (nL : Nat) (nM : Nat) (oC : Nat) (oP : Nat) (oH : Nat) (oK : Nat) (oG : Nat) (oR : Nat) (oQ : Nat) (oW : Nat) (aL : Nat) (nB : Nat) (aB : Nat) (cd : Int32) (i : Int32)  : Met l yX11_byteOf wsX11_byteOf ({ frames := 3, cells := 0, slots := 0, locals := 66 } : Room) (va_Pc [.ref oX, .int cd, .int i] (fun U => U.heap.size = sz ∧ va_P (dC, dI) vwCl [(oX, .inr (11, [.ref nT, .ref nL, .ref nM, .ref oC, .ref oP, .ref oH, .ref oK, .ref oG, .ref oR, .ref oQ, .ref oW, .int (-1)])), (nL, .inr (5, [.ref aL, .int 0])), (oP, .inr (7, [.ref oC, .ref nB, .int (-1)])), (nB, .inr (5, [.ref aB, .int 0]))] U.heap ∧ va_K (dC, dI) vwCl [(cI, .int), (cS, .short)] U ∧ va_D (fun _ => True) [(oX, .inr (11, [.ref nT, .ref nL, .ref nM, .ref oC, .ref oP, .ref oH, .ref oK, .ref oG, .ref oR, .ref oQ, .ref oW, .int (-1)])), (nL, .inr (5, [.ref aL, .int 0])), (oP, .inr (7, [.ref oC, .ref nB, .int (-1)])), (nB, .inr (5, [.ref aB, .int 0]))])) (va_Qi (fun (r : Int32) (_ : Unit) => r = (-1)) (fun _ _ => True) (va_A [(oX, .inr (11, [.ref nT, .ref nL, .ref nM, .ref oC, .ref oP, .ref oH, .ref oK, .ref oG, .ref oR, .ref oQ, .ref oW, .int (-1)])), (nL, .inr (5, [.ref aL, .int 0])), (oP, .inr (7, [.ref oC, .ref nB, .int (-1)])), (nB, .inr (5, [.ref aB, .int 0]))] sz)) 0 0 (va_A [(oX, .inr (11, [.ref nT, .ref nL, .ref nM, .ref oC, .ref oP, .ref oH, .ref oK, .ref oG, .ref oR, .ref oQ, .ref oW, .int (-1)])), (nL, .inr (5, [.ref aL, .int 0])), (oP, .inr (7, [.ref oC, .ref nB, .int (-1)])), (nB, .inr (5, [.ref aB, .int 0]))] sz) := by
  refine Met.ofW (cc := cX11_byteOf) (maxL := 3) (ret := (some .int)) (by decide) rfl ?_
  intro p e s m args below meth c s₁ B hml hv
  obtain ⟨rfl, hsz, hP, hK, hD0⟩ := hv
  have hx := B.exec
  have hb := B.bytes
  have hr := B.returns
  have hts := atoms_spec (ws := wsX11_byteOf) B.pre
  have hown : s.vm.findClass RX11 = some m.cls := findClass_of_methodNamed B.named
  have hlocks := B.notSynchronized
  have in_X11 : ∀ w ∈ wsX110, w ∈ wsX11_byteOf := fun _ h => List.mem_cons_of_mem _ (List.mem_append_left _ (List.mem_append_left _ (List.mem_append_left _ (List.mem_append_left _ (List.mem_append_right _ (h))))))
  subst hsz
  have hD := hD0.self (sz := s.heap.size)
  generalize hAe : va_A [(oX, .inr (11, [.ref nT, .ref nL, .ref nM, .ref oC, .ref oP, .ref oH, .ref oK, .ref oG, .ref oR, .ref oQ, .ref oW, .int (-1)])), (nL, .inr (5, [.ref aL, .int 0])), (oP, .inr (7, [.ref oC, .ref nB, .int (-1)])), (nB, .inr (5, [.ref aB, .int 0]))] s.heap.size = A at hD ⊢
  have hA : ∀ q : Nat, s.heap.size ≤ q → A q := fun q h => by rw [← hAe]; exact Or.inr h
  have hS : va_S A s.heap s.heap [] := va_S.rf
  have hP : va_P (dC, dI) vwCl [(oX, .inr (11, [.ref nT, .ref nL, .ref nM, .ref oC, .ref oP, .ref oH, .ref oK, .ref oG, .ref oR, .ref oQ, .ref oW, .int (-1)])), (nL, .inr (5, [.ref aL, .int 0])), (oP, .inr (7, [.ref oC, .ref nB, .int (-1)])), (nB, .inr (5, [.ref aB, .int 0]))] s.heap := hP
  have hl := lv_entry ([.ref oX, .int cd, .int i]) (n := 3) (Nat.le_of_ble_eq_true rfl)
  rw [lg_entry_eq]
  generalize (lg_sl ([.ref oX, .int cd, .int i]) ++ List.replicate (3 - (lg_sl ([.ref oX, .int cd, .int i])).length) Slot.unset).toArray = ls at hl ⊢
  have hl : lv_has ls 3 [(0, .ref oX), (1, .int cd), (2, .int i)] := hl
  refine lv_aload_n hx hb dX11_byteOf_0 rfl (lv_at hl 0 rfl) ?_
  refine lv_iload_n hx hb dX11_byteOf_1 rfl (lv_at hl 1 rfl) ?_
  have hPc := hP.sub (ws' := [(oX, .inr (11, [.ref nT, .ref nL, .ref nM, .ref oC, .ref oP, .ref oH, .ref oK, .ref oG, .ref oR, .ref oQ, .ref oW, .int (-1)])), (nL, .inr (5, [.ref aL, .int 0])), (oP, .inr (7, [.ref oC, .ref nB, .int (-1)])), (nB, .inr (5, [.ref aB, .int 0]))]) [0, 1, 2, 3] rfl
  have hDc := hD.sub (ws' := [(oX, .inr (11, [.ref nT, .ref nL, .ref nM, .ref oC, .ref oP, .ref oH, .ref oK, .ref oG, .ref oR, .ref oQ, .ref oW, .int (-1)])), (nL, .inr (5, [.ref aL, .int 0])), (oP, .inr (7, [.ref oC, .ref nB, .int (-1)])), (nB, .inr (5, [.ref aB, .int 0]))]) [0, 1, 2, 3] (by decide) rfl
  have hFc := va_free (wc := [(oX, .inr (11, [.ref nT, .ref nL, .ref nM, .ref oC, .ref oP, .ref oH, .ref oK, .ref oG, .ref oR, .ref oQ, .ref oW, .int (-1)])), (nL, .inr (5, [.ref aL, .int 0])), (oP, .inr (7, [.ref oC, .ref nB, .int (-1)])), (nB, .inr (5, [.ref aB, .int 0]))]) hD hS hA [0, 1, 2, 3] rfl
  refine va_calli (va_runV (As := [.int cd]) (rest := []) ⟨hx, hb, hml, hown, hts⟩ (m_X11_writes l dC dI cI cS s.heap.size oX nT nL nM oC oP oH oK oG oR oQ oW aL nB aB cd ) (cwV 1 hts gX11_byteOf_X11_writes rfl rfl rfl (by decide +kernel) ⟨Nat.le_of_ble_eq_true rfl, Nat.le_of_ble_eq_true rfl⟩) ⟨fun a U g mk q => by obtain ⟨q0, q1, qP, qK, qD⟩ := q; exact ⟨q0, q1, qP, va_K.moved (u := U) (U := U.calling g mk a) (Vm.Alike.refl U.vm) qK, qD⟩, va_recv hK hPc (ci := 11) (q0 := 0) rfl rfl, fun U hU hW => ⟨rfl, by rw [hU], by rw [hU]; exact hPc, va_K.moved hW.alike hK, hDc.weaken (fun _ _ _ _ => trivial)⟩⟩ rfl rfl hl.1 rfl (lv_room (Nat.le_of_ble_eq_true rfl)) dX11_byteOf_2 ⟨Nat.le_of_ble_eq_true rfl, Nat.le_of_ble_eq_true rfl⟩) hS (fun q _ h => hFc q h) hFc (fun r_1 u t H1 locs ht hvm hw hB hz1 hk1 hS => ?_)
  obtain ⟨hP1, hD1⟩ := hB
  rw [ht] at hP1
  obtain ⟨hP, hD⟩ := va_join (wr := []) (w1 := [(oX, .inr (11, [.ref nT, .ref nL, .ref nM, .ref oC, .ref oP, .ref oH, .ref oK, .ref oG, .ref oR, .ref oQ, .ref oW, .int (-1)])), (nL, .inr (5, [.ref aL, .int 0])), (oP, .inr (7, [.ref oC, .ref nB, .int (-1)])), (nB, .inr (5, [.ref aB, .int 0]))]) hP hD [0, 1, 2, 3] [] rfl rfl (by decide) (by decide) hk1 hFc hP1 hD1
  generalize H1 = H at hP hS ⊢
  have hP : va_P (dC, dI) vwCl [(oX, .inr (11, [.ref nT, .ref nL, .ref nM, .ref oC, .ref oP, .ref oH, .ref oK, .ref oG, .ref oR, .ref oQ, .ref oW, .int (-1)])), (nL, .inr (5, [.ref aL, .int 0])), (oP, .inr (7, [.ref oC, .ref nB, .int (-1)])), (nB, .inr (5, [.ref aB, .int 0]))] H := hP
  have hD : va_D A [(oX, .inr (11, [.ref nT, .ref nL, .ref nM, .ref oC, .ref oP, .ref oH, .ref oK, .ref oG, .ref oR, .ref oQ, .ref oW, .int (-1)])), (nL, .inr (5, [.ref aL, .int 0])), (oP, .inr (7, [.ref oC, .ref nB, .int (-1)])), (nB, .inr (5, [.ref aB, .int 0]))] := hD
  subst hw
  refine lv_if_eq (tgt := 22) hx hb dX11_byteOf_5 (by decide) (fun c_2 => ?_) (fun c_2 => ?_)
  · refine lv_iconst (v := (-1)) hx hb dX11_byteOf_22 (by decide) ?_
    exact W.iret (v := (-1)) hx hb hr (fun t ht hW => ⟨⟨(-1), (), rfl, rfl, trivial⟩, hS.F ht⟩) (hS.2.2) dX11_byteOf_23
  · refine lv_aload_n hx hb dX11_byteOf_8 rfl (lv_at hl 0 rfl) ?_
    refine va_get (D := (dC, dI)) (ci := 11) (v := .ref oP) (C := RX11) (T := TX11) (N := 12) hx hb hts in_X11 hown hK hP 0 rfl rfl 4 (by decide) (hts (.fieldLink RX11 44 "TextMender" "passage" "LTextMender$Passage;") (List.mem_of_getElem? (i := 1) rfl)) (fun _ h9 => h9) rfl dX11_byteOf_9 ?_
    have hPc := hP.sub (ws' := [(oP, .inr (7, [.ref oC, .ref nB, .int (-1)]))]) [2] rfl
    have hDc := hD.sub (ws' := [(oP, .inr (7, [.ref oC, .ref nB, .int (-1)]))]) [2] (by decide) rfl
    have hFc := va_free (wc := [(oP, .inr (7, [.ref oC, .ref nB, .int (-1)]))]) hD hS hA [2] rfl
    refine va_callr (va_runV (As := []) (rest := []) ⟨hx, hb, hml, hown, hts⟩ (m_X7_bytes l dC dI cI cS H.size oP oC nB ) (cwV 0 hts gX11_byteOf_X7_bytes rfl rfl rfl (by decide +kernel) ⟨Nat.le_of_ble_eq_true rfl, Nat.le_of_ble_eq_true rfl⟩) ⟨fun a U g mk q => by obtain ⟨q0, q1, qP, qK, qD⟩ := q; exact ⟨q0, q1, qP, va_K.moved (u := U) (U := U.calling g mk a) (Vm.Alike.refl U.vm) qK, qD⟩, va_recv hK hPc (ci := 7) (q0 := 0) rfl rfl, fun U hU hW => ⟨rfl, by rw [hU], by rw [hU]; exact hPc, va_K.moved hW.alike hK, hDc.weaken (fun _ _ _ _ => trivial)⟩⟩ rfl rfl hl.1 rfl (lv_room (Nat.le_of_ble_eq_true rfl)) dX11_byteOf_12 ⟨Nat.le_of_ble_eq_true rfl, Nat.le_of_ble_eq_true rfl⟩) hS (fun q _ h => hFc q h) hFc (fun u r_3 t H1 locs ht hvm hw hB hz1 hk1 hS => ?_)
    obtain ⟨hra, hP1, hD1⟩ := hB
    rw [hra]
    rw [ht] at hP1
    obtain ⟨hP, hD⟩ := va_join (wr := [(oX, .inr (11, [.ref nT, .ref nL, .ref nM, .ref oC, .ref oP, .ref oH, .ref oK, .ref oG, .ref oR, .ref oQ, .ref oW, .int (-1)])), (nL, .inr (5, [.ref aL, .int 0])), (nB, .inr (5, [.ref aB, .int 0]))]) (w1 := [(oP, .inr (7, [.ref oC, .ref nB, .int (-1)]))]) hP hD [2] [0, 1, 3] rfl rfl (by decide) (by decide) hk1 hFc hP1 hD1
    generalize H1 = H at hP hS ⊢
    have hP : va_P (dC, dI) vwCl [(oX, .inr (11, [.ref nT, .ref nL, .ref nM, .ref oC, .ref oP, .ref oH, .ref oK, .ref oG, .ref oR, .ref oQ, .ref oW, .int (-1)])), (nL, .inr (5, [.ref aL, .int 0])), (nB, .inr (5, [.ref aB, .int 0])), (oP, .inr (7, [.ref oC, .ref nB, .int (-1)]))] H := hP
    have hD : va_D A [(oX, .inr (11, [.ref nT, .ref nL, .ref nM, .ref oC, .ref oP, .ref oH, .ref oK, .ref oG, .ref oR, .ref oQ, .ref oW, .int (-1)])), (nL, .inr (5, [.ref aL, .int 0])), (nB, .inr (5, [.ref aB, .int 0])), (oP, .inr (7, [.ref oC, .ref nB, .int (-1)]))] := hD
    refine lv_iload_n hx hb dX11_byteOf_15 rfl (lv_at hl 2 rfl) ?_
    have hPc := hP.sub (ws' := [(nB, .inr (5, [.ref aB, .int 0]))]) [2] rfl
    have hDc := hD.sub (ws' := [(nB, .inr (5, [.ref aB, .int 0]))]) [2] (by decide) rfl
    have hFc := va_free (wc := [(nB, .inr (5, [.ref aB, .int 0]))]) hD hS hA [2] rfl
    refine va_calli (va_runV (As := [.int i]) (rest := []) ⟨hx, hb, hml, hown, hts⟩ (m_X5_get l dC dI cI cS H.size nB aB i ) (cwV 1 hts gX11_byteOf_X5_get rfl rfl rfl (by decide +kernel) ⟨Nat.le_of_ble_eq_true rfl, Nat.le_of_ble_eq_true rfl⟩) ⟨fun a U g mk q => by obtain ⟨q0, q1, qP, qK, qD⟩ := q; exact ⟨q0, q1, qP, va_K.moved (u := U) (U := U.calling g mk a) (Vm.Alike.refl U.vm) qK, qD⟩, va_recv hK hPc (ci := 5) (q0 := 0) rfl rfl, fun U hU hW => ⟨rfl, by rw [hU], by rw [hU]; exact hPc, va_K.moved hW.alike hK, hDc.weaken (fun _ _ _ _ => trivial)⟩⟩ rfl rfl hl.1 rfl (lv_room (Nat.le_of_ble_eq_true rfl)) dX11_byteOf_16 ⟨Nat.le_of_ble_eq_true rfl, Nat.le_of_ble_eq_true rfl⟩) hS (fun q _ h => hFc q h) hFc (fun r_4 u t H1 locs ht hvm hw hB hz1 hk1 hS => ?_)
    obtain ⟨hP1, hD1⟩ := hB
    rw [ht] at hP1
    obtain ⟨hP, hD⟩ := va_join (wr := [(oX, .inr (11, [.ref nT, .ref nL, .ref nM, .ref oC, .ref oP, .ref oH, .ref oK, .ref oG, .ref oR, .ref oQ, .ref oW, .int (-1)])), (nL, .inr (5, [.ref aL, .int 0])), (oP, .inr (7, [.ref oC, .ref nB, .int (-1)]))]) (w1 := [(nB, .inr (5, [.ref aB, .int 0]))]) hP hD [2] [0, 1, 3] rfl rfl (by decide) (by decide) hk1 hFc hP1 hD1
    generalize H1 = H at hP hS ⊢
    have hP : va_P (dC, dI) vwCl [(oX, .inr (11, [.ref nT, .ref nL, .ref nM, .ref oC, .ref oP, .ref oH, .ref oK, .ref oG, .ref oR, .ref oQ, .ref oW, .int (-1)])), (nL, .inr (5, [.ref aL, .int 0])), (oP, .inr (7, [.ref oC, .ref nB, .int (-1)])), (nB, .inr (5, [.ref aB, .int 0]))] H := hP
    have hD : va_D A [(oX, .inr (11, [.ref nT, .ref nL, .ref nM, .ref oC, .ref oP, .ref oH, .ref oK, .ref oG, .ref oR, .ref oQ, .ref oW, .int (-1)])), (nL, .inr (5, [.ref aL, .int 0])), (oP, .inr (7, [.ref oC, .ref nB, .int (-1)])), (nB, .inr (5, [.ref aB, .int 0]))] := hD
    subst hw
    refine lv_goto (tgt := 23) hx hb dX11_byteOf_19 (by decide) ?_
    exact W.iret (v := (-1)) hx hb hr (fun t ht hW => ⟨⟨(-1), (), rfl, rfl, trivial⟩, hS.F ht⟩) (hS.2.2) dX11_byteOf_23

set_option maxHeartbeats 4000000 in
set_option maxRecDepth 100000 in
theorem x_where (l : Launch) (dC : Nat → ClassId) (dI : Nat → Nat → Nat) (cI cS : ClassId) (sz : Nat) (oX : Nat) (nT : Nat) (nL : Nat) (nM : Nat) (oC : Nat) (oP : Nat) (oH : Nat) (oK : Nat) (oG : Nat) (oR : Nat) (oQ : Nat) (oW : Nat)  : Met l yX11_where wsX11_where ({ frames := 0, cells := 0, slots := 0, locals := 0 } : Room) (va_Pc [.ref oX] (fun U => U.heap.size = sz ∧ va_P (dC, dI) vwCl [(oX, .inr (11, [.ref nT, .ref nL, .ref nM, .ref oC, .ref oP, .ref oH, .ref oK, .ref oG, .ref oR, .ref oQ, .ref oW, .int (-1)]))] U.heap ∧ va_K (dC, dI) vwCl [(cI, .int), (cS, .short)] U ∧ va_D (fun _ => True) [(oX, .inr (11, [.ref nT, .ref nL, .ref nM, .ref oC, .ref oP, .ref oH, .ref oK, .ref oG, .ref oR, .ref oQ, .ref oW, .int (-1)]))])) (va_Qi (fun (r : Int32) (_ : Unit) => r = (-1)) (fun _ _ => True) (va_A [(oX, .inr (11, [.ref nT, .ref nL, .ref nM, .ref oC, .ref oP, .ref oH, .ref oK, .ref oG, .ref oR, .ref oQ, .ref oW, .int (-1)]))] sz)) 0 0 (va_A [(oX, .inr (11, [.ref nT, .ref nL, .ref nM, .ref oC, .ref oP, .ref oH, .ref oK, .ref oG, .ref oR, .ref oQ, .ref oW, .int (-1)]))] sz) := by
  refine Met.ofW (cc := cX11_where) (maxL := 1) (ret := (some .int)) (by decide) rfl ?_
  intro p e s m args below meth c s₁ B hml hv
  obtain ⟨rfl, hsz, hP, hK, hD0⟩ := hv
  have hx := B.exec
  have hb := B.bytes
  have hr := B.returns
  have hts := atoms_spec (ws := wsX11_where) B.pre
  have hown : s.vm.findClass RX11 = some m.cls := findClass_of_methodNamed B.named
  have hlocks := B.notSynchronized
  have in_X11 : ∀ w ∈ wsX110, w ∈ wsX11_where := fun _ h => List.mem_cons_of_mem _ (List.mem_append_right _ (h))
  subst hsz
  have hD := hD0.self (sz := s.heap.size)
  generalize hAe : va_A [(oX, .inr (11, [.ref nT, .ref nL, .ref nM, .ref oC, .ref oP, .ref oH, .ref oK, .ref oG, .ref oR, .ref oQ, .ref oW, .int (-1)]))] s.heap.size = A at hD ⊢
  have hA : ∀ q : Nat, s.heap.size ≤ q → A q := fun q h => by rw [← hAe]; exact Or.inr h
  have hS : va_S A s.heap s.heap [] := va_S.rf
  have hP : va_P (dC, dI) vwCl [(oX, .inr (11, [.ref nT, .ref nL, .ref nM, .ref oC, .ref oP, .ref oH, .ref oK, .ref oG, .ref oR, .ref oQ, .ref oW, .int (-1)]))] s.heap := hP
  have hl := lv_entry ([.ref oX]) (n := 1) (Nat.le_of_ble_eq_true rfl)
  rw [lg_entry_eq]
  generalize (lg_sl ([.ref oX]) ++ List.replicate (1 - (lg_sl ([.ref oX])).length) Slot.unset).toArray = ls at hl ⊢
  have hl : lv_has ls 1 [(0, .ref oX)] := hl
  refine lv_aload_n hx hb dX11_where_0 rfl (lv_at hl 0 rfl) ?_
  refine va_get (D := (dC, dI)) (ci := 11) (v := .int (-1)) (C := RX11) (T := TX11) (N := 12) hx hb hts in_X11 hown hK hP 0 rfl rfl 11 (by decide) (hts (.fieldLink RX11 90 "TextMender" "fault" "I") (List.mem_of_getElem? (i := 1) rfl)) (fun _ h9 => h9) rfl dX11_where_1 ?_
  exact W.iret (v := (-1)) hx hb hr (fun t ht hW => ⟨⟨(-1), (), rfl, rfl, trivial⟩, hS.F ht⟩) (hS.2.2) dX11_where_4

set_option maxHeartbeats 4000000 in
set_option maxRecDepth 100000 in
theorem x_harm (l : Launch) (dC : Nat → ClassId) (dI : Nat → Nat → Nat) (cI cS : ClassId) (sz : Nat) (oX : Nat) (nT : Nat) (nL : Nat) (nM : Nat) (oC : Nat) (oP : Nat) (oH : Nat) (oK : Nat) (oG : Nat) (oR : Nat) (oQ : Nat) (oW : Nat) (aL : Nat) (aM : Nat) (nB : Nat) (aB : Nat) (g1 : Nat) (g2 : Nat) (w0 : Nat) (w1 : Nat) (w2 : Nat) (w3 : Nat) (w4 : Nat) (w5 : Nat) (w6 : Nat) (w7 : Nat) (w8 : Nat) (w9 : Nat) (w10 : Nat) (a : Int32) (b : Int32)  : Met l yX11_harm wsX11_harm ({ frames := 4, cells := 0, slots := 0, locals := 111 } : Room) (va_Pc [.ref oX, .int a, .int b] (fun U => U.heap.size = sz ∧ va_P (dC, dI) vwCl [(oX, .inr (11, [.ref nT, .ref nL, .ref nM, .ref oC, .ref oP, .ref oH, .ref oK, .ref oG, .ref oR, .ref oQ, .ref oW, .int (-1)])), (nL, .inr (5, [.ref aL, .int 0])), (aL, .inl (cI, 300, .inl (fun _ => 0))), (nM, .inr (5, [.ref aM, .int 0])), (aM, .inl (cI, 300, .inl (fun _ => 0))), (oP, .inr (7, [.ref oC, .ref nB, .int (-1)])), (nB, .inr (5, [.ref aB, .int 0])), (oG, .inr (0, [.ref g1, .ref g2, .int 0, .int 0])), (g1, .inl (cI, 6000, .inl (fun _ => 0))), (g2, .inl (cI, 20, .inl (fun _ => 0))), (oW, .inr (1, [.ref oC, .ref oK, .ref w0, .ref w1, .ref w2, .ref w3, .ref w4, .ref w5, .ref w6, .ref w7, .ref w8, .ref w9, .ref w10, .int 0, .int 0, .int 0, .int (-1), .int (-1), .int (-1), .int (-1)]))] U.heap ∧ va_K (dC, dI) vwCl [(cI, .int), (cS, .short)] U ∧ va_D (fun _ => True) [(oX, .inr (11, [.ref nT, .ref nL, .ref nM, .ref oC, .ref oP, .ref oH, .ref oK, .ref oG, .ref oR, .ref oQ, .ref oW, .int (-1)])), (nL, .inr (5, [.ref aL, .int 0])), (aL, .inl (cI, 300, .inl (fun _ => 0))), (nM, .inr (5, [.ref aM, .int 0])), (aM, .inl (cI, 300, .inl (fun _ => 0))), (oP, .inr (7, [.ref oC, .ref nB, .int (-1)])), (nB, .inr (5, [.ref aB, .int 0])), (oG, .inr (0, [.ref g1, .ref g2, .int 0, .int 0])), (g1, .inl (cI, 6000, .inl (fun _ => 0))), (g2, .inl (cI, 20, .inl (fun _ => 0))), (oW, .inr (1, [.ref oC, .ref oK, .ref w0, .ref w1, .ref w2, .ref w3, .ref w4, .ref w5, .ref w6, .ref w7, .ref w8, .ref w9, .ref w10, .int 0, .int 0, .int 0, .int (-1), .int (-1), .int (-1), .int (-1)]))])) (va_Qi (fun (r : Int32) (_ : Unit) => r = f_two a b) (fun _ _ => True) (va_A [(oX, .inr (11, [.ref nT, .ref nL, .ref nM, .ref oC, .ref oP, .ref oH, .ref oK, .ref oG, .ref oR, .ref oQ, .ref oW, .int (-1)])), (nL, .inr (5, [.ref aL, .int 0])), (aL, .inl (cI, 300, .inl (fun _ => 0))), (nM, .inr (5, [.ref aM, .int 0])), (aM, .inl (cI, 300, .inl (fun _ => 0))), (oP, .inr (7, [.ref oC, .ref nB, .int (-1)])), (nB, .inr (5, [.ref aB, .int 0])), (oG, .inr (0, [.ref g1, .ref g2, .int 0, .int 0])), (g1, .inl (cI, 6000, .inl (fun _ => 0))), (g2, .inl (cI, 20, .inl (fun _ => 0))), (oW, .inr (1, [.ref oC, .ref oK, .ref w0, .ref w1, .ref w2, .ref w3, .ref w4, .ref w5, .ref w6, .ref w7, .ref w8, .ref w9, .ref w10, .int 0, .int 0, .int 0, .int (-1), .int (-1), .int (-1), .int (-1)]))] sz)) 0 0 (va_A [(oX, .inr (11, [.ref nT, .ref nL, .ref nM, .ref oC, .ref oP, .ref oH, .ref oK, .ref oG, .ref oR, .ref oQ, .ref oW, .int (-1)])), (nL, .inr (5, [.ref aL, .int 0])), (aL, .inl (cI, 300, .inl (fun _ => 0))), (nM, .inr (5, [.ref aM, .int 0])), (aM, .inl (cI, 300, .inl (fun _ => 0))), (oP, .inr (7, [.ref oC, .ref nB, .int (-1)])), (nB, .inr (5, [.ref aB, .int 0])), (oG, .inr (0, [.ref g1, .ref g2, .int 0, .int 0])), (g1, .inl (cI, 6000, .inl (fun _ => 0))), (g2, .inl (cI, 20, .inl (fun _ => 0))), (oW, .inr (1, [.ref oC, .ref oK, .ref w0, .ref w1, .ref w2, .ref w3, .ref w4, .ref w5, .ref w6, .ref w7, .ref w8, .ref w9, .ref w10, .int 0, .int 0, .int 0, .int (-1), .int (-1), .int (-1), .int (-1)]))] sz) := by
  refine Met.ofW (cc := cX11_harm) (maxL := 3) (ret := (some .int)) (by decide) rfl ?_
  intro p e s m args below meth c s₁ B hml hv
  obtain ⟨rfl, hsz, hP, hK, hD0⟩ := hv
  have hx := B.exec
  have hb := B.bytes
  have hr := B.returns
  have hts := atoms_spec (ws := wsX11_harm) B.pre
  have hown : s.vm.findClass RX11 = some m.cls := findClass_of_methodNamed B.named
  have hlocks := B.notSynchronized
  have in_X11 : ∀ w ∈ wsX110, w ∈ wsX11_harm := fun _ h => List.mem_cons_of_mem _ (List.mem_append_left _ (List.mem_append_left _ (List.mem_append_left _ (List.mem_append_left _ (List.mem_append_left _ (List.mem_append_left _ (List.mem_append_right _ (h))))))))
  subst hsz
  have hD := hD0.self (sz := s.heap.size)
  generalize hAe : va_A [(oX, .inr (11, [.ref nT, .ref nL, .ref nM, .ref oC, .ref oP, .ref oH, .ref oK, .ref oG, .ref oR, .ref oQ, .ref oW, .int (-1)])), (nL, .inr (5, [.ref aL, .int 0])), (aL, .inl (cI, 300, .inl (fun _ => 0))), (nM, .inr (5, [.ref aM, .int 0])), (aM, .inl (cI, 300, .inl (fun _ => 0))), (oP, .inr (7, [.ref oC, .ref nB, .int (-1)])), (nB, .inr (5, [.ref aB, .int 0])), (oG, .inr (0, [.ref g1, .ref g2, .int 0, .int 0])), (g1, .inl (cI, 6000, .inl (fun _ => 0))), (g2, .inl (cI, 20, .inl (fun _ => 0))), (oW, .inr (1, [.ref oC, .ref oK, .ref w0, .ref w1, .ref w2, .ref w3, .ref w4, .ref w5, .ref w6, .ref w7, .ref w8, .ref w9, .ref w10, .int 0, .int 0, .int 0, .int (-1), .int (-1), .int (-1), .int (-1)]))] s.heap.size = A at hD ⊢
  have hA : ∀ q : Nat, s.heap.size ≤ q → A q := fun q h => by rw [← hAe]; exact Or.inr h
  have hS : va_S A s.heap s.heap [] := va_S.rf
  have hP : va_P (dC, dI) vwCl [(oX, .inr (11, [.ref nT, .ref nL, .ref nM, .ref oC, .ref oP, .ref oH, .ref oK, .ref oG, .ref oR, .ref oQ, .ref oW, .int (-1)])), (nL, .inr (5, [.ref aL, .int 0])), (aL, .inl (cI, 300, .inl (fun _ => 0))), (nM, .inr (5, [.ref aM, .int 0])), (aM, .inl (cI, 300, .inl (fun _ => 0))), (oP, .inr (7, [.ref oC, .ref nB, .int (-1)])), (nB, .inr (5, [.ref aB, .int 0])), (oG, .inr (0, [.ref g1, .ref g2, .int 0, .int 0])), (g1, .inl (cI, 6000, .inl (fun _ => 0))), (g2, .inl (cI, 20, .inl (fun _ => 0))), (oW, .inr (1, [.ref oC, .ref oK, .ref w0, .ref w1, .ref w2, .ref w3, .ref w4, .ref w5, .ref w6, .ref w7, .ref w8, .ref w9, .ref w10, .int 0, .int 0, .int 0, .int (-1), .int (-1), .int (-1), .int (-1)]))] s.heap := hP
  have hl := lv_entry ([.ref oX, .int a, .int b]) (n := 3) (Nat.le_of_ble_eq_true rfl)
  rw [lg_entry_eq]
  generalize (lg_sl ([.ref oX, .int a, .int b]) ++ List.replicate (3 - (lg_sl ([.ref oX, .int a, .int b])).length) Slot.unset).toArray = ls at hl ⊢
  have hl : lv_has ls 3 [(0, .ref oX), (1, .int a), (2, .int b)] := hl
  refine lv_aload_n hx hb dX11_harm_0 rfl (lv_at hl 0 rfl) ?_
  refine lv_iload_n hx hb dX11_harm_1 rfl (lv_at hl 1 rfl) ?_
  refine lv_iload_n hx hb dX11_harm_2 rfl (lv_at hl 2 rfl) ?_
  have hPc := hP.sub (ws' := [(oX, .inr (11, [.ref nT, .ref nL, .ref nM, .ref oC, .ref oP, .ref oH, .ref oK, .ref oG, .ref oR, .ref oQ, .ref oW, .int (-1)])), (nL, .inr (5, [.ref aL, .int 0])), (nM, .inr (5, [.ref aM, .int 0])), (oP, .inr (7, [.ref oC, .ref nB, .int (-1)])), (nB, .inr (5, [.ref aB, .int 0]))]) [0, 1, 3, 5, 6] rfl
  have hDc := hD.sub (ws' := [(oX, .inr (11, [.ref nT, .ref nL, .ref nM, .ref oC, .ref oP, .ref oH, .ref oK, .ref oG, .ref oR, .ref oQ, .ref oW, .int (-1)])), (nL, .inr (5, [.ref aL, .int 0])), (nM, .inr (5, [.ref aM, .int 0])), (oP, .inr (7, [.ref oC, .ref nB, .int (-1)])), (nB, .inr (5, [.ref aB, .int 0]))]) [0, 1, 3, 5, 6] (by decide) rfl
  have hFc := va_free (wc := [(oX, .inr (11, [.ref nT, .ref nL, .ref nM, .ref oC, .ref oP, .ref oH, .ref oK, .ref oG, .ref oR, .ref oQ, .ref oW, .int (-1)])), (nL, .inr (5, [.ref aL, .int 0])), (nM, .inr (5, [.ref aM, .int 0])), (oP, .inr (7, [.ref oC, .ref nB, .int (-1)])), (nB, .inr (5, [.ref aB, .int 0]))]) hD hS hA [0, 1, 3, 5, 6] rfl
  refine va_calli (va_runV (As := [.int a, .int b]) (rest := []) ⟨hx, hb, hml, hown, hts⟩ (m_X11_passes l dC dI cI cS s.heap.size oX nT nL nM oC oP oH oK oG oR oQ oW aL aM nB aB a b ) (cwV 2 hts gX11_harm_X11_passes rfl rfl rfl (by decide +kernel) ⟨Nat.le_of_ble_eq_true rfl, Nat.le_of_ble_eq_true rfl⟩) ⟨fun a U g mk q => by obtain ⟨q0, q1, qP, qK, qD⟩ := q; exact ⟨q0, q1, qP, va_K.moved (u := U) (U := U.calling g mk a) (Vm.Alike.refl U.vm) qK, qD⟩, va_recv hK hPc (ci := 11) (q0 := 0) rfl rfl, fun U hU hW => ⟨rfl, by rw [hU], by rw [hU]; exact hPc, va_K.moved hW.alike hK, hDc.weaken (fun _ _ _ _ => trivial)⟩⟩ rfl rfl hl.1 rfl (lv_room (Nat.le_of_ble_eq_true rfl)) dX11_harm_3 ⟨Nat.le_of_ble_eq_true rfl, Nat.le_of_ble_eq_true rfl⟩) hS (fun q _ h => hFc q h) hFc (fun r_1 u t H1 locs ht hvm hw hB hz1 hk1 hS => ?_)
  obtain ⟨hP1, hD1⟩ := hB
  rw [ht] at hP1
  obtain ⟨hP, hD⟩ := va_join (wr := [(aL, .inl (cI, 300, .inl (fun _ => 0))), (aM, .inl (cI, 300, .inl (fun _ => 0))), (oG, .inr (0, [.ref g1, .ref g2, .int 0, .int 0])), (g1, .inl (cI, 6000, .inl (fun _ => 0))), (g2, .inl (cI, 20, .inl (fun _ => 0))), (oW, .inr (1, [.ref oC, .ref oK, .ref w0, .ref w1, .ref w2, .ref w3, .ref w4, .ref w5, .ref w6, .ref w7, .ref w8, .ref w9, .ref w10, .int 0, .int 0, .int 0, .int (-1), .int (-1), .int (-1), .int (-1)]))]) (w1 := [(oX, .inr (11, [.ref nT, .ref nL, .ref nM, .ref oC, .ref oP, .ref oH, .ref oK, .ref oG, .ref oR, .ref oQ, .ref oW, .int (-1)])), (nL, .inr (5, [.ref aL, .int 0])), (nM, .inr (5, [.ref aM, .int 0])), (oP, .inr (7, [.ref oC, .ref nB, .int (-1)])), (nB, .inr (5, [.ref aB, .int 0]))]) hP hD [0, 1, 3, 5, 6] [2, 4, 7, 8, 9, 10] rfl rfl (by decide) (by decide) hk1 hFc hP1 hD1
  generalize H1 = H at hP hS ⊢
  have hP : va_P (dC, dI) vwCl [(aL, .inl (cI, 300, .inl (fun _ => 0))), (aM, .inl (cI, 300, .inl (fun _ => 0))), (oG, .inr (0, [.ref g1, .ref g2, .int 0, .int 0])), (g1, .inl (cI, 6000, .inl (fun _ => 0))), (g2, .inl (cI, 20, .inl (fun _ => 0))), (oW, .inr (1, [.ref oC, .ref oK, .ref w0, .ref w1, .ref w2, .ref w3, .ref w4, .ref w5, .ref w6, .ref w7, .ref w8, .ref w9, .ref w10, .int 0, .int 0, .int 0, .int (-1), .int (-1), .int (-1), .int (-1)])), (oX, .inr (11, [.ref nT, .ref nL, .ref nM, .ref oC, .ref oP, .ref oH, .ref oK, .ref oG, .ref oR, .ref oQ, .ref oW, .int (-1)])), (nL, .inr (5, [.ref aL, .int 0])), (nM, .inr (5, [.ref aM, .int 0])), (oP, .inr (7, [.ref oC, .ref nB, .int (-1)])), (nB, .inr (5, [.ref aB, .int 0]))] H := hP
  have hD : va_D A [(aL, .inl (cI, 300, .inl (fun _ => 0))), (aM, .inl (cI, 300, .inl (fun _ => 0))), (oG, .inr (0, [.ref g1, .ref g2, .int 0, .int 0])), (g1, .inl (cI, 6000, .inl (fun _ => 0))), (g2, .inl (cI, 20, .inl (fun _ => 0))), (oW, .inr (1, [.ref oC, .ref oK, .ref w0, .ref w1, .ref w2, .ref w3, .ref w4, .ref w5, .ref w6, .ref w7, .ref w8, .ref w9, .ref w10, .int 0, .int 0, .int 0, .int (-1), .int (-1), .int (-1), .int (-1)])), (oX, .inr (11, [.ref nT, .ref nL, .ref nM, .ref oC, .ref oP, .ref oH, .ref oK, .ref oG, .ref oR, .ref oQ, .ref oW, .int (-1)])), (nL, .inr (5, [.ref aL, .int 0])), (nM, .inr (5, [.ref aM, .int 0])), (oP, .inr (7, [.ref oC, .ref nB, .int (-1)])), (nB, .inr (5, [.ref aB, .int 0]))] := hD
  subst hw
  refine lv_if_eq (tgt := 20) hx hb dX11_harm_6 (by decide) (fun c_2 => ?_) (fun c_2 => ?_)
  · refine lv_iconst (v := (-1)) hx hb dX11_harm_20 (by decide) ?_
    exact W.iret (v := (-1)) hx hb hr (fun t ht hW => ⟨⟨(-1), (), rfl, by first | rfl | assumption | simp [f_two, c_2], trivial⟩, hS.F ht⟩) (hS.2.2) dX11_harm_21
  · refine lv_aload_n hx hb dX11_harm_9 rfl (lv_at hl 0 rfl) ?_
    refine lv_aload_n hx hb dX11_harm_10 rfl (lv_at hl 0 rfl) ?_
    refine va_get (D := (dC, dI)) (ci := 11) (v := .ref nM) (C := RX11) (T := TX11) (N := 12) hx hb hts in_X11 hown hK hP 6 rfl rfl 2 (by decide) (hts (.fieldLink RX11 37 "TextMender" "made" "LTextMender$Numbers;") (List.mem_of_getElem? (i := 1) rfl)) (fun _ h9 => h9) rfl dX11_harm_11 ?_
    have hPc := hP.sub (ws' := [(oX, .inr (11, [.ref nT, .ref nL, .ref nM, .ref oC, .ref oP, .ref oH, .ref oK, .ref oG, .ref oR, .ref oQ, .ref oW, .int (-1)])), (nL, .inr (5, [.ref aL, .int 0])), (aL, .inl (cI, 300, .inl (fun _ => 0))), (nM, .inr (5, [.ref aM, .int 0])), (aM, .inl (cI, 300, .inl (fun _ => 0))), (oG, .inr (0, [.ref g1, .ref g2, .int 0, .int 0])), (g1, .inl (cI, 6000, .inl (fun _ => 0))), (g2, .inl (cI, 20, .inl (fun _ => 0))), (oW, .inr (1, [.ref oC, .ref oK, .ref w0, .ref w1, .ref w2, .ref w3, .ref w4, .ref w5, .ref w6, .ref w7, .ref w8, .ref w9, .ref w10, .int 0, .int 0, .int 0, .int (-1), .int (-1), .int (-1), .int (-1)]))]) [6, 7, 0, 8, 1, 2, 3, 4, 5] rfl
    have hDc := hD.sub (ws' := [(oX, .inr (11, [.ref nT, .ref nL, .ref nM, .ref oC, .ref oP, .ref oH, .ref oK, .ref oG, .ref oR, .ref oQ, .ref oW, .int (-1)])), (nL, .inr (5, [.ref aL, .int 0])), (aL, .inl (cI, 300, .inl (fun _ => 0))), (nM, .inr (5, [.ref aM, .int 0])), (aM, .inl (cI, 300, .inl (fun _ => 0))), (oG, .inr (0, [.ref g1, .ref g2, .int 0, .int 0])), (g1, .inl (cI, 6000, .inl (fun _ => 0))), (g2, .inl (cI, 20, .inl (fun _ => 0))), (oW, .inr (1, [.ref oC, .ref oK, .ref w0, .ref w1, .ref w2, .ref w3, .ref w4, .ref w5, .ref w6, .ref w7, .ref w8, .ref w9, .ref w10, .int 0, .int 0, .int 0, .int (-1), .int (-1), .int (-1), .int (-1)]))]) [6, 7, 0, 8, 1, 2, 3, 4, 5] (by decide) rfl
    have hFc := va_free (wc := [(oX, .inr (11, [.ref nT, .ref nL, .ref nM, .ref oC, .ref oP, .ref oH, .ref oK, .ref oG, .ref oR, .ref oQ, .ref oW, .int (-1)])), (nL, .inr (5, [.ref aL, .int 0])), (aL, .inl (cI, 300, .inl (fun _ => 0))), (nM, .inr (5, [.ref aM, .int 0])), (aM, .inl (cI, 300, .inl (fun _ => 0))), (oG, .inr (0, [.ref g1, .ref g2, .int 0, .int 0])), (g1, .inl (cI, 6000, .inl (fun _ => 0))), (g2, .inl (cI, 20, .inl (fun _ => 0))), (oW, .inr (1, [.ref oC, .ref oK, .ref w0, .ref w1, .ref w2, .ref w3, .ref w4, .ref w5, .ref w6, .ref w7, .ref w8, .ref w9, .ref w10, .int 0, .int 0, .int 0, .int (-1), .int (-1), .int (-1), .int (-1)]))]) hD hS hA [6, 7, 0, 8, 1, 2, 3, 4, 5] rfl
    refine va_calli (va_runV (As := [.ref nM]) (rest := []) ⟨hx, hb, hml, hown, hts⟩ (m_X11_become l dC dI cI cS H.size oX nT nL nM oC oP oH oK oG oR oQ oW aL aM g1 g2 w0 w1 w2 w3 w4 w5 w6 w7 w8 w9 w10 ) (cwV 1 hts gX11_harm_X11_become rfl rfl rfl (by decide +kernel) ⟨Nat.le_of_ble_eq_true rfl, Nat.le_of_ble_eq_true rfl⟩) ⟨fun a U g mk q => by obtain ⟨q0, q1, qP, qK, qD⟩ := q; exact ⟨q0, q1, qP, va_K.moved (u := U) (U := U.calling g mk a) (Vm.Alike.refl U.vm) qK, qD⟩, va_recv hK hPc (ci := 11) (q0 := 0) rfl rfl, fun U hU hW => ⟨rfl, by rw [hU], by rw [hU]; exact hPc, va_K.moved hW.alike hK, hDc.weaken (fun _ _ _ _ => trivial)⟩⟩ rfl rfl hl.1 rfl (lv_room (Nat.le_of_ble_eq_true rfl)) dX11_harm_14 ⟨Nat.le_of_ble_eq_true rfl, Nat.le_of_ble_eq_true rfl⟩) hS (fun q _ h => hFc q h) hFc (fun r_3 u t H1 locs ht hvm hw hB hz1 hk1 hS => ?_)
    obtain ⟨hP, hD⟩ := va_join (wr := [(oP, .inr (7, [.ref oC, .ref nB, .int (-1)])), (nB, .inr (5, [.ref aB, .int 0]))]) (w1 := []) hP hD [6, 7, 0, 8, 1, 2, 3, 4, 5] [9, 10] rfl rfl (by decide) (by decide) hk1 hFc p_P0 p_D0
    generalize H1 = H at hP hS ⊢
    have hP : va_P (dC, dI) vwCl [(oP, .inr (7, [.ref oC, .ref nB, .int (-1)])), (nB, .inr (5, [.ref aB, .int 0]))] H := hP
    have hD : va_D A [(oP, .inr (7, [.ref oC, .ref nB, .int (-1)])), (nB, .inr (5, [.ref aB, .int 0]))] := hD
    subst hw
    refine lv_goto (tgt := 21) hx hb dX11_harm_17 (by decide) ?_
    exact W.iret (v := 0) hx hb hr (fun t ht hW => ⟨⟨0, (), rfl, by first | rfl | assumption | simp [f_two, c_2], trivial⟩, hS.F ht⟩) (hS.2.2) dX11_harm_21

set_option maxHeartbeats 4000000 in
set_option maxRecDepth 100000 in
theorem x_rough (l : Launch) (dC : Nat → ClassId) (dI : Nat → Nat → Nat) (cI cS : ClassId) (sz : Nat) (oX : Nat) (nT : Nat) (nL : Nat) (nM : Nat) (oC : Nat) (oP : Nat) (oH : Nat) (oK : Nat) (oG : Nat) (oR : Nat) (oQ : Nat) (oW : Nat) (aL : Nat) (aM : Nat) (nB : Nat) (aB : Nat) (g1 : Nat) (g2 : Nat) (w0 : Nat) (w1 : Nat) (w2 : Nat) (w3 : Nat) (w4 : Nat) (w5 : Nat) (w6 : Nat) (w7 : Nat) (w8 : Nat) (w9 : Nat) (w10 : Nat) (a : Int32) (b : Int32)  : Met l yX11_rough wsX11_rough ({ frames := 4, cells := 0, slots := 0, locals := 111 } : Room) (va_Pc [.ref oX, .int a, .int b] (fun U => U.heap.size = sz ∧ va_P (dC, dI) vwCl [(oX, .inr (11, [.ref nT, .ref nL, .ref nM, .ref oC, .ref oP, .ref oH, .ref oK, .ref oG, .ref oR, .ref oQ, .ref oW, .int (-1)])), (nL, .inr (5, [.ref aL, .int 0])), (aL, .inl (cI, 300, .inl (fun _ => 0))), (nM, .inr (5, [.ref aM, .int 0])), (aM, .inl (cI, 300, .inl (fun _ => 0))), (oP, .inr (7, [.ref oC, .ref nB, .int (-1)])), (nB, .inr (5, [.ref aB, .int 0])), (oG, .inr (0, [.ref g1, .ref g2, .int 0, .int 0])), (g1, .inl (cI, 6000, .inl (fun _ => 0))), (g2, .inl (cI, 20, .inl (fun _ => 0))), (oW, .inr (1, [.ref oC, .ref oK, .ref w0, .ref w1, .ref w2, .ref w3, .ref w4, .ref w5, .ref w6, .ref w7, .ref w8, .ref w9, .ref w10, .int 0, .int 0, .int 0, .int (-1), .int (-1), .int (-1), .int (-1)]))] U.heap ∧ va_K (dC, dI) vwCl [(cI, .int), (cS, .short)] U ∧ va_D (fun _ => True) [(oX, .inr (11, [.ref nT, .ref nL, .ref nM, .ref oC, .ref oP, .ref oH, .ref oK, .ref oG, .ref oR, .ref oQ, .ref oW, .int (-1)])), (nL, .inr (5, [.ref aL, .int 0])), (aL, .inl (cI, 300, .inl (fun _ => 0))), (nM, .inr (5, [.ref aM, .int 0])), (aM, .inl (cI, 300, .inl (fun _ => 0))), (oP, .inr (7, [.ref oC, .ref nB, .int (-1)])), (nB, .inr (5, [.ref aB, .int 0])), (oG, .inr (0, [.ref g1, .ref g2, .int 0, .int 0])), (g1, .inl (cI, 6000, .inl (fun _ => 0))), (g2, .inl (cI, 20, .inl (fun _ => 0))), (oW, .inr (1, [.ref oC, .ref oK, .ref w0, .ref w1, .ref w2, .ref w3, .ref w4, .ref w5, .ref w6, .ref w7, .ref w8, .ref w9, .ref w10, .int 0, .int 0, .int 0, .int (-1), .int (-1), .int (-1), .int (-1)]))])) (va_Qi (fun (r : Int32) (_ : Unit) => r = f_two a b) (fun _ _ => True) (va_A [(oX, .inr (11, [.ref nT, .ref nL, .ref nM, .ref oC, .ref oP, .ref oH, .ref oK, .ref oG, .ref oR, .ref oQ, .ref oW, .int (-1)])), (nL, .inr (5, [.ref aL, .int 0])), (aL, .inl (cI, 300, .inl (fun _ => 0))), (nM, .inr (5, [.ref aM, .int 0])), (aM, .inl (cI, 300, .inl (fun _ => 0))), (oP, .inr (7, [.ref oC, .ref nB, .int (-1)])), (nB, .inr (5, [.ref aB, .int 0])), (oG, .inr (0, [.ref g1, .ref g2, .int 0, .int 0])), (g1, .inl (cI, 6000, .inl (fun _ => 0))), (g2, .inl (cI, 20, .inl (fun _ => 0))), (oW, .inr (1, [.ref oC, .ref oK, .ref w0, .ref w1, .ref w2, .ref w3, .ref w4, .ref w5, .ref w6, .ref w7, .ref w8, .ref w9, .ref w10, .int 0, .int 0, .int 0, .int (-1), .int (-1), .int (-1), .int (-1)]))] sz)) 0 0 (va_A [(oX, .inr (11, [.ref nT, .ref nL, .ref nM, .ref oC, .ref oP, .ref oH, .ref oK, .ref oG, .ref oR, .ref oQ, .ref oW, .int (-1)])), (nL, .inr (5, [.ref aL, .int 0])), (aL, .inl (cI, 300, .inl (fun _ => 0))), (nM, .inr (5, [.ref aM, .int 0])), (aM, .inl (cI, 300, .inl (fun _ => 0))), (oP, .inr (7, [.ref oC, .ref nB, .int (-1)])), (nB, .inr (5, [.ref aB, .int 0])), (oG, .inr (0, [.ref g1, .ref g2, .int 0, .int 0])), (g1, .inl (cI, 6000, .inl (fun _ => 0))), (g2, .inl (cI, 20, .inl (fun _ => 0))), (oW, .inr (1, [.ref oC, .ref oK, .ref w0, .ref w1, .ref w2, .ref w3, .ref w4, .ref w5, .ref w6, .ref w7, .ref w8, .ref w9, .ref w10, .int 0, .int 0, .int 0, .int (-1), .int (-1), .int (-1), .int (-1)]))] sz) := by
  refine Met.ofW (cc := cX11_rough) (maxL := 4) (ret := (some .int)) (by decide) rfl ?_
  intro p e s m args below meth c s₁ B hml hv
  obtain ⟨rfl, hsz, hP, hK, hD0⟩ := hv
  have hx := B.exec
  have hb := B.bytes
  have hr := B.returns
  have hts := atoms_spec (ws := wsX11_rough) B.pre
  have hown : s.vm.findClass RX11 = some m.cls := findClass_of_methodNamed B.named
  have hlocks := B.notSynchronized
  have in_X11 : ∀ w ∈ wsX110, w ∈ wsX11_rough := fun _ h => List.mem_cons_of_mem _ (List.mem_append_left _ (List.mem_append_left _ (List.mem_append_left _ (List.mem_append_left _ (List.mem_append_left _ (List.mem_append_left _ (List.mem_append_right _ (h))))))))
  subst hsz
  have hD := hD0.self (sz := s.heap.size)
  generalize hAe : va_A [(oX, .inr (11, [.ref nT, .ref nL, .ref nM, .ref oC, .ref oP, .ref oH, .ref oK, .ref oG, .ref oR, .ref oQ, .ref oW, .int (-1)])), (nL, .inr (5, [.ref aL, .int 0])), (aL, .inl (cI, 300, .inl (fun _ => 0))), (nM, .inr (5, [.ref aM, .int 0])), (aM, .inl (cI, 300, .inl (fun _ => 0))), (oP, .inr (7, [.ref oC, .ref nB, .int (-1)])), (nB, .inr (5, [.ref aB, .int 0])), (oG, .inr (0, [.ref g1, .ref g2, .int 0, .int 0])), (g1, .inl (cI, 6000, .inl (fun _ => 0))), (g2, .inl (cI, 20, .inl (fun _ => 0))), (oW, .inr (1, [.ref oC, .ref oK, .ref w0, .ref w1, .ref w2, .ref w3, .ref w4, .ref w5, .ref w6, .ref w7, .ref w8, .ref w9, .ref w10, .int 0, .int 0, .int 0, .int (-1), .int (-1), .int (-1), .int (-1)]))] s.heap.size = A at hD ⊢
  have hA : ∀ q : Nat, s.heap.size ≤ q → A q := fun q h => by rw [← hAe]; exact Or.inr h
  have hS : va_S A s.heap s.heap [] := va_S.rf
  have hP : va_P (dC, dI) vwCl [(oX, .inr (11, [.ref nT, .ref nL, .ref nM, .ref oC, .ref oP, .ref oH, .ref oK, .ref oG, .ref oR, .ref oQ, .ref oW, .int (-1)])), (nL, .inr (5, [.ref aL, .int 0])), (aL, .inl (cI, 300, .inl (fun _ => 0))), (nM, .inr (5, [.ref aM, .int 0])), (aM, .inl (cI, 300, .inl (fun _ => 0))), (oP, .inr (7, [.ref oC, .ref nB, .int (-1)])), (nB, .inr (5, [.ref aB, .int 0])), (oG, .inr (0, [.ref g1, .ref g2, .int 0, .int 0])), (g1, .inl (cI, 6000, .inl (fun _ => 0))), (g2, .inl (cI, 20, .inl (fun _ => 0))), (oW, .inr (1, [.ref oC, .ref oK, .ref w0, .ref w1, .ref w2, .ref w3, .ref w4, .ref w5, .ref w6, .ref w7, .ref w8, .ref w9, .ref w10, .int 0, .int 0, .int 0, .int (-1), .int (-1), .int (-1), .int (-1)]))] s.heap := hP
  have hl := lv_entry ([.ref oX, .int a, .int b]) (n := 4) (Nat.le_of_ble_eq_true rfl)
  rw [lg_entry_eq]
  generalize (lg_sl ([.ref oX, .int a, .int b]) ++ List.replicate (4 - (lg_sl ([.ref oX, .int a, .int b])).length) Slot.unset).toArray = ls at hl ⊢
  have hl : lv_has ls 4 [(0, .ref oX), (1, .int a), (2, .int b)] := hl
  refine lv_aload_n hx hb dX11_rough_0 rfl (lv_at hl 0 rfl) ?_
  refine lv_iconst (v := (-1)) hx hb dX11_rough_1 (by decide) ?_
  refine va_put (D := (dC, dI)) (ci := 11) (v := .int (-1)) (ty := .int) (C := RX11) (T := TX11) (N := 12) hx hb hts in_X11 tyX11 tyX11_ok nmX11 hown hK hP hD hS 0 rfl rfl 11 (by decide) (hts (.fieldLink RX11 90 "TextMender" "fault" "I") (List.mem_of_getElem? (i := 1) rfl)) (fun _ h9 => h9) rfl (by decide +kernel) rfl rfl (Nat.le_of_ble_eq_true rfl) dX11_rough_2 (fun H locs hP hD hS => ?_)
  have hP : va_P (dC, dI) vwCl [(oX, .inr (11, [.ref nT, .ref nL, .ref nM, .ref oC, .ref oP, .ref oH, .ref oK, .ref oG, .ref oR, .ref oQ, .ref oW, .int (-1)])), (nL, .inr (5, [.ref aL, .int 0])), (aL, .inl (cI, 300, .inl (fun _ => 0))), (nM, .inr (5, [.ref aM, .int 0])), (aM, .inl (cI, 300, .inl (fun _ => 0))), (oP, .inr (7, [.ref oC, .ref nB, .int (-1)])), (nB, .inr (5, [.ref aB, .int 0])), (oG, .inr (0, [.ref g1, .ref g2, .int 0, .int 0])), (g1, .inl (cI, 6000, .inl (fun _ => 0))), (g2, .inl (cI, 20, .inl (fun _ => 0))), (oW, .inr (1, [.ref oC, .ref oK, .ref w0, .ref w1, .ref w2, .ref w3, .ref w4, .ref w5, .ref w6, .ref w7, .ref w8, .ref w9, .ref w10, .int 0, .int 0, .int 0, .int (-1), .int (-1), .int (-1), .int (-1)]))] H := hP
  have hD : va_D A [(oX, .inr (11, [.ref nT, .ref nL, .ref nM, .ref oC, .ref oP, .ref oH, .ref oK, .ref oG, .ref oR, .ref oQ, .ref oW, .int (-1)])), (nL, .inr (5, [.ref aL, .int 0])), (aL, .inl (cI, 300, .inl (fun _ => 0))), (nM, .inr (5, [.ref aM, .int 0])), (aM, .inl (cI, 300, .inl (fun _ => 0))), (oP, .inr (7, [.ref oC, .ref nB, .int (-1)])), (nB, .inr (5, [.ref aB, .int 0])), (oG, .inr (0, [.ref g1, .ref g2, .int 0, .int 0])), (g1, .inl (cI, 6000, .inl (fun _ => 0))), (g2, .inl (cI, 20, .inl (fun _ => 0))), (oW, .inr (1, [.ref oC, .ref oK, .ref w0, .ref w1, .ref w2, .ref w3, .ref w4, .ref w5, .ref w6, .ref w7, .ref w8, .ref w9, .ref w10, .int 0, .int 0, .int 0, .int (-1), .int (-1), .int (-1), .int (-1)]))] := hD
  refine lv_iload_n hx hb dX11_rough_5 rfl (lv_at hl 1 rfl) ?_
  have hPc := hP.sub (ws' := []) [] rfl
  have hDc := hD.sub (ws' := []) [] (by decide) rfl
  have hFc := va_free (wc := []) hD hS hA [] rfl
  refine va_calli (va_runS (As := [.int a]) (rest := []) ⟨hx, hb, hml, hown, hts⟩ (m_X2_known l dC dI cI cS H.size a ) (va_cwS 1 hts gX11_rough_X2_known rfl rfl rfl (by decide +kernel) ⟨Nat.le_of_ble_eq_true rfl, Nat.le_of_ble_eq_true rfl⟩) ⟨fun a U g mk q => by obtain ⟨q0, q1, qP, qK, qD⟩ := q; exact ⟨q0, q1, qP, va_K.moved (u := U) (U := U.calling g mk a) (Vm.Alike.refl U.vm) qK, qD⟩, fun U hU hW => ⟨rfl, by rw [hU], by rw [hU]; exact hPc, va_K.moved hW.alike hK, hDc.weaken (fun _ _ _ _ => trivial)⟩⟩ rfl rfl hl.1 rfl (lv_room (Nat.le_of_ble_eq_true rfl)) dX11_rough_6 ⟨Nat.le_of_ble_eq_true rfl, Nat.le_of_ble_eq_true rfl⟩) hS (fun q _ h => hFc q h) hFc (fun r_1 u t H1 locs ht hvm hw hB hz1 hk1 hS => ?_)
  obtain ⟨hP1, hD1⟩ := hB
  rw [ht] at hP1
  obtain ⟨hP, hD⟩ := va_join (wr := [(oX, .inr (11, [.ref nT, .ref nL, .ref nM, .ref oC, .ref oP, .ref oH, .ref oK, .ref oG, .ref oR, .ref oQ, .ref oW, .int (-1)])), (nL, .inr (5, [.ref aL, .int 0])), (aL, .inl (cI, 300, .inl (fun _ => 0))), (nM, .inr (5, [.ref aM, .int 0])), (aM, .inl (cI, 300, .inl (fun _ => 0))), (oP, .inr (7, [.ref oC, .ref nB, .int (-1)])), (nB, .inr (5, [.ref aB, .int 0])), (oG, .inr (0, [.ref g1, .ref g2, .int 0, .int 0])), (g1, .inl (cI, 6000, .inl (fun _ => 0))), (g2, .inl (cI, 20, .inl (fun _ => 0))), (oW, .inr (1, [.ref oC, .ref oK, .ref w0, .ref w1, .ref w2, .ref w3, .ref w4, .ref w5, .ref w6, .ref w7, .ref w8, .ref w9, .ref w10, .int 0, .int 0, .int 0, .int (-1), .int (-1), .int (-1), .int (-1)]))]) (w1 := []) hP hD [] [0, 1, 2, 3, 4, 5, 6, 7, 8, 9, 10] rfl rfl (by decide) (by decide) hk1 hFc hP1 hD1
  generalize H1 = H at hP hS ⊢
  have hP : va_P (dC, dI) vwCl [(oX, .inr (11, [.ref nT, .ref nL, .ref nM, .ref oC, .ref oP, .ref oH, .ref oK, .ref oG, .ref oR, .ref oQ, .ref oW, .int (-1)])), (nL, .inr (5, [.ref aL, .int 0])), (aL, .inl (cI, 300, .inl (fun _ => 0))), (nM, .inr (5, [.ref aM, .int 0])), (aM, .inl (cI, 300, .inl (fun _ => 0))), (oP, .inr (7, [.ref oC, .ref nB, .int (-1)])), (nB, .inr (5, [.ref aB, .int 0])), (oG, .inr (0, [.ref g1, .ref g2, .int 0, .int 0])), (g1, .inl (cI, 6000, .inl (fun _ => 0))), (g2, .inl (cI, 20, .inl (fun _ => 0))), (oW, .inr (1, [.ref oC, .ref oK, .ref w0, .ref w1, .ref w2, .ref w3, .ref w4, .ref w5, .ref w6, .ref w7, .ref w8, .ref w9, .ref w10, .int 0, .int 0, .int 0, .int (-1), .int (-1), .int (-1), .int (-1)]))] H := hP
  have hD : va_D A [(oX, .inr (11, [.ref nT, .ref nL, .ref nM, .ref oC, .ref oP, .ref oH, .ref oK, .ref oG, .ref oR, .ref oQ, .ref oW, .int (-1)])), (nL, .inr (5, [.ref aL, .int 0])), (aL, .inl (cI, 300, .inl (fun _ => 0))), (nM, .inr (5, [.ref aM, .int 0])), (aM, .inl (cI, 300, .inl (fun _ => 0))), (oP, .inr (7, [.ref oC, .ref nB, .int (-1)])), (nB, .inr (5, [.ref aB, .int 0])), (oG, .inr (0, [.ref g1, .ref g2, .int 0, .int 0])), (g1, .inl (cI, 6000, .inl (fun _ => 0))), (g2, .inl (cI, 20, .inl (fun _ => 0))), (oW, .inr (1, [.ref oC, .ref oK, .ref w0, .ref w1, .ref w2, .ref w3, .ref w4, .ref w5, .ref w6, .ref w7, .ref w8, .ref w9, .ref w10, .int 0, .int 0, .int 0, .int (-1), .int (-1), .int (-1), .int (-1)]))] := hD
  subst hw
  refine lv_if_eq (tgt := 19) hx hb dX11_rough_9 (by decide) (fun c_2 => ?_) (fun c_2 => ?_)
  · refine lv_iconst (v := (-1)) hx hb dX11_rough_19 (by decide) ?_
    exact W.iret (v := (-1)) hx hb hr (fun t ht hW => ⟨⟨(-1), (), rfl, by first | rfl | assumption | simp [f_two, f_both, c_2], trivial⟩, hS.F ht⟩) (hS.2.2) dX11_rough_20
  · refine lv_iload_n hx hb dX11_rough_12 rfl (lv_at hl 2 rfl) ?_
    have hPc := hP.sub (ws' := []) [] rfl
    have hDc := hD.sub (ws' := []) [] (by decide) rfl
    have hFc := va_free (wc := []) hD hS hA [] rfl
    refine va_calli (va_runS (As := [.int b]) (rest := []) ⟨hx, hb, hml, hown, hts⟩ (m_X2_known l dC dI cI cS H.size b ) (va_cwS 1 hts gX11_rough_X2_known rfl rfl rfl (by decide +kernel) ⟨Nat.le_of_ble_eq_true rfl, Nat.le_of_ble_eq_true rfl⟩) ⟨fun a U g mk q => by obtain ⟨q0, q1, qP, qK, qD⟩ := q; exact ⟨q0, q1, qP, va_K.moved (u := U) (U := U.calling g mk a) (Vm.Alike.refl U.vm) qK, qD⟩, fun U hU hW => ⟨rfl, by rw [hU], by rw [hU]; exact hPc, va_K.moved hW.alike hK, hDc.weaken (fun _ _ _ _ => trivial)⟩⟩ rfl rfl hl.1 rfl (lv_room (Nat.le_of_ble_eq_true rfl)) dX11_rough_13 ⟨Nat.le_of_ble_eq_true rfl, Nat.le_of_ble_eq_true rfl⟩) hS (fun q _ h => hFc q h) hFc (fun r_3 u t H1 locs ht hvm hw hB hz1 hk1 hS => ?_)
    obtain ⟨hP1, hD1⟩ := hB
    rw [ht] at hP1
    obtain ⟨hP, hD⟩ := va_join (wr := [(oX, .inr (11, [.ref nT, .ref nL, .ref nM, .ref oC, .ref oP, .ref oH, .ref oK, .ref oG, .ref oR, .ref oQ, .ref oW, .int (-1)])), (nL, .inr (5, [.ref aL, .int 0])), (aL, .inl (cI, 300, .inl (fun _ => 0))), (nM, .inr (5, [.ref aM, .int 0])), (aM, .inl (cI, 300, .inl (fun _ => 0))), (oP, .inr (7, [.ref oC, .ref nB, .int (-1)])), (nB, .inr (5, [.ref aB, .int 0])), (oG, .inr (0, [.ref g1, .ref g2, .int 0, .int 0])), (g1, .inl (cI, 6000, .inl (fun _ => 0))), (g2, .inl (cI, 20, .inl (fun _ => 0))), (oW, .inr (1, [.ref oC, .ref oK, .ref w0, .ref w1, .ref w2, .ref w3, .ref w4, .ref w5, .ref w6, .ref w7, .ref w8, .ref w9, .ref w10, .int 0, .int 0, .int 0, .int (-1), .int (-1), .int (-1), .int (-1)]))]) (w1 := []) hP hD [] [0, 1, 2, 3, 4, 5, 6, 7, 8, 9, 10] rfl rfl (by decide) (by decide) hk1 hFc hP1 hD1
    generalize H1 = H at hP hS ⊢
    have hP : va_P (dC, dI) vwCl [(oX, .inr (11, [.ref nT, .ref nL, .ref nM, .ref oC, .ref oP, .ref oH, .ref oK, .ref oG, .ref oR, .ref oQ, .ref oW, .int (-1)])), (nL, .inr (5, [.ref aL, .int 0])), (aL, .inl (cI, 300, .inl (fun _ => 0))), (nM, .inr (5, [.ref aM, .int 0])), (aM, .inl (cI, 300, .inl (fun _ => 0))), (oP, .inr (7, [.ref oC, .ref nB, .int (-1)])), (nB, .inr (5, [.ref aB, .int 0])), (oG, .inr (0, [.ref g1, .ref g2, .int 0, .int 0])), (g1, .inl (cI, 6000, .inl (fun _ => 0))), (g2, .inl (cI, 20, .inl (fun _ => 0))), (oW, .inr (1, [.ref oC, .ref oK, .ref w0, .ref w1, .ref w2, .ref w3, .ref w4, .ref w5, .ref w6, .ref w7, .ref w8, .ref w9, .ref w10, .int 0, .int 0, .int 0, .int (-1), .int (-1), .int (-1), .int (-1)]))] H := hP
    have hD : va_D A [(oX, .inr (11, [.ref nT, .ref nL, .ref nM, .ref oC, .ref oP, .ref oH, .ref oK, .ref oG, .ref oR, .ref oQ, .ref oW, .int (-1)])), (nL, .inr (5, [.ref aL, .int 0])), (aL, .inl (cI, 300, .inl (fun _ => 0))), (nM, .inr (5, [.ref aM, .int 0])), (aM, .inl (cI, 300, .inl (fun _ => 0))), (oP, .inr (7, [.ref oC, .ref nB, .int (-1)])), (nB, .inr (5, [.ref aB, .int 0])), (oG, .inr (0, [.ref g1, .ref g2, .int 0, .int 0])), (g1, .inl (cI, 6000, .inl (fun _ => 0))), (g2, .inl (cI, 20, .inl (fun _ => 0))), (oW, .inr (1, [.ref oC, .ref oK, .ref w0, .ref w1, .ref w2, .ref w3, .ref w4, .ref w5, .ref w6, .ref w7, .ref w8, .ref w9, .ref w10, .int 0, .int 0, .int 0, .int (-1), .int (-1), .int (-1), .int (-1)]))] := hD
    subst hw
    refine lv_if_ne (tgt := 21) hx hb dX11_rough_16 (by decide) (fun c_4 => ?_) (fun c_4 => ?_)
    · refine lv_aload_n hx hb dX11_rough_21 rfl (lv_at hl 0 rfl) ?_
      refine va_get (D := (dC, dI)) (ci := 11) (v := .ref oP) (C := RX11) (T := TX11) (N := 12) hx hb hts in_X11 hown hK hP 0 rfl rfl 4 (by decide) (hts (.fieldLink RX11 44 "TextMender" "passage" "LTextMender$Passage;") (List.mem_of_getElem? (i := 2) rfl)) (fun _ h9 => h9) rfl dX11_rough_22 ?_
      refine lv_iload_n hx hb dX11_rough_25 rfl (lv_at hl 1 rfl) ?_
      refine lv_iload_n hx hb dX11_rough_26 rfl (lv_at hl 2 rfl) ?_
      refine lv_aload_n hx hb dX11_rough_27 rfl (lv_at hl 0 rfl) ?_
      refine va_get (D := (dC, dI)) (ci := 11) (v := .ref nL) (C := RX11) (T := TX11) (N := 12) hx hb hts in_X11 hown hK hP 0 rfl rfl 1 (by decide) (hts (.fieldLink RX11 34 "TextMender" "letters" "LTextMender$Numbers;") (List.mem_of_getElem? (i := 3) rfl)) (fun _ h9 => h9) rfl dX11_rough_28 ?_
      refine lv_aload_n hx hb dX11_rough_31 rfl (lv_at hl 0 rfl) ?_
      refine va_get (D := (dC, dI)) (ci := 11) (v := .ref nM) (C := RX11) (T := TX11) (N := 12) hx hb hts in_X11 hown hK hP 0 rfl rfl 2 (by decide) (hts (.fieldLink RX11 37 "TextMender" "made" "LTextMender$Numbers;") (List.mem_of_getElem? (i := 4) rfl)) (fun _ h9 => h9) rfl dX11_rough_32 ?_
      have hPc := hP.sub (ws' := [(oP, .inr (7, [.ref oC, .ref nB, .int (-1)])), (nB, .inr (5, [.ref aB, .int 0])), (nL, .inr (5, [.ref aL, .int 0])), (nM, .inr (5, [.ref aM, .int 0]))]) [5, 6, 1, 3] rfl
      have hDc := hD.sub (ws' := [(oP, .inr (7, [.ref oC, .ref nB, .int (-1)])), (nB, .inr (5, [.ref aB, .int 0])), (nL, .inr (5, [.ref aL, .int 0])), (nM, .inr (5, [.ref aM, .int 0]))]) [5, 6, 1, 3] (by decide) rfl
      have hFc := va_free (wc := [(oP, .inr (7, [.ref oC, .ref nB, .int (-1)])), (nB, .inr (5, [.ref aB, .int 0])), (nL, .inr (5, [.ref aL, .int 0])), (nM, .inr (5, [.ref aM, .int 0]))]) hD hS hA [5, 6, 1, 3] rfl
      refine va_calli (va_runV (As := [.int a, .int b, .ref nL, .ref nM]) (rest := []) ⟨hx, hb, hml, hown, hts⟩ (m_X7_passRoughly l dC dI cI cS H.size oP oC nB aB nL aL nM aM a b ) (cwV 4 hts gX11_rough_X7_passRoughly rfl rfl rfl (by decide +kernel) ⟨Nat.le_of_ble_eq_true rfl, Nat.le_of_ble_eq_true rfl⟩) ⟨fun a U g mk q => by obtain ⟨q0, q1, qP, qK, qD⟩ := q; exact ⟨q0, q1, qP, va_K.moved (u := U) (U := U.calling g mk a) (Vm.Alike.refl U.vm) qK, qD⟩, va_recv hK hPc (ci := 7) (q0 := 0) rfl rfl, fun U hU hW => ⟨rfl, by rw [hU], by rw [hU]; exact hPc, va_K.moved hW.alike hK, hDc.weaken (fun _ _ _ _ => trivial)⟩⟩ rfl rfl hl.1 rfl (lv_room (Nat.le_of_ble_eq_true rfl)) dX11_rough_35 ⟨Nat.le_of_ble_eq_true rfl, Nat.le_of_ble_eq_true rfl⟩) hS (fun q _ h => hFc q h) hFc (fun r_5 u t H1 locs ht hvm hw hB hz1 hk1 hS => ?_)
      obtain ⟨hP1, hD1⟩ := hB
      rw [ht] at hP1
      obtain ⟨hP, hD⟩ := va_join (wr := [(oX, .inr (11, [.ref nT, .ref nL, .ref nM, .ref oC, .ref oP, .ref oH, .ref oK, .ref oG, .ref oR, .ref oQ, .ref oW, .int (-1)])), (aL, .inl (cI, 300, .inl (fun _ => 0))), (aM, .inl (cI, 300, .inl (fun _ => 0))), (oG, .inr (0, [.ref g1, .ref g2, .int 0, .int 0])), (g1, .inl (cI, 6000, .inl (fun _ => 0))), (g2, .inl (cI, 20, .inl (fun _ => 0))), (oW, .inr (1, [.ref oC, .ref oK, .ref w0, .ref w1, .ref w2, .ref w3, .ref w4, .ref w5, .ref w6, .ref w7, .ref w8, .ref w9, .ref w10, .int 0, .int 0, .int 0, .int (-1), .int (-1), .int (-1), .int (-1)]))]) (w1 := [(oP, .inr (7, [.ref oC, .ref nB, .int (-1)])), (nB, .inr (5, [.ref aB, .int 0])), (nL, .inr (5, [.ref aL, .int 0])), (nM, .inr (5, [.ref aM, .int 0]))]) hP hD [5, 6, 1, 3] [0, 2, 4, 7, 8, 9, 10] rfl rfl (by decide) (by decide) hk1 hFc hP1 hD1
      generalize H1 = H at hP hS ⊢
      have hP : va_P (dC, dI) vwCl [(oX, .inr (11, [.ref nT, .ref nL, .ref nM, .ref oC, .ref oP, .ref oH, .ref oK, .ref oG, .ref oR, .ref oQ, .ref oW, .int (-1)])), (aL, .inl (cI, 300, .inl (fun _ => 0))), (aM, .inl (cI, 300, .inl (fun _ => 0))), (oG, .inr (0, [.ref g1, .ref g2, .int 0, .int 0])), (g1, .inl (cI, 6000, .inl (fun _ => 0))), (g2, .inl (cI, 20, .inl (fun _ => 0))), (oW, .inr (1, [.ref oC, .ref oK, .ref w0, .ref w1, .ref w2, .ref w3, .ref w4, .ref w5, .ref w6, .ref w7, .ref w8, .ref w9, .ref w10, .int 0, .int 0, .int 0, .int (-1), .int (-1), .int (-1), .int (-1)])), (oP, .inr (7, [.ref oC, .ref nB, .int (-1)])), (nB, .inr (5, [.ref aB, .int 0])), (nL, .inr (5, [.ref aL, .int 0])), (nM, .inr (5, [.ref aM, .int 0]))] H := hP
      have hD : va_D A [(oX, .inr (11, [.ref nT, .ref nL, .ref nM, .ref oC, .ref oP, .ref oH, .ref oK, .ref oG, .ref oR, .ref oQ, .ref oW, .int (-1)])), (aL, .inl (cI, 300, .inl (fun _ => 0))), (aM, .inl (cI, 300, .inl (fun _ => 0))), (oG, .inr (0, [.ref g1, .ref g2, .int 0, .int 0])), (g1, .inl (cI, 6000, .inl (fun _ => 0))), (g2, .inl (cI, 20, .inl (fun _ => 0))), (oW, .inr (1, [.ref oC, .ref oK, .ref w0, .ref w1, .ref w2, .ref w3, .ref w4, .ref w5, .ref w6, .ref w7, .ref w8, .ref w9, .ref w10, .int 0, .int 0, .int 0, .int (-1), .int (-1), .int (-1), .int (-1)])), (oP, .inr (7, [.ref oC, .ref nB, .int (-1)])), (nB, .inr (5, [.ref aB, .int 0])), (nL, .inr (5, [.ref aL, .int 0])), (nM, .inr (5, [.ref aM, .int 0]))] := hD
      subst hw
      refine lv_istore_n (lv' := [(3, .int 0), (0, .ref oX), (1, .int a), (2, .int b)]) hx hb dX11_rough_38 rfl hl (by decide) rfl (fun ls hl => ?_)
      refine lv_aload_n hx hb dX11_rough_39 rfl (lv_at hl 1 rfl) ?_
      refine lv_aload_n hx hb dX11_rough_40 rfl (lv_at hl 1 rfl) ?_
      refine va_get (D := (dC, dI)) (ci := 11) (v := .ref oP) (C := RX11) (T := TX11) (N := 12) hx hb hts in_X11 hown hK hP 0 rfl rfl 4 (by decide) (hts (.fieldLink RX11 44 "TextMender" "passage" "LTextMender$Passage;") (List.mem_of_getElem? (i := 2) rfl)) (fun _ h9 => h9) rfl dX11_rough_41 ?_
      have hPc := hP.sub (ws' := [(oP, .inr (7, [.ref oC, .ref nB, .int (-1)]))]) [7] rfl
      have hDc := hD.sub (ws' := [(oP, .inr (7, [.ref oC, .ref nB, .int (-1)]))]) [7] (by decide) rfl
      have hFc := va_free (wc := [(oP, .inr (7, [.ref oC, .ref nB, .int (-1)]))]) hD hS hA [7] rfl
      refine va_calli (va_runV (As := []) (rest := [.ref oX]) ⟨hx, hb, hml, hown, hts⟩ (m_X7_fault l dC dI cI cS H.size oP oC nB ) (cwV 0 hts gX11_rough_X7_fault rfl rfl rfl (by decide +kernel) ⟨Nat.le_of_ble_eq_true rfl, Nat.le_of_ble_eq_true rfl⟩) ⟨fun a U g mk q => by obtain ⟨q0, q1, qP, qK, qD⟩ := q; exact ⟨q0, q1, qP, va_K.moved (u := U) (U := U.calling g mk a) (Vm.Alike.refl U.vm) qK, qD⟩, va_recv hK hPc (ci := 7) (q0 := 0) rfl rfl, fun U hU hW => ⟨rfl, by rw [hU], by rw [hU]; exact hPc, va_K.moved hW.alike hK, hDc.weaken (fun _ _ _ _ => trivial)⟩⟩ rfl rfl hl.1 rfl (lv_room (Nat.le_of_ble_eq_true rfl)) dX11_rough_44 ⟨Nat.le_of_ble_eq_true rfl, Nat.le_of_ble_eq_true rfl⟩) hS (fun q _ h => hFc q h) hFc (fun r_6 u t H1 locs ht hvm hw hB hz1 hk1 hS => ?_)
      obtain ⟨hP1, hD1⟩ := hB
      rw [ht] at hP1
      obtain ⟨hP, hD⟩ := va_join (wr := [(oX, .inr (11, [.ref nT, .ref nL, .ref nM, .ref oC, .ref oP, .ref oH, .ref oK, .ref oG, .ref oR, .ref oQ, .ref oW, .int (-1)])), (aL, .inl (cI, 300, .inl (fun _ => 0))), (aM, .inl (cI, 300, .inl (fun _ => 0))), (oG, .inr (0, [.ref g1, .ref g2, .int 0, .int 0])), (g1, .inl (cI, 6000, .inl (fun _ => 0))), (g2, .inl (cI, 20, .inl (fun _ => 0))), (oW, .inr (1, [.ref oC, .ref oK, .ref w0, .ref w1, .ref w2, .ref w3, .ref w4, .ref w5, .ref w6, .ref w7, .ref w8, .ref w9, .ref w10, .int 0, .int 0, .int 0, .int (-1), .int (-1), .int (-1), .int (-1)])), (nB, .inr (5, [.ref aB, .int 0])), (nL, .inr (5, [.ref aL, .int 0])), (nM, .inr (5, [.ref aM, .int 0]))]) (w1 := [(oP, .inr (7, [.ref oC, .ref nB, .int (-1)]))]) hP hD [7] [0, 1, 2, 3, 4, 5, 6, 8, 9, 10] rfl rfl (by decide) (by decide) hk1 hFc hP1 hD1
      generalize H1 = H at hP hS ⊢
      have hP : va_P (dC, dI) vwCl [(oX, .inr (11, [.ref nT, .ref nL, .ref nM, .ref oC, .ref oP, .ref oH, .ref oK, .ref oG, .ref oR, .ref oQ, .ref oW, .int (-1)])), (aL, .inl (cI, 300, .inl (fun _ => 0))), (aM, .inl (cI, 300, .inl (fun _ => 0))), (oG, .inr (0, [.ref g1, .ref g2, .int 0, .int 0])), (g1, .inl (cI, 6000, .inl (fun _ => 0))), (g2, .inl (cI, 20, .inl (fun _ => 0))), (oW, .inr (1, [.ref oC, .ref oK, .ref w0, .ref w1, .ref w2, .ref w3, .ref w4, .ref w5, .ref w6, .ref w7, .ref w8, .ref w9, .ref w10, .int 0, .int 0, .int 0, .int (-1), .int (-1), .int (-1), .int (-1)])), (nB, .inr (5, [.ref aB, .int 0])), (nL, .inr (5, [.ref aL, .int 0])), (nM, .inr (5, [.ref aM, .int 0])), (oP, .inr (7, [.ref oC, .ref nB, .int (-1)]))] H := hP
      have hD : va_D A [(oX, .inr (11, [.ref nT, .ref nL, .ref nM, .ref oC, .ref oP, .ref oH, .ref oK, .ref oG, .ref oR, .ref oQ, .ref oW, .int (-1)])), (aL, .inl (cI, 300, .inl (fun _ => 0))), (aM, .inl (cI, 300, .inl (fun _ => 0))), (oG, .inr (0, [.ref g1, .ref g2, .int 0, .int 0])), (g1, .inl (cI, 6000, .inl (fun _ => 0))), (g2, .inl (cI, 20, .inl (fun _ => 0))), (oW, .inr (1, [.ref oC, .ref oK, .ref w0, .ref w1, .ref w2, .ref w3, .ref w4, .ref w5, .ref w6, .ref w7, .ref w8, .ref w9, .ref w10, .int 0, .int 0, .int 0, .int (-1), .int (-1), .int (-1), .int (-1)])), (nB, .inr (5, [.ref aB, .int 0])), (nL, .inr (5, [.ref aL, .int 0])), (nM, .inr (5, [.ref aM, .int 0])), (oP, .inr (7, [.ref oC, .ref nB, .int (-1)]))] := hD
      subst hw
      refine va_put (D := (dC, dI)) (ci := 11) (v := .int (-1)) (ty := .int) (C := RX11) (T := TX11) (N := 12) hx hb hts in_X11 tyX11 tyX11_ok nmX11 hown hK hP hD hS 0 rfl rfl 11 (by decide) (hts (.fieldLink RX11 90 "TextMender" "fault" "I") (List.mem_of_getElem? (i := 1) rfl)) (fun _ h9 => h9) rfl (by decide +kernel) rfl rfl (Nat.le_of_ble_eq_true rfl) dX11_rough_47 (fun H locs hP hD hS => ?_)
      have hP : va_P (dC, dI) vwCl [(oX, .inr (11, [.ref nT, .ref nL, .ref nM, .ref oC, .ref oP, .ref oH, .ref oK, .ref oG, .ref oR, .ref oQ, .ref oW, .int (-1)])), (aL, .inl (cI, 300, .inl (fun _ => 0))), (aM, .inl (cI, 300, .inl (fun _ => 0))), (oG, .inr (0, [.ref g1, .ref g2, .int 0, .int 0])), (g1, .inl (cI, 6000, .inl (fun _ => 0))), (g2, .inl (cI, 20, .inl (fun _ => 0))), (oW, .inr (1, [.ref oC, .ref oK, .ref w0, .ref w1, .ref w2, .ref w3, .ref w4, .ref w5, .ref w6, .ref w7, .ref w8, .ref w9, .ref w10, .int 0, .int 0, .int 0, .int (-1), .int (-1), .int (-1), .int (-1)])), (nB, .inr (5, [.ref aB, .int 0])), (nL, .inr (5, [.ref aL, .int 0])), (nM, .inr (5, [.ref aM, .int 0])), (oP, .inr (7, [.ref oC, .ref nB, .int (-1)]))] H := hP
      have hD : va_D A [(oX, .inr (11, [.ref nT, .ref nL, .ref nM, .ref oC, .ref oP, .ref oH, .ref oK, .ref oG, .ref oR, .ref oQ, .ref oW, .int (-1)])), (aL, .inl (cI, 300, .inl (fun _ => 0))), (aM, .inl (cI, 300, .inl (fun _ => 0))), (oG, .inr (0, [.ref g1, .ref g2, .int 0, .int 0])), (g1, .inl (cI, 6000, .inl (fun _ => 0))), (g2, .inl (cI, 20, .inl (fun _ => 0))), (oW, .inr (1, [.ref oC, .ref oK, .ref w0, .ref w1, .ref w2, .ref w3, .ref w4, .ref w5, .ref w6, .ref w7, .ref w8, .ref w9, .ref w10, .int 0, .int 0, .int 0, .int (-1), .int (-1), .int (-1), .int (-1)])), (nB, .inr (5, [.ref aB, .int 0])), (nL, .inr (5, [.ref aL, .int 0])), (nM, .inr (5, [.ref aM, .int 0])), (oP, .inr (7, [.ref oC, .ref nB, .int (-1)]))] := hD
      refine lv_iload_n hx hb dX11_rough_50 rfl (lv_at hl 0 rfl) ?_
      refine lv_iconst (v := (-1)) hx hb dX11_rough_51 (by decide) ?_
      refine lv_icmp_ne (tgt := 57) hx hb dX11_rough_52 (by decide) (fun c_7 => ?_) (fun c_7 => absurd c_7 (by decide))
      refine lv_aload_n hx hb dX11_rough_57 rfl (lv_at hl 1 rfl) ?_
      refine lv_aload_n hx hb dX11_rough_58 rfl (lv_at hl 1 rfl) ?_
      refine va_get (D := (dC, dI)) (ci := 11) (v := .ref nM) (C := RX11) (T := TX11) (N := 12) hx hb hts in_X11 hown hK hP 0 rfl rfl 2 (by decide) (hts (.fieldLink RX11 37 "TextMender" "made" "LTextMender$Numbers;") (List.mem_of_getElem? (i := 4) rfl)) (fun _ h9 => h9) rfl dX11_rough_59 ?_
      have hPc := hP.sub (ws' := [(oX, .inr (11, [.ref nT, .ref nL, .ref nM, .ref oC, .ref oP, .ref oH, .ref oK, .ref oG, .ref oR, .ref oQ, .ref oW, .int (-1)])), (nL, .inr (5, [.ref aL, .int 0])), (aL, .inl (cI, 300, .inl (fun _ => 0))), (nM, .inr (5, [.ref aM, .int 0])), (aM, .inl (cI, 300, .inl (fun _ => 0))), (oG, .inr (0, [.ref g1, .ref g2, .int 0, .int 0])), (g1, .inl (cI, 6000, .inl (fun _ => 0))), (g2, .inl (cI, 20, .inl (fun _ => 0))), (oW, .inr (1, [.ref oC, .ref oK, .ref w0, .ref w1, .ref w2, .ref w3, .ref w4, .ref w5, .ref w6, .ref w7, .ref w8, .ref w9, .ref w10, .int 0, .int 0, .int 0, .int (-1), .int (-1), .int (-1), .int (-1)]))]) [0, 8, 1, 9, 2, 3, 4, 5, 6] rfl
      have hDc := hD.sub (ws' := [(oX, .inr (11, [.ref nT, .ref nL, .ref nM, .ref oC, .ref oP, .ref oH, .ref oK, .ref oG, .ref oR, .ref oQ, .ref oW, .int (-1)])), (nL, .inr (5, [.ref aL, .int 0])), (aL, .inl (cI, 300, .inl (fun _ => 0))), (nM, .inr (5, [.ref aM, .int 0])), (aM, .inl (cI, 300, .inl (fun _ => 0))), (oG, .inr (0, [.ref g1, .ref g2, .int 0, .int 0])), (g1, .inl (cI, 6000, .inl (fun _ => 0))), (g2, .inl (cI, 20, .inl (fun _ => 0))), (oW, .inr (1, [.ref oC, .ref oK, .ref w0, .ref w1, .ref w2, .ref w3, .ref w4, .ref w5, .ref w6, .ref w7, .ref w8, .ref w9, .ref w10, .int 0, .int 0, .int 0, .int (-1), .int (-1), .int (-1), .int (-1)]))]) [0, 8, 1, 9, 2, 3, 4, 5, 6] (by decide) rfl
      have hFc := va_free (wc := [(oX, .inr (11, [.ref nT, .ref nL, .ref nM, .ref oC, .ref oP, .ref oH, .ref oK, .ref oG, .ref oR, .ref oQ, .ref oW, .int (-1)])), (nL, .inr (5, [.ref aL, .int 0])), (aL, .inl (cI, 300, .inl (fun _ => 0))), (nM, .inr (5, [.ref aM, .int 0])), (aM, .inl (cI, 300, .inl (fun _ => 0))), (oG, .inr (0, [.ref g1, .ref g2, .int 0, .int 0])), (g1, .inl (cI, 6000, .inl (fun _ => 0))), (g2, .inl (cI, 20, .inl (fun _ => 0))), (oW, .inr (1, [.ref oC, .ref oK, .ref w0, .ref w1, .ref w2, .ref w3, .ref w4, .ref w5, .ref w6, .ref w7, .ref w8, .ref w9, .ref w10, .int 0, .int 0, .int 0, .int (-1), .int (-1), .int (-1), .int (-1)]))]) hD hS hA [0, 8, 1, 9, 2, 3, 4, 5, 6] rfl
      refine va_calli (va_runV (As := [.ref nM]) (rest := []) ⟨hx, hb, hml, hown, hts⟩ (m_X11_become l dC dI cI cS H.size oX nT nL nM oC oP oH oK oG oR oQ oW aL aM g1 g2 w0 w1 w2 w3 w4 w5 w6 w7 w8 w9 w10 ) (cwV 1 hts gX11_rough_X11_become rfl rfl rfl (by decide +kernel) ⟨Nat.le_of_ble_eq_true rfl, Nat.le_of_ble_eq_true rfl⟩) ⟨fun a U g mk q => by obtain ⟨q0, q1, qP, qK, qD⟩ := q; exact ⟨q0, q1, qP, va_K.moved (u := U) (U := U.calling g mk a) (Vm.Alike.refl U.vm) qK, qD⟩, va_recv hK hPc (ci := 11) (q0 := 0) rfl rfl, fun U hU hW => ⟨rfl, by rw [hU], by rw [hU]; exact hPc, va_K.moved hW.alike hK, hDc.weaken (fun _ _ _ _ => trivial)⟩⟩ rfl rfl hl.1 rfl (lv_room (Nat.le_of_ble_eq_true rfl)) dX11_rough_62 ⟨Nat.le_of_ble_eq_true rfl, Nat.le_of_ble_eq_true rfl⟩) hS (fun q _ h => hFc q h) hFc (fun r_8 u t H1 locs ht hvm hw hB hz1 hk1 hS => ?_)
      obtain ⟨hP, hD⟩ := va_join (wr := [(nB, .inr (5, [.ref aB, .int 0])), (oP, .inr (7, [.ref oC, .ref nB, .int (-1)]))]) (w1 := []) hP hD [0, 8, 1, 9, 2, 3, 4, 5, 6] [7, 10] rfl rfl (by decide) (by decide) hk1 hFc p_P0 p_D0
      generalize H1 = H at hP hS ⊢
      have hP : va_P (dC, dI) vwCl [(nB, .inr (5, [.ref aB, .int 0])), (oP, .inr (7, [.ref oC, .ref nB, .int (-1)]))] H := hP
      have hD : va_D A [(nB, .inr (5, [.ref aB, .int 0])), (oP, .inr (7, [.ref oC, .ref nB, .int (-1)]))] := hD
      subst hw
      refine lv_pop hx hb dX11_rough_65 rfl ?_
      refine lv_iload_n hx hb dX11_rough_66 rfl (lv_at hl 0 rfl) ?_
      exact W.iret (v := 0) hx hb hr (fun t ht hW => ⟨⟨0, (), rfl, by first | rfl | assumption | simp [f_two, f_both, c_2, c_4], trivial⟩, hS.F ht⟩) (hS.2.2) dX11_rough_67
    · refine lv_iconst (v := (-1)) hx hb dX11_rough_19 (by decide) ?_
      exact W.iret (v := (-1)) hx hb hr (fun t ht hW => ⟨⟨(-1), (), rfl, by first | rfl | assumption | simp [f_two, f_both, c_2, c_4], trivial⟩, hS.F ht⟩) (hS.2.2) dX11_rough_20

set_option maxHeartbeats 4000000 in
set_option maxRecDepth 100000 in
theorem x_undo (l : Launch) (dC : Nat → ClassId) (dI : Nat → Nat → Nat) (cI cS : ClassId) (sz : Nat) (oX : Nat) (nT : Nat) (nL : Nat) (nM : Nat) (oC : Nat) (oP : Nat) (oH : Nat) (oK : Nat) (oG : Nat) (oR : Nat) (oQ : Nat) (oW : Nat) (aL : Nat) (aM : Nat) (nB : Nat) (aB : Nat) (g1 : Nat) (g2 : Nat) (w0 : Nat) (w1 : Nat) (w2 : Nat) (w3 : Nat) (w4 : Nat) (w5 : Nat) (w6 : Nat) (w7 : Nat) (w8 : Nat) (w9 : Nat) (w10 : Nat) (a : Int32) (b : Int32)  : Met l yX11_undo wsX11_undo ({ frames := 4, cells := 0, slots := 0, locals := 111 } : Room) (va_Pc [.ref oX, .int a, .int b] (fun U => U.heap.size = sz ∧ va_P (dC, dI) vwCl [(oX, .inr (11, [.ref nT, .ref nL, .ref nM, .ref oC, .ref oP, .ref oH, .ref oK, .ref oG, .ref oR, .ref oQ, .ref oW, .int (-1)])), (nL, .inr (5, [.ref aL, .int 0])), (aL, .inl (cI, 300, .inl (fun _ => 0))), (nM, .inr (5, [.ref aM, .int 0])), (aM, .inl (cI, 300, .inl (fun _ => 0))), (oP, .inr (7, [.ref oC, .ref nB, .int (-1)])), (nB, .inr (5, [.ref aB, .int 0])), (oG, .inr (0, [.ref g1, .ref g2, .int 0, .int 0])), (g1, .inl (cI, 6000, .inl (fun _ => 0))), (g2, .inl (cI, 20, .inl (fun _ => 0))), (oW, .inr (1, [.ref oC, .ref oK, .ref w0, .ref w1, .ref w2, .ref w3, .ref w4, .ref w5, .ref w6, .ref w7, .ref w8, .ref w9, .ref w10, .int 0, .int 0, .int 0, .int (-1), .int (-1), .int (-1), .int (-1)]))] U.heap ∧ va_K (dC, dI) vwCl [(cI, .int), (cS, .short)] U ∧ va_D (fun _ => True) [(oX, .inr (11, [.ref nT, .ref nL, .ref nM, .ref oC, .ref oP, .ref oH, .ref oK, .ref oG, .ref oR, .ref oQ, .ref oW, .int (-1)])), (nL, .inr (5, [.ref aL, .int 0])), (aL, .inl (cI, 300, .inl (fun _ => 0))), (nM, .inr (5, [.ref aM, .int 0])), (aM, .inl (cI, 300, .inl (fun _ => 0))), (oP, .inr (7, [.ref oC, .ref nB, .int (-1)])), (nB, .inr (5, [.ref aB, .int 0])), (oG, .inr (0, [.ref g1, .ref g2, .int 0, .int 0])), (g1, .inl (cI, 6000, .inl (fun _ => 0))), (g2, .inl (cI, 20, .inl (fun _ => 0))), (oW, .inr (1, [.ref oC, .ref oK, .ref w0, .ref w1, .ref w2, .ref w3, .ref w4, .ref w5, .ref w6, .ref w7, .ref w8, .ref w9, .ref w10, .int 0, .int 0, .int 0, .int (-1), .int (-1), .int (-1), .int (-1)]))])) (va_Qi (fun (r : Int32) (_ : Unit) => r = f_two b a) (fun _ _ => True) (va_A [(oX, .inr (11, [.ref nT, .ref nL, .ref nM, .ref oC, .ref oP, .ref oH, .ref oK, .ref oG, .ref oR, .ref oQ, .ref oW, .int (-1)])), (nL, .inr (5, [.ref aL, .int 0])), (aL, .inl (cI, 300, .inl (fun _ => 0))), (nM, .inr (5, [.ref aM, .int 0])), (aM, .inl (cI, 300, .inl (fun _ => 0))), (oP, .inr (7, [.ref oC, .ref nB, .int (-1)])), (nB, .inr (5, [.ref aB, .int 0])), (oG, .inr (0, [.ref g1, .ref g2, .int 0, .int 0])), (g1, .inl (cI, 6000, .inl (fun _ => 0))), (g2, .inl (cI, 20, .inl (fun _ => 0))), (oW, .inr (1, [.ref oC, .ref oK, .ref w0, .ref w1, .ref w2, .ref w3, .ref w4, .ref w5, .ref w6, .ref w7, .ref w8, .ref w9, .ref w10, .int 0, .int 0, .int 0, .int (-1), .int (-1), .int (-1), .int (-1)]))] sz)) 0 0 (va_A [(oX, .inr (11, [.ref nT, .ref nL, .ref nM, .ref oC, .ref oP, .ref oH, .ref oK, .ref oG, .ref oR, .ref oQ, .ref oW, .int (-1)])), (nL, .inr (5, [.ref aL, .int 0])), (aL, .inl (cI, 300, .inl (fun _ => 0))), (nM, .inr (5, [.ref aM, .int 0])), (aM, .inl (cI, 300, .inl (fun _ => 0))), (oP, .inr (7, [.ref oC, .ref nB, .int (-1)])), (nB, .inr (5, [.ref aB, .int 0])), (oG, .inr (0, [.ref g1, .ref g2, .int 0, .int 0])), (g1, .inl (cI, 6000, .inl (fun _ => 0))), (g2, .inl (cI, 20, .inl (fun _ => 0))), (oW, .inr (1, [.ref oC, .ref oK, .ref w0, .ref w1, .ref w2, .ref w3, .ref w4, .ref w5, .ref w6, .ref w7, .ref w8, .ref w9, .ref w10, .int 0, .int 0, .int 0, .int (-1), .int (-1), .int (-1), .int (-1)]))] sz) := by
  refine Met.ofW (cc := cX11_undo) (maxL := 3) (ret := (some .int)) (by decide) rfl ?_
  intro p e s m args below meth c s₁ B hml hv
  obtain ⟨rfl, hsz, hP, hK, hD0⟩ := hv
  have hx := B.exec
  have hb := B.bytes
  have hr := B.returns
  have hts := atoms_spec (ws := wsX11_undo) B.pre
  have hown : s.vm.findClass RX11 = some m.cls := findClass_of_methodNamed B.named
  have hlocks := B.notSynchronized
  have in_X11 : ∀ w ∈ wsX110, w ∈ wsX11_undo := fun _ h => List.mem_cons_of_mem _ (List.mem_append_left _ (List.mem_append_left _ (List.mem_append_left _ (List.mem_append_left _ (List.mem_append_left _ (List.mem_append_left _ (List.mem_append_right _ (h))))))))
  subst hsz
  have hD := hD0.self (sz := s.heap.size)
  generalize hAe : va_A [(oX, .inr (11, [.ref nT, .ref nL, .ref nM, .ref oC, .ref oP, .ref oH, .ref oK, .ref oG, .ref oR, .ref oQ, .ref oW, .int (-1)])), (nL, .inr (5, [.ref aL, .int 0])), (aL, .inl (cI, 300, .inl (fun _ => 0))), (nM, .inr (5, [.ref aM, .int 0])), (aM, .inl (cI, 300, .inl (fun _ => 0))), (oP, .inr (7, [.ref oC, .ref nB, .int (-1)])), (nB, .inr (5, [.ref aB, .int 0])), (oG, .inr (0, [.ref g1, .ref g2, .int 0, .int 0])), (g1, .inl (cI, 6000, .inl (fun _ => 0))), (g2, .inl (cI, 20, .inl (fun _ => 0))), (oW, .inr (1, [.ref oC, .ref oK, .ref w0, .ref w1, .ref w2, .ref w3, .ref w4, .ref w5, .ref w6, .ref w7, .ref w8, .ref w9, .ref w10, .int 0, .int 0, .int 0, .int (-1), .int (-1), .int (-1), .int (-1)]))] s.heap.size = A at hD ⊢
  have hA : ∀ q : Nat, s.heap.size ≤ q → A q := fun q h => by rw [← hAe]; exact Or.inr h
  have hS : va_S A s.heap s.heap [] := va_S.rf
  have hP : va_P (dC, dI) vwCl [(oX, .inr (11, [.ref nT, .ref nL, .ref nM, .ref oC, .ref oP, .ref oH, .ref oK, .ref oG, .ref oR, .ref oQ, .ref oW, .int (-1)])), (nL, .inr (5, [.ref aL, .int 0])), (aL, .inl (cI, 300, .inl (fun _ => 0))), (nM, .inr (5, [.ref aM, .int 0])), (aM, .inl (cI, 300, .inl (fun _ => 0))), (oP, .inr (7, [.ref oC, .ref nB, .int (-1)])), (nB, .inr (5, [.ref aB, .int 0])), (oG, .inr (0, [.ref g1, .ref g2, .int 0, .int 0])), (g1, .inl (cI, 6000, .inl (fun _ => 0))), (g2, .inl (cI, 20, .inl (fun _ => 0))), (oW, .inr (1, [.ref oC, .ref oK, .ref w0, .ref w1, .ref w2, .ref w3, .ref w4, .ref w5, .ref w6, .ref w7, .ref w8, .ref w9, .ref w10, .int 0, .int 0, .int 0, .int (-1), .int (-1), .int (-1), .int (-1)]))] s.heap := hP
  have hl := lv_entry ([.ref oX, .int a, .int b]) (n := 3) (Nat.le_of_ble_eq_true rfl)
  rw [lg_entry_eq]
  generalize (lg_sl ([.ref oX, .int a, .int b]) ++ List.replicate (3 - (lg_sl ([.ref oX, .int a, .int b])).length) Slot.unset).toArray = ls at hl ⊢
  have hl : lv_has ls 3 [(0, .ref oX), (1, .int a), (2, .int b)] := hl
  refine lv_aload_n hx hb dX11_undo_0 rfl (lv_at hl 0 rfl) ?_
  refine lv_iload_n hx hb dX11_undo_1 rfl (lv_at hl 2 rfl) ?_
  refine lv_iload_n hx hb dX11_undo_2 rfl (lv_at hl 1 rfl) ?_
  have hPc := hP.sub (ws' := [(oX, .inr (11, [.ref nT, .ref nL, .ref nM, .ref oC, .ref oP, .ref oH, .ref oK, .ref oG, .ref oR, .ref oQ, .ref oW, .int (-1)])), (nL, .inr (5, [.ref aL, .int 0])), (nM, .inr (5, [.ref aM, .int 0])), (oP, .inr (7, [.ref oC, .ref nB, .int (-1)])), (nB, .inr (5, [.ref aB, .int 0]))]) [0, 1, 3, 5, 6] rfl
  have hDc := hD.sub (ws' := [(oX, .inr (11, [.ref nT, .ref nL, .ref nM, .ref oC, .ref oP, .ref oH, .ref oK, .ref oG, .ref oR, .ref oQ, .ref oW, .int (-1)])), (nL, .inr (5, [.ref aL, .int 0])), (nM, .inr (5, [.ref aM, .int 0])), (oP, .inr (7, [.ref oC, .ref nB, .int (-1)])), (nB, .inr (5, [.ref aB, .int 0]))]) [0, 1, 3, 5, 6] (by decide) rfl
  have hFc := va_free (wc := [(oX, .inr (11, [.ref nT, .ref nL, .ref nM, .ref oC, .ref oP, .ref oH, .ref oK, .ref oG, .ref oR, .ref oQ, .ref oW, .int (-1)])), (nL, .inr (5, [.ref aL, .int 0])), (nM, .inr (5, [.ref aM, .int 0])), (oP, .inr (7, [.ref oC, .ref nB, .int (-1)])), (nB, .inr (5, [.ref aB, .int 0]))]) hD hS hA [0, 1, 3, 5, 6] rfl
  refine va_calli (va_runV (As := [.int b, .int a]) (rest := []) ⟨hx, hb, hml, hown, hts⟩ (m_X11_passes l dC dI cI cS s.heap.size oX nT nL nM oC oP oH oK oG oR oQ oW aL aM nB aB b a ) (cwV 2 hts gX11_undo_X11_passes rfl rfl rfl (by decide +kernel) ⟨Nat.le_of_ble_eq_true rfl, Nat.le_of_ble_eq_true rfl⟩) ⟨fun a U g mk q => by obtain ⟨q0, q1, qP, qK, qD⟩ := q; exact ⟨q0, q1, qP, va_K.moved (u := U) (U := U.calling g mk a) (Vm.Alike.refl U.vm) qK, qD⟩, va_recv hK hPc (ci := 11) (q0 := 0) rfl rfl, fun U hU hW => ⟨rfl, by rw [hU], by rw [hU]; exact hPc, va_K.moved hW.alike hK, hDc.weaken (fun _ _ _ _ => trivial)⟩⟩ rfl rfl hl.1 rfl (lv_room (Nat.le_of_ble_eq_true rfl)) dX11_undo_3 ⟨Nat.le_of_ble_eq_true rfl, Nat.le_of_ble_eq_true rfl⟩) hS (fun q _ h => hFc q h) hFc (fun r_1 u t H1 locs ht hvm hw hB hz1 hk1 hS => ?_)
  obtain ⟨hP1, hD1⟩ := hB
  rw [ht] at hP1
  obtain ⟨hP, hD⟩ := va_join (wr := [(aL, .inl (cI, 300, .inl (fun _ => 0))), (aM, .inl (cI, 300, .inl (fun _ => 0))), (oG, .inr (0, [.ref g1, .ref g2, .int 0, .int 0])), (g1, .inl (cI, 6000, .inl (fun _ => 0))), (g2, .inl (cI, 20, .inl (fun _ => 0))), (oW, .inr (1, [.ref oC, .ref oK, .ref w0, .ref w1, .ref w2, .ref w3, .ref w4, .ref w5, .ref w6, .ref w7, .ref w8, .ref w9, .ref w10, .int 0, .int 0, .int 0, .int (-1), .int (-1), .int (-1), .int (-1)]))]) (w1 := [(oX, .inr (11, [.ref nT, .ref nL, .ref nM, .ref oC, .ref oP, .ref oH, .ref oK, .ref oG, .ref oR, .ref oQ, .ref oW, .int (-1)])), (nL, .inr (5, [.ref aL, .int 0])), (nM, .inr (5, [.ref aM, .int 0])), (oP, .inr (7, [.ref oC, .ref nB, .int (-1)])), (nB, .inr (5, [.ref aB, .int 0]))]) hP hD [0, 1, 3, 5, 6] [2, 4, 7, 8, 9, 10] rfl rfl (by decide) (by decide) hk1 hFc hP1 hD1
  generalize H1 = H at hP hS ⊢
  have hP : va_P (dC, dI) vwCl [(aL, .inl (cI, 300, .inl (fun _ => 0))), (aM, .inl (cI, 300, .inl (fun _ => 0))), (oG, .inr (0, [.ref g1, .ref g2, .int 0, .int 0])), (g1, .inl (cI, 6000, .inl (fun _ => 0))), (g2, .inl (cI, 20, .inl (fun _ => 0))), (oW, .inr (1, [.ref oC, .ref oK, .ref w0, .ref w1, .ref w2, .ref w3, .ref w4, .ref w5, .ref w6, .ref w7, .ref w8, .ref w9, .ref w10, .int 0, .int 0, .int 0, .int (-1), .int (-1), .int (-1), .int (-1)])), (oX, .inr (11, [.ref nT, .ref nL, .ref nM, .ref oC, .ref oP, .ref oH, .ref oK, .ref oG, .ref oR, .ref oQ, .ref oW, .int (-1)])), (nL, .inr (5, [.ref aL, .int 0])), (nM, .inr (5, [.ref aM, .int 0])), (oP, .inr (7, [.ref oC, .ref nB, .int (-1)])), (nB, .inr (5, [.ref aB, .int 0]))] H := hP
  have hD : va_D A [(aL, .inl (cI, 300, .inl (fun _ => 0))), (aM, .inl (cI, 300, .inl (fun _ => 0))), (oG, .inr (0, [.ref g1, .ref g2, .int 0, .int 0])), (g1, .inl (cI, 6000, .inl (fun _ => 0))), (g2, .inl (cI, 20, .inl (fun _ => 0))), (oW, .inr (1, [.ref oC, .ref oK, .ref w0, .ref w1, .ref w2, .ref w3, .ref w4, .ref w5, .ref w6, .ref w7, .ref w8, .ref w9, .ref w10, .int 0, .int 0, .int 0, .int (-1), .int (-1), .int (-1), .int (-1)])), (oX, .inr (11, [.ref nT, .ref nL, .ref nM, .ref oC, .ref oP, .ref oH, .ref oK, .ref oG, .ref oR, .ref oQ, .ref oW, .int (-1)])), (nL, .inr (5, [.ref aL, .int 0])), (nM, .inr (5, [.ref aM, .int 0])), (oP, .inr (7, [.ref oC, .ref nB, .int (-1)])), (nB, .inr (5, [.ref aB, .int 0]))] := hD
  subst hw
  refine lv_if_eq (tgt := 20) hx hb dX11_undo_6 (by decide) (fun c_2 => ?_) (fun c_2 => ?_)
  · refine lv_iconst (v := (-1)) hx hb dX11_undo_20 (by decide) ?_
    exact W.iret (v := (-1)) hx hb hr (fun t ht hW => ⟨⟨(-1), (), rfl, by first | rfl | assumption | simp [f_two, c_2], trivial⟩, hS.F ht⟩) (hS.2.2) dX11_undo_21
  · refine lv_aload_n hx hb dX11_undo_9 rfl (lv_at hl 0 rfl) ?_
    refine lv_aload_n hx hb dX11_undo_10 rfl (lv_at hl 0 rfl) ?_
    refine va_get (D := (dC, dI)) (ci := 11) (v := .ref nM) (C := RX11) (T := TX11) (N := 12) hx hb hts in_X11 hown hK hP 6 rfl rfl 2 (by decide) (hts (.fieldLink RX11 37 "TextMender" "made" "LTextMender$Numbers;") (List.mem_of_getElem? (i := 1) rfl)) (fun _ h9 => h9) rfl dX11_undo_11 ?_
    have hPc := hP.sub (ws' := [(oX, .inr (11, [.ref nT, .ref nL, .ref nM, .ref oC, .ref oP, .ref oH, .ref oK, .ref oG, .ref oR, .ref oQ, .ref oW, .int (-1)])), (nL, .inr (5, [.ref aL, .int 0])), (aL, .inl (cI, 300, .inl (fun _ => 0))), (nM, .inr (5, [.ref aM, .int 0])), (aM, .inl (cI, 300, .inl (fun _ => 0))), (oG, .inr (0, [.ref g1, .ref g2, .int 0, .int 0])), (g1, .inl (cI, 6000, .inl (fun _ => 0))), (g2, .inl (cI, 20, .inl (fun _ => 0))), (oW, .inr (1, [.ref oC, .ref oK, .ref w0, .ref w1, .ref w2, .ref w3, .ref w4, .ref w5, .ref w6, .ref w7, .ref w8, .ref w9, .ref w10, .int 0, .int 0, .int 0, .int (-1), .int (-1), .int (-1), .int (-1)]))]) [6, 7, 0, 8, 1, 2, 3, 4, 5] rfl
    have hDc := hD.sub (ws' := [(oX, .inr (11, [.ref nT, .ref nL, .ref nM, .ref oC, .ref oP, .ref oH, .ref oK, .ref oG, .ref oR, .ref oQ, .ref oW, .int (-1)])), (nL, .inr (5, [.ref aL, .int 0])), (aL, .inl (cI, 300, .inl (fun _ => 0))), (nM, .inr (5, [.ref aM, .int 0])), (aM, .inl (cI, 300, .inl (fun _ => 0))), (oG, .inr (0, [.ref g1, .ref g2, .int 0, .int 0])), (g1, .inl (cI, 6000, .inl (fun _ => 0))), (g2, .inl (cI, 20, .inl (fun _ => 0))), (oW, .inr (1, [.ref oC, .ref oK, .ref w0, .ref w1, .ref w2, .ref w3, .ref w4, .ref w5, .ref w6, .ref w7, .ref w8, .ref w9, .ref w10, .int 0, .int 0, .int 0, .int (-1), .int (-1), .int (-1), .int (-1)]))]) [6, 7, 0, 8, 1, 2, 3, 4, 5] (by decide) rfl
    have hFc := va_free (wc := [(oX, .inr (11, [.ref nT, .ref nL, .ref nM, .ref oC, .ref oP, .ref oH, .ref oK, .ref oG, .ref oR, .ref oQ, .ref oW, .int (-1)])), (nL, .inr (5, [.ref aL, .int 0])), (aL, .inl (cI, 300, .inl (fun _ => 0))), (nM, .inr (5, [.ref aM, .int 0])), (aM, .inl (cI, 300, .inl (fun _ => 0))), (oG, .inr (0, [.ref g1, .ref g2, .int 0, .int 0])), (g1, .inl (cI, 6000, .inl (fun _ => 0))), (g2, .inl (cI, 20, .inl (fun _ => 0))), (oW, .inr (1, [.ref oC, .ref oK, .ref w0, .ref w1, .ref w2, .ref w3, .ref w4, .ref w5, .ref w6, .ref w7, .ref w8, .ref w9, .ref w10, .int 0, .int 0, .int 0, .int (-1), .int (-1), .int (-1), .int (-1)]))]) hD hS hA [6, 7, 0, 8, 1, 2, 3, 4, 5] rfl
    refine va_calli (va_runV (As := [.ref nM]) (rest := []) ⟨hx, hb, hml, hown, hts⟩ (m_X11_become l dC dI cI cS H.size oX nT nL nM oC oP oH oK oG oR oQ oW aL aM g1 g2 w0 w1 w2 w3 w4 w5 w6 w7 w8 w9 w10 ) (cwV 1 hts gX11_undo_X11_become rfl rfl rfl (by decide +kernel) ⟨Nat.le_of_ble_eq_true rfl, Nat.le_of_ble_eq_true rfl⟩) ⟨fun a U g mk q => by obtain ⟨q0, q1, qP, qK, qD⟩ := q; exact ⟨q0, q1, qP, va_K.moved (u := U) (U := U.calling g mk a) (Vm.Alike.refl U.vm) qK, qD⟩, va_recv hK hPc (ci := 11) (q0 := 0) rfl rfl, fun U hU hW => ⟨rfl, by rw [hU], by rw [hU]; exact hPc, va_K.moved hW.alike hK, hDc.weaken (fun _ _ _ _ => trivial)⟩⟩ rfl rfl hl.1 rfl (lv_room (Nat.le_of_ble_eq_true rfl)) dX11_undo_14 ⟨Nat.le_of_ble_eq_true rfl, Nat.le_of_ble_eq_true rfl⟩) hS (fun q _ h => hFc q h) hFc (fun r_3 u t H1 locs ht hvm hw hB hz1 hk1 hS => ?_)
    obtain ⟨hP, hD⟩ := va_join (wr := [(oP, .inr (7, [.ref oC, .ref nB, .int (-1)])), (nB, .inr (5, [.ref aB, .int 0]))]) (w1 := []) hP hD [6, 7, 0, 8, 1, 2, 3, 4, 5] [9, 10] rfl rfl (by decide) (by decide) hk1 hFc p_P0 p_D0
    generalize H1 = H at hP hS ⊢
    have hP : va_P (dC, dI) vwCl [(oP, .inr (7, [.ref oC, .ref nB, .int (-1)])), (nB, .inr (5, [.ref aB, .int 0]))] H := hP
    have hD : va_D A [(oP, .inr (7, [.ref oC, .ref nB, .int (-1)])), (nB, .inr (5, [.ref aB, .int 0]))] := hD
    subst hw
    refine lv_goto (tgt := 21) hx hb dX11_undo_17 (by decide) ?_
    exact W.iret (v := 0) hx hb hr (fun t ht hW => ⟨⟨0, (), rfl, by first | rfl | assumption | simp [f_two, c_2], trivial⟩, hS.F ht⟩) (hS.2.2) dX11_undo_21

set_option maxHeartbeats 4000000 in
set_option maxRecDepth 100000 in
theorem x_back (l : Launch) (dC : Nat → ClassId) (dI : Nat → Nat → Nat) (cI cS : ClassId) (sz : Nat) (oX : Nat) (nT : Nat) (nL : Nat) (nM : Nat) (oC : Nat) (oP : Nat) (oH : Nat) (oK : Nat) (oG : Nat) (oR : Nat) (oQ : Nat) (oW : Nat) (g1 : Nat) (g2 : Nat)  : Met l yX11_back wsX11_back ({ frames := 1, cells := 0, slots := 0, locals := 22 } : Room) (va_Pc [.ref oX] (fun U => U.heap.size = sz ∧ va_P (dC, dI) vwCl [(oX, .inr (11, [.ref nT, .ref nL, .ref nM, .ref oC, .ref oP, .ref oH, .ref oK, .ref oG, .ref oR, .ref oQ, .ref oW, .int (-1)])), (oG, .inr (0, [.ref g1, .ref g2, .int 0, .int 0]))] U.heap ∧ va_K (dC, dI) vwCl [(cI, .int), (cS, .short)] U ∧ va_D (fun _ => True) [(oX, .inr (11, [.ref nT, .ref nL, .ref nM, .ref oC, .ref oP, .ref oH, .ref oK, .ref oG, .ref oR, .ref oQ, .ref oW, .int (-1)])), (oG, .inr (0, [.ref g1, .ref g2, .int 0, .int 0]))])) (va_Qi (fun (r : Int32) (_ : Unit) => r = (-1)) (fun _ _ => True) (va_A [(oX, .inr (11, [.ref nT, .ref nL, .ref nM, .ref oC, .ref oP, .ref oH, .ref oK, .ref oG, .ref oR, .ref oQ, .ref oW, .int (-1)])), (oG, .inr (0, [.ref g1, .ref g2, .int 0, .int 0]))] sz)) 0 0 (va_A [(oX, .inr (11, [.ref nT, .ref nL, .ref nM, .ref oC, .ref oP, .ref oH, .ref oK, .ref oG, .ref oR, .ref oQ, .ref oW, .int (-1)])), (oG, .inr (0, [.ref g1, .ref g2, .int 0, .int 0]))] sz) := by
  refine Met.ofW (cc := cX11_back) (maxL := 1) (ret := (some .int)) (by decide) rfl ?_
  intro p e s m args below meth c s₁ B hml hv
  obtain ⟨rfl, hsz, hP, hK, hD0⟩ := hv
  have hx := B.exec
  have hb := B.bytes
  have hr := B.returns
  have hts := atoms_spec (ws := wsX11_back) B.pre
  have hown : s.vm.findClass RX11 = some m.cls := findClass_of_methodNamed B.named
  have hlocks := B.notSynchronized
  have in_X11 : ∀ w ∈ wsX110, w ∈ wsX11_back := fun _ h => List.mem_cons_of_mem _ (List.mem_append_left _ (List.mem_append_left _ (List.mem_append_left _ (List.mem_append_right _ (h)))))
  subst hsz
  have hD := hD0.self (sz := s.heap.size)
  generalize hAe : va_A [(oX, .inr (11, [.ref nT, .ref nL, .ref nM, .ref oC, .ref oP, .ref oH, .ref oK, .ref oG, .ref oR, .ref oQ, .ref oW, .int (-1)])), (oG, .inr (0, [.ref g1, .ref g2, .int 0, .int 0]))] s.heap.size = A at hD ⊢
  have hA : ∀ q : Nat, s.heap.size ≤ q → A q := fun q h => by rw [← hAe]; exact Or.inr h
  have hS : va_S A s.heap s.heap [] := va_S.rf
  have hP : va_P (dC, dI) vwCl [(oX, .inr (11, [.ref nT, .ref nL, .ref nM, .ref oC, .ref oP, .ref oH, .ref oK, .ref oG, .ref oR, .ref oQ, .ref oW, .int (-1)])), (oG, .inr (0, [.ref g1, .ref g2, .int 0, .int 0]))] s.heap := hP
  have hl := lv_entry ([.ref oX]) (n := 1) (Nat.le_of_ble_eq_true rfl)
  rw [lg_entry_eq]
  generalize (lg_sl ([.ref oX]) ++ List.replicate (1 - (lg_sl ([.ref oX])).length) Slot.unset).toArray = ls at hl ⊢
  have hl : lv_has ls 1 [(0, .ref oX)] := hl
  refine lv_aload_n hx hb dX11_back_0 rfl (lv_at hl 0 rfl) ?_
  refine va_get (D := (dC, dI)) (ci := 11) (v := .ref oG) (C := RX11) (T := TX11) (N := 12) hx hb hts in_X11 hown hK hP 0 rfl rfl 7 (by decide) (hts (.fieldLink RX11 59 "TextMender" "changes" "LTextMender$Changes;") (List.mem_of_getElem? (i := 1) rfl)) (fun _ h9 => h9) rfl dX11_back_1 ?_
  refine lv_aload_n hx hb dX11_back_4 rfl (lv_at hl 0 rfl) ?_
  refine va_get (D := (dC, dI)) (ci := 11) (v := .ref nL) (C := RX11) (T := TX11) (N := 12) hx hb hts in_X11 hown hK hP 0 rfl rfl 1 (by decide) (hts (.fieldLink RX11 34 "TextMender" "letters" "LTextMender$Numbers;") (List.mem_of_getElem? (i := 2) rfl)) (fun _ h9 => h9) rfl dX11_back_5 ?_
  have hPc := hP.sub (ws' := [(oG, .inr (0, [.ref g1, .ref g2, .int 0, .int 0]))]) [1] rfl
  have hDc := hD.sub (ws' := [(oG, .inr (0, [.ref g1, .ref g2, .int 0, .int 0]))]) [1] (by decide) rfl
  have hFc := va_free (wc := [(oG, .inr (0, [.ref g1, .ref g2, .int 0, .int 0]))]) hD hS hA [1] rfl
  refine va_calli (va_runV (As := [.ref nL]) (rest := []) ⟨hx, hb, hml, hown, hts⟩ (m_X0_takeBack l dC dI cI cS s.heap.size oG g1 g2 nL ) (cwV 1 hts gX11_back_X0_takeBack rfl rfl rfl (by decide +kernel) ⟨Nat.le_of_ble_eq_true rfl, Nat.le_of_ble_eq_true rfl⟩) ⟨fun a U g mk q => by obtain ⟨q0, q1, qP, qK, qD⟩ := q; exact ⟨q0, q1, qP, va_K.moved (u := U) (U := U.calling g mk a) (Vm.Alike.refl U.vm) qK, qD⟩, va_recv hK hPc (ci := 0) (q0 := 0) rfl rfl, fun U hU hW => ⟨rfl, by rw [hU], by rw [hU]; exact hPc, va_K.moved hW.alike hK, hDc.weaken (fun _ _ _ _ => trivial)⟩⟩ rfl rfl hl.1 rfl (lv_room (Nat.le_of_ble_eq_true rfl)) dX11_back_8 ⟨Nat.le_of_ble_eq_true rfl, Nat.le_of_ble_eq_true rfl⟩) hS (fun q _ h => hFc q h) hFc (fun r_1 u t H1 locs ht hvm hw hB hz1 hk1 hS => ?_)
  obtain ⟨hP, hD⟩ := va_join (wr := [(oX, .inr (11, [.ref nT, .ref nL, .ref nM, .ref oC, .ref oP, .ref oH, .ref oK, .ref oG, .ref oR, .ref oQ, .ref oW, .int (-1)]))]) (w1 := []) hP hD [1] [0] rfl rfl (by decide) (by decide) hk1 hFc p_P0 p_D0
  generalize H1 = H at hP hS ⊢
  have hP : va_P (dC, dI) vwCl [(oX, .inr (11, [.ref nT, .ref nL, .ref nM, .ref oC, .ref oP, .ref oH, .ref oK, .ref oG, .ref oR, .ref oQ, .ref oW, .int (-1)]))] H := hP
  have hD : va_D A [(oX, .inr (11, [.ref nT, .ref nL, .ref nM, .ref oC, .ref oP, .ref oH, .ref oK, .ref oG, .ref oR, .ref oQ, .ref oW, .int (-1)]))] := hD
  subst hw
  refine lv_if_ne (tgt := 16) hx hb dX11_back_11 (by decide) (fun c_2 => absurd (by decide) c_2) (fun c_2 => ?_)
  refine lv_iconst (v := (-1)) hx hb dX11_back_14 (by decide) ?_
  exact W.iret (v := (-1)) hx hb hr (fun t ht hW => ⟨⟨(-1), (), rfl, rfl, trivial⟩, hS.F ht⟩) (hS.2.2) dX11_back_15

set_option maxHeartbeats 4000000 in
set_option maxRecDepth 100000 in
theorem x_list (l : Launch) (dC : Nat → ClassId) (dI : Nat → Nat → Nat) (cI cS : ClassId) (sz : Nat) (oX : Nat) (nT : Nat) (nL : Nat) (nM : Nat) (oC : Nat) (oP : Nat) (oH : Nat) (oK : Nat) (oG : Nat) (oR : Nat) (oQ : Nat) (oW : Nat) (h1 : Nat) (h2 : Nat) (w0 : Nat) (w1 : Nat) (w2 : Nat) (w3 : Nat) (w4 : Nat) (w5 : Nat) (w6 : Nat) (w7 : Nat) (w8 : Nat) (w9 : Nat) (w10 : Nat) (a : Int32) (b : Int32)  : Met l yX11_list wsX11_list ({ frames := 1, cells := 0, slots := 0, locals := 23 } : Room) (va_Pc [.ref oX, .int a, .int b] (fun U => U.heap.size = sz ∧ va_P (dC, dI) vwCl [(oX, .inr (11, [.ref nT, .ref nL, .ref nM, .ref oC, .ref oP, .ref oH, .ref oK, .ref oG, .ref oR, .ref oQ, .ref oW, .int (-1)])), (oH, .inr (4, [.ref oP, .ref h1, .ref h2, .int 0])), (h1, .inl (cI, 6, .inl (fun _ => 0))), (h2, .inl (cI, 6, .inl (fun _ => 0))), (oW, .inr (1, [.ref oC, .ref oK, .ref w0, .ref w1, .ref w2, .ref w3, .ref w4, .ref w5, .ref w6, .ref w7, .ref w8, .ref w9, .ref w10, .int 0, .int 0, .int 0, .int (-1), .int (-1), .int (-1), .int (-1)]))] U.heap ∧ va_K (dC, dI) vwCl [(cI, .int), (cS, .short)] U ∧ va_D (fun _ => True) [(oX, .inr (11, [.ref nT, .ref nL, .ref nM, .ref oC, .ref oP, .ref oH, .ref oK, .ref oG, .ref oR, .ref oQ, .ref oW, .int (-1)])), (oH, .inr (4, [.ref oP, .ref h1, .ref h2, .int 0])), (h1, .inl (cI, 6, .inl (fun _ => 0))), (h2, .inl (cI, 6, .inl (fun _ => 0))), (oW, .inr (1, [.ref oC, .ref oK, .ref w0, .ref w1, .ref w2, .ref w3, .ref w4, .ref w5, .ref w6, .ref w7, .ref w8, .ref w9, .ref w10, .int 0, .int 0, .int 0, .int (-1), .int (-1), .int (-1), .int (-1)]))])) (va_Qi (fun (r : Int32) (_ : Unit) => r = f_two a b) (fun _ _ => True) (va_A [(oX, .inr (11, [.ref nT, .ref nL, .ref nM, .ref oC, .ref oP, .ref oH, .ref oK, .ref oG, .ref oR, .ref oQ, .ref oW, .int (-1)])), (oH, .inr (4, [.ref oP, .ref h1, .ref h2, .int 0])), (h1, .inl (cI, 6, .inl (fun _ => 0))), (h2, .inl (cI, 6, .inl (fun _ => 0))), (oW, .inr (1, [.ref oC, .ref oK, .ref w0, .ref w1, .ref w2, .ref w3, .ref w4, .ref w5, .ref w6, .ref w7, .ref w8, .ref w9, .ref w10, .int 0, .int 0, .int 0, .int (-1), .int (-1), .int (-1), .int (-1)]))] sz)) 0 0 (va_A [(oX, .inr (11, [.ref nT, .ref nL, .ref nM, .ref oC, .ref oP, .ref oH, .ref oK, .ref oG, .ref oR, .ref oQ, .ref oW, .int (-1)])), (oH, .inr (4, [.ref oP, .ref h1, .ref h2, .int 0])), (h1, .inl (cI, 6, .inl (fun _ => 0))), (h2, .inl (cI, 6, .inl (fun _ => 0))), (oW, .inr (1, [.ref oC, .ref oK, .ref w0, .ref w1, .ref w2, .ref w3, .ref w4, .ref w5, .ref w6, .ref w7, .ref w8, .ref w9, .ref w10, .int 0, .int 0, .int 0, .int (-1), .int (-1), .int (-1), .int (-1)]))] sz) := by
  refine Met.ofW (cc := cX11_list) (maxL := 3) (ret := (some .int)) (by decide) rfl ?_
  intro p e s m args below meth c s₁ B hml hv
  obtain ⟨rfl, hsz, hP, hK, hD0⟩ := hv
  have hx := B.exec
  have hb := B.bytes
  have hr := B.returns
  have hts := atoms_spec (ws := wsX11_list) B.pre
  have hown : s.vm.findClass RX11 = some m.cls := findClass_of_methodNamed B.named
  have hlocks := B.notSynchronized
  have in_X11 : ∀ w ∈ wsX110, w ∈ wsX11_list := fun _ h => List.mem_cons_of_mem _ (List.mem_append_left _ (List.mem_append_left _ (List.mem_append_right _ (h))))
  subst hsz
  have hD := hD0.self (sz := s.heap.size)
  generalize hAe : va_A [(oX, .inr (11, [.ref nT, .ref nL, .ref nM, .ref oC, .ref oP, .ref oH, .ref oK, .ref oG, .ref oR, .ref oQ, .ref oW, .int (-1)])), (oH, .inr (4, [.ref oP, .ref h1, .ref h2, .int 0])), (h1, .inl (cI, 6, .inl (fun _ => 0))), (h2, .inl (cI, 6, .inl (fun _ => 0))), (oW, .inr (1, [.ref oC, .ref oK, .ref w0, .ref w1, .ref w2, .ref w3, .ref w4, .ref w5, .ref w6, .ref w7, .ref w8, .ref w9, .ref w10, .int 0, .int 0, .int 0, .int (-1), .int (-1), .int (-1), .int (-1)]))] s.heap.size = A at hD ⊢
  have hA : ∀ q : Nat, s.heap.size ≤ q → A q := fun q h => by rw [← hAe]; exact Or.inr h
  have hS : va_S A s.heap s.heap [] := va_S.rf
  have hP : va_P (dC, dI) vwCl [(oX, .inr (11, [.ref nT, .ref nL, .ref nM, .ref oC, .ref oP, .ref oH, .ref oK, .ref oG, .ref oR, .ref oQ, .ref oW, .int (-1)])), (oH, .inr (4, [.ref oP, .ref h1, .ref h2, .int 0])), (h1, .inl (cI, 6, .inl (fun _ => 0))), (h2, .inl (cI, 6, .inl (fun _ => 0))), (oW, .inr (1, [.ref oC, .ref oK, .ref w0, .ref w1, .ref w2, .ref w3, .ref w4, .ref w5, .ref w6, .ref w7, .ref w8, .ref w9, .ref w10, .int 0, .int 0, .int 0, .int (-1), .int (-1), .int (-1), .int (-1)]))] s.heap := hP
  have hl := lv_entry ([.ref oX, .int a, .int b]) (n := 3) (Nat.le_of_ble_eq_true rfl)
  rw [lg_entry_eq]
  generalize (lg_sl ([.ref oX, .int a, .int b]) ++ List.replicate (3 - (lg_sl ([.ref oX, .int a, .int b])).length) Slot.unset).toArray = ls at hl ⊢
  have hl : lv_has ls 3 [(0, .ref oX), (1, .int a), (2, .int b)] := hl
  refine lv_aload_n hx hb dX11_list_0 rfl (lv_at hl 0 rfl) ?_
  refine lv_iconst (v := (-1)) hx hb dX11_list_1 (by decide) ?_
  refine va_put (D := (dC, dI)) (ci := 11) (v := .int (-1)) (ty := .int) (C := RX11) (T := TX11) (N := 12) hx hb hts in_X11 tyX11 tyX11_ok nmX11 hown hK hP hD hS 0 rfl rfl 11 (by decide) (hts (.fieldLink RX11 90 "TextMender" "fault" "I") (List.mem_of_getElem? (i := 1) rfl)) (fun _ h9 => h9) rfl (by decide +kernel) rfl rfl (Nat.le_of_ble_eq_true rfl) dX11_list_2 (fun H locs hP hD hS => ?_)
  have hP : va_P (dC, dI) vwCl [(oX, .inr (11, [.ref nT, .ref nL, .ref nM, .ref oC, .ref oP, .ref oH, .ref oK, .ref oG, .ref oR, .ref oQ, .ref oW, .int (-1)])), (oH, .inr (4, [.ref oP, .ref h1, .ref h2, .int 0])), (h1, .inl (cI, 6, .inl (fun _ => 0))), (h2, .inl (cI, 6, .inl (fun _ => 0))), (oW, .inr (1, [.ref oC, .ref oK, .ref w0, .ref w1, .ref w2, .ref w3, .ref w4, .ref w5, .ref w6, .ref w7, .ref w8, .ref w9, .ref w10, .int 0, .int 0, .int 0, .int (-1), .int (-1), .int (-1), .int (-1)]))] H := hP
  have hD : va_D A [(oX, .inr (11, [.ref nT, .ref nL, .ref nM, .ref oC, .ref oP, .ref oH, .ref oK, .ref oG, .ref oR, .ref oQ, .ref oW, .int (-1)])), (oH, .inr (4, [.ref oP, .ref h1, .ref h2, .int 0])), (h1, .inl (cI, 6, .inl (fun _ => 0))), (h2, .inl (cI, 6, .inl (fun _ => 0))), (oW, .inr (1, [.ref oC, .ref oK, .ref w0, .ref w1, .ref w2, .ref w3, .ref w4, .ref w5, .ref w6, .ref w7, .ref w8, .ref w9, .ref w10, .int 0, .int 0, .int 0, .int (-1), .int (-1), .int (-1), .int (-1)]))] := hD
  refine lv_iload_n hx hb dX11_list_5 rfl (lv_at hl 1 rfl) ?_
  have hPc := hP.sub (ws' := []) [] rfl
  have hDc := hD.sub (ws' := []) [] (by decide) rfl
  have hFc := va_free (wc := []) hD hS hA [] rfl
  refine va_calli (va_runS (As := [.int a]) (rest := []) ⟨hx, hb, hml, hown, hts⟩ (m_X2_known l dC dI cI cS H.size a ) (va_cwS 1 hts gX11_list_X2_known rfl rfl rfl (by decide +kernel) ⟨Nat.le_of_ble_eq_true rfl, Nat.le_of_ble_eq_true rfl⟩) ⟨fun a U g mk q => by obtain ⟨q0, q1, qP, qK, qD⟩ := q; exact ⟨q0, q1, qP, va_K.moved (u := U) (U := U.calling g mk a) (Vm.Alike.refl U.vm) qK, qD⟩, fun U hU hW => ⟨rfl, by rw [hU], by rw [hU]; exact hPc, va_K.moved hW.alike hK, hDc.weaken (fun _ _ _ _ => trivial)⟩⟩ rfl rfl hl.1 rfl (lv_room (Nat.le_of_ble_eq_true rfl)) dX11_list_6 ⟨Nat.le_of_ble_eq_true rfl, Nat.le_of_ble_eq_true rfl⟩) hS (fun q _ h => hFc q h) hFc (fun r_1 u t H1 locs ht hvm hw hB hz1 hk1 hS => ?_)
  obtain ⟨hP1, hD1⟩ := hB
  rw [ht] at hP1
  obtain ⟨hP, hD⟩ := va_join (wr := [(oX, .inr (11, [.ref nT, .ref nL, .ref nM, .ref oC, .ref oP, .ref oH, .ref oK, .ref oG, .ref oR, .ref oQ, .ref oW, .int (-1)])), (oH, .inr (4, [.ref oP, .ref h1, .ref h2, .int 0])), (h1, .inl (cI, 6, .inl (fun _ => 0))), (h2, .inl (cI, 6, .inl (fun _ => 0))), (oW, .inr (1, [.ref oC, .ref oK, .ref w0, .ref w1, .ref w2, .ref w3, .ref w4, .ref w5, .ref w6, .ref w7, .ref w8, .ref w9, .ref w10, .int 0, .int 0, .int 0, .int (-1), .int (-1), .int (-1), .int (-1)]))]) (w1 := []) hP hD [] [0, 1, 2, 3, 4] rfl rfl (by decide) (by decide) hk1 hFc hP1 hD1
  generalize H1 = H at hP hS ⊢
  have hP : va_P (dC, dI) vwCl [(oX, .inr (11, [.ref nT, .ref nL, .ref nM, .ref oC, .ref oP, .ref oH, .ref oK, .ref oG, .ref oR, .ref oQ, .ref oW, .int (-1)])), (oH, .inr (4, [.ref oP, .ref h1, .ref h2, .int 0])), (h1, .inl (cI, 6, .inl (fun _ => 0))), (h2, .inl (cI, 6, .inl (fun _ => 0))), (oW, .inr (1, [.ref oC, .ref oK, .ref w0, .ref w1, .ref w2, .ref w3, .ref w4, .ref w5, .ref w6, .ref w7, .ref w8, .ref w9, .ref w10, .int 0, .int 0, .int 0, .int (-1), .int (-1), .int (-1), .int (-1)]))] H := hP
  have hD : va_D A [(oX, .inr (11, [.ref nT, .ref nL, .ref nM, .ref oC, .ref oP, .ref oH, .ref oK, .ref oG, .ref oR, .ref oQ, .ref oW, .int (-1)])), (oH, .inr (4, [.ref oP, .ref h1, .ref h2, .int 0])), (h1, .inl (cI, 6, .inl (fun _ => 0))), (h2, .inl (cI, 6, .inl (fun _ => 0))), (oW, .inr (1, [.ref oC, .ref oK, .ref w0, .ref w1, .ref w2, .ref w3, .ref w4, .ref w5, .ref w6, .ref w7, .ref w8, .ref w9, .ref w10, .int 0, .int 0, .int 0, .int (-1), .int (-1), .int (-1), .int (-1)]))] := hD
  subst hw
  refine lv_if_eq (tgt := 31) hx hb dX11_list_9 (by decide) (fun c_2 => ?_) (fun c_2 => ?_)
  · refine lv_iconst (v := (-1)) hx hb dX11_list_31 (by decide) ?_
    exact W.iret (v := (-1)) hx hb hr (fun t ht hW => ⟨⟨(-1), (), rfl, by first | rfl | assumption | simp [f_two, f_both, c_2], trivial⟩, hS.F ht⟩) (hS.2.2) dX11_list_32
  · refine lv_iload_n hx hb dX11_list_12 rfl (lv_at hl 2 rfl) ?_
    have hPc := hP.sub (ws' := []) [] rfl
    have hDc := hD.sub (ws' := []) [] (by decide) rfl
    have hFc := va_free (wc := []) hD hS hA [] rfl
    refine va_calli (va_runS (As := [.int b]) (rest := []) ⟨hx, hb, hml, hown, hts⟩ (m_X2_known l dC dI cI cS H.size b ) (va_cwS 1 hts gX11_list_X2_known rfl rfl rfl (by decide +kernel) ⟨Nat.le_of_ble_eq_true rfl, Nat.le_of_ble_eq_true rfl⟩) ⟨fun a U g mk q => by obtain ⟨q0, q1, qP, qK, qD⟩ := q; exact ⟨q0, q1, qP, va_K.moved (u := U) (U := U.calling g mk a) (Vm.Alike.refl U.vm) qK, qD⟩, fun U hU hW => ⟨rfl, by rw [hU], by rw [hU]; exact hPc, va_K.moved hW.alike hK, hDc.weaken (fun _ _ _ _ => trivial)⟩⟩ rfl rfl hl.1 rfl (lv_room (Nat.le_of_ble_eq_true rfl)) dX11_list_13 ⟨Nat.le_of_ble_eq_true rfl, Nat.le_of_ble_eq_true rfl⟩) hS (fun q _ h => hFc q h) hFc (fun r_3 u t H1 locs ht hvm hw hB hz1 hk1 hS => ?_)
    obtain ⟨hP1, hD1⟩ := hB
    rw [ht] at hP1
    obtain ⟨hP, hD⟩ := va_join (wr := [(oX, .inr (11, [.ref nT, .ref nL, .ref nM, .ref oC, .ref oP, .ref oH, .ref oK, .ref oG, .ref oR, .ref oQ, .ref oW, .int (-1)])), (oH, .inr (4, [.ref oP, .ref h1, .ref h2, .int 0])), (h1, .inl (cI, 6, .inl (fun _ => 0))), (h2, .inl (cI, 6, .inl (fun _ => 0))), (oW, .inr (1, [.ref oC, .ref oK, .ref w0, .ref w1, .ref w2, .ref w3, .ref w4, .ref w5, .ref w6, .ref w7, .ref w8, .ref w9, .ref w10, .int 0, .int 0, .int 0, .int (-1), .int (-1), .int (-1), .int (-1)]))]) (w1 := []) hP hD [] [0, 1, 2, 3, 4] rfl rfl (by decide) (by decide) hk1 hFc hP1 hD1
    generalize H1 = H at hP hS ⊢
    have hP : va_P (dC, dI) vwCl [(oX, .inr (11, [.ref nT, .ref nL, .ref nM, .ref oC, .ref oP, .ref oH, .ref oK, .ref oG, .ref oR, .ref oQ, .ref oW, .int (-1)])), (oH, .inr (4, [.ref oP, .ref h1, .ref h2, .int 0])), (h1, .inl (cI, 6, .inl (fun _ => 0))), (h2, .inl (cI, 6, .inl (fun _ => 0))), (oW, .inr (1, [.ref oC, .ref oK, .ref w0, .ref w1, .ref w2, .ref w3, .ref w4, .ref w5, .ref w6, .ref w7, .ref w8, .ref w9, .ref w10, .int 0, .int 0, .int 0, .int (-1), .int (-1), .int (-1), .int (-1)]))] H := hP
    have hD : va_D A [(oX, .inr (11, [.ref nT, .ref nL, .ref nM, .ref oC, .ref oP, .ref oH, .ref oK, .ref oG, .ref oR, .ref oQ, .ref oW, .int (-1)])), (oH, .inr (4, [.ref oP, .ref h1, .ref h2, .int 0])), (h1, .inl (cI, 6, .inl (fun _ => 0))), (h2, .inl (cI, 6, .inl (fun _ => 0))), (oW, .inr (1, [.ref oC, .ref oK, .ref w0, .ref w1, .ref w2, .ref w3, .ref w4, .ref w5, .ref w6, .ref w7, .ref w8, .ref w9, .ref w10, .int 0, .int 0, .int 0, .int (-1), .int (-1), .int (-1), .int (-1)]))] := hD
    subst hw
    refine lv_if_eq (tgt := 31) hx hb dX11_list_16 (by decide) (fun c_4 => ?_) (fun c_4 => ?_)
    · refine lv_iconst (v := (-1)) hx hb dX11_list_31 (by decide) ?_
      exact W.iret (v := (-1)) hx hb hr (fun t ht hW => ⟨⟨(-1), (), rfl, by first | rfl | assumption | simp [f_two, f_both, c_2, c_4], trivial⟩, hS.F ht⟩) (hS.2.2) dX11_list_32
    · refine lv_aload_n hx hb dX11_list_19 rfl (lv_at hl 0 rfl) ?_
      refine va_get (D := (dC, dI)) (ci := 11) (v := .ref oH) (C := RX11) (T := TX11) (N := 12) hx hb hts in_X11 hown hK hP 0 rfl rfl 5 (by decide) (hts (.fieldLink RX11 48 "TextMender" "harms" "LTextMender$Harms;") (List.mem_of_getElem? (i := 2) rfl)) (fun _ h9 => h9) rfl dX11_list_20 ?_
      refine lv_iload_n hx hb dX11_list_23 rfl (lv_at hl 1 rfl) ?_
      refine lv_iload_n hx hb dX11_list_24 rfl (lv_at hl 2 rfl) ?_
      have hPc := hP.sub (ws' := [(oH, .inr (4, [.ref oP, .ref h1, .ref h2, .int 0])), (h1, .inl (cI, 6, .inl (fun _ => 0))), (h2, .inl (cI, 6, .inl (fun _ => 0)))]) [1, 2, 3] rfl
      have hDc := hD.sub (ws' := [(oH, .inr (4, [.ref oP, .ref h1, .ref h2, .int 0])), (h1, .inl (cI, 6, .inl (fun _ => 0))), (h2, .inl (cI, 6, .inl (fun _ => 0)))]) [1, 2, 3] (by decide) rfl
      have hFc := va_free (wc := [(oH, .inr (4, [.ref oP, .ref h1, .ref h2, .int 0])), (h1, .inl (cI, 6, .inl (fun _ => 0))), (h2, .inl (cI, 6, .inl (fun _ => 0)))]) hD hS hA [1, 2, 3] rfl
      refine va_calli (va_runV (As := [.int a, .int b]) (rest := []) ⟨hx, hb, hml, hown, hts⟩ (m_X4_tell l dC dI cI cS H.size oH oP h1 h2 a b ) (cwV 2 hts gX11_list_X4_tell rfl rfl rfl (by decide +kernel) ⟨Nat.le_of_ble_eq_true rfl, Nat.le_of_ble_eq_true rfl⟩) ⟨fun a U g mk q => by obtain ⟨q0, q1, qP, qK, qD⟩ := q; exact ⟨q0, q1, qP, va_K.moved (u := U) (U := U.calling g mk a) (Vm.Alike.refl U.vm) qK, qD⟩, va_recv hK hPc (ci := 4) (q0 := 0) rfl rfl, fun U hU hW => ⟨rfl, by rw [hU], by rw [hU]; exact hPc, va_K.moved hW.alike hK, hDc.weaken (fun _ _ _ _ => trivial)⟩⟩ rfl rfl hl.1 rfl (lv_room (Nat.le_of_ble_eq_true rfl)) dX11_list_25 ⟨Nat.le_of_ble_eq_true rfl, Nat.le_of_ble_eq_true rfl⟩) hS (fun q _ h => hFc q h) hFc (fun r_5 u t H1 locs ht hvm hw hB hz1 hk1 hS => ?_)
      obtain ⟨hP1, hD1⟩ := hB
      rw [ht] at hP1
      obtain ⟨hP, hD⟩ := va_join (wr := [(oX, .inr (11, [.ref nT, .ref nL, .ref nM, .ref oC, .ref oP, .ref oH, .ref oK, .ref oG, .ref oR, .ref oQ, .ref oW, .int (-1)])), (oW, .inr (1, [.ref oC, .ref oK, .ref w0, .ref w1, .ref w2, .ref w3, .ref w4, .ref w5, .ref w6, .ref w7, .ref w8, .ref w9, .ref w10, .int 0, .int 0, .int 0, .int (-1), .int (-1), .int (-1), .int (-1)]))]) (w1 := [(oH, .inr (4, [.ref oP, .ref h1, .ref h2, .int 1]))]) hP hD [1, 2, 3] [0, 4] rfl rfl (by decide) (by decide) hk1 hFc hP1 hD1
      generalize H1 = H at hP hS ⊢
      have hP : va_P (dC, dI) vwCl [(oX, .inr (11, [.ref nT, .ref nL, .ref nM, .ref oC, .ref oP, .ref oH, .ref oK, .ref oG, .ref oR, .ref oQ, .ref oW, .int (-1)])), (oW, .inr (1, [.ref oC, .ref oK, .ref w0, .ref w1, .ref w2, .ref w3, .ref w4, .ref w5, .ref w6, .ref w7, .ref w8, .ref w9, .ref w10, .int 0, .int 0, .int 0, .int (-1), .int (-1), .int (-1), .int (-1)])), (oH, .inr (4, [.ref oP, .ref h1, .ref h2, .int 1]))] H := hP
      have hD : va_D A [(oX, .inr (11, [.ref nT, .ref nL, .ref nM, .ref oC, .ref oP, .ref oH, .ref oK, .ref oG, .ref oR, .ref oQ, .ref oW, .int (-1)])), (oW, .inr (1, [.ref oC, .ref oK, .ref w0, .ref w1, .ref w2, .ref w3, .ref w4, .ref w5, .ref w6, .ref w7, .ref w8, .ref w9, .ref w10, .int 0, .int 0, .int 0, .int (-1), .int (-1), .int (-1), .int (-1)])), (oH, .inr (4, [.ref oP, .ref h1, .ref h2, .int 1]))] := hD
      subst hw
      refine lv_if_ne (tgt := 33) hx hb dX11_list_28 (by decide) (fun c_6 => ?_) (fun c_6 => absurd c_6 (by decide))
      refine lv_aload_n hx hb dX11_list_33 rfl (lv_at hl 0 rfl) ?_
      refine va_get (D := (dC, dI)) (ci := 11) (v := .ref oW) (C := RX11) (T := TX11) (N := 12) hx hb hts in_X11 hown hK hP 0 rfl rfl 10 (by decide) (hts (.fieldLink RX11 86 "TextMender" "choiceBook" "LTextMender$Choices;") (List.mem_of_getElem? (i := 3) rfl)) (fun _ h9 => h9) rfl dX11_list_34 ?_
      have hPc := hP.sub (ws' := [(oW, .inr (1, [.ref oC, .ref oK, .ref w0, .ref w1, .ref w2, .ref w3, .ref w4, .ref w5, .ref w6, .ref w7, .ref w8, .ref w9, .ref w10, .int 0, .int 0, .int 0, .int (-1), .int (-1), .int (-1), .int (-1)]))]) [1] rfl
      have hDc := hD.sub (ws' := [(oW, .inr (1, [.ref oC, .ref oK, .ref w0, .ref w1, .ref w2, .ref w3, .ref w4, .ref w5, .ref w6, .ref w7, .ref w8, .ref w9, .ref w10, .int 0, .int 0, .int 0, .int (-1), .int (-1), .int (-1), .int (-1)]))]) [1] (by decide) rfl
      have hFc := va_free (wc := [(oW, .inr (1, [.ref oC, .ref oK, .ref w0, .ref w1, .ref w2, .ref w3, .ref w4, .ref w5, .ref w6, .ref w7, .ref w8, .ref w9, .ref w10, .int 0, .int 0, .int 0, .int (-1), .int (-1), .int (-1), .int (-1)]))]) hD hS hA [1] rfl
      refine va_callv (va_runV (As := []) (rest := []) ⟨hx, hb, hml, hown, hts⟩ (m_X1_forgetFreshness l dC dI cI cS H.size oW oC oK w0 w1 w2 w3 w4 w5 w6 w7 w8 w9 w10 ) (cwV 0 hts gX11_list_X1_forgetFreshness rfl rfl rfl (by decide +kernel) ⟨Nat.le_of_ble_eq_true rfl, Nat.le_of_ble_eq_true rfl⟩) ⟨fun a U g mk q => by obtain ⟨q0, q1, qP, qK, qD⟩ := q; exact ⟨q0, q1, qP, va_K.moved (u := U) (U := U.calling g mk a) (Vm.Alike.refl U.vm) qK, qD⟩, va_recv hK hPc (ci := 1) (q0 := 0) rfl rfl, fun U hU hW => ⟨rfl, by rw [hU], by rw [hU]; exact hPc, va_K.moved hW.alike hK, hDc.weaken (fun _ _ _ _ => trivial)⟩⟩ rfl rfl hl.1 rfl (lv_room (Nat.le_of_ble_eq_true rfl)) dX11_list_37 ⟨Nat.le_of_ble_eq_true rfl, Nat.le_of_ble_eq_true rfl⟩) hS (fun q _ h => hFc q h) hFc (fun u t H1 locs ht hvm hw hB hz1 hk1 hS => ?_)
      obtain ⟨hP1, hD1⟩ := hB
      rw [ht] at hP1
      obtain ⟨hP, hD⟩ := va_join (wr := [(oX, .inr (11, [.ref nT, .ref nL, .ref nM, .ref oC, .ref oP, .ref oH, .ref oK, .ref oG, .ref oR, .ref oQ, .ref oW, .int (-1)])), (oH, .inr (4, [.ref oP, .ref h1, .ref h2, .int 1]))]) (w1 := [(oW, .inr (1, [.ref oC, .ref oK, .ref w0, .ref w1, .ref w2, .ref w3, .ref w4, .ref w5, .ref w6, .ref w7, .ref w8, .ref w9, .ref w10, .int 0, .int 0, .int 0, .int (-1), .int (-1), .int (-1), .int (-1)]))]) hP hD [1] [0, 2] rfl rfl (by decide) (by decide) hk1 hFc hP1 hD1
      generalize H1 = H at hP hS ⊢
      have hP : va_P (dC, dI) vwCl [(oX, .inr (11, [.ref nT, .ref nL, .ref nM, .ref oC, .ref oP, .ref oH, .ref oK, .ref oG, .ref oR, .ref oQ, .ref oW, .int (-1)])), (oH, .inr (4, [.ref oP, .ref h1, .ref h2, .int 1])), (oW, .inr (1, [.ref oC, .ref oK, .ref w0, .ref w1, .ref w2, .ref w3, .ref w4, .ref w5, .ref w6, .ref w7, .ref w8, .ref w9, .ref w10, .int 0, .int 0, .int 0, .int (-1), .int (-1), .int (-1), .int (-1)]))] H := hP
      have hD : va_D A [(oX, .inr (11, [.ref nT, .ref nL, .ref nM, .ref oC, .ref oP, .ref oH, .ref oK, .ref oG, .ref oR, .ref oQ, .ref oW, .int (-1)])), (oH, .inr (4, [.ref oP, .ref h1, .ref h2, .int 1])), (oW, .inr (1, [.ref oC, .ref oK, .ref w0, .ref w1, .ref w2, .ref w3, .ref w4, .ref w5, .ref w6, .ref w7, .ref w8, .ref w9, .ref w10, .int 0, .int 0, .int 0, .int (-1), .int (-1), .int (-1), .int (-1)]))] := hD
      refine lv_aload_n hx hb dX11_list_40 rfl (lv_at hl 0 rfl) ?_
      refine va_get (D := (dC, dI)) (ci := 11) (v := .ref oH) (C := RX11) (T := TX11) (N := 12) hx hb hts in_X11 hown hK hP 0 rfl rfl 5 (by decide) (hts (.fieldLink RX11 48 "TextMender" "harms" "LTextMender$Harms;") (List.mem_of_getElem? (i := 2) rfl)) (fun _ h9 => h9) rfl dX11_list_41 ?_
      have hPc := hP.sub (ws' := [(oH, .inr (4, [.ref oP, .ref h1, .ref h2, .int 1]))]) [1] rfl
      have hDc := hD.sub (ws' := [(oH, .inr (4, [.ref oP, .ref h1, .ref h2, .int 1]))]) [1] (by decide) rfl
      have hFc := va_free (wc := [(oH, .inr (4, [.ref oP, .ref h1, .ref h2, .int 1]))]) hD hS hA [1] rfl
      refine va_calli (va_runV (As := []) (rest := []) ⟨hx, hb, hml, hown, hts⟩ (m_X4_length_1 l dC dI cI cS H.size oH oP h1 h2 ) (cwV 0 hts gX11_list_X4_length rfl rfl rfl (by decide +kernel) ⟨Nat.le_of_ble_eq_true rfl, Nat.le_of_ble_eq_true rfl⟩) ⟨fun a U g mk q => by obtain ⟨q0, q1, qP, qK, qD⟩ := q; exact ⟨q0, q1, qP, va_K.moved (u := U) (U := U.calling g mk a) (Vm.Alike.refl U.vm) qK, qD⟩, va_recv hK hPc (ci := 4) (q0 := 0) rfl rfl, fun U hU hW => ⟨rfl, by rw [hU], by rw [hU]; exact hPc, va_K.moved hW.alike hK, hDc.weaken (fun _ _ _ _ => trivial)⟩⟩ rfl rfl hl.1 rfl (lv_room (Nat.le_of_ble_eq_true rfl)) dX11_list_44 ⟨Nat.le_of_ble_eq_true rfl, Nat.le_of_ble_eq_true rfl⟩) hS (fun q _ h => hFc q h) hFc (fun r_8 u t H1 locs ht hvm hw hB hz1 hk1 hS => ?_)
      obtain ⟨hP, hD⟩ := va_join (wr := [(oX, .inr (11, [.ref nT, .ref nL, .ref nM, .ref oC, .ref oP, .ref oH, .ref oK, .ref oG, .ref oR, .ref oQ, .ref oW, .int (-1)])), (oW, .inr (1, [.ref oC, .ref oK, .ref w0, .ref w1, .ref w2, .ref w3, .ref w4, .ref w5, .ref w6, .ref w7, .ref w8, .ref w9, .ref w10, .int 0, .int 0, .int 0, .int (-1), .int (-1), .int (-1), .int (-1)]))]) (w1 := []) hP hD [1] [0, 2] rfl rfl (by decide) (by decide) hk1 hFc p_P0 p_D0
      generalize H1 = H at hP hS ⊢
      have hP : va_P (dC, dI) vwCl [(oX, .inr (11, [.ref nT, .ref nL, .ref nM, .ref oC, .ref oP, .ref oH, .ref oK, .ref oG, .ref oR, .ref oQ, .ref oW, .int (-1)])), (oW, .inr (1, [.ref oC, .ref oK, .ref w0, .ref w1, .ref w2, .ref w3, .ref w4, .ref w5, .ref w6, .ref w7, .ref w8, .ref w9, .ref w10, .int 0, .int 0, .int 0, .int (-1), .int (-1), .int (-1), .int (-1)]))] H := hP
      have hD : va_D A [(oX, .inr (11, [.ref nT, .ref nL, .ref nM, .ref oC, .ref oP, .ref oH, .ref oK, .ref oG, .ref oR, .ref oQ, .ref oW, .int (-1)])), (oW, .inr (1, [.ref oC, .ref oK, .ref w0, .ref w1, .ref w2, .ref w3, .ref w4, .ref w5, .ref w6, .ref w7, .ref w8, .ref w9, .ref w10, .int 0, .int 0, .int 0, .int (-1), .int (-1), .int (-1), .int (-1)]))] := hD
      subst hw
      refine lv_iconst (v := 1) hx hb dX11_list_47 (by decide) ?_
      refine lv_isub hx hb dX11_list_48 ?_
      refine k_i (y := 0) (by decide) ?_
      exact W.iret (v := 0) hx hb hr (fun t ht hW => ⟨⟨0, (), rfl, by first | rfl | assumption | simp [f_two, f_both, c_2, c_4], trivial⟩, hS.F ht⟩) (hS.2.2) dX11_list_49

set_option maxHeartbeats 4000000 in
set_option maxRecDepth 100000 in
theorem x_unlist (l : Launch) (dC : Nat → ClassId) (dI : Nat → Nat → Nat) (cI cS : ClassId) (sz : Nat) (oX : Nat) (nT : Nat) (nL : Nat) (nM : Nat) (oC : Nat) (oP : Nat) (oH : Nat) (oK : Nat) (oG : Nat) (oR : Nat) (oQ : Nat) (oW : Nat) (h1 : Nat) (h2 : Nat) (w0 : Nat) (w1 : Nat) (w2 : Nat) (w3 : Nat) (w4 : Nat) (w5 : Nat) (w6 : Nat) (w7 : Nat) (w8 : Nat) (w9 : Nat) (w10 : Nat)  : Met l yX11_unlist wsX11_unlist ({ frames := 1, cells := 0, slots := 0, locals := 20 } : Room) (va_Pc [.ref oX] (fun U => U.heap.size = sz ∧ va_P (dC, dI) vwCl [(oX, .inr (11, [.ref nT, .ref nL, .ref nM, .ref oC, .ref oP, .ref oH, .ref oK, .ref oG, .ref oR, .ref oQ, .ref oW, .int (-1)])), (oH, .inr (4, [.ref oP, .ref h1, .ref h2, .int 0])), (oW, .inr (1, [.ref oC, .ref oK, .ref w0, .ref w1, .ref w2, .ref w3, .ref w4, .ref w5, .ref w6, .ref w7, .ref w8, .ref w9, .ref w10, .int 0, .int 0, .int 0, .int (-1), .int (-1), .int (-1), .int (-1)]))] U.heap ∧ va_K (dC, dI) vwCl [(cI, .int), (cS, .short)] U ∧ va_D (fun _ => True) [(oX, .inr (11, [.ref nT, .ref nL, .ref nM, .ref oC, .ref oP, .ref oH, .ref oK, .ref oG, .ref oR, .ref oQ, .ref oW, .int (-1)])), (oH, .inr (4, [.ref oP, .ref h1, .ref h2, .int 0])), (oW, .inr (1, [.ref oC, .ref oK, .ref w0, .ref w1, .ref w2, .ref w3, .ref w4, .ref w5, .ref w6, .ref w7, .ref w8, .ref w9, .ref w10, .int 0, .int 0, .int 0, .int (-1), .int (-1), .int (-1), .int (-1)]))])) (va_Qi (fun (r : Int32) (_ : Unit) => r = 0) (fun _ _ => True) (va_A [(oX, .inr (11, [.ref nT, .ref nL, .ref nM, .ref oC, .ref oP, .ref oH, .ref oK, .ref oG, .ref oR, .ref oQ, .ref oW, .int (-1)])), (oH, .inr (4, [.ref oP, .ref h1, .ref h2, .int 0])), (oW, .inr (1, [.ref oC, .ref oK, .ref w0, .ref w1, .ref w2, .ref w3, .ref w4, .ref w5, .ref w6, .ref w7, .ref w8, .ref w9, .ref w10, .int 0, .int 0, .int 0, .int (-1), .int (-1), .int (-1), .int (-1)]))] sz)) 0 0 (va_A [(oX, .inr (11, [.ref nT, .ref nL, .ref nM, .ref oC, .ref oP, .ref oH, .ref oK, .ref oG, .ref oR, .ref oQ, .ref oW, .int (-1)])), (oH, .inr (4, [.ref oP, .ref h1, .ref h2, .int 0])), (oW, .inr (1, [.ref oC, .ref oK, .ref w0, .ref w1, .ref w2, .ref w3, .ref w4, .ref w5, .ref w6, .ref w7, .ref w8, .ref w9, .ref w10, .int 0, .int 0, .int 0, .int (-1), .int (-1), .int (-1), .int (-1)]))] sz) := by
  refine Met.ofW (cc := cX11_unlist) (maxL := 2) (ret := (some .int)) (by decide) rfl ?_
  intro p e s m args below meth c s₁ B hml hv
  obtain ⟨rfl, hsz, hP, hK, hD0⟩ := hv
  have hx := B.exec
  have hb := B.bytes
  have hr := B.returns
  have hts := atoms_spec (ws := wsX11_unlist) B.pre
  have hown : s.vm.findClass RX11 = some m.cls := findClass_of_methodNamed B.named
  have hlocks := B.notSynchronized
  have in_X11 : ∀ w ∈ wsX110, w ∈ wsX11_unlist := fun _ h => List.mem_cons_of_mem _ (List.mem_append_left _ (List.mem_append_left _ (List.mem_append_right _ (h))))
  subst hsz
  have hD := hD0.self (sz := s.heap.size)
  generalize hAe : va_A [(oX, .inr (11, [.ref nT, .ref nL, .ref nM, .ref oC, .ref oP, .ref oH, .ref oK, .ref oG, .ref oR, .ref oQ, .ref oW, .int (-1)])), (oH, .inr (4, [.ref oP, .ref h1, .ref h2, .int 0])), (oW, .inr (1, [.ref oC, .ref oK, .ref w0, .ref w1, .ref w2, .ref w3, .ref w4, .ref w5, .ref w6, .ref w7, .ref w8, .ref w9, .ref w10, .int 0, .int 0, .int 0, .int (-1), .int (-1), .int (-1), .int (-1)]))] s.heap.size = A at hD ⊢
  have hA : ∀ q : Nat, s.heap.size ≤ q → A q := fun q h => by rw [← hAe]; exact Or.inr h
  have hS : va_S A s.heap s.heap [] := va_S.rf
  have hP : va_P (dC, dI) vwCl [(oX, .inr (11, [.ref nT, .ref nL, .ref nM, .ref oC, .ref oP, .ref oH, .ref oK, .ref oG, .ref oR, .ref oQ, .ref oW, .int (-1)])), (oH, .inr (4, [.ref oP, .ref h1, .ref h2, .int 0])), (oW, .inr (1, [.ref oC, .ref oK, .ref w0, .ref w1, .ref w2, .ref w3, .ref w4, .ref w5, .ref w6, .ref w7, .ref w8, .ref w9, .ref w10, .int 0, .int 0, .int 0, .int (-1), .int (-1), .int (-1), .int (-1)]))] s.heap := hP
  have hl := lv_entry ([.ref oX]) (n := 2) (Nat.le_of_ble_eq_true rfl)
  rw [lg_entry_eq]
  generalize (lg_sl ([.ref oX]) ++ List.replicate (2 - (lg_sl ([.ref oX])).length) Slot.unset).toArray = ls at hl ⊢
  have hl : lv_has ls 2 [(0, .ref oX)] := hl
  refine lv_aload_n hx hb dX11_unlist_0 rfl (lv_at hl 0 rfl) ?_
  refine va_get (D := (dC, dI)) (ci := 11) (v := .ref oH) (C := RX11) (T := TX11) (N := 12) hx hb hts in_X11 hown hK hP 0 rfl rfl 5 (by decide) (hts (.fieldLink RX11 48 "TextMender" "harms" "LTextMender$Harms;") (List.mem_of_getElem? (i := 1) rfl)) (fun _ h9 => h9) rfl dX11_unlist_1 ?_
  have hPc := hP.sub (ws' := [(oH, .inr (4, [.ref oP, .ref h1, .ref h2, .int 0]))]) [1] rfl
  have hDc := hD.sub (ws' := [(oH, .inr (4, [.ref oP, .ref h1, .ref h2, .int 0]))]) [1] (by decide) rfl
  have hFc := va_free (wc := [(oH, .inr (4, [.ref oP, .ref h1, .ref h2, .int 0]))]) hD hS hA [1] rfl
  refine va_calli (va_runV (As := []) (rest := []) ⟨hx, hb, hml, hown, hts⟩ (m_X4_length l dC dI cI cS s.heap.size oH oP h1 h2 ) (cwV 0 hts gX11_unlist_X4_length rfl rfl rfl (by decide +kernel) ⟨Nat.le_of_ble_eq_true rfl, Nat.le_of_ble_eq_true rfl⟩) ⟨fun a U g mk q => by obtain ⟨q0, q1, qP, qK, qD⟩ := q; exact ⟨q0, q1, qP, va_K.moved (u := U) (U := U.calling g mk a) (Vm.Alike.refl U.vm) qK, qD⟩, va_recv hK hPc (ci := 4) (q0 := 0) rfl rfl, fun U hU hW => ⟨rfl, by rw [hU], by rw [hU]; exact hPc, va_K.moved hW.alike hK, hDc.weaken (fun _ _ _ _ => trivial)⟩⟩ rfl rfl hl.1 rfl (lv_room (Nat.le_of_ble_eq_true rfl)) dX11_unlist_4 ⟨Nat.le_of_ble_eq_true rfl, Nat.le_of_ble_eq_true rfl⟩) hS (fun q _ h => hFc q h) hFc (fun r_1 u t H1 locs ht hvm hw hB hz1 hk1 hS => ?_)
  obtain ⟨hP1, hD1⟩ := hB
  rw [ht] at hP1
  obtain ⟨hP, hD⟩ := va_join (wr := [(oX, .inr (11, [.ref nT, .ref nL, .ref nM, .ref oC, .ref oP, .ref oH, .ref oK, .ref oG, .ref oR, .ref oQ, .ref oW, .int (-1)])), (oW, .inr (1, [.ref oC, .ref oK, .ref w0, .ref w1, .ref w2, .ref w3, .ref w4, .ref w5, .ref w6, .ref w7, .ref w8, .ref w9, .ref w10, .int 0, .int 0, .int 0, .int (-1), .int (-1), .int (-1), .int (-1)]))]) (w1 := [(oH, .inr (4, [.ref oP, .ref h1, .ref h2, .int 0]))]) hP hD [1] [0, 2] rfl rfl (by decide) (by decide) hk1 hFc hP1 hD1
  generalize H1 = H at hP hS ⊢
  have hP : va_P (dC, dI) vwCl [(oX, .inr (11, [.ref nT, .ref nL, .ref nM, .ref oC, .ref oP, .ref oH, .ref oK, .ref oG, .ref oR, .ref oQ, .ref oW, .int (-1)])), (oW, .inr (1, [.ref oC, .ref oK, .ref w0, .ref w1, .ref w2, .ref w3, .ref w4, .ref w5, .ref w6, .ref w7, .ref w8, .ref w9, .ref w10, .int 0, .int 0, .int 0, .int (-1), .int (-1), .int (-1), .int (-1)])), (oH, .inr (4, [.ref oP, .ref h1, .ref h2, .int 0]))] H := hP
  have hD : va_D A [(oX, .inr (11, [.ref nT, .ref nL, .ref nM, .ref oC, .ref oP, .ref oH, .ref oK, .ref oG, .ref oR, .ref oQ, .ref oW, .int (-1)])), (oW, .inr (1, [.ref oC, .ref oK, .ref w0, .ref w1, .ref w2, .ref w3, .ref w4, .ref w5, .ref w6, .ref w7, .ref w8, .ref w9, .ref w10, .int 0, .int 0, .int 0, .int (-1), .int (-1), .int (-1), .int (-1)])), (oH, .inr (4, [.ref oP, .ref h1, .ref h2, .int 0]))] := hD
  subst hw
  refine lv_istore_n (lv' := [(1, .int 0), (0, .ref oX)]) hx hb dX11_unlist_7 rfl hl (by decide) rfl (fun ls hl => ?_)
  refine lv_aload_n hx hb dX11_unlist_8 rfl (lv_at hl 1 rfl) ?_
  refine va_get (D := (dC, dI)) (ci := 11) (v := .ref oH) (C := RX11) (T := TX11) (N := 12) hx hb hts in_X11 hown hK hP 0 rfl rfl 5 (by decide) (hts (.fieldLink RX11 48 "TextMender" "harms" "LTextMender$Harms;") (List.mem_of_getElem? (i := 1) rfl)) (fun _ h9 => h9) rfl dX11_unlist_9 ?_
  have hPc := hP.sub (ws' := [(oH, .inr (4, [.ref oP, .ref h1, .ref h2, .int 0]))]) [2] rfl
  have hDc := hD.sub (ws' := [(oH, .inr (4, [.ref oP, .ref h1, .ref h2, .int 0]))]) [2] (by decide) rfl
  have hFc := va_free (wc := [(oH, .inr (4, [.ref oP, .ref h1, .ref h2, .int 0]))]) hD hS hA [2] rfl
  refine va_callv (va_runV (As := []) (rest := []) ⟨hx, hb, hml, hown, hts⟩ (m_X4_empty l dC dI cI cS H.size oH oP h1 h2 ) (cwV 0 hts gX11_unlist_X4_empty rfl rfl rfl (by decide +kernel) ⟨Nat.le_of_ble_eq_true rfl, Nat.le_of_ble_eq_true rfl⟩) ⟨fun a U g mk q => by obtain ⟨q0, q1, qP, qK, qD⟩ := q; exact ⟨q0, q1, qP, va_K.moved (u := U) (U := U.calling g mk a) (Vm.Alike.refl U.vm) qK, qD⟩, va_recv hK hPc (ci := 4) (q0 := 0) rfl rfl, fun U hU hW => ⟨rfl, by rw [hU], by rw [hU]; exact hPc, va_K.moved hW.alike hK, hDc.weaken (fun _ _ _ _ => trivial)⟩⟩ rfl rfl hl.1 rfl (lv_room (Nat.le_of_ble_eq_true rfl)) dX11_unlist_12 ⟨Nat.le_of_ble_eq_true rfl, Nat.le_of_ble_eq_true rfl⟩) hS (fun q _ h => hFc q h) hFc (fun u t H1 locs ht hvm hw hB hz1 hk1 hS => ?_)
  obtain ⟨hP1, hD1⟩ := hB
  rw [ht] at hP1
  obtain ⟨hP, hD⟩ := va_join (wr := [(oX, .inr (11, [.ref nT, .ref nL, .ref nM, .ref oC, .ref oP, .ref oH, .ref oK, .ref oG, .ref oR, .ref oQ, .ref oW, .int (-1)])), (oW, .inr (1, [.ref oC, .ref oK, .ref w0, .ref w1, .ref w2, .ref w3, .ref w4, .ref w5, .ref w6, .ref w7, .ref w8, .ref w9, .ref w10, .int 0, .int 0, .int 0, .int (-1), .int (-1), .int (-1), .int (-1)]))]) (w1 := [(oH, .inr (4, [.ref oP, .ref h1, .ref h2, .int 0]))]) hP hD [2] [0, 1] rfl rfl (by decide) (by decide) hk1 hFc hP1 hD1
  generalize H1 = H at hP hS ⊢
  have hP : va_P (dC, dI) vwCl [(oX, .inr (11, [.ref nT, .ref nL, .ref nM, .ref oC, .ref oP, .ref oH, .ref oK, .ref oG, .ref oR, .ref oQ, .ref oW, .int (-1)])), (oW, .inr (1, [.ref oC, .ref oK, .ref w0, .ref w1, .ref w2, .ref w3, .ref w4, .ref w5, .ref w6, .ref w7, .ref w8, .ref w9, .ref w10, .int 0, .int 0, .int 0, .int (-1), .int (-1), .int (-1), .int (-1)])), (oH, .inr (4, [.ref oP, .ref h1, .ref h2, .int 0]))] H := hP
  have hD : va_D A [(oX, .inr (11, [.ref nT, .ref nL, .ref nM, .ref oC, .ref oP, .ref oH, .ref oK, .ref oG, .ref oR, .ref oQ, .ref oW, .int (-1)])), (oW, .inr (1, [.ref oC, .ref oK, .ref w0, .ref w1, .ref w2, .ref w3, .ref w4, .ref w5, .ref w6, .ref w7, .ref w8, .ref w9, .ref w10, .int 0, .int 0, .int 0, .int (-1), .int (-1), .int (-1), .int (-1)])), (oH, .inr (4, [.ref oP, .ref h1, .ref h2, .int 0]))] := hD
  refine lv_aload_n hx hb dX11_unlist_15 rfl (lv_at hl 1 rfl) ?_
  refine va_get (D := (dC, dI)) (ci := 11) (v := .ref oW) (C := RX11) (T := TX11) (N := 12) hx hb hts in_X11 hown hK hP 0 rfl rfl 10 (by decide) (hts (.fieldLink RX11 86 "TextMender" "choiceBook" "LTextMender$Choices;") (List.mem_of_getElem? (i := 2) rfl)) (fun _ h9 => h9) rfl dX11_unlist_16 ?_
  have hPc := hP.sub (ws' := [(oW, .inr (1, [.ref oC, .ref oK, .ref w0, .ref w1, .ref w2, .ref w3, .ref w4, .ref w5, .ref w6, .ref w7, .ref w8, .ref w9, .ref w10, .int 0, .int 0, .int 0, .int (-1), .int (-1), .int (-1), .int (-1)]))]) [1] rfl
  have hDc := hD.sub (ws' := [(oW, .inr (1, [.ref oC, .ref oK, .ref w0, .ref w1, .ref w2, .ref w3, .ref w4, .ref w5, .ref w6, .ref w7, .ref w8, .ref w9, .ref w10, .int 0, .int 0, .int 0, .int (-1), .int (-1), .int (-1), .int (-1)]))]) [1] (by decide) rfl
  have hFc := va_free (wc := [(oW, .inr (1, [.ref oC, .ref oK, .ref w0, .ref w1, .ref w2, .ref w3, .ref w4, .ref w5, .ref w6, .ref w7, .ref w8, .ref w9, .ref w10, .int 0, .int 0, .int 0, .int (-1), .int (-1), .int (-1), .int (-1)]))]) hD hS hA [1] rfl
  refine va_callv (va_runV (As := []) (rest := []) ⟨hx, hb, hml, hown, hts⟩ (m_X1_forgetFreshness l dC dI cI cS H.size oW oC oK w0 w1 w2 w3 w4 w5 w6 w7 w8 w9 w10 ) (cwV 0 hts gX11_unlist_X1_forgetFreshness rfl rfl rfl (by decide +kernel) ⟨Nat.le_of_ble_eq_true rfl, Nat.le_of_ble_eq_true rfl⟩) ⟨fun a U g mk q => by obtain ⟨q0, q1, qP, qK, qD⟩ := q; exact ⟨q0, q1, qP, va_K.moved (u := U) (U := U.calling g mk a) (Vm.Alike.refl U.vm) qK, qD⟩, va_recv hK hPc (ci := 1) (q0 := 0) rfl rfl, fun U hU hW => ⟨rfl, by rw [hU], by rw [hU]; exact hPc, va_K.moved hW.alike hK, hDc.weaken (fun _ _ _ _ => trivial)⟩⟩ rfl rfl hl.1 rfl (lv_room (Nat.le_of_ble_eq_true rfl)) dX11_unlist_19 ⟨Nat.le_of_ble_eq_true rfl, Nat.le_of_ble_eq_true rfl⟩) hS (fun q _ h => hFc q h) hFc (fun u t H1 locs ht hvm hw hB hz1 hk1 hS => ?_)
  obtain ⟨hP1, hD1⟩ := hB
  rw [ht] at hP1
  obtain ⟨hP, hD⟩ := va_join (wr := [(oX, .inr (11, [.ref nT, .ref nL, .ref nM, .ref oC, .ref oP, .ref oH, .ref oK, .ref oG, .ref oR, .ref oQ, .ref oW, .int (-1)])), (oH, .inr (4, [.ref oP, .ref h1, .ref h2, .int 0]))]) (w1 := [(oW, .inr (1, [.ref oC, .ref oK, .ref w0, .ref w1, .ref w2, .ref w3, .ref w4, .ref w5, .ref w6, .ref w7, .ref w8, .ref w9, .ref w10, .int 0, .int 0, .int 0, .int (-1), .int (-1), .int (-1), .int (-1)]))]) hP hD [1] [0, 2] rfl rfl (by decide) (by decide) hk1 hFc hP1 hD1
  generalize H1 = H at hP hS ⊢
  have hP : va_P (dC, dI) vwCl [(oX, .inr (11, [.ref nT, .ref nL, .ref nM, .ref oC, .ref oP, .ref oH, .ref oK, .ref oG, .ref oR, .ref oQ, .ref oW, .int (-1)])), (oH, .inr (4, [.ref oP, .ref h1, .ref h2, .int 0])), (oW, .inr (1, [.ref oC, .ref oK, .ref w0, .ref w1, .ref w2, .ref w3, .ref w4, .ref w5, .ref w6, .ref w7, .ref w8, .ref w9, .ref w10, .int 0, .int 0, .int 0, .int (-1), .int (-1), .int (-1), .int (-1)]))] H := hP
  have hD : va_D A [(oX, .inr (11, [.ref nT, .ref nL, .ref nM, .ref oC, .ref oP, .ref oH, .ref oK, .ref oG, .ref oR, .ref oQ, .ref oW, .int (-1)])), (oH, .inr (4, [.ref oP, .ref h1, .ref h2, .int 0])), (oW, .inr (1, [.ref oC, .ref oK, .ref w0, .ref w1, .ref w2, .ref w3, .ref w4, .ref w5, .ref w6, .ref w7, .ref w8, .ref w9, .ref w10, .int 0, .int 0, .int 0, .int (-1), .int (-1), .int (-1), .int (-1)]))] := hD
  refine lv_iload_n hx hb dX11_unlist_22 rfl (lv_at hl 0 rfl) ?_
  exact W.iret (v := 0) hx hb hr (fun t ht hW => ⟨⟨0, (), rfl, rfl, trivial⟩, hS.F ht⟩) (hS.2.2) dX11_unlist_23

set_option maxHeartbeats 4000000 in
set_option maxRecDepth 100000 in
theorem x_rows (l : Launch) (dC : Nat → ClassId) (dI : Nat → Nat → Nat) (cI cS : ClassId) (sz : Nat) (oX : Nat) (nT : Nat) (nL : Nat) (nM : Nat) (oC : Nat) (oP : Nat) (oH : Nat) (oK : Nat) (oG : Nat) (oR : Nat) (oQ : Nat) (oW : Nat) (n1 : Nat) (n2 : Nat) (n3 : Nat) (f1 : Nat) (f2 : Nat) (f3 : Nat) (f4 : Nat) (f5 : Nat) (f6 : Nat) (h1 : Nat) (h2 : Nat) (n : Int32)  : Met l yX11_rows wsX11_rows ({ frames := 2, cells := 0, slots := 0, locals := 51 } : Room) (va_Pc [.ref oX, .int n] (fun U => U.heap.size = sz ∧ va_P (dC, dI) vwCl [(oX, .inr (11, [.ref nT, .ref nL, .ref nM, .ref oC, .ref oP, .ref oH, .ref oK, .ref oG, .ref oR, .ref oQ, .ref oW, .int (-1)])), (oR, .inr (9, [.ref oH, .ref oK, .ref n1, .ref n2, .ref n3, .ref f1, .ref f2, .ref f3, .ref f4, .ref f5, .ref f6, .int 0])), (f1, .inl (cI, 258, .inl (fun _ => (-1)))), (oH, .inr (4, [.ref oP, .ref h1, .ref h2, .int 0]))] U.heap ∧ va_K (dC, dI) vwCl [(cI, .int), (cS, .short)] U ∧ va_D (fun _ => True) [(oX, .inr (11, [.ref nT, .ref nL, .ref nM, .ref oC, .ref oP, .ref oH, .ref oK, .ref oG, .ref oR, .ref oQ, .ref oW, .int (-1)])), (oR, .inr (9, [.ref oH, .ref oK, .ref n1, .ref n2, .ref n3, .ref f1, .ref f2, .ref f3, .ref f4, .ref f5, .ref f6, .int 0])), (f1, .inl (cI, 258, .inl (fun _ => (-1)))), (oH, .inr (4, [.ref oP, .ref h1, .ref h2, .int 0]))])) (va_Qi (fun (r : Int32) (_ : Unit) => r = f_rows n) (fun _ _ => True) (va_A [(oX, .inr (11, [.ref nT, .ref nL, .ref nM, .ref oC, .ref oP, .ref oH, .ref oK, .ref oG, .ref oR, .ref oQ, .ref oW, .int (-1)])), (oR, .inr (9, [.ref oH, .ref oK, .ref n1, .ref n2, .ref n3, .ref f1, .ref f2, .ref f3, .ref f4, .ref f5, .ref f6, .int 0])), (f1, .inl (cI, 258, .inl (fun _ => (-1)))), (oH, .inr (4, [.ref oP, .ref h1, .ref h2, .int 0]))] sz)) 0 0 (va_A [(oX, .inr (11, [.ref nT, .ref nL, .ref nM, .ref oC, .ref oP, .ref oH, .ref oK, .ref oG, .ref oR, .ref oQ, .ref oW, .int (-1)])), (oR, .inr (9, [.ref oH, .ref oK, .ref n1, .ref n2, .ref n3, .ref f1, .ref f2, .ref f3, .ref f4, .ref f5, .ref f6, .int 0])), (f1, .inl (cI, 258, .inl (fun _ => (-1)))), (oH, .inr (4, [.ref oP, .ref h1, .ref h2, .int 0]))] sz) := by
  refine Met.ofW (cc := cX11_rows) (maxL := 2) (ret := (some .int)) (by decide) rfl ?_
  intro p e s m args below meth c s₁ B hml hv
  obtain ⟨rfl, hsz, hP, hK, hD0⟩ := hv
  have hx := B.exec
  have hb := B.bytes
  have hr := B.returns
  have hts := atoms_spec (ws := wsX11_rows) B.pre
  have hown : s.vm.findClass RX11 = some m.cls := findClass_of_methodNamed B.named
  have hlocks := B.notSynchronized
  have in_X11 : ∀ w ∈ wsX110, w ∈ wsX11_rows := fun _ h => List.mem_cons_of_mem _ (List.mem_append_left _ (List.mem_append_left _ (List.mem_append_left _ (List.mem_append_left _ (List.mem_append_left _ (List.mem_append_left _ (List.mem_append_left _ (List.mem_append_right _ (h)))))))))
  subst hsz
  have hD := hD0.self (sz := s.heap.size)
  generalize hAe : va_A [(oX, .inr (11, [.ref nT, .ref nL, .ref nM, .ref oC, .ref oP, .ref oH, .ref oK, .ref oG, .ref oR, .ref oQ, .ref oW, .int (-1)])), (oR, .inr (9, [.ref oH, .ref oK, .ref n1, .ref n2, .ref n3, .ref f1, .ref f2, .ref f3, .ref f4, .ref f5, .ref f6, .int 0])), (f1, .inl (cI, 258, .inl (fun _ => (-1)))), (oH, .inr (4, [.ref oP, .ref h1, .ref h2, .int 0]))] s.heap.size = A at hD ⊢
  have hA : ∀ q : Nat, s.heap.size ≤ q → A q := fun q h => by rw [← hAe]; exact Or.inr h
  have hS : va_S A s.heap s.heap [] := va_S.rf
  have hP : va_P (dC, dI) vwCl [(oX, .inr (11, [.ref nT, .ref nL, .ref nM, .ref oC, .ref oP, .ref oH, .ref oK, .ref oG, .ref oR, .ref oQ, .ref oW, .int (-1)])), (oR, .inr (9, [.ref oH, .ref oK, .ref n1, .ref n2, .ref n3, .ref f1, .ref f2, .ref f3, .ref f4, .ref f5, .ref f6, .int 0])), (f1, .inl (cI, 258, .inl (fun _ => (-1)))), (oH, .inr (4, [.ref oP, .ref h1, .ref h2, .int 0]))] s.heap := hP
  have hl := lv_entry ([.ref oX, .int n]) (n := 2) (Nat.le_of_ble_eq_true rfl)
  rw [lg_entry_eq]
  generalize (lg_sl ([.ref oX, .int n]) ++ List.replicate (2 - (lg_sl ([.ref oX, .int n])).length) Slot.unset).toArray = ls at hl ⊢
  have hl : lv_has ls 2 [(0, .ref oX), (1, .int n)] := hl
  refine lv_aload_n hx hb dX11_rows_0 rfl (lv_at hl 0 rfl) ?_
  refine lv_iconst (v := (-1)) hx hb dX11_rows_1 (by decide) ?_
  refine va_put (D := (dC, dI)) (ci := 11) (v := .int (-1)) (ty := .int) (C := RX11) (T := TX11) (N := 12) hx hb hts in_X11 tyX11 tyX11_ok nmX11 hown hK hP hD hS 0 rfl rfl 11 (by decide) (hts (.fieldLink RX11 90 "TextMender" "fault" "I") (List.mem_of_getElem? (i := 1) rfl)) (fun _ h9 => h9) rfl (by decide +kernel) rfl rfl (Nat.le_of_ble_eq_true rfl) dX11_rows_2 (fun H locs hP hD hS => ?_)
  have hP : va_P (dC, dI) vwCl [(oX, .inr (11, [.ref nT, .ref nL, .ref nM, .ref oC, .ref oP, .ref oH, .ref oK, .ref oG, .ref oR, .ref oQ, .ref oW, .int (-1)])), (oR, .inr (9, [.ref oH, .ref oK, .ref n1, .ref n2, .ref n3, .ref f1, .ref f2, .ref f3, .ref f4, .ref f5, .ref f6, .int 0])), (f1, .inl (cI, 258, .inl (fun _ => (-1)))), (oH, .inr (4, [.ref oP, .ref h1, .ref h2, .int 0]))] H := hP
  have hD : va_D A [(oX, .inr (11, [.ref nT, .ref nL, .ref nM, .ref oC, .ref oP, .ref oH, .ref oK, .ref oG, .ref oR, .ref oQ, .ref oW, .int (-1)])), (oR, .inr (9, [.ref oH, .ref oK, .ref n1, .ref n2, .ref n3, .ref f1, .ref f2, .ref f3, .ref f4, .ref f5, .ref f6, .int 0])), (f1, .inl (cI, 258, .inl (fun _ => (-1)))), (oH, .inr (4, [.ref oP, .ref h1, .ref h2, .int 0]))] := hD
  refine lv_iload_n hx hb dX11_rows_5 rfl (lv_at hl 1 rfl) ?_
  refine lv_iconst (v := 1) hx hb dX11_rows_6 (by decide) ?_
  refine lv_icmp_lt (tgt := 15) hx hb dX11_rows_7 (by decide) (fun c_1 => ?_) (fun c_1 => ?_)
  · refine lv_iconst (v := (-1)) hx hb dX11_rows_15 (by decide) ?_
    exact W.iret (v := (-1)) hx hb hr (fun t ht hW => ⟨⟨(-1), (), rfl, by first | rfl | assumption | simp [f_rows, c_1], trivial⟩, hS.F ht⟩) (hS.2.2) dX11_rows_16
  · refine lv_iload_n hx hb dX11_rows_10 rfl (lv_at hl 1 rfl) ?_
    refine lv_iconst (v := 3) hx hb dX11_rows_11 (by decide) ?_
    refine lv_icmp_le (tgt := 17) hx hb dX11_rows_12 (by decide) (fun c_2 => ?_) (fun c_2 => ?_)
    · refine lv_aload_n hx hb dX11_rows_17 rfl (lv_at hl 0 rfl) ?_
      refine va_get (D := (dC, dI)) (ci := 11) (v := .ref oR) (C := RX11) (T := TX11) (N := 12) hx hb hts in_X11 hown hK hP 0 rfl rfl 8 (by decide) (hts (.fieldLink RX11 68 "TextMender" "rowBook" "LTextMender$Rows;") (List.mem_of_getElem? (i := 2) rfl)) (fun _ h9 => h9) rfl dX11_rows_18 ?_
      refine lv_iload_n hx hb dX11_rows_21 rfl (lv_at hl 1 rfl) ?_
      refine lv_aload_n hx hb dX11_rows_22 rfl (lv_at hl 0 rfl) ?_
      refine va_get (D := (dC, dI)) (ci := 11) (v := .ref nL) (C := RX11) (T := TX11) (N := 12) hx hb hts in_X11 hown hK hP 0 rfl rfl 1 (by decide) (hts (.fieldLink RX11 34 "TextMender" "letters" "LTextMender$Numbers;") (List.mem_of_getElem? (i := 3) rfl)) (fun _ h9 => h9) rfl dX11_rows_23 ?_
      have hPc := hP.sub (ws' := [(oR, .inr (9, [.ref oH, .ref oK, .ref n1, .ref n2, .ref n3, .ref f1, .ref f2, .ref f3, .ref f4, .ref f5, .ref f6, .int 0])), (f1, .inl (cI, 258, .inl (fun _ => (-1)))), (oH, .inr (4, [.ref oP, .ref h1, .ref h2, .int 0]))]) [1, 2, 3] rfl
      have hDc := hD.sub (ws' := [(oR, .inr (9, [.ref oH, .ref oK, .ref n1, .ref n2, .ref n3, .ref f1, .ref f2, .ref f3, .ref f4, .ref f5, .ref f6, .int 0])), (f1, .inl (cI, 258, .inl (fun _ => (-1)))), (oH, .inr (4, [.ref oP, .ref h1, .ref h2, .int 0]))]) [1, 2, 3] (by decide) rfl
      have hFc := va_free (wc := [(oR, .inr (9, [.ref oH, .ref oK, .ref n1, .ref n2, .ref n3, .ref f1, .ref f2, .ref f3, .ref f4, .ref f5, .ref f6, .int 0])), (f1, .inl (cI, 258, .inl (fun _ => (-1)))), (oH, .inr (4, [.ref oP, .ref h1, .ref h2, .int 0]))]) hD hS hA [1, 2, 3] rfl
      refine va_callv (va_runV (As := [.int n, .ref nL]) (rest := []) ⟨hx, hb, hml, hown, hts⟩ (m_X9_find l dC dI cI cS H.size oR oH oK n1 n2 n3 f1 f2 f3 f4 f5 f6 oP h1 h2 nL n ) (cwV 2 hts gX11_rows_X9_find rfl rfl rfl (by decide +kernel) ⟨Nat.le_of_ble_eq_true rfl, Nat.le_of_ble_eq_true rfl⟩) ⟨fun a U g mk q => by obtain ⟨q0, q1, qP, qK, qD⟩ := q; exact ⟨q0, q1, qP, va_K.moved (u := U) (U := U.calling g mk a) (Vm.Alike.refl U.vm) qK, qD⟩, va_recv hK hPc (ci := 9) (q0 := 0) rfl rfl, fun U hU hW => ⟨rfl, by rw [hU], by rw [hU]; exact hPc, va_K.moved hW.alike hK, hDc.weaken (fun _ _ _ _ => trivial)⟩⟩ rfl rfl hl.1 rfl (lv_room (Nat.le_of_ble_eq_true rfl)) dX11_rows_26 ⟨Nat.le_of_ble_eq_true rfl, Nat.le_of_ble_eq_true rfl⟩) hS (fun q _ h => hFc q h) hFc (fun u t H1 locs ht hvm hw hB hz1 hk1 hS => ?_)
      obtain ⟨hP1, hD1⟩ := hB
      rw [ht] at hP1
      obtain ⟨hP, hD⟩ := va_join (wr := [(oX, .inr (11, [.ref nT, .ref nL, .ref nM, .ref oC, .ref oP, .ref oH, .ref oK, .ref oG, .ref oR, .ref oQ, .ref oW, .int (-1)]))]) (w1 := [(oR, .inr (9, [.ref oH, .ref oK, .ref n1, .ref n2, .ref n3, .ref f1, .ref f2, .ref f3, .ref f4, .ref f5, .ref f6, .int 0])), (f1, .inl (cI, 258, .inl (fun _ => (-1))))]) hP hD [1, 2, 3] [0] rfl rfl (by decide) (by decide) hk1 hFc hP1 hD1
      generalize H1 = H at hP hS ⊢
      have hP : va_P (dC, dI) vwCl [(oX, .inr (11, [.ref nT, .ref nL, .ref nM, .ref oC, .ref oP, .ref oH, .ref oK, .ref oG, .ref oR, .ref oQ, .ref oW, .int (-1)])), (oR, .inr (9, [.ref oH, .ref oK, .ref n1, .ref n2, .ref n3, .ref f1, .ref f2, .ref f3, .ref f4, .ref f5, .ref f6, .int 0])), (f1, .inl (cI, 258, .inl (fun _ => (-1))))] H := hP
      have hD : va_D A [(oX, .inr (11, [.ref nT, .ref nL, .ref nM, .ref oC, .ref oP, .ref oH, .ref oK, .ref oG, .ref oR, .ref oQ, .ref oW, .int (-1)])), (oR, .inr (9, [.ref oH, .ref oK, .ref n1, .ref n2, .ref n3, .ref f1, .ref f2, .ref f3, .ref f4, .ref f5, .ref f6, .int 0])), (f1, .inl (cI, 258, .inl (fun _ => (-1))))] := hD
      refine lv_aload_n hx hb dX11_rows_29 rfl (lv_at hl 0 rfl) ?_
      refine va_get (D := (dC, dI)) (ci := 11) (v := .ref oR) (C := RX11) (T := TX11) (N := 12) hx hb hts in_X11 hown hK hP 0 rfl rfl 8 (by decide) (hts (.fieldLink RX11 68 "TextMender" "rowBook" "LTextMender$Rows;") (List.mem_of_getElem? (i := 2) rfl)) (fun _ h9 => h9) rfl dX11_rows_30 ?_
      have hPc := hP.sub (ws' := [(oR, .inr (9, [.ref oH, .ref oK, .ref n1, .ref n2, .ref n3, .ref f1, .ref f2, .ref f3, .ref f4, .ref f5, .ref f6, .int 0])), (f1, .inl (cI, 258, .inl (fun _ => (-1))))]) [1, 2] rfl
      have hDc := hD.sub (ws' := [(oR, .inr (9, [.ref oH, .ref oK, .ref n1, .ref n2, .ref n3, .ref f1, .ref f2, .ref f3, .ref f4, .ref f5, .ref f6, .int 0])), (f1, .inl (cI, 258, .inl (fun _ => (-1))))]) [1, 2] (by decide) rfl
      have hFc := va_free (wc := [(oR, .inr (9, [.ref oH, .ref oK, .ref n1, .ref n2, .ref n3, .ref f1, .ref f2, .ref f3, .ref f4, .ref f5, .ref f6, .int 0])), (f1, .inl (cI, 258, .inl (fun _ => (-1))))]) hD hS hA [1, 2] rfl
      refine va_calli (va_runV (As := []) (rest := []) ⟨hx, hb, hml, hown, hts⟩ (m_X9_keepFound l dC dI cI cS H.size oR oH oK n1 n2 n3 f1 f2 f3 f4 f5 f6 ) (cwV 0 hts gX11_rows_X9_keepFound rfl rfl rfl (by decide +kernel) ⟨Nat.le_of_ble_eq_true rfl, Nat.le_of_ble_eq_true rfl⟩) ⟨fun a U g mk q => by obtain ⟨q0, q1, qP, qK, qD⟩ := q; exact ⟨q0, q1, qP, va_K.moved (u := U) (U := U.calling g mk a) (Vm.Alike.refl U.vm) qK, qD⟩, va_recv hK hPc (ci := 9) (q0 := 0) rfl rfl, fun U hU hW => ⟨rfl, by rw [hU], by rw [hU]; exact hPc, va_K.moved hW.alike hK, hDc.weaken (fun _ _ _ _ => trivial)⟩⟩ rfl rfl hl.1 rfl (lv_room (Nat.le_of_ble_eq_true rfl)) dX11_rows_33 ⟨Nat.le_of_ble_eq_true rfl, Nat.le_of_ble_eq_true rfl⟩) hS (fun q _ h => hFc q h) hFc (fun r_4 u t H1 locs ht hvm hw hB hz1 hk1 hS => ?_)
      obtain ⟨hP, hD⟩ := va_join (wr := [(oX, .inr (11, [.ref nT, .ref nL, .ref nM, .ref oC, .ref oP, .ref oH, .ref oK, .ref oG, .ref oR, .ref oQ, .ref oW, .int (-1)]))]) (w1 := []) hP hD [1, 2] [0] rfl rfl (by decide) (by decide) hk1 hFc p_P0 p_D0
      generalize H1 = H at hP hS ⊢
      have hP : va_P (dC, dI) vwCl [(oX, .inr (11, [.ref nT, .ref nL, .ref nM, .ref oC, .ref oP, .ref oH, .ref oK, .ref oG, .ref oR, .ref oQ, .ref oW, .int (-1)]))] H := hP
      have hD : va_D A [(oX, .inr (11, [.ref nT, .ref nL, .ref nM, .ref oC, .ref oP, .ref oH, .ref oK, .ref oG, .ref oR, .ref oQ, .ref oW, .int (-1)]))] := hD
      subst hw
      exact W.iret (v := 0) hx hb hr (fun t ht hW => ⟨⟨0, (), rfl, by first | rfl | assumption | simp [f_rows, c_1, c_2], trivial⟩, hS.F ht⟩) (hS.2.2) dX11_rows_36
    · refine lv_iconst (v := (-1)) hx hb dX11_rows_15 (by decide) ?_
      exact W.iret (v := (-1)) hx hb hr (fun t ht hW => ⟨⟨(-1), (), rfl, by first | rfl | assumption | simp [f_rows, c_1, c_2], trivial⟩, hS.F ht⟩) (hS.2.2) dX11_rows_16

set_option maxHeartbeats 4000000 in
set_option maxRecDepth 100000 in
theorem x_row (l : Launch) (dC : Nat → ClassId) (dI : Nat → Nat → Nat) (cI cS : ClassId) (sz : Nat) (oX : Nat) (nT : Nat) (nL : Nat) (nM : Nat) (oC : Nat) (oP : Nat) (oH : Nat) (oK : Nat) (oG : Nat) (oR : Nat) (oQ : Nat) (oW : Nat) (n1 : Nat) (n2 : Nat) (n3 : Nat) (f1 : Nat) (f2 : Nat) (f3 : Nat) (f4 : Nat) (f5 : Nat) (f6 : Nat) (i : Int32) (wh : Int32)  : Met l yX11_row wsX11_row ({ frames := 1, cells := 0, slots := 0, locals := 23 } : Room) (va_Pc [.ref oX, .int i, .int wh] (fun U => U.heap.size = sz ∧ va_P (dC, dI) vwCl [(oX, .inr (11, [.ref nT, .ref nL, .ref nM, .ref oC, .ref oP, .ref oH, .ref oK, .ref oG, .ref oR, .ref oQ, .ref oW, .int (-1)])), (oR, .inr (9, [.ref oH, .ref oK, .ref n1, .ref n2, .ref n3, .ref f1, .ref f2, .ref f3, .ref f4, .ref f5, .ref f6, .int 0]))] U.heap ∧ va_K (dC, dI) vwCl [(cI, .int), (cS, .short)] U ∧ va_D (fun _ => True) [(oX, .inr (11, [.ref nT, .ref nL, .ref nM, .ref oC, .ref oP, .ref oH, .ref oK, .ref oG, .ref oR, .ref oQ, .ref oW, .int (-1)])), (oR, .inr (9, [.ref oH, .ref oK, .ref n1, .ref n2, .ref n3, .ref f1, .ref f2, .ref f3, .ref f4, .ref f5, .ref f6, .int 0]))])) (va_Qi (fun (r : Int32) (_ : Unit) => r = (-1)) (fun _ _ => True) (va_A [(oX, .inr (11, [.ref nT, .ref nL, .ref nM, .ref oC, .ref oP, .ref oH, .ref oK, .ref oG, .ref oR, .ref oQ, .ref oW, .int (-1)])), (oR, .inr (9, [.ref oH, .ref oK, .ref n1, .ref n2, .ref n3, .ref f1, .ref f2, .ref f3, .ref f4, .ref f5, .ref f6, .int 0]))] sz)) 0 0 (va_A [(oX, .inr (11, [.ref nT, .ref nL, .ref nM, .ref oC, .ref oP, .ref oH, .ref oK, .ref oG, .ref oR, .ref oQ, .ref oW, .int (-1)])), (oR, .inr (9, [.ref oH, .ref oK, .ref n1, .ref n2, .ref n3, .ref f1, .ref f2, .ref f3, .ref f4, .ref f5, .ref f6, .int 0]))] sz) := by
  refine Met.ofW (cc := cX11_row) (maxL := 3) (ret := (some .int)) (by decide) rfl ?_
  intro p e s m args below meth c s₁ B hml hv
  obtain ⟨rfl, hsz, hP, hK, hD0⟩ := hv
  have hx := B.exec
  have hb := B.bytes
  have hr := B.returns
  have hts := atoms_spec (ws := wsX11_row) B.pre
  have hown : s.vm.findClass RX11 = some m.cls := findClass_of_methodNamed B.named
  have hlocks := B.notSynchronized
  have in_X11 : ∀ w ∈ wsX110, w ∈ wsX11_row := fun _ h => List.mem_cons_of_mem _ (List.mem_append_left _ (List.mem_append_right _ (h)))
  subst hsz
  have hD := hD0.self (sz := s.heap.size)
  generalize hAe : va_A [(oX, .inr (11, [.ref nT, .ref nL, .ref nM, .ref oC, .ref oP, .ref oH, .ref oK, .ref oG, .ref oR, .ref oQ, .ref oW, .int (-1)])), (oR, .inr (9, [.ref oH, .ref oK, .ref n1, .ref n2, .ref n3, .ref f1, .ref f2, .ref f3, .ref f4, .ref f5, .ref f6, .int 0]))] s.heap.size = A at hD ⊢
  have hA : ∀ q : Nat, s.heap.size ≤ q → A q := fun q h => by rw [← hAe]; exact Or.inr h
  have hS : va_S A s.heap s.heap [] := va_S.rf
  have hP : va_P (dC, dI) vwCl [(oX, .inr (11, [.ref nT, .ref nL, .ref nM, .ref oC, .ref oP, .ref oH, .ref oK, .ref oG, .ref oR, .ref oQ, .ref oW, .int (-1)])), (oR, .inr (9, [.ref oH, .ref oK, .ref n1, .ref n2, .ref n3, .ref f1, .ref f2, .ref f3, .ref f4, .ref f5, .ref f6, .int 0]))] s.heap := hP
  have hl := lv_entry ([.ref oX, .int i, .int wh]) (n := 3) (Nat.le_of_ble_eq_true rfl)
  rw [lg_entry_eq]
  generalize (lg_sl ([.ref oX, .int i, .int wh]) ++ List.replicate (3 - (lg_sl ([.ref oX, .int i, .int wh])).length) Slot.unset).toArray = ls at hl ⊢
  have hl : lv_has ls 3 [(0, .ref oX), (1, .int i), (2, .int wh)] := hl
  refine lv_aload_n hx hb dX11_row_0 rfl (lv_at hl 0 rfl) ?_
  refine va_get (D := (dC, dI)) (ci := 11) (v := .ref oR) (C := RX11) (T := TX11) (N := 12) hx hb hts in_X11 hown hK hP 0 rfl rfl 8 (by decide) (hts (.fieldLink RX11 68 "TextMender" "rowBook" "LTextMender$Rows;") (List.mem_of_getElem? (i := 1) rfl)) (fun _ h9 => h9) rfl dX11_row_1 ?_
  refine lv_iload_n hx hb dX11_row_4 rfl (lv_at hl 1 rfl) ?_
  refine lv_iload_n hx hb dX11_row_5 rfl (lv_at hl 2 rfl) ?_
  have hPc := hP.sub (ws' := [(oR, .inr (9, [.ref oH, .ref oK, .ref n1, .ref n2, .ref n3, .ref f1, .ref f2, .ref f3, .ref f4, .ref f5, .ref f6, .int 0]))]) [1] rfl
  have hDc := hD.sub (ws' := [(oR, .inr (9, [.ref oH, .ref oK, .ref n1, .ref n2, .ref n3, .ref f1, .ref f2, .ref f3, .ref f4, .ref f5, .ref f6, .int 0]))]) [1] (by decide) rfl
  have hFc := va_free (wc := [(oR, .inr (9, [.ref oH, .ref oK, .ref n1, .ref n2, .ref n3, .ref f1, .ref f2, .ref f3, .ref f4, .ref f5, .ref f6, .int 0]))]) hD hS hA [1] rfl
  refine va_calli (va_runV (As := [.int i, .int wh]) (rest := []) ⟨hx, hb, hml, hown, hts⟩ (m_X9_told l dC dI cI cS s.heap.size oR oH oK n1 n2 n3 f1 f2 f3 f4 f5 f6 i wh ) (cwV 2 hts gX11_row_X9_told rfl rfl rfl (by decide +kernel) ⟨Nat.le_of_ble_eq_true rfl, Nat.le_of_ble_eq_true rfl⟩) ⟨fun a U g mk q => by obtain ⟨q0, q1, qP, qK, qD⟩ := q; exact ⟨q0, q1, qP, va_K.moved (u := U) (U := U.calling g mk a) (Vm.Alike.refl U.vm) qK, qD⟩, va_recv hK hPc (ci := 9) (q0 := 0) rfl rfl, fun U hU hW => ⟨rfl, by rw [hU], by rw [hU]; exact hPc, va_K.moved hW.alike hK, hDc.weaken (fun _ _ _ _ => trivial)⟩⟩ rfl rfl hl.1 rfl (lv_room (Nat.le_of_ble_eq_true rfl)) dX11_row_6 ⟨Nat.le_of_ble_eq_true rfl, Nat.le_of_ble_eq_true rfl⟩) hS (fun q _ h => hFc q h) hFc (fun r_1 u t H1 locs ht hvm hw hB hz1 hk1 hS => ?_)
  obtain ⟨hP, hD⟩ := va_join (wr := [(oX, .inr (11, [.ref nT, .ref nL, .ref nM, .ref oC, .ref oP, .ref oH, .ref oK, .ref oG, .ref oR, .ref oQ, .ref oW, .int (-1)]))]) (w1 := []) hP hD [1] [0] rfl rfl (by decide) (by decide) hk1 hFc p_P0 p_D0
  generalize H1 = H at hP hS ⊢
  have hP : va_P (dC, dI) vwCl [(oX, .inr (11, [.ref nT, .ref nL, .ref nM, .ref oC, .ref oP, .ref oH, .ref oK, .ref oG, .ref oR, .ref oQ, .ref oW, .int (-1)]))] H := hP
  have hD : va_D A [(oX, .inr (11, [.ref nT, .ref nL, .ref nM, .ref oC, .ref oP, .ref oH, .ref oK, .ref oG, .ref oR, .ref oQ, .ref oW, .int (-1)]))] := hD
  subst hw
  exact W.iret (v := (-1)) hx hb hr (fun t ht hW => ⟨⟨(-1), (), rfl, rfl, trivial⟩, hS.F ht⟩) (hS.2.2) dX11_row_9

set_option maxHeartbeats 4000000 in
set_option maxRecDepth 100000 in
theorem x_cost (l : Launch) (dC : Nat → ClassId) (dI : Nat → Nat → Nat) (cI cS : ClassId) (sz : Nat) (oX : Nat) (nT : Nat) (nL : Nat) (nM : Nat) (oC : Nat) (oP : Nat) (oH : Nat) (oK : Nat) (oG : Nat) (oR : Nat) (oQ : Nat) (oW : Nat) (k1 : Nat) (k2 : Nat) (w0 : Nat) (w1 : Nat) (w2 : Nat) (w3 : Nat) (w4 : Nat) (w5 : Nat) (w6 : Nat) (w7 : Nat) (w8 : Nat) (w9 : Nat) (w10 : Nat) (x : Int32) (y : Int32) (v : Int32)  : Met l yX11_cost wsX11_cost ({ frames := 3, cells := 0, slots := 0, locals := 71 } : Room) (va_Pc [.ref oX, .int x, .int y, .int v] (fun U => U.heap.size = sz ∧ va_P (dC, dI) vwCl [(oX, .inr (11, [.ref nT, .ref nL, .ref nM, .ref oC, .ref oP, .ref oH, .ref oK, .ref oG, .ref oR, .ref oQ, .ref oW, .int (-1)])), (oK, .inr (3, [.ref k1, .ref k2, .int 0])), (k1, .inl (cI, 1024, .inl (fun _ => 0))), (k2, .inl (cI, 1024, .inl (fun _ => (-1)))), (oW, .inr (1, [.ref oC, .ref oK, .ref w0, .ref w1, .ref w2, .ref w3, .ref w4, .ref w5, .ref w6, .ref w7, .ref w8, .ref w9, .ref w10, .int 0, .int 0, .int 0, .int (-1), .int (-1), .int (-1), .int (-1)]))] U.heap ∧ va_K (dC, dI) vwCl [(cI, .int), (cS, .short)] U ∧ va_D (fun _ => True) [(oX, .inr (11, [.ref nT, .ref nL, .ref nM, .ref oC, .ref oP, .ref oH, .ref oK, .ref oG, .ref oR, .ref oQ, .ref oW, .int (-1)])), (oK, .inr (3, [.ref k1, .ref k2, .int 0])), (k1, .inl (cI, 1024, .inl (fun _ => 0))), (k2, .inl (cI, 1024, .inl (fun _ => (-1)))), (oW, .inr (1, [.ref oC, .ref oK, .ref w0, .ref w1, .ref w2, .ref w3, .ref w4, .ref w5, .ref w6, .ref w7, .ref w8, .ref w9, .ref w10, .int 0, .int 0, .int 0, .int (-1), .int (-1), .int (-1), .int (-1)]))])) (va_Qi (fun (r : Int32) (_ : Unit) => r = f_cost x y v) (fun _ _ => True) (va_A [(oX, .inr (11, [.ref nT, .ref nL, .ref nM, .ref oC, .ref oP, .ref oH, .ref oK, .ref oG, .ref oR, .ref oQ, .ref oW, .int (-1)])), (oK, .inr (3, [.ref k1, .ref k2, .int 0])), (k1, .inl (cI, 1024, .inl (fun _ => 0))), (k2, .inl (cI, 1024, .inl (fun _ => (-1)))), (oW, .inr (1, [.ref oC, .ref oK, .ref w0, .ref w1, .ref w2, .ref w3, .ref w4, .ref w5, .ref w6, .ref w7, .ref w8, .ref w9, .ref w10, .int 0, .int 0, .int 0, .int (-1), .int (-1), .int (-1), .int (-1)]))] sz)) 0 0 (va_A [(oX, .inr (11, [.ref nT, .ref nL, .ref nM, .ref oC, .ref oP, .ref oH, .ref oK, .ref oG, .ref oR, .ref oQ, .ref oW, .int (-1)])), (oK, .inr (3, [.ref k1, .ref k2, .int 0])), (k1, .inl (cI, 1024, .inl (fun _ => 0))), (k2, .inl (cI, 1024, .inl (fun _ => (-1)))), (oW, .inr (1, [.ref oC, .ref oK, .ref w0, .ref w1, .ref w2, .ref w3, .ref w4, .ref w5, .ref w6, .ref w7, .ref w8, .ref w9, .ref w10, .int 0, .int 0, .int 0, .int (-1), .int (-1), .int (-1), .int (-1)]))] sz) := by
  refine Met.ofW (cc := cX11_cost) (maxL := 4) (ret := (some .boolean)) (by decide) rfl ?_
  intro p e s m args below meth c s₁ B hml hv
  obtain ⟨rfl, hsz, hP, hK, hD0⟩ := hv
  have hx := B.exec
  have hb := B.bytes
  have hr := B.returns
  have hts := atoms_spec (ws := wsX11_cost) B.pre
  have hown : s.vm.findClass RX11 = some m.cls := findClass_of_methodNamed B.named
  have hlocks := B.notSynchronized
  have in_X11 : ∀ w ∈ wsX110, w ∈ wsX11_cost := fun _ h => List.mem_cons_of_mem _ (List.mem_append_left _ (List.mem_append_left _ (List.mem_append_right _ (h))))
  subst hsz
  have hD := hD0.self (sz := s.heap.size)
  generalize hAe : va_A [(oX, .inr (11, [.ref nT, .ref nL, .ref nM, .ref oC, .ref oP, .ref oH, .ref oK, .ref oG, .ref oR, .ref oQ, .ref oW, .int (-1)])), (oK, .inr (3, [.ref k1, .ref k2, .int 0])), (k1, .inl (cI, 1024, .inl (fun _ => 0))), (k2, .inl (cI, 1024, .inl (fun _ => (-1)))), (oW, .inr (1, [.ref oC, .ref oK, .ref w0, .ref w1, .ref w2, .ref w3, .ref w4, .ref w5, .ref w6, .ref w7, .ref w8, .ref w9, .ref w10, .int 0, .int 0, .int 0, .int (-1), .int (-1), .int (-1), .int (-1)]))] s.heap.size = A at hD ⊢
  have hA : ∀ q : Nat, s.heap.size ≤ q → A q := fun q h => by rw [← hAe]; exact Or.inr h
  have hS : va_S A s.heap s.heap [] := va_S.rf
  have hP : va_P (dC, dI) vwCl [(oX, .inr (11, [.ref nT, .ref nL, .ref nM, .ref oC, .ref oP, .ref oH, .ref oK, .ref oG, .ref oR, .ref oQ, .ref oW, .int (-1)])), (oK, .inr (3, [.ref k1, .ref k2, .int 0])), (k1, .inl (cI, 1024, .inl (fun _ => 0))), (k2, .inl (cI, 1024, .inl (fun _ => (-1)))), (oW, .inr (1, [.ref oC, .ref oK, .ref w0, .ref w1, .ref w2, .ref w3, .ref w4, .ref w5, .ref w6, .ref w7, .ref w8, .ref w9, .ref w10, .int 0, .int 0, .int 0, .int (-1), .int (-1), .int (-1), .int (-1)]))] s.heap := hP
  have hl := lv_entry ([.ref oX, .int x, .int y, .int v]) (n := 4) (Nat.le_of_ble_eq_true rfl)
  rw [lg_entry_eq]
  generalize (lg_sl ([.ref oX, .int x, .int y, .int v]) ++ List.replicate (4 - (lg_sl ([.ref oX, .int x, .int y, .int v])).length) Slot.unset).toArray = ls at hl ⊢
  have hl : lv_has ls 4 [(0, .ref oX), (1, .int x), (2, .int y), (3, .int v)] := hl
  refine lv_iload_n hx hb dX11_cost_0 rfl (lv_at hl 1 rfl) ?_
  have hPc := hP.sub (ws' := []) [] rfl
  have hDc := hD.sub (ws' := []) [] (by decide) rfl
  have hFc := va_free (wc := []) hD hS hA [] rfl
  refine va_calli (va_runS (As := [.int x]) (rest := []) ⟨hx, hb, hml, hown, hts⟩ (m_X11_isLetter l dC dI cI cS s.heap.size x ) (va_cwS 1 hts gX11_cost_X11_isLetter rfl rfl rfl (by decide +kernel) ⟨Nat.le_of_ble_eq_true rfl, Nat.le_of_ble_eq_true rfl⟩) ⟨fun a U g mk q => by obtain ⟨q0, q1, qP, qK, qD⟩ := q; exact ⟨q0, q1, qP, va_K.moved (u := U) (U := U.calling g mk a) (Vm.Alike.refl U.vm) qK, qD⟩, fun U hU hW => ⟨rfl, by rw [hU], by rw [hU]; exact hPc, va_K.moved hW.alike hK, hDc.weaken (fun _ _ _ _ => trivial)⟩⟩ rfl rfl hl.1 rfl (lv_room (Nat.le_of_ble_eq_true rfl)) dX11_cost_1 ⟨Nat.le_of_ble_eq_true rfl, Nat.le_of_ble_eq_true rfl⟩) hS (fun q _ h => hFc q h) hFc (fun r_1 u t H1 locs ht hvm hw hB hz1 hk1 hS => ?_)
  obtain ⟨hP1, hD1⟩ := hB
  rw [ht] at hP1
  obtain ⟨hP, hD⟩ := va_join (wr := [(oX, .inr (11, [.ref nT, .ref nL, .ref nM, .ref oC, .ref oP, .ref oH, .ref oK, .ref oG, .ref oR, .ref oQ, .ref oW, .int (-1)])), (oK, .inr (3, [.ref k1, .ref k2, .int 0])), (k1, .inl (cI, 1024, .inl (fun _ => 0))), (k2, .inl (cI, 1024, .inl (fun _ => (-1)))), (oW, .inr (1, [.ref oC, .ref oK, .ref w0, .ref w1, .ref w2, .ref w3, .ref w4, .ref w5, .ref w6, .ref w7, .ref w8, .ref w9, .ref w10, .int 0, .int 0, .int 0, .int (-1), .int (-1), .int (-1), .int (-1)]))]) (w1 := []) hP hD [] [0, 1, 2, 3, 4] rfl rfl (by decide) (by decide) hk1 hFc hP1 hD1
  generalize H1 = H at hP hS ⊢
  have hP : va_P (dC, dI) vwCl [(oX, .inr (11, [.ref nT, .ref nL, .ref nM, .ref oC, .ref oP, .ref oH, .ref oK, .ref oG, .ref oR, .ref oQ, .ref oW, .int (-1)])), (oK, .inr (3, [.ref k1, .ref k2, .int 0])), (k1, .inl (cI, 1024, .inl (fun _ => 0))), (k2, .inl (cI, 1024, .inl (fun _ => (-1)))), (oW, .inr (1, [.ref oC, .ref oK, .ref w0, .ref w1, .ref w2, .ref w3, .ref w4, .ref w5, .ref w6, .ref w7, .ref w8, .ref w9, .ref w10, .int 0, .int 0, .int 0, .int (-1), .int (-1), .int (-1), .int (-1)]))] H := hP
  have hD : va_D A [(oX, .inr (11, [.ref nT, .ref nL, .ref nM, .ref oC, .ref oP, .ref oH, .ref oK, .ref oG, .ref oR, .ref oQ, .ref oW, .int (-1)])), (oK, .inr (3, [.ref k1, .ref k2, .int 0])), (k1, .inl (cI, 1024, .inl (fun _ => 0))), (k2, .inl (cI, 1024, .inl (fun _ => (-1)))), (oW, .inr (1, [.ref oC, .ref oK, .ref w0, .ref w1, .ref w2, .ref w3, .ref w4, .ref w5, .ref w6, .ref w7, .ref w8, .ref w9, .ref w10, .int 0, .int 0, .int 0, .int (-1), .int (-1), .int (-1), .int (-1)]))] := hD
  subst hw
  refine lv_if_eq (tgt := 27) hx hb dX11_cost_4 (by decide) (fun c_2 => ?_) (fun c_2 => ?_)
  · refine lv_iconst (v := 0) hx hb dX11_cost_27 (by decide) ?_
    exact W.zret (v := 0) (ty := .boolean) hx hb hr (rfl) (fun t ht hW => ⟨⟨0, (), rfl, by first | rfl | assumption | simp [f_cost, c_2], trivial⟩, hS.F ht⟩) (hS.2.2) dX11_cost_28
  · refine lv_iload_n hx hb dX11_cost_7 rfl (lv_at hl 2 rfl) ?_
    have hPc := hP.sub (ws' := []) [] rfl
    have hDc := hD.sub (ws' := []) [] (by decide) rfl
    have hFc := va_free (wc := []) hD hS hA [] rfl
    refine va_calli (va_runS (As := [.int y]) (rest := []) ⟨hx, hb, hml, hown, hts⟩ (m_X11_isLetter l dC dI cI cS H.size y ) (va_cwS 1 hts gX11_cost_X11_isLetter rfl rfl rfl (by decide +kernel) ⟨Nat.le_of_ble_eq_true rfl, Nat.le_of_ble_eq_true rfl⟩) ⟨fun a U g mk q => by obtain ⟨q0, q1, qP, qK, qD⟩ := q; exact ⟨q0, q1, qP, va_K.moved (u := U) (U := U.calling g mk a) (Vm.Alike.refl U.vm) qK, qD⟩, fun U hU hW => ⟨rfl, by rw [hU], by rw [hU]; exact hPc, va_K.moved hW.alike hK, hDc.weaken (fun _ _ _ _ => trivial)⟩⟩ rfl rfl hl.1 rfl (lv_room (Nat.le_of_ble_eq_true rfl)) dX11_cost_8 ⟨Nat.le_of_ble_eq_true rfl, Nat.le_of_ble_eq_true rfl⟩) hS (fun q _ h => hFc q h) hFc (fun r_3 u t H1 locs ht hvm hw hB hz1 hk1 hS => ?_)
    obtain ⟨hP1, hD1⟩ := hB
    rw [ht] at hP1
    obtain ⟨hP, hD⟩ := va_join (wr := [(oX, .inr (11, [.ref nT, .ref nL, .ref nM, .ref oC, .ref oP, .ref oH, .ref oK, .ref oG, .ref oR, .ref oQ, .ref oW, .int (-1)])), (oK, .inr (3, [.ref k1, .ref k2, .int 0])), (k1, .inl (cI, 1024, .inl (fun _ => 0))), (k2, .inl (cI, 1024, .inl (fun _ => (-1)))), (oW, .inr (1, [.ref oC, .ref oK, .ref w0, .ref w1, .ref w2, .ref w3, .ref w4, .ref w5, .ref w6, .ref w7, .ref w8, .ref w9, .ref w10, .int 0, .int 0, .int 0, .int (-1), .int (-1), .int (-1), .int (-1)]))]) (w1 := []) hP hD [] [0, 1, 2, 3, 4] rfl rfl (by decide) (by decide) hk1 hFc hP1 hD1
    generalize H1 = H at hP hS ⊢
    have hP : va_P (dC, dI) vwCl [(oX, .inr (11, [.ref nT, .ref nL, .ref nM, .ref oC, .ref oP, .ref oH, .ref oK, .ref oG, .ref oR, .ref oQ, .ref oW, .int (-1)])), (oK, .inr (3, [.ref k1, .ref k2, .int 0])), (k1, .inl (cI, 1024, .inl (fun _ => 0))), (k2, .inl (cI, 1024, .inl (fun _ => (-1)))), (oW, .inr (1, [.ref oC, .ref oK, .ref w0, .ref w1, .ref w2, .ref w3, .ref w4, .ref w5, .ref w6, .ref w7, .ref w8, .ref w9, .ref w10, .int 0, .int 0, .int 0, .int (-1), .int (-1), .int (-1), .int (-1)]))] H := hP
    have hD : va_D A [(oX, .inr (11, [.ref nT, .ref nL, .ref nM, .ref oC, .ref oP, .ref oH, .ref oK, .ref oG, .ref oR, .ref oQ, .ref oW, .int (-1)])), (oK, .inr (3, [.ref k1, .ref k2, .int 0])), (k1, .inl (cI, 1024, .inl (fun _ => 0))), (k2, .inl (cI, 1024, .inl (fun _ => (-1)))), (oW, .inr (1, [.ref oC, .ref oK, .ref w0, .ref w1, .ref w2, .ref w3, .ref w4, .ref w5, .ref w6, .ref w7, .ref w8, .ref w9, .ref w10, .int 0, .int 0, .int 0, .int (-1), .int (-1), .int (-1), .int (-1)]))] := hD
    subst hw
    refine lv_if_eq (tgt := 27) hx hb dX11_cost_11 (by decide) (fun c_4 => ?_) (fun c_4 => ?_)
    · refine lv_iconst (v := 0) hx hb dX11_cost_27 (by decide) ?_
      exact W.zret (v := 0) (ty := .boolean) hx hb hr (rfl) (fun t ht hW => ⟨⟨0, (), rfl, by first | rfl | assumption | simp [f_cost, c_2, c_4], trivial⟩, hS.F ht⟩) (hS.2.2) dX11_cost_28
    · refine lv_aload_n hx hb dX11_cost_14 rfl (lv_at hl 0 rfl) ?_
      refine va_get (D := (dC, dI)) (ci := 11) (v := .ref oK) (C := RX11) (T := TX11) (N := 12) hx hb hts in_X11 hown hK hP 0 rfl rfl 6 (by decide) (hts (.fieldLink RX11 52 "TextMender" "costs" "LTextMender$Costs;") (List.mem_of_getElem? (i := 1) rfl)) (fun _ h9 => h9) rfl dX11_cost_15 ?_
      refine lv_iload_n hx hb dX11_cost_18 rfl (lv_at hl 1 rfl) ?_
      refine lv_iload_n hx hb dX11_cost_19 rfl (lv_at hl 2 rfl) ?_
      refine lv_iload_n hx hb dX11_cost_20 rfl (lv_at hl 3 rfl) ?_
      have hPc := hP.sub (ws' := [(oK, .inr (3, [.ref k1, .ref k2, .int 0])), (k1, .inl (cI, 1024, .inl (fun _ => 0))), (k2, .inl (cI, 1024, .inl (fun _ => (-1))))]) [1, 2, 3] rfl
      have hDc := hD.sub (ws' := [(oK, .inr (3, [.ref k1, .ref k2, .int 0])), (k1, .inl (cI, 1024, .inl (fun _ => 0))), (k2, .inl (cI, 1024, .inl (fun _ => (-1))))]) [1, 2, 3] (by decide) rfl
      have hFc := va_free (wc := [(oK, .inr (3, [.ref k1, .ref k2, .int 0])), (k1, .inl (cI, 1024, .inl (fun _ => 0))), (k2, .inl (cI, 1024, .inl (fun _ => (-1))))]) hD hS hA [1, 2, 3] rfl
      refine va_calli (va_runV (As := [.int x, .int y, .int v]) (rest := []) ⟨hx, hb, hml, hown, hts⟩ (m_X3_tell l dC dI cI cS H.size oK k1 k2 x y v ) (cwV 3 hts gX11_cost_X3_tell rfl rfl rfl (by decide +kernel) ⟨Nat.le_of_ble_eq_true rfl, Nat.le_of_ble_eq_true rfl⟩) ⟨fun a U g mk q => by obtain ⟨q0, q1, qP, qK, qD⟩ := q; exact ⟨q0, q1, qP, va_K.moved (u := U) (U := U.calling g mk a) (Vm.Alike.refl U.vm) qK, qD⟩, va_recv hK hPc (ci := 3) (q0 := 0) rfl rfl, fun U hU hW => ⟨rfl, by rw [hU], by rw [hU]; exact hPc, va_K.moved hW.alike hK, hDc.weaken (fun _ _ _ _ => trivial)⟩⟩ rfl rfl hl.1 rfl (lv_room (Nat.le_of_ble_eq_true rfl)) dX11_cost_21 ⟨Nat.le_of_ble_eq_true rfl, Nat.le_of_ble_eq_true rfl⟩) hS (fun q _ h => hFc q h) hFc (fun r_5 u t H1 locs ht hvm hw hB hz1 hk1 hS => ?_)
      obtain ⟨hP, hD⟩ := va_join (wr := [(oX, .inr (11, [.ref nT, .ref nL, .ref nM, .ref oC, .ref oP, .ref oH, .ref oK, .ref oG, .ref oR, .ref oQ, .ref oW, .int (-1)])), (oW, .inr (1, [.ref oC, .ref oK, .ref w0, .ref w1, .ref w2, .ref w3, .ref w4, .ref w5, .ref w6, .ref w7, .ref w8, .ref w9, .ref w10, .int 0, .int 0, .int 0, .int (-1), .int (-1), .int (-1), .int (-1)]))]) (w1 := []) hP hD [1, 2, 3] [0, 4] rfl rfl (by decide) (by decide) hk1 hFc p_P0 p_D0
      generalize H1 = H at hP hS ⊢
      have hP : va_P (dC, dI) vwCl [(oX, .inr (11, [.ref nT, .ref nL, .ref nM, .ref oC, .ref oP, .ref oH, .ref oK, .ref oG, .ref oR, .ref oQ, .ref oW, .int (-1)])), (oW, .inr (1, [.ref oC, .ref oK, .ref w0, .ref w1, .ref w2, .ref w3, .ref w4, .ref w5, .ref w6, .ref w7, .ref w8, .ref w9, .ref w10, .int 0, .int 0, .int 0, .int (-1), .int (-1), .int (-1), .int (-1)]))] H := hP
      have hD : va_D A [(oX, .inr (11, [.ref nT, .ref nL, .ref nM, .ref oC, .ref oP, .ref oH, .ref oK, .ref oG, .ref oR, .ref oQ, .ref oW, .int (-1)])), (oW, .inr (1, [.ref oC, .ref oK, .ref w0, .ref w1, .ref w2, .ref w3, .ref w4, .ref w5, .ref w6, .ref w7, .ref w8, .ref w9, .ref w10, .int 0, .int 0, .int 0, .int (-1), .int (-1), .int (-1), .int (-1)]))] := hD
      subst hw
      refine lv_if_ne (tgt := 29) hx hb dX11_cost_24 (by decide) (fun c_6 => ?_) (fun c_6 => ?_)
      · refine lv_aload_n hx hb dX11_cost_29 rfl (lv_at hl 0 rfl) ?_
        refine va_get (D := (dC, dI)) (ci := 11) (v := .ref oW) (C := RX11) (T := TX11) (N := 12) hx hb hts in_X11 hown hK hP 0 rfl rfl 10 (by decide) (hts (.fieldLink RX11 86 "TextMender" "choiceBook" "LTextMender$Choices;") (List.mem_of_getElem? (i := 2) rfl)) (fun _ h9 => h9) rfl dX11_cost_30 ?_
        have hPc := hP.sub (ws' := [(oW, .inr (1, [.ref oC, .ref oK, .ref w0, .ref w1, .ref w2, .ref w3, .ref w4, .ref w5, .ref w6, .ref w7, .ref w8, .ref w9, .ref w10, .int 0, .int 0, .int 0, .int (-1), .int (-1), .int (-1), .int (-1)]))]) [1] rfl
        have hDc := hD.sub (ws' := [(oW, .inr (1, [.ref oC, .ref oK, .ref w0, .ref w1, .ref w2, .ref w3, .ref w4, .ref w5, .ref w6, .ref w7, .ref w8, .ref w9, .ref w10, .int 0, .int 0, .int 0, .int (-1), .int (-1), .int (-1), .int (-1)]))]) [1] (by decide) rfl
        have hFc := va_free (wc := [(oW, .inr (1, [.ref oC, .ref oK, .ref w0, .ref w1, .ref w2, .ref w3, .ref w4, .ref w5, .ref w6, .ref w7, .ref w8, .ref w9, .ref w10, .int 0, .int 0, .int 0, .int (-1), .int (-1), .int (-1), .int (-1)]))]) hD hS hA [1] rfl
        refine va_callv (va_runV (As := []) (rest := []) ⟨hx, hb, hml, hown, hts⟩ (m_X1_forgetFreshness l dC dI cI cS H.size oW oC oK w0 w1 w2 w3 w4 w5 w6 w7 w8 w9 w10 ) (cwV 0 hts gX11_cost_X1_forgetFreshness rfl rfl rfl (by decide +kernel) ⟨Nat.le_of_ble_eq_true rfl, Nat.le_of_ble_eq_true rfl⟩) ⟨fun a U g mk q => by obtain ⟨q0, q1, qP, qK, qD⟩ := q; exact ⟨q0, q1, qP, va_K.moved (u := U) (U := U.calling g mk a) (Vm.Alike.refl U.vm) qK, qD⟩, va_recv hK hPc (ci := 1) (q0 := 0) rfl rfl, fun U hU hW => ⟨rfl, by rw [hU], by rw [hU]; exact hPc, va_K.moved hW.alike hK, hDc.weaken (fun _ _ _ _ => trivial)⟩⟩ rfl rfl hl.1 rfl (lv_room (Nat.le_of_ble_eq_true rfl)) dX11_cost_33 ⟨Nat.le_of_ble_eq_true rfl, Nat.le_of_ble_eq_true rfl⟩) hS (fun q _ h => hFc q h) hFc (fun u t H1 locs ht hvm hw hB hz1 hk1 hS => ?_)
        obtain ⟨hP1, hD1⟩ := hB
        rw [ht] at hP1
        obtain ⟨hP, hD⟩ := va_join (wr := [(oX, .inr (11, [.ref nT, .ref nL, .ref nM, .ref oC, .ref oP, .ref oH, .ref oK, .ref oG, .ref oR, .ref oQ, .ref oW, .int (-1)]))]) (w1 := [(oW, .inr (1, [.ref oC, .ref oK, .ref w0, .ref w1, .ref w2, .ref w3, .ref w4, .ref w5, .ref w6, .ref w7, .ref w8, .ref w9, .ref w10, .int 0, .int 0, .int 0, .int (-1), .int (-1), .int (-1), .int (-1)]))]) hP hD [1] [0] rfl rfl (by decide) (by decide) hk1 hFc hP1 hD1
        generalize H1 = H at hP hS ⊢
        have hP : va_P (dC, dI) vwCl [(oX, .inr (11, [.ref nT, .ref nL, .ref nM, .ref oC, .ref oP, .ref oH, .ref oK, .ref oG, .ref oR, .ref oQ, .ref oW, .int (-1)])), (oW, .inr (1, [.ref oC, .ref oK, .ref w0, .ref w1, .ref w2, .ref w3, .ref w4, .ref w5, .ref w6, .ref w7, .ref w8, .ref w9, .ref w10, .int 0, .int 0, .int 0, .int (-1), .int (-1), .int (-1), .int (-1)]))] H := hP
        have hD : va_D A [(oX, .inr (11, [.ref nT, .ref nL, .ref nM, .ref oC, .ref oP, .ref oH, .ref oK, .ref oG, .ref oR, .ref oQ, .ref oW, .int (-1)])), (oW, .inr (1, [.ref oC, .ref oK, .ref w0, .ref w1, .ref w2, .ref w3, .ref w4, .ref w5, .ref w6, .ref w7, .ref w8, .ref w9, .ref w10, .int 0, .int 0, .int 0, .int (-1), .int (-1), .int (-1), .int (-1)]))] := hD
        refine lv_iconst (v := 1) hx hb dX11_cost_36 (by decide) ?_
        exact W.zret (v := 1) (ty := .boolean) hx hb hr (rfl) (fun t ht hW => ⟨⟨1, (), rfl, by first | rfl | assumption | simp [f_cost, c_2, c_4, c_6], trivial⟩, hS.F ht⟩) (hS.2.2) dX11_cost_37
      · refine lv_iconst (v := 0) hx hb dX11_cost_27 (by decide) ?_
        exact W.zret (v := 0) (ty := .boolean) hx hb hr (rfl) (fun t ht hW => ⟨⟨0, (), rfl, by first | rfl | assumption | simp [f_cost, c_2, c_4, c_6], trivial⟩, hS.F ht⟩) (hS.2.2) dX11_cost_28

set_option maxHeartbeats 4000000 in
set_option maxRecDepth 100000 in
theorem x_worth (l : Launch) (dC : Nat → ClassId) (dI : Nat → Nat → Nat) (cI cS : ClassId) (sz : Nat) (oX : Nat) (nT : Nat) (nL : Nat) (nM : Nat) (oC : Nat) (oP : Nat) (oH : Nat) (oK : Nat) (oG : Nat) (oR : Nat) (oQ : Nat) (oW : Nat) (k1 : Nat) (k2 : Nat) (aL : Nat)  : Met l yX11_worth wsX11_worth ({ frames := 4, cells := 0, slots := 0, locals := 91 } : Room) (va_Pc [.ref oX] (fun U => U.heap.size = sz ∧ va_P (dC, dI) vwCl [(oX, .inr (11, [.ref nT, .ref nL, .ref nM, .ref oC, .ref oP, .ref oH, .ref oK, .ref oG, .ref oR, .ref oQ, .ref oW, .int (-1)])), (oK, .inr (3, [.ref k1, .ref k2, .int 0])), (nL, .inr (5, [.ref aL, .int 0]))] U.heap ∧ va_K (dC, dI) vwCl [(cI, .int), (cS, .short)] U ∧ va_D (fun _ => True) [(oX, .inr (11, [.ref nT, .ref nL, .ref nM, .ref oC, .ref oP, .ref oH, .ref oK, .ref oG, .ref oR, .ref oQ, .ref oW, .int (-1)])), (oK, .inr (3, [.ref k1, .ref k2, .int 0])), (nL, .inr (5, [.ref aL, .int 0]))])) (va_Qi (fun (r : Int32) (_ : Unit) => r = 4) (fun _ _ => True) (va_A [(oX, .inr (11, [.ref nT, .ref nL, .ref nM, .ref oC, .ref oP, .ref oH, .ref oK, .ref oG, .ref oR, .ref oQ, .ref oW, .int (-1)])), (oK, .inr (3, [.ref k1, .ref k2, .int 0])), (nL, .inr (5, [.ref aL, .int 0]))] sz)) 0 0 (va_A [(oX, .inr (11, [.ref nT, .ref nL, .ref nM, .ref oC, .ref oP, .ref oH, .ref oK, .ref oG, .ref oR, .ref oQ, .ref oW, .int (-1)])), (oK, .inr (3, [.ref k1, .ref k2, .int 0])), (nL, .inr (5, [.ref aL, .int 0]))] sz) := by
  refine Met.ofW (cc := cX11_worth) (maxL := 1) (ret := (some .int)) (by decide) rfl ?_
  intro p e s m args below meth c s₁ B hml hv
  obtain ⟨rfl, hsz, hP, hK, hD0⟩ := hv
  have hx := B.exec
  have hb := B.bytes
  have hr := B.returns
  have hts := atoms_spec (ws := wsX11_worth) B.pre
  have hown : s.vm.findClass RX11 = some m.cls := findClass_of_methodNamed B.named
  have hlocks := B.notSynchronized
  have in_X11 : ∀ w ∈ wsX110, w ∈ wsX11_worth := fun _ h => List.mem_cons_of_mem _ (List.mem_append_left _ (List.mem_append_left _ (List.mem_append_right _ (h))))
  subst hsz
  have hD := hD0.self (sz := s.heap.size)
  generalize hAe : va_A [(oX, .inr (11, [.ref nT, .ref nL, .ref nM, .ref oC, .ref oP, .ref oH, .ref oK, .ref oG, .ref oR, .ref oQ, .ref oW, .int (-1)])), (oK, .inr (3, [.ref k1, .ref k2, .int 0])), (nL, .inr (5, [.ref aL, .int 0]))] s.heap.size = A at hD ⊢
  have hA : ∀ q : Nat, s.heap.size ≤ q → A q := fun q h => by rw [← hAe]; exact Or.inr h
  have hS : va_S A s.heap s.heap [] := va_S.rf
  have hP : va_P (dC, dI) vwCl [(oX, .inr (11, [.ref nT, .ref nL, .ref nM, .ref oC, .ref oP, .ref oH, .ref oK, .ref oG, .ref oR, .ref oQ, .ref oW, .int (-1)])), (oK, .inr (3, [.ref k1, .ref k2, .int 0])), (nL, .inr (5, [.ref aL, .int 0]))] s.heap := hP
  have hl := lv_entry ([.ref oX]) (n := 1) (Nat.le_of_ble_eq_true rfl)
  rw [lg_entry_eq]
  generalize (lg_sl ([.ref oX]) ++ List.replicate (1 - (lg_sl ([.ref oX])).length) Slot.unset).toArray = ls at hl ⊢
  have hl : lv_has ls 1 [(0, .ref oX)] := hl
  refine lv_aload_n hx hb dX11_worth_0 rfl (lv_at hl 0 rfl) ?_
  refine va_get (D := (dC, dI)) (ci := 11) (v := .ref oK) (C := RX11) (T := TX11) (N := 12) hx hb hts in_X11 hown hK hP 0 rfl rfl 6 (by decide) (hts (.fieldLink RX11 52 "TextMender" "costs" "LTextMender$Costs;") (List.mem_of_getElem? (i := 1) rfl)) (fun _ h9 => h9) rfl dX11_worth_1 ?_
  refine lv_aload_n hx hb dX11_worth_4 rfl (lv_at hl 0 rfl) ?_
  refine va_get (D := (dC, dI)) (ci := 11) (v := .ref nL) (C := RX11) (T := TX11) (N := 12) hx hb hts in_X11 hown hK hP 0 rfl rfl 1 (by decide) (hts (.fieldLink RX11 34 "TextMender" "letters" "LTextMender$Numbers;") (List.mem_of_getElem? (i := 2) rfl)) (fun _ h9 => h9) rfl dX11_worth_5 ?_
  have hPc := hP.sub (ws' := [(oK, .inr (3, [.ref k1, .ref k2, .int 0])), (nL, .inr (5, [.ref aL, .int 0]))]) [1, 2] rfl
  have hDc := hD.sub (ws' := [(oK, .inr (3, [.ref k1, .ref k2, .int 0])), (nL, .inr (5, [.ref aL, .int 0]))]) [1, 2] (by decide) rfl
  have hFc := va_free (wc := [(oK, .inr (3, [.ref k1, .ref k2, .int 0])), (nL, .inr (5, [.ref aL, .int 0]))]) hD hS hA [1, 2] rfl
  refine va_calli (va_runV (As := [.ref nL]) (rest := []) ⟨hx, hb, hml, hown, hts⟩ (m_X3_ofText l dC dI cI cS s.heap.size oK k1 k2 nL aL ) (cwV 1 hts gX11_worth_X3_ofText rfl rfl rfl (by decide +kernel) ⟨Nat.le_of_ble_eq_true rfl, Nat.le_of_ble_eq_true rfl⟩) ⟨fun a U g mk q => by obtain ⟨q0, q1, qP, qK, qD⟩ := q; exact ⟨q0, q1, qP, va_K.moved (u := U) (U := U.calling g mk a) (Vm.Alike.refl U.vm) qK, qD⟩, va_recv hK hPc (ci := 3) (q0 := 0) rfl rfl, fun U hU hW => ⟨rfl, by rw [hU], by rw [hU]; exact hPc, va_K.moved hW.alike hK, hDc.weaken (fun _ _ _ _ => trivial)⟩⟩ rfl rfl hl.1 rfl (lv_room (Nat.le_of_ble_eq_true rfl)) dX11_worth_8 ⟨Nat.le_of_ble_eq_true rfl, Nat.le_of_ble_eq_true rfl⟩) hS (fun q _ h => hFc q h) hFc (fun r_1 u t H1 locs ht hvm hw hB hz1 hk1 hS => ?_)
  obtain ⟨hP, hD⟩ := va_join (wr := [(oX, .inr (11, [.ref nT, .ref nL, .ref nM, .ref oC, .ref oP, .ref oH, .ref oK, .ref oG, .ref oR, .ref oQ, .ref oW, .int (-1)]))]) (w1 := []) hP hD [1, 2] [0] rfl rfl (by decide) (by decide) hk1 hFc p_P0 p_D0
  generalize H1 = H at hP hS ⊢
  have hP : va_P (dC, dI) vwCl [(oX, .inr (11, [.ref nT, .ref nL, .ref nM, .ref oC, .ref oP, .ref oH, .ref oK, .ref oG, .ref oR, .ref oQ, .ref oW, .int (-1)]))] H := hP
  have hD : va_D A [(oX, .inr (11, [.ref nT, .ref nL, .ref nM, .ref oC, .ref oP, .ref oH, .ref oK, .ref oG, .ref oR, .ref oQ, .ref oW, .int (-1)]))] := hD
  subst hw
  exact W.iret (v := 4) hx hb hr (fun t ht hW => ⟨⟨4, (), rfl, rfl, trivial⟩, hS.F ht⟩) (hS.2.2) dX11_worth_11

set_option maxHeartbeats 4000000 in
set_option maxRecDepth 100000 in
theorem x_mend (l : Launch) (dC : Nat → ClassId) (dI : Nat → Nat → Nat) (cI cS : ClassId) (sz : Nat) (oX : Nat) (nT : Nat) (nL : Nat) (nM : Nat) (oC : Nat) (oP : Nat) (oH : Nat) (oK : Nat) (oG : Nat) (oR : Nat) (oQ : Nat) (oW : Nat) (n1 : Nat) (n2 : Nat) (n3 : Nat) (f1 : Nat) (f2 : Nat) (f3 : Nat) (f4 : Nat) (f5 : Nat) (f6 : Nat) (h1 : Nat) (h2 : Nat) (n : Int32) (gn : Int32)  : Met l yX11_mend wsX11_mend ({ frames := 2, cells := 0, slots := 0, locals := 51 } : Room) (va_Pc [.ref oX, .int n, .int gn] (fun U => U.heap.size = sz ∧ va_P (dC, dI) vwCl [(oX, .inr (11, [.ref nT, .ref nL, .ref nM, .ref oC, .ref oP, .ref oH, .ref oK, .ref oG, .ref oR, .ref oQ, .ref oW, .int (-1)])), (oR, .inr (9, [.ref oH, .ref oK, .ref n1, .ref n2, .ref n3, .ref f1, .ref f2, .ref f3, .ref f4, .ref f5, .ref f6, .int 0])), (f1, .inl (cI, 258, .inl (fun _ => (-1)))), (oH, .inr (4, [.ref oP, .ref h1, .ref h2, .int 0]))] U.heap ∧ va_K (dC, dI) vwCl [(cI, .int), (cS, .short)] U ∧ va_D (fun _ => True) [(oX, .inr (11, [.ref nT, .ref nL, .ref nM, .ref oC, .ref oP, .ref oH, .ref oK, .ref oG, .ref oR, .ref oQ, .ref oW, .int (-1)])), (oR, .inr (9, [.ref oH, .ref oK, .ref n1, .ref n2, .ref n3, .ref f1, .ref f2, .ref f3, .ref f4, .ref f5, .ref f6, .int 0])), (f1, .inl (cI, 258, .inl (fun _ => (-1)))), (oH, .inr (4, [.ref oP, .ref h1, .ref h2, .int 0]))])) (va_Qi (fun (r : Int32) (_ : Unit) => r = (-1)) (fun _ _ => True) (va_A [(oX, .inr (11, [.ref nT, .ref nL, .ref nM, .ref oC, .ref oP, .ref oH, .ref oK, .ref oG, .ref oR, .ref oQ, .ref oW, .int (-1)])), (oR, .inr (9, [.ref oH, .ref oK, .ref n1, .ref n2, .ref n3, .ref f1, .ref f2, .ref f3, .ref f4, .ref f5, .ref f6, .int 0])), (f1, .inl (cI, 258, .inl (fun _ => (-1)))), (oH, .inr (4, [.ref oP, .ref h1, .ref h2, .int 0]))] sz)) 0 0 (va_A [(oX, .inr (11, [.ref nT, .ref nL, .ref nM, .ref oC, .ref oP, .ref oH, .ref oK, .ref oG, .ref oR, .ref oQ, .ref oW, .int (-1)])), (oR, .inr (9, [.ref oH, .ref oK, .ref n1, .ref n2, .ref n3, .ref f1, .ref f2, .ref f3, .ref f4, .ref f5, .ref f6, .int 0])), (f1, .inl (cI, 258, .inl (fun _ => (-1)))), (oH, .inr (4, [.ref oP, .ref h1, .ref h2, .int 0]))] sz) := by
  refine Met.ofW (cc := cX11_mend) (maxL := 4) (ret := (some .int)) (by decide) rfl ?_
  intro p e s m args below meth c s₁ B hml hv
  obtain ⟨rfl, hsz, hP, hK, hD0⟩ := hv
  have hx := B.exec
  have hb := B.bytes
  have hr := B.returns
  have hts := atoms_spec (ws := wsX11_mend) B.pre
  have hown : s.vm.findClass RX11 = some m.cls := findClass_of_methodNamed B.named
  have hlocks := B.notSynchronized
  have in_X11 : ∀ w ∈ wsX110, w ∈ wsX11_mend := fun _ h => List.mem_cons_of_mem _ (List.mem_append_left _ (List.mem_append_left _ (List.mem_append_left _ (List.mem_append_left _ (List.mem_append_left _ (List.mem_append_left _ (List.mem_append_left _ (List.mem_append_left _ (List.mem_append_left _ (List.mem_append_right _ (h)))))))))))
  subst hsz
  have hD := hD0.self (sz := s.heap.size)
  generalize hAe : va_A [(oX, .inr (11, [.ref nT, .ref nL, .ref nM, .ref oC, .ref oP, .ref oH, .ref oK, .ref oG, .ref oR, .ref oQ, .ref oW, .int (-1)])), (oR, .inr (9, [.ref oH, .ref oK, .ref n1, .ref n2, .ref n3, .ref f1, .ref f2, .ref f3, .ref f4, .ref f5, .ref f6, .int 0])), (f1, .inl (cI, 258, .inl (fun _ => (-1)))), (oH, .inr (4, [.ref oP, .ref h1, .ref h2, .int 0]))] s.heap.size = A at hD ⊢
  have hA : ∀ q : Nat, s.heap.size ≤ q → A q := fun q h => by rw [← hAe]; exact Or.inr h
  have hS : va_S A s.heap s.heap [] := va_S.rf
  have hP : va_P (dC, dI) vwCl [(oX, .inr (11, [.ref nT, .ref nL, .ref nM, .ref oC, .ref oP, .ref oH, .ref oK, .ref oG, .ref oR, .ref oQ, .ref oW, .int (-1)])), (oR, .inr (9, [.ref oH, .ref oK, .ref n1, .ref n2, .ref n3, .ref f1, .ref f2, .ref f3, .ref f4, .ref f5, .ref f6, .int 0])), (f1, .inl (cI, 258, .inl (fun _ => (-1)))), (oH, .inr (4, [.ref oP, .ref h1, .ref h2, .int 0]))] s.heap := hP
  have hl := lv_entry ([.ref oX, .int n, .int gn]) (n := 4) (Nat.le_of_ble_eq_true rfl)
  rw [lg_entry_eq]
  generalize (lg_sl ([.ref oX, .int n, .int gn]) ++ List.replicate (4 - (lg_sl ([.ref oX, .int n, .int gn])).length) Slot.unset).toArray = ls at hl ⊢
  have hl : lv_has ls 4 [(0, .ref oX), (1, .int n), (2, .int gn)] := hl
  refine lv_aload_n hx hb dX11_mend_0 rfl (lv_at hl 0 rfl) ?_
  refine lv_iconst (v := (-1)) hx hb dX11_mend_1 (by decide) ?_
  refine va_put (D := (dC, dI)) (ci := 11) (v := .int (-1)) (ty := .int) (C := RX11) (T := TX11) (N := 12) hx hb hts in_X11 tyX11 tyX11_ok nmX11 hown hK hP hD hS 0 rfl rfl 11 (by decide) (hts (.fieldLink RX11 90 "TextMender" "fault" "I") (List.mem_of_getElem? (i := 1) rfl)) (fun _ h9 => h9) rfl (by decide +kernel) rfl rfl (Nat.le_of_ble_eq_true rfl) dX11_mend_2 (fun H locs hP hD hS => ?_)
  have hP : va_P (dC, dI) vwCl [(oX, .inr (11, [.ref nT, .ref nL, .ref nM, .ref oC, .ref oP, .ref oH, .ref oK, .ref oG, .ref oR, .ref oQ, .ref oW, .int (-1)])), (oR, .inr (9, [.ref oH, .ref oK, .ref n1, .ref n2, .ref n3, .ref f1, .ref f2, .ref f3, .ref f4, .ref f5, .ref f6, .int 0])), (f1, .inl (cI, 258, .inl (fun _ => (-1)))), (oH, .inr (4, [.ref oP, .ref h1, .ref h2, .int 0]))] H := hP
  have hD : va_D A [(oX, .inr (11, [.ref nT, .ref nL, .ref nM, .ref oC, .ref oP, .ref oH, .ref oK, .ref oG, .ref oR, .ref oQ, .ref oW, .int (-1)])), (oR, .inr (9, [.ref oH, .ref oK, .ref n1, .ref n2, .ref n3, .ref f1, .ref f2, .ref f3, .ref f4, .ref f5, .ref f6, .int 0])), (f1, .inl (cI, 258, .inl (fun _ => (-1)))), (oH, .inr (4, [.ref oP, .ref h1, .ref h2, .int 0]))] := hD
  refine lv_iload_n hx hb dX11_mend_5 rfl (lv_at hl 1 rfl) ?_
  refine lv_iconst (v := 1) hx hb dX11_mend_6 (by decide) ?_
  refine lv_icmp_lt (tgt := 26) hx hb dX11_mend_7 (by decide) (fun c_1 => ?_) (fun c_1 => ?_)
  · refine lv_iconst (v := (-1)) hx hb dX11_mend_26 (by decide) ?_
    exact W.iret (v := (-1)) hx hb hr (fun t ht hW => ⟨⟨(-1), (), rfl, rfl, trivial⟩, hS.F ht⟩) (hS.2.2) dX11_mend_27
  · refine lv_iload_n hx hb dX11_mend_10 rfl (lv_at hl 1 rfl) ?_
    refine lv_iconst (v := 3) hx hb dX11_mend_11 (by decide) ?_
    refine lv_icmp_gt (tgt := 26) hx hb dX11_mend_12 (by decide) (fun c_2 => ?_) (fun c_2 => ?_)
    · refine lv_iconst (v := (-1)) hx hb dX11_mend_26 (by decide) ?_
      exact W.iret (v := (-1)) hx hb hr (fun t ht hW => ⟨⟨(-1), (), rfl, rfl, trivial⟩, hS.F ht⟩) (hS.2.2) dX11_mend_27
    · refine lv_iload_n hx hb dX11_mend_15 rfl (lv_at hl 2 rfl) ?_
      refine lv_iconst (v := 1) hx hb dX11_mend_16 (by decide) ?_
      refine lv_icmp_lt (tgt := 26) hx hb dX11_mend_17 (by decide) (fun c_3 => ?_) (fun c_3 => ?_)
      · refine lv_iconst (v := (-1)) hx hb dX11_mend_26 (by decide) ?_
        exact W.iret (v := (-1)) hx hb hr (fun t ht hW => ⟨⟨(-1), (), rfl, rfl, trivial⟩, hS.F ht⟩) (hS.2.2) dX11_mend_27
      · refine lv_iload_n hx hb dX11_mend_20 rfl (lv_at hl 2 rfl) ?_
        refine lv_ldc hx hb hown (hts (.constant RX11 214 (100000)) (List.mem_of_getElem? (i := 2) rfl)) dX11_mend_21 ?_
        refine lv_icmp_le (tgt := 28) hx hb dX11_mend_23 (by decide) (fun c_4 => ?_) (fun c_4 => ?_)
        · refine lv_aload_n hx hb dX11_mend_28 rfl (lv_at hl 0 rfl) ?_
          refine va_get (D := (dC, dI)) (ci := 11) (v := .ref oR) (C := RX11) (T := TX11) (N := 12) hx hb hts in_X11 hown hK hP 0 rfl rfl 8 (by decide) (hts (.fieldLink RX11 68 "TextMender" "rowBook" "LTextMender$Rows;") (List.mem_of_getElem? (i := 3) rfl)) (fun _ h9 => h9) rfl dX11_mend_29 ?_
          refine lv_iload_n hx hb dX11_mend_32 rfl (lv_at hl 1 rfl) ?_
          refine lv_aload_n hx hb dX11_mend_33 rfl (lv_at hl 0 rfl) ?_
          refine va_get (D := (dC, dI)) (ci := 11) (v := .ref nL) (C := RX11) (T := TX11) (N := 12) hx hb hts in_X11 hown hK hP 0 rfl rfl 1 (by decide) (hts (.fieldLink RX11 34 "TextMender" "letters" "LTextMender$Numbers;") (List.mem_of_getElem? (i := 4) rfl)) (fun _ h9 => h9) rfl dX11_mend_34 ?_
          have hPc := hP.sub (ws' := [(oR, .inr (9, [.ref oH, .ref oK, .ref n1, .ref n2, .ref n3, .ref f1, .ref f2, .ref f3, .ref f4, .ref f5, .ref f6, .int 0])), (f1, .inl (cI, 258, .inl (fun _ => (-1)))), (oH, .inr (4, [.ref oP, .ref h1, .ref h2, .int 0]))]) [1, 2, 3] rfl
          have hDc := hD.sub (ws' := [(oR, .inr (9, [.ref oH, .ref oK, .ref n1, .ref n2, .ref n3, .ref f1, .ref f2, .ref f3, .ref f4, .ref f5, .ref f6, .int 0])), (f1, .inl (cI, 258, .inl (fun _ => (-1)))), (oH, .inr (4, [.ref oP, .ref h1, .ref h2, .int 0]))]) [1, 2, 3] (by decide) rfl
          have hFc := va_free (wc := [(oR, .inr (9, [.ref oH, .ref oK, .ref n1, .ref n2, .ref n3, .ref f1, .ref f2, .ref f3, .ref f4, .ref f5, .ref f6, .int 0])), (f1, .inl (cI, 258, .inl (fun _ => (-1)))), (oH, .inr (4, [.ref oP, .ref h1, .ref h2, .int 0]))]) hD hS hA [1, 2, 3] rfl
          refine va_callv (va_runV (As := [.int n, .ref nL]) (rest := []) ⟨hx, hb, hml, hown, hts⟩ (m_X9_find l dC dI cI cS H.size oR oH oK n1 n2 n3 f1 f2 f3 f4 f5 f6 oP h1 h2 nL n ) (cwV 2 hts gX11_mend_X9_find rfl rfl rfl (by decide +kernel) ⟨Nat.le_of_ble_eq_true rfl, Nat.le_of_ble_eq_true rfl⟩) ⟨fun a U g mk q => by obtain ⟨q0, q1, qP, qK, qD⟩ := q; exact ⟨q0, q1, qP, va_K.moved (u := U) (U := U.calling g mk a) (Vm.Alike.refl U.vm) qK, qD⟩, va_recv hK hPc (ci := 9) (q0 := 0) rfl rfl, fun U hU hW => ⟨rfl, by rw [hU], by rw [hU]; exact hPc, va_K.moved hW.alike hK, hDc.weaken (fun _ _ _ _ => trivial)⟩⟩ rfl rfl hl.1 rfl (lv_room (Nat.le_of_ble_eq_true rfl)) dX11_mend_37 ⟨Nat.le_of_ble_eq_true rfl, Nat.le_of_ble_eq_true rfl⟩) hS (fun q _ h => hFc q h) hFc (fun u t H1 locs ht hvm hw hB hz1 hk1 hS => ?_)
          obtain ⟨hP1, hD1⟩ := hB
          rw [ht] at hP1
          obtain ⟨hP, hD⟩ := va_join (wr := [(oX, .inr (11, [.ref nT, .ref nL, .ref nM, .ref oC, .ref oP, .ref oH, .ref oK, .ref oG, .ref oR, .ref oQ, .ref oW, .int (-1)]))]) (w1 := [(oR, .inr (9, [.ref oH, .ref oK, .ref n1, .ref n2, .ref n3, .ref f1, .ref f2, .ref f3, .ref f4, .ref f5, .ref f6, .int 0])), (f1, .inl (cI, 258, .inl (fun _ => (-1))))]) hP hD [1, 2, 3] [0] rfl rfl (by decide) (by decide) hk1 hFc hP1 hD1
          generalize H1 = H at hP hS ⊢
          have hP : va_P (dC, dI) vwCl [(oX, .inr (11, [.ref nT, .ref nL, .ref nM, .ref oC, .ref oP, .ref oH, .ref oK, .ref oG, .ref oR, .ref oQ, .ref oW, .int (-1)])), (oR, .inr (9, [.ref oH, .ref oK, .ref n1, .ref n2, .ref n3, .ref f1, .ref f2, .ref f3, .ref f4, .ref f5, .ref f6, .int 0])), (f1, .inl (cI, 258, .inl (fun _ => (-1))))] H := hP
          have hD : va_D A [(oX, .inr (11, [.ref nT, .ref nL, .ref nM, .ref oC, .ref oP, .ref oH, .ref oK, .ref oG, .ref oR, .ref oQ, .ref oW, .int (-1)])), (oR, .inr (9, [.ref oH, .ref oK, .ref n1, .ref n2, .ref n3, .ref f1, .ref f2, .ref f3, .ref f4, .ref f5, .ref f6, .int 0])), (f1, .inl (cI, 258, .inl (fun _ => (-1))))] := hD
          refine lv_aload_n hx hb dX11_mend_40 rfl (lv_at hl 0 rfl) ?_
          refine va_get (D := (dC, dI)) (ci := 11) (v := .ref oR) (C := RX11) (T := TX11) (N := 12) hx hb hts in_X11 hown hK hP 0 rfl rfl 8 (by decide) (hts (.fieldLink RX11 68 "TextMender" "rowBook" "LTextMender$Rows;") (List.mem_of_getElem? (i := 3) rfl)) (fun _ h9 => h9) rfl dX11_mend_41 ?_
          have hPc := hP.sub (ws' := [(oR, .inr (9, [.ref oH, .ref oK, .ref n1, .ref n2, .ref n3, .ref f1, .ref f2, .ref f3, .ref f4, .ref f5, .ref f6, .int 0])), (f1, .inl (cI, 258, .inl (fun _ => (-1))))]) [1, 2] rfl
          have hDc := hD.sub (ws' := [(oR, .inr (9, [.ref oH, .ref oK, .ref n1, .ref n2, .ref n3, .ref f1, .ref f2, .ref f3, .ref f4, .ref f5, .ref f6, .int 0])), (f1, .inl (cI, 258, .inl (fun _ => (-1))))]) [1, 2] (by decide) rfl
          have hFc := va_free (wc := [(oR, .inr (9, [.ref oH, .ref oK, .ref n1, .ref n2, .ref n3, .ref f1, .ref f2, .ref f3, .ref f4, .ref f5, .ref f6, .int 0])), (f1, .inl (cI, 258, .inl (fun _ => (-1))))]) hD hS hA [1, 2] rfl
          refine va_calli (va_runV (As := []) (rest := []) ⟨hx, hb, hml, hown, hts⟩ (m_X9_cheapest l dC dI cI cS H.size oR oH oK n1 n2 n3 f1 f2 f3 f4 f5 f6 ) (cwV 0 hts gX11_mend_X9_cheapest rfl rfl rfl (by decide +kernel) ⟨Nat.le_of_ble_eq_true rfl, Nat.le_of_ble_eq_true rfl⟩) ⟨fun a U g mk q => by obtain ⟨q0, q1, qP, qK, qD⟩ := q; exact ⟨q0, q1, qP, va_K.moved (u := U) (U := U.calling g mk a) (Vm.Alike.refl U.vm) qK, qD⟩, va_recv hK hPc (ci := 9) (q0 := 0) rfl rfl, fun U hU hW => ⟨rfl, by rw [hU], by rw [hU]; exact hPc, va_K.moved hW.alike hK, hDc.weaken (fun _ _ _ _ => trivial)⟩⟩ rfl rfl hl.1 rfl (lv_room (Nat.le_of_ble_eq_true rfl)) dX11_mend_44 ⟨Nat.le_of_ble_eq_true rfl, Nat.le_of_ble_eq_true rfl⟩) hS (fun q _ h => hFc q h) hFc (fun r_6 u t H1 locs ht hvm hw hB hz1 hk1 hS => ?_)
          obtain ⟨hP, hD⟩ := va_join (wr := [(oX, .inr (11, [.ref nT, .ref nL, .ref nM, .ref oC, .ref oP, .ref oH, .ref oK, .ref oG, .ref oR, .ref oQ, .ref oW, .int (-1)]))]) (w1 := []) hP hD [1, 2] [0] rfl rfl (by decide) (by decide) hk1 hFc p_P0 p_D0
          generalize H1 = H at hP hS ⊢
          have hP : va_P (dC, dI) vwCl [(oX, .inr (11, [.ref nT, .ref nL, .ref nM, .ref oC, .ref oP, .ref oH, .ref oK, .ref oG, .ref oR, .ref oQ, .ref oW, .int (-1)]))] H := hP
          have hD : va_D A [(oX, .inr (11, [.ref nT, .ref nL, .ref nM, .ref oC, .ref oP, .ref oH, .ref oK, .ref oG, .ref oR, .ref oQ, .ref oW, .int (-1)]))] := hD
          subst hw
          refine lv_istore_n (lv' := [(3, .int (-1)), (0, .ref oX), (1, .int n), (2, .int gn)]) hx hb dX11_mend_47 rfl hl (by decide) rfl (fun ls hl => ?_)
          refine lv_iload_n hx hb dX11_mend_48 rfl (lv_at hl 0 rfl) ?_
          refine lv_iconst (v := (-1)) hx hb dX11_mend_49 (by decide) ?_
          refine lv_icmp_eq (tgt := 77) hx hb dX11_mend_50 (by decide) (fun c_7 => ?_) (fun c_7 => absurd (by decide) c_7)
          refine lv_iconst (v := (-1)) hx hb dX11_mend_77 (by decide) ?_
          exact W.iret (v := (-1)) hx hb hr (fun t ht hW => ⟨⟨(-1), (), rfl, rfl, trivial⟩, hS.F ht⟩) (hS.2.2) dX11_mend_78
        · refine lv_iconst (v := (-1)) hx hb dX11_mend_26 (by decide) ?_
          exact W.iret (v := (-1)) hx hb hr (fun t ht hW => ⟨⟨(-1), (), rfl, rfl, trivial⟩, hS.F ht⟩) (hS.2.2) dX11_mend_27

set_option maxHeartbeats 4000000 in
set_option maxRecDepth 100000 in
theorem x_parts (l : Launch) (dC : Nat → ClassId) (dI : Nat → Nat → Nat) (cI cS : ClassId) (sz : Nat) (oX : Nat) (nT : Nat) (nL : Nat) (nM : Nat) (oC : Nat) (oP : Nat) (oH : Nat) (oK : Nat) (oG : Nat) (oR : Nat) (oQ : Nat) (oW : Nat) (aL : Nat) (pr : Int32)  : Met l yX11_parts wsX11_parts ({ frames := 1, cells := 0, slots := 0, locals := 20 } : Room) (va_Pc [.ref oX, .int pr] (fun U => U.heap.size = sz ∧ va_P (dC, dI) vwCl [(oX, .inr (11, [.ref nT, .ref nL, .ref nM, .ref oC, .ref oP, .ref oH, .ref oK, .ref oG, .ref oR, .ref oQ, .ref oW, .int (-1)])), (nL, .inr (5, [.ref aL, .int 0]))] U.heap ∧ va_K (dC, dI) vwCl [(cI, .int), (cS, .short)] U ∧ va_D (fun _ => True) [(oX, .inr (11, [.ref nT, .ref nL, .ref nM, .ref oC, .ref oP, .ref oH, .ref oK, .ref oG, .ref oR, .ref oQ, .ref oW, .int (-1)])), (nL, .inr (5, [.ref aL, .int 0]))])) (va_Qi (fun (r : Int32) (_ : Unit) => r = (-1)) (fun _ _ => True) (va_A [(oX, .inr (11, [.ref nT, .ref nL, .ref nM, .ref oC, .ref oP, .ref oH, .ref oK, .ref oG, .ref oR, .ref oQ, .ref oW, .int (-1)])), (nL, .inr (5, [.ref aL, .int 0]))] sz)) 0 0 (va_A [(oX, .inr (11, [.ref nT, .ref nL, .ref nM, .ref oC, .ref oP, .ref oH, .ref oK, .ref oG, .ref oR, .ref oQ, .ref oW, .int (-1)])), (nL, .inr (5, [.ref aL, .int 0]))] sz) := by
  refine Met.ofW (cc := cX11_parts) (maxL := 3) (ret := (some .int)) (by decide) rfl ?_
  intro p e s m args below meth c s₁ B hml hv
  obtain ⟨rfl, hsz, hP, hK, hD0⟩ := hv
  have hx := B.exec
  have hb := B.bytes
  have hr := B.returns
  have hts := atoms_spec (ws := wsX11_parts) B.pre
  have hown : s.vm.findClass RX11 = some m.cls := findClass_of_methodNamed B.named
  have hlocks := B.notSynchronized
  have in_X11 : ∀ w ∈ wsX110, w ∈ wsX11_parts := fun _ h => List.mem_cons_of_mem _ (List.mem_append_left _ (List.mem_append_left _ (List.mem_append_left _ (List.mem_append_left _ (List.mem_append_left _ (List.mem_append_left _ (List.mem_append_left _ (List.mem_append_left _ (List.mem_append_left _ (List.mem_append_left _ (List.mem_append_right _ (h))))))))))))
  subst hsz
  have hD := hD0.self (sz := s.heap.size)
  generalize hAe : va_A [(oX, .inr (11, [.ref nT, .ref nL, .ref nM, .ref oC, .ref oP, .ref oH, .ref oK, .ref oG, .ref oR, .ref oQ, .ref oW, .int (-1)])), (nL, .inr (5, [.ref aL, .int 0]))] s.heap.size = A at hD ⊢
  have hA : ∀ q : Nat, s.heap.size ≤ q → A q := fun q h => by rw [← hAe]; exact Or.inr h
  have hS : va_S A s.heap s.heap [] := va_S.rf
  have hP : va_P (dC, dI) vwCl [(oX, .inr (11, [.ref nT, .ref nL, .ref nM, .ref oC, .ref oP, .ref oH, .ref oK, .ref oG, .ref oR, .ref oQ, .ref oW, .int (-1)])), (nL, .inr (5, [.ref aL, .int 0]))] s.heap := hP
  have hl := lv_entry ([.ref oX, .int pr]) (n := 3) (Nat.le_of_ble_eq_true rfl)
  rw [lg_entry_eq]
  generalize (lg_sl ([.ref oX, .int pr]) ++ List.replicate (3 - (lg_sl ([.ref oX, .int pr])).length) Slot.unset).toArray = ls at hl ⊢
  have hl : lv_has ls 3 [(0, .ref oX), (1, .int pr)] := hl
  refine lv_aload_n hx hb dX11_parts_0 rfl (lv_at hl 0 rfl) ?_
  refine lv_iconst (v := (-1)) hx hb dX11_parts_1 (by decide) ?_
  refine va_put (D := (dC, dI)) (ci := 11) (v := .int (-1)) (ty := .int) (C := RX11) (T := TX11) (N := 12) hx hb hts in_X11 tyX11 tyX11_ok nmX11 hown hK hP hD hS 0 rfl rfl 11 (by decide) (hts (.fieldLink RX11 90 "TextMender" "fault" "I") (List.mem_of_getElem? (i := 1) rfl)) (fun _ h9 => h9) rfl (by decide +kernel) rfl rfl (Nat.le_of_ble_eq_true rfl) dX11_parts_2 (fun H locs hP hD hS => ?_)
  have hP : va_P (dC, dI) vwCl [(oX, .inr (11, [.ref nT, .ref nL, .ref nM, .ref oC, .ref oP, .ref oH, .ref oK, .ref oG, .ref oR, .ref oQ, .ref oW, .int (-1)])), (nL, .inr (5, [.ref aL, .int 0]))] H := hP
  have hD : va_D A [(oX, .inr (11, [.ref nT, .ref nL, .ref nM, .ref oC, .ref oP, .ref oH, .ref oK, .ref oG, .ref oR, .ref oQ, .ref oW, .int (-1)])), (nL, .inr (5, [.ref aL, .int 0]))] := hD
  refine lv_aload_n hx hb dX11_parts_5 rfl (lv_at hl 0 rfl) ?_
  refine va_get (D := (dC, dI)) (ci := 11) (v := .ref nL) (C := RX11) (T := TX11) (N := 12) hx hb hts in_X11 hown hK hP 0 rfl rfl 1 (by decide) (hts (.fieldLink RX11 34 "TextMender" "letters" "LTextMender$Numbers;") (List.mem_of_getElem? (i := 2) rfl)) (fun _ h9 => h9) rfl dX11_parts_6 ?_
  have hPc := hP.sub (ws' := [(nL, .inr (5, [.ref aL, .int 0]))]) [1] rfl
  have hDc := hD.sub (ws' := [(nL, .inr (5, [.ref aL, .int 0]))]) [1] (by decide) rfl
  have hFc := va_free (wc := [(nL, .inr (5, [.ref aL, .int 0]))]) hD hS hA [1] rfl
  refine va_calli (va_runV (As := []) (rest := []) ⟨hx, hb, hml, hown, hts⟩ (m_X5_length l dC dI cI cS H.size nL aL 0 ) (cwV 0 hts gX11_parts_X5_length rfl rfl rfl (by decide +kernel) ⟨Nat.le_of_ble_eq_true rfl, Nat.le_of_ble_eq_true rfl⟩) ⟨fun a U g mk q => by obtain ⟨q0, q1, qP, qK, qD⟩ := q; exact ⟨q0, q1, qP, va_K.moved (u := U) (U := U.calling g mk a) (Vm.Alike.refl U.vm) qK, qD⟩, va_recv hK hPc (ci := 5) (q0 := 0) rfl rfl, fun U hU hW => ⟨rfl, by rw [hU], by rw [hU]; exact hPc, va_K.moved hW.alike hK, hDc.weaken (fun _ _ _ _ => trivial)⟩⟩ rfl rfl hl.1 rfl (lv_room (Nat.le_of_ble_eq_true rfl)) dX11_parts_9 ⟨Nat.le_of_ble_eq_true rfl, Nat.le_of_ble_eq_true rfl⟩) hS (fun q _ h => hFc q h) hFc (fun r_1 u t H1 locs ht hvm hw hB hz1 hk1 hS => ?_)
  obtain ⟨hP1, hD1⟩ := hB
  rw [ht] at hP1
  obtain ⟨hP, hD⟩ := va_join (wr := [(oX, .inr (11, [.ref nT, .ref nL, .ref nM, .ref oC, .ref oP, .ref oH, .ref oK, .ref oG, .ref oR, .ref oQ, .ref oW, .int (-1)]))]) (w1 := [(nL, .inr (5, [.ref aL, .int 0]))]) hP hD [1] [0] rfl rfl (by decide) (by decide) hk1 hFc hP1 hD1
  generalize H1 = H at hP hS ⊢
  have hP : va_P (dC, dI) vwCl [(oX, .inr (11, [.ref nT, .ref nL, .ref nM, .ref oC, .ref oP, .ref oH, .ref oK, .ref oG, .ref oR, .ref oQ, .ref oW, .int (-1)])), (nL, .inr (5, [.ref aL, .int 0]))] H := hP
  have hD : va_D A [(oX, .inr (11, [.ref nT, .ref nL, .ref nM, .ref oC, .ref oP, .ref oH, .ref oK, .ref oG, .ref oR, .ref oQ, .ref oW, .int (-1)])), (nL, .inr (5, [.ref aL, .int 0]))] := hD
  subst hw
  refine lv_if_le (tgt := 31) hx hb dX11_parts_12 (by decide) (fun c_2 => ?_) (fun c_2 => absurd (by decide) c_2)
  refine lv_iconst (v := 0) hx hb dX11_parts_31 (by decide) ?_
  refine lv_istore_n (lv' := [(2, .int 0), (0, .ref oX), (1, .int pr)]) hx hb dX11_parts_32 rfl hl (by decide) rfl (fun ls hl => ?_)
  refine lv_iload_n hx hb dX11_parts_33 rfl (lv_at hl 0 rfl) ?_
  refine lv_if_eq (tgt := 48) hx hb dX11_parts_34 (by decide) (fun c_3 => ?_) (fun c_3 => absurd (by decide) c_3)
  refine lv_iconst (v := (-1)) hx hb dX11_parts_48 (by decide) ?_
  exact W.iret (v := (-1)) hx hb hr (fun t ht hW => ⟨⟨(-1), (), rfl, rfl, trivial⟩, hS.F ht⟩) (hS.2.2) dX11_parts_49

set_option maxHeartbeats 4000000 in
set_option maxRecDepth 100000 in
theorem x_choices (l : Launch) (dC : Nat → ClassId) (dI : Nat → Nat → Nat) (cI cS : ClassId) (sz : Nat) (oX : Nat) (nT : Nat) (nL : Nat) (nM : Nat) (oC : Nat) (oP : Nat) (oH : Nat) (oK : Nat) (oG : Nat) (oR : Nat) (oQ : Nat) (oW : Nat) (aL : Nat) (a : Int32) (b : Int32)  : Met l yX11_choices wsX11_choices ({ frames := 2, cells := 0, slots := 0, locals := 42 } : Room) (va_Pc [.ref oX, .int a, .int b] (fun U => U.heap.size = sz ∧ va_P (dC, dI) vwCl [(oX, .inr (11, [.ref nT, .ref nL, .ref nM, .ref oC, .ref oP, .ref oH, .ref oK, .ref oG, .ref oR, .ref oQ, .ref oW, .int (-1)])), (nL, .inr (5, [.ref aL, .int 0]))] U.heap ∧ va_K (dC, dI) vwCl [(cI, .int), (cS, .short)] U ∧ va_D (fun _ => True) [(oX, .inr (11, [.ref nT, .ref nL, .ref nM, .ref oC, .ref oP, .ref oH, .ref oK, .ref oG, .ref oR, .ref oQ, .ref oW, .int (-1)])), (nL, .inr (5, [.ref aL, .int 0]))])) (va_Qi (fun (r : Int32) (_ : Unit) => r = (-1)) (fun _ _ => True) (va_A [(oX, .inr (11, [.ref nT, .ref nL, .ref nM, .ref oC, .ref oP, .ref oH, .ref oK, .ref oG, .ref oR, .ref oQ, .ref oW, .int (-1)])), (nL, .inr (5, [.ref aL, .int 0]))] sz)) 0 0 (va_A [(oX, .inr (11, [.ref nT, .ref nL, .ref nM, .ref oC, .ref oP, .ref oH, .ref oK, .ref oG, .ref oR, .ref oQ, .ref oW, .int (-1)])), (nL, .inr (5, [.ref aL, .int 0]))] sz) := by
  refine Met.ofW (cc := cX11_choices) (maxL := 5) (ret := (some .int)) (by decide) rfl ?_
  intro p e s m args below meth c s₁ B hml hv
  obtain ⟨rfl, hsz, hP, hK, hD0⟩ := hv
  have hx := B.exec
  have hb := B.bytes
  have hr := B.returns
  have hts := atoms_spec (ws := wsX11_choices) B.pre
  have hown : s.vm.findClass RX11 = some m.cls := findClass_of_methodNamed B.named
  have hlocks := B.notSynchronized
  have in_X11 : ∀ w ∈ wsX110, w ∈ wsX11_choices := fun _ h => List.mem_cons_of_mem _ (List.mem_append_left _ (List.mem_append_left _ (List.mem_append_left _ (List.mem_append_left _ (List.mem_append_left _ (List.mem_append_left _ (List.mem_append_right _ (h))))))))
  subst hsz
  have hD := hD0.self (sz := s.heap.size)
  generalize hAe : va_A [(oX, .inr (11, [.ref nT, .ref nL, .ref nM, .ref oC, .ref oP, .ref oH, .ref oK, .ref oG, .ref oR, .ref oQ, .ref oW, .int (-1)])), (nL, .inr (5, [.ref aL, .int 0]))] s.heap.size = A at hD ⊢
  have hA : ∀ q : Nat, s.heap.size ≤ q → A q := fun q h => by rw [← hAe]; exact Or.inr h
  have hS : va_S A s.heap s.heap [] := va_S.rf
  have hP : va_P (dC, dI) vwCl [(oX, .inr (11, [.ref nT, .ref nL, .ref nM, .ref oC, .ref oP, .ref oH, .ref oK, .ref oG, .ref oR, .ref oQ, .ref oW, .int (-1)])), (nL, .inr (5, [.ref aL, .int 0]))] s.heap := hP
  have hl := lv_entry ([.ref oX, .int a, .int b]) (n := 5) (Nat.le_of_ble_eq_true rfl)
  rw [lg_entry_eq]
  generalize (lg_sl ([.ref oX, .int a, .int b]) ++ List.replicate (5 - (lg_sl ([.ref oX, .int a, .int b])).length) Slot.unset).toArray = ls at hl ⊢
  have hl : lv_has ls 5 [(0, .ref oX), (1, .int a), (2, .int b)] := hl
  refine lv_aload_n hx hb dX11_choices_0 rfl (lv_at hl 0 rfl) ?_
  refine lv_iconst (v := (-1)) hx hb dX11_choices_1 (by decide) ?_
  refine va_put (D := (dC, dI)) (ci := 11) (v := .int (-1)) (ty := .int) (C := RX11) (T := TX11) (N := 12) hx hb hts in_X11 tyX11 tyX11_ok nmX11 hown hK hP hD hS 0 rfl rfl 11 (by decide) (hts (.fieldLink RX11 90 "TextMender" "fault" "I") (List.mem_of_getElem? (i := 1) rfl)) (fun _ h9 => h9) rfl (by decide +kernel) rfl rfl (Nat.le_of_ble_eq_true rfl) dX11_choices_2 (fun H locs hP hD hS => ?_)
  have hP : va_P (dC, dI) vwCl [(oX, .inr (11, [.ref nT, .ref nL, .ref nM, .ref oC, .ref oP, .ref oH, .ref oK, .ref oG, .ref oR, .ref oQ, .ref oW, .int (-1)])), (nL, .inr (5, [.ref aL, .int 0]))] H := hP
  have hD : va_D A [(oX, .inr (11, [.ref nT, .ref nL, .ref nM, .ref oC, .ref oP, .ref oH, .ref oK, .ref oG, .ref oR, .ref oQ, .ref oW, .int (-1)])), (nL, .inr (5, [.ref aL, .int 0]))] := hD
  refine lv_aload_n hx hb dX11_choices_5 rfl (lv_at hl 0 rfl) ?_
  refine va_get (D := (dC, dI)) (ci := 11) (v := .ref nL) (C := RX11) (T := TX11) (N := 12) hx hb hts in_X11 hown hK hP 0 rfl rfl 1 (by decide) (hts (.fieldLink RX11 34 "TextMender" "letters" "LTextMender$Numbers;") (List.mem_of_getElem? (i := 2) rfl)) (fun _ h9 => h9) rfl dX11_choices_6 ?_
  have hPc := hP.sub (ws' := [(nL, .inr (5, [.ref aL, .int 0]))]) [1] rfl
  have hDc := hD.sub (ws' := [(nL, .inr (5, [.ref aL, .int 0]))]) [1] (by decide) rfl
  have hFc := va_free (wc := [(nL, .inr (5, [.ref aL, .int 0]))]) hD hS hA [1] rfl
  refine va_calli (va_runS (As := [.ref nL]) (rest := []) ⟨hx, hb, hml, hown, hts⟩ (m_X11_marksOf l dC dI cI cS H.size nL aL ) (va_cwS 1 hts gX11_choices_X11_marksOf rfl rfl rfl (by decide +kernel) ⟨Nat.le_of_ble_eq_true rfl, Nat.le_of_ble_eq_true rfl⟩) ⟨fun a U g mk q => by obtain ⟨q0, q1, qP, qK, qD⟩ := q; exact ⟨q0, q1, qP, va_K.moved (u := U) (U := U.calling g mk a) (Vm.Alike.refl U.vm) qK, qD⟩, fun U hU hW => ⟨rfl, by rw [hU], by rw [hU]; exact hPc, va_K.moved hW.alike hK, hDc.weaken (fun _ _ _ _ => trivial)⟩⟩ rfl rfl hl.1 rfl (lv_room (Nat.le_of_ble_eq_true rfl)) dX11_choices_9 ⟨Nat.le_of_ble_eq_true rfl, Nat.le_of_ble_eq_true rfl⟩) hS (fun q _ h => hFc q h) hFc (fun r_1 u t H1 locs ht hvm hw hB hz1 hk1 hS => ?_)
  obtain ⟨hP1, hD1⟩ := hB
  rw [ht] at hP1
  obtain ⟨hP, hD⟩ := va_join (wr := [(oX, .inr (11, [.ref nT, .ref nL, .ref nM, .ref oC, .ref oP, .ref oH, .ref oK, .ref oG, .ref oR, .ref oQ, .ref oW, .int (-1)]))]) (w1 := [(nL, .inr (5, [.ref aL, .int 0]))]) hP hD [1] [0] rfl rfl (by decide) (by decide) hk1 hFc hP1 hD1
  generalize H1 = H at hP hS ⊢
  have hP : va_P (dC, dI) vwCl [(oX, .inr (11, [.ref nT, .ref nL, .ref nM, .ref oC, .ref oP, .ref oH, .ref oK, .ref oG, .ref oR, .ref oQ, .ref oW, .int (-1)])), (nL, .inr (5, [.ref aL, .int 0]))] H := hP
  have hD : va_D A [(oX, .inr (11, [.ref nT, .ref nL, .ref nM, .ref oC, .ref oP, .ref oH, .ref oK, .ref oG, .ref oR, .ref oQ, .ref oW, .int (-1)])), (nL, .inr (5, [.ref aL, .int 0]))] := hD
  subst hw
  refine lv_istore_n (lv' := [(3, .int 0), (0, .ref oX), (1, .int a), (2, .int b)]) hx hb dX11_choices_12 rfl hl (by decide) rfl (fun ls hl => ?_)
  refine lv_iload_n hx hb dX11_choices_13 rfl (lv_at hl 2 rfl) ?_
  have hPc := hP.sub (ws' := []) [] rfl
  have hDc := hD.sub (ws' := []) [] (by decide) rfl
  have hFc := va_free (wc := []) hD hS hA [] rfl
  refine va_calli (va_runS (As := [.int a]) (rest := []) ⟨hx, hb, hml, hown, hts⟩ (m_X2_known l dC dI cI cS H.size a ) (va_cwS 1 hts gX11_choices_X2_known rfl rfl rfl (by decide +kernel) ⟨Nat.le_of_ble_eq_true rfl, Nat.le_of_ble_eq_true rfl⟩) ⟨fun a U g mk q => by obtain ⟨q0, q1, qP, qK, qD⟩ := q; exact ⟨q0, q1, qP, va_K.moved (u := U) (U := U.calling g mk a) (Vm.Alike.refl U.vm) qK, qD⟩, fun U hU hW => ⟨rfl, by rw [hU], by rw [hU]; exact hPc, va_K.moved hW.alike hK, hDc.weaken (fun _ _ _ _ => trivial)⟩⟩ rfl rfl hl.1 rfl (lv_room (Nat.le_of_ble_eq_true rfl)) dX11_choices_14 ⟨Nat.le_of_ble_eq_true rfl, Nat.le_of_ble_eq_true rfl⟩) hS (fun q _ h => hFc q h) hFc (fun r_2 u t H1 locs ht hvm hw hB hz1 hk1 hS => ?_)
  obtain ⟨hP1, hD1⟩ := hB
  rw [ht] at hP1
  obtain ⟨hP, hD⟩ := va_join (wr := [(oX, .inr (11, [.ref nT, .ref nL, .ref nM, .ref oC, .ref oP, .ref oH, .ref oK, .ref oG, .ref oR, .ref oQ, .ref oW, .int (-1)])), (nL, .inr (5, [.ref aL, .int 0]))]) (w1 := []) hP hD [] [0, 1] rfl rfl (by decide) (by decide) hk1 hFc hP1 hD1
  generalize H1 = H at hP hS ⊢
  have hP : va_P (dC, dI) vwCl [(oX, .inr (11, [.ref nT, .ref nL, .ref nM, .ref oC, .ref oP, .ref oH, .ref oK, .ref oG, .ref oR, .ref oQ, .ref oW, .int (-1)])), (nL, .inr (5, [.ref aL, .int 0]))] H := hP
  have hD : va_D A [(oX, .inr (11, [.ref nT, .ref nL, .ref nM, .ref oC, .ref oP, .ref oH, .ref oK, .ref oG, .ref oR, .ref oQ, .ref oW, .int (-1)])), (nL, .inr (5, [.ref aL, .int 0]))] := hD
  subst hw
  refine lv_if_eq (tgt := 41) hx hb dX11_choices_17 (by decide) (fun c_3 => ?_) (fun c_3 => ?_)
  · refine lv_iconst (v := 0) hx hb dX11_choices_41 (by decide) ?_
    refine lv_istore (lv' := [(4, .int 0), (3, .int 0), (0, .ref oX), (1, .int a), (2, .int b)]) hx hb dX11_choices_42 hl (by decide) rfl (fun ls hl => ?_)
    refine lv_iload hx hb dX11_choices_44 (lv_at hl 0 rfl) ?_
    refine lv_if_eq (tgt := 61) hx hb dX11_choices_46 (by decide) (fun c_4 => ?_) (fun c_4 => absurd (by decide) c_4)
    refine lv_iconst (v := (-1)) hx hb dX11_choices_61 (by decide) ?_
    exact W.iret (v := (-1)) hx hb hr (fun t ht hW => ⟨⟨(-1), (), rfl, rfl, trivial⟩, hS.F ht⟩) (hS.2.2) dX11_choices_62
  · refine lv_iload_n hx hb dX11_choices_20 rfl (lv_at hl 3 rfl) ?_
    have hPc := hP.sub (ws' := []) [] rfl
    have hDc := hD.sub (ws' := []) [] (by decide) rfl
    have hFc := va_free (wc := []) hD hS hA [] rfl
    refine va_calli (va_runS (As := [.int b]) (rest := []) ⟨hx, hb, hml, hown, hts⟩ (m_X2_known l dC dI cI cS H.size b ) (va_cwS 1 hts gX11_choices_X2_known rfl rfl rfl (by decide +kernel) ⟨Nat.le_of_ble_eq_true rfl, Nat.le_of_ble_eq_true rfl⟩) ⟨fun a U g mk q => by obtain ⟨q0, q1, qP, qK, qD⟩ := q; exact ⟨q0, q1, qP, va_K.moved (u := U) (U := U.calling g mk a) (Vm.Alike.refl U.vm) qK, qD⟩, fun U hU hW => ⟨rfl, by rw [hU], by rw [hU]; exact hPc, va_K.moved hW.alike hK, hDc.weaken (fun _ _ _ _ => trivial)⟩⟩ rfl rfl hl.1 rfl (lv_room (Nat.le_of_ble_eq_true rfl)) dX11_choices_21 ⟨Nat.le_of_ble_eq_true rfl, Nat.le_of_ble_eq_true rfl⟩) hS (fun q _ h => hFc q h) hFc (fun r_5 u t H1 locs ht hvm hw hB hz1 hk1 hS => ?_)
    obtain ⟨hP1, hD1⟩ := hB
    rw [ht] at hP1
    obtain ⟨hP, hD⟩ := va_join (wr := [(oX, .inr (11, [.ref nT, .ref nL, .ref nM, .ref oC, .ref oP, .ref oH, .ref oK, .ref oG, .ref oR, .ref oQ, .ref oW, .int (-1)])), (nL, .inr (5, [.ref aL, .int 0]))]) (w1 := []) hP hD [] [0, 1] rfl rfl (by decide) (by decide) hk1 hFc hP1 hD1
    generalize H1 = H at hP hS ⊢
    have hP : va_P (dC, dI) vwCl [(oX, .inr (11, [.ref nT, .ref nL, .ref nM, .ref oC, .ref oP, .ref oH, .ref oK, .ref oG, .ref oR, .ref oQ, .ref oW, .int (-1)])), (nL, .inr (5, [.ref aL, .int 0]))] H := hP
    have hD : va_D A [(oX, .inr (11, [.ref nT, .ref nL, .ref nM, .ref oC, .ref oP, .ref oH, .ref oK, .ref oG, .ref oR, .ref oQ, .ref oW, .int (-1)])), (nL, .inr (5, [.ref aL, .int 0]))] := hD
    subst hw
    refine lv_if_eq (tgt := 41) hx hb dX11_choices_24 (by decide) (fun c_6 => ?_) (fun c_6 => ?_)
    · refine lv_iconst (v := 0) hx hb dX11_choices_41 (by decide) ?_
      refine lv_istore (lv' := [(4, .int 0), (3, .int 0), (0, .ref oX), (1, .int a), (2, .int b)]) hx hb dX11_choices_42 hl (by decide) rfl (fun ls hl => ?_)
      refine lv_iload hx hb dX11_choices_44 (lv_at hl 0 rfl) ?_
      refine lv_if_eq (tgt := 61) hx hb dX11_choices_46 (by decide) (fun c_7 => ?_) (fun c_7 => absurd (by decide) c_7)
      refine lv_iconst (v := (-1)) hx hb dX11_choices_61 (by decide) ?_
      exact W.iret (v := (-1)) hx hb hr (fun t ht hW => ⟨⟨(-1), (), rfl, rfl, trivial⟩, hS.F ht⟩) (hS.2.2) dX11_choices_62
    · refine lv_iload_n hx hb dX11_choices_27 rfl (lv_at hl 0 rfl) ?_
      refine lv_iconst (v := 1) hx hb dX11_choices_28 (by decide) ?_
      refine lv_icmp_eq (tgt := 37) hx hb dX11_choices_29 (by decide) (fun c_8 => absurd c_8 (by decide)) (fun c_8 => ?_)
      refine lv_iload_n hx hb dX11_choices_32 rfl (lv_at hl 0 rfl) ?_
      refine lv_iconst (v := 2) hx hb dX11_choices_33 (by decide) ?_
      refine lv_icmp_ne (tgt := 41) hx hb dX11_choices_34 (by decide) (fun c_9 => ?_) (fun c_9 => absurd c_9 (by decide))
      refine lv_iconst (v := 0) hx hb dX11_choices_41 (by decide) ?_
      refine lv_istore (lv' := [(4, .int 0), (3, .int 0), (0, .ref oX), (1, .int a), (2, .int b)]) hx hb dX11_choices_42 hl (by decide) rfl (fun ls hl => ?_)
      refine lv_iload hx hb dX11_choices_44 (lv_at hl 0 rfl) ?_
      refine lv_if_eq (tgt := 61) hx hb dX11_choices_46 (by decide) (fun c_10 => ?_) (fun c_10 => absurd (by decide) c_10)
      refine lv_iconst (v := (-1)) hx hb dX11_choices_61 (by decide) ?_
      exact W.iret (v := (-1)) hx hb hr (fun t ht hW => ⟨⟨(-1), (), rfl, rfl, trivial⟩, hS.F ht⟩) (hS.2.2) dX11_choices_62

set_option maxHeartbeats 4000000 in
set_option maxRecDepth 100000 in
theorem x_choice (l : Launch) (dC : Nat → ClassId) (dI : Nat → Nat → Nat) (cI cS : ClassId) (sz : Nat) (oX : Nat) (nT : Nat) (nL : Nat) (nM : Nat) (oC : Nat) (oP : Nat) (oH : Nat) (oK : Nat) (oG : Nat) (oR : Nat) (oQ : Nat) (oW : Nat) (w0 : Nat) (w1 : Nat) (w2 : Nat) (w3 : Nat) (w4 : Nat) (w5 : Nat) (w6 : Nat) (w7 : Nat) (w8 : Nat) (w9 : Nat) (w10 : Nat) (i : Int32) (wh : Int32)  : Met l yX11_choice wsX11_choice ({ frames := 1, cells := 0, slots := 0, locals := 22 } : Room) (va_Pc [.ref oX, .int i, .int wh] (fun U => U.heap.size = sz ∧ va_P (dC, dI) vwCl [(oX, .inr (11, [.ref nT, .ref nL, .ref nM, .ref oC, .ref oP, .ref oH, .ref oK, .ref oG, .ref oR, .ref oQ, .ref oW, .int (-1)])), (oW, .inr (1, [.ref oC, .ref oK, .ref w0, .ref w1, .ref w2, .ref w3, .ref w4, .ref w5, .ref w6, .ref w7, .ref w8, .ref w9, .ref w10, .int 0, .int 0, .int 0, .int (-1), .int (-1), .int (-1), .int (-1)]))] U.heap ∧ va_K (dC, dI) vwCl [(cI, .int), (cS, .short)] U ∧ va_D (fun _ => True) [(oX, .inr (11, [.ref nT, .ref nL, .ref nM, .ref oC, .ref oP, .ref oH, .ref oK, .ref oG, .ref oR, .ref oQ, .ref oW, .int (-1)])), (oW, .inr (1, [.ref oC, .ref oK, .ref w0, .ref w1, .ref w2, .ref w3, .ref w4, .ref w5, .ref w6, .ref w7, .ref w8, .ref w9, .ref w10, .int 0, .int 0, .int 0, .int (-1), .int (-1), .int (-1), .int (-1)]))])) (va_Qi (fun (r : Int32) (_ : Unit) => r = (-1)) (fun _ _ => True) (va_A [(oX, .inr (11, [.ref nT, .ref nL, .ref nM, .ref oC, .ref oP, .ref oH, .ref oK, .ref oG, .ref oR, .ref oQ, .ref oW, .int (-1)])), (oW, .inr (1, [.ref oC, .ref oK, .ref w0, .ref w1, .ref w2, .ref w3, .ref w4, .ref w5, .ref w6, .ref w7, .ref w8, .ref w9, .ref w10, .int 0, .int 0, .int 0, .int (-1), .int (-1), .int (-1), .int (-1)]))] sz)) 0 0 (va_A [(oX, .inr (11, [.ref nT, .ref nL, .ref nM, .ref oC, .ref oP, .ref oH, .ref oK, .ref oG, .ref oR, .ref oQ, .ref oW, .int (-1)])), (oW, .inr (1, [.ref oC, .ref oK, .ref w0, .ref w1, .ref w2, .ref w3, .ref w4, .ref w5, .ref w6, .ref w7, .ref w8, .ref w9, .ref w10, .int 0, .int 0, .int 0, .int (-1), .int (-1), .int (-1), .int (-1)]))] sz) := by
  refine Met.ofW (cc := cX11_choice) (maxL := 3) (ret := (some .int)) (by decide) rfl ?_
  intro p e s m args below meth c s₁ B hml hv
  obtain ⟨rfl, hsz, hP, hK, hD0⟩ := hv
  have hx := B.exec
  have hb := B.bytes
  have hr := B.returns
  have hts := atoms_spec (ws := wsX11_choice) B.pre
  have hown : s.vm.findClass RX11 = some m.cls := findClass_of_methodNamed B.named
  have hlocks := B.notSynchronized
  have in_X11 : ∀ w ∈ wsX110, w ∈ wsX11_choice := fun _ h => List.mem_cons_of_mem _ (List.mem_append_left _ (List.mem_append_right _ (h)))
  subst hsz
  have hD := hD0.self (sz := s.heap.size)
  generalize hAe : va_A [(oX, .inr (11, [.ref nT, .ref nL, .ref nM, .ref oC, .ref oP, .ref oH, .ref oK, .ref oG, .ref oR, .ref oQ, .ref oW, .int (-1)])), (oW, .inr (1, [.ref oC, .ref oK, .ref w0, .ref w1, .ref w2, .ref w3, .ref w4, .ref w5, .ref w6, .ref w7, .ref w8, .ref w9, .ref w10, .int 0, .int 0, .int 0, .int (-1), .int (-1), .int (-1), .int (-1)]))] s.heap.size = A at hD ⊢
  have hA : ∀ q : Nat, s.heap.size ≤ q → A q := fun q h => by rw [← hAe]; exact Or.inr h
  have hS : va_S A s.heap s.heap [] := va_S.rf
  have hP : va_P (dC, dI) vwCl [(oX, .inr (11, [.ref nT, .ref nL, .ref nM, .ref oC, .ref oP, .ref oH, .ref oK, .ref oG, .ref oR, .ref oQ, .ref oW, .int (-1)])), (oW, .inr (1, [.ref oC, .ref oK, .ref w0, .ref w1, .ref w2, .ref w3, .ref w4, .ref w5, .ref w6, .ref w7, .ref w8, .ref w9, .ref w10, .int 0, .int 0, .int 0, .int (-1), .int (-1), .int (-1), .int (-1)]))] s.heap := hP
  have hl := lv_entry ([.ref oX, .int i, .int wh]) (n := 3) (Nat.le_of_ble_eq_true rfl)
  rw [lg_entry_eq]
  generalize (lg_sl ([.ref oX, .int i, .int wh]) ++ List.replicate (3 - (lg_sl ([.ref oX, .int i, .int wh])).length) Slot.unset).toArray = ls at hl ⊢
  have hl : lv_has ls 3 [(0, .ref oX), (1, .int i), (2, .int wh)] := hl
  refine lv_aload_n hx hb dX11_choice_0 rfl (lv_at hl 0 rfl) ?_
  refine va_get (D := (dC, dI)) (ci := 11) (v := .ref oW) (C := RX11) (T := TX11) (N := 12) hx hb hts in_X11 hown hK hP 0 rfl rfl 10 (by decide) (hts (.fieldLink RX11 86 "TextMender" "choiceBook" "LTextMender$Choices;") (List.mem_of_getElem? (i := 1) rfl)) (fun _ h9 => h9) rfl dX11_choice_1 ?_
  refine lv_iload_n hx hb dX11_choice_4 rfl (lv_at hl 1 rfl) ?_
  refine lv_iload_n hx hb dX11_choice_5 rfl (lv_at hl 2 rfl) ?_
  have hPc := hP.sub (ws' := [(oW, .inr (1, [.ref oC, .ref oK, .ref w0, .ref w1, .ref w2, .ref w3, .ref w4, .ref w5, .ref w6, .ref w7, .ref w8, .ref w9, .ref w10, .int 0, .int 0, .int 0, .int (-1), .int (-1), .int (-1), .int (-1)]))]) [1] rfl
  have hDc := hD.sub (ws' := [(oW, .inr (1, [.ref oC, .ref oK, .ref w0, .ref w1, .ref w2, .ref w3, .ref w4, .ref w5, .ref w6, .ref w7, .ref w8, .ref w9, .ref w10, .int 0, .int 0, .int 0, .int (-1), .int (-1), .int (-1), .int (-1)]))]) [1] (by decide) rfl
  have hFc := va_free (wc := [(oW, .inr (1, [.ref oC, .ref oK, .ref w0, .ref w1, .ref w2, .ref w3, .ref w4, .ref w5, .ref w6, .ref w7, .ref w8, .ref w9, .ref w10, .int 0, .int 0, .int 0, .int (-1), .int (-1), .int (-1), .int (-1)]))]) hD hS hA [1] rfl
  refine va_calli (va_runV (As := [.int i, .int wh]) (rest := []) ⟨hx, hb, hml, hown, hts⟩ (m_X1_told l dC dI cI cS s.heap.size oW oC oK w0 w1 w2 w3 w4 w5 w6 w7 w8 w9 w10 i wh ) (cwV 2 hts gX11_choice_X1_told rfl rfl rfl (by decide +kernel) ⟨Nat.le_of_ble_eq_true rfl, Nat.le_of_ble_eq_true rfl⟩) ⟨fun a U g mk q => by obtain ⟨q0, q1, qP, qK, qD⟩ := q; exact ⟨q0, q1, qP, va_K.moved (u := U) (U := U.calling g mk a) (Vm.Alike.refl U.vm) qK, qD⟩, va_recv hK hPc (ci := 1) (q0 := 0) rfl rfl, fun U hU hW => ⟨rfl, by rw [hU], by rw [hU]; exact hPc, va_K.moved hW.alike hK, hDc.weaken (fun _ _ _ _ => trivial)⟩⟩ rfl rfl hl.1 rfl (lv_room (Nat.le_of_ble_eq_true rfl)) dX11_choice_6 ⟨Nat.le_of_ble_eq_true rfl, Nat.le_of_ble_eq_true rfl⟩) hS (fun q _ h => hFc q h) hFc (fun r_1 u t H1 locs ht hvm hw hB hz1 hk1 hS => ?_)
  obtain ⟨hP, hD⟩ := va_join (wr := [(oX, .inr (11, [.ref nT, .ref nL, .ref nM, .ref oC, .ref oP, .ref oH, .ref oK, .ref oG, .ref oR, .ref oQ, .ref oW, .int (-1)]))]) (w1 := []) hP hD [1] [0] rfl rfl (by decide) (by decide) hk1 hFc p_P0 p_D0
  generalize H1 = H at hP hS ⊢
  have hP : va_P (dC, dI) vwCl [(oX, .inr (11, [.ref nT, .ref nL, .ref nM, .ref oC, .ref oP, .ref oH, .ref oK, .ref oG, .ref oR, .ref oQ, .ref oW, .int (-1)]))] H := hP
  have hD : va_D A [(oX, .inr (11, [.ref nT, .ref nL, .ref nM, .ref oC, .ref oP, .ref oH, .ref oK, .ref oG, .ref oR, .ref oQ, .ref oW, .int (-1)]))] := hD
  subst hw
  exact W.iret (v := (-1)) hx hb hr (fun t ht hW => ⟨⟨(-1), (), rfl, rfl, trivial⟩, hS.F ht⟩) (hS.2.2) dX11_choice_9

set_option maxHeartbeats 4000000 in
set_option maxRecDepth 100000 in
theorem x_chosen (l : Launch) (dC : Nat → ClassId) (dI : Nat → Nat → Nat) (cI cS : ClassId) (sz : Nat) (oX : Nat) (nT : Nat) (nL : Nat) (nM : Nat) (oC : Nat) (oP : Nat) (oH : Nat) (oK : Nat) (oG : Nat) (oR : Nat) (oQ : Nat) (oW : Nat) (w0 : Nat) (w1 : Nat) (w2 : Nat) (w3 : Nat) (w4 : Nat) (w5 : Nat) (w6 : Nat) (w7 : Nat) (w8 : Nat) (w9 : Nat) (w10 : Nat) (i : Int32)  : Met l yX11_chosen wsX11_chosen ({ frames := 1, cells := 0, slots := 0, locals := 21 } : Room) (va_Pc [.ref oX, .int i] (fun U => U.heap.size = sz ∧ va_P (dC, dI) vwCl [(oX, .inr (11, [.ref nT, .ref nL, .ref nM, .ref oC, .ref oP, .ref oH, .ref oK, .ref oG, .ref oR, .ref oQ, .ref oW, .int (-1)])), (oW, .inr (1, [.ref oC, .ref oK, .ref w0, .ref w1, .ref w2, .ref w3, .ref w4, .ref w5, .ref w6, .ref w7, .ref w8, .ref w9, .ref w10, .int 0, .int 0, .int 0, .int (-1), .int (-1), .int (-1), .int (-1)]))] U.heap ∧ va_K (dC, dI) vwCl [(cI, .int), (cS, .short)] U ∧ va_D (fun _ => True) [(oX, .inr (11, [.ref nT, .ref nL, .ref nM, .ref oC, .ref oP, .ref oH, .ref oK, .ref oG, .ref oR, .ref oQ, .ref oW, .int (-1)])), (oW, .inr (1, [.ref oC, .ref oK, .ref w0, .ref w1, .ref w2, .ref w3, .ref w4, .ref w5, .ref w6, .ref w7, .ref w8, .ref w9, .ref w10, .int 0, .int 0, .int 0, .int (-1), .int (-1), .int (-1), .int (-1)]))])) (va_Qi (fun (r : Int32) (_ : Unit) => r = 0) (fun _ _ => True) (va_A [(oX, .inr (11, [.ref nT, .ref nL, .ref nM, .ref oC, .ref oP, .ref oH, .ref oK, .ref oG, .ref oR, .ref oQ, .ref oW, .int (-1)])), (oW, .inr (1, [.ref oC, .ref oK, .ref w0, .ref w1, .ref w2, .ref w3, .ref w4, .ref w5, .ref w6, .ref w7, .ref w8, .ref w9, .ref w10, .int 0, .int 0, .int 0, .int (-1), .int (-1), .int (-1), .int (-1)]))] sz)) 0 0 (va_A [(oX, .inr (11, [.ref nT, .ref nL, .ref nM, .ref oC, .ref oP, .ref oH, .ref oK, .ref oG, .ref oR, .ref oQ, .ref oW, .int (-1)])), (oW, .inr (1, [.ref oC, .ref oK, .ref w0, .ref w1, .ref w2, .ref w3, .ref w4, .ref w5, .ref w6, .ref w7, .ref w8, .ref w9, .ref w10, .int 0, .int 0, .int 0, .int (-1), .int (-1), .int (-1), .int (-1)]))] sz) := by
  refine Met.ofW (cc := cX11_chosen) (maxL := 2) (ret := (some .boolean)) (by decide) rfl ?_
  intro p e s m args below meth c s₁ B hml hv
  obtain ⟨rfl, hsz, hP, hK, hD0⟩ := hv
  have hx := B.exec
  have hb := B.bytes
  have hr := B.returns
  have hts := atoms_spec (ws := wsX11_chosen) B.pre
  have hown : s.vm.findClass RX11 = some m.cls := findClass_of_methodNamed B.named
  have hlocks := B.notSynchronized
  have in_X11 : ∀ w ∈ wsX110, w ∈ wsX11_chosen := fun _ h => List.mem_cons_of_mem _ (List.mem_append_left _ (List.mem_append_left _ (List.mem_append_left _ (List.mem_append_left _ (List.mem_append_left _ (List.mem_append_left _ (List.mem_append_right _ (h))))))))
  subst hsz
  have hD := hD0.self (sz := s.heap.size)
  generalize hAe : va_A [(oX, .inr (11, [.ref nT, .ref nL, .ref nM, .ref oC, .ref oP, .ref oH, .ref oK, .ref oG, .ref oR, .ref oQ, .ref oW, .int (-1)])), (oW, .inr (1, [.ref oC, .ref oK, .ref w0, .ref w1, .ref w2, .ref w3, .ref w4, .ref w5, .ref w6, .ref w7, .ref w8, .ref w9, .ref w10, .int 0, .int 0, .int 0, .int (-1), .int (-1), .int (-1), .int (-1)]))] s.heap.size = A at hD ⊢
  have hA : ∀ q : Nat, s.heap.size ≤ q → A q := fun q h => by rw [← hAe]; exact Or.inr h
  have hS : va_S A s.heap s.heap [] := va_S.rf
  have hP : va_P (dC, dI) vwCl [(oX, .inr (11, [.ref nT, .ref nL, .ref nM, .ref oC, .ref oP, .ref oH, .ref oK, .ref oG, .ref oR, .ref oQ, .ref oW, .int (-1)])), (oW, .inr (1, [.ref oC, .ref oK, .ref w0, .ref w1, .ref w2, .ref w3, .ref w4, .ref w5, .ref w6, .ref w7, .ref w8, .ref w9, .ref w10, .int 0, .int 0, .int 0, .int (-1), .int (-1), .int (-1), .int (-1)]))] s.heap := hP
  have hl := lv_entry ([.ref oX, .int i]) (n := 2) (Nat.le_of_ble_eq_true rfl)
  rw [lg_entry_eq]
  generalize (lg_sl ([.ref oX, .int i]) ++ List.replicate (2 - (lg_sl ([.ref oX, .int i])).length) Slot.unset).toArray = ls at hl ⊢
  have hl : lv_has ls 2 [(0, .ref oX), (1, .int i)] := hl
  refine lv_aload_n hx hb dX11_chosen_0 rfl (lv_at hl 0 rfl) ?_
  refine va_get (D := (dC, dI)) (ci := 11) (v := .ref oW) (C := RX11) (T := TX11) (N := 12) hx hb hts in_X11 hown hK hP 0 rfl rfl 10 (by decide) (hts (.fieldLink RX11 86 "TextMender" "choiceBook" "LTextMender$Choices;") (List.mem_of_getElem? (i := 1) rfl)) (fun _ h9 => h9) rfl dX11_chosen_1 ?_
  refine lv_iload_n hx hb dX11_chosen_4 rfl (lv_at hl 1 rfl) ?_
  have hPc := hP.sub (ws' := [(oW, .inr (1, [.ref oC, .ref oK, .ref w0, .ref w1, .ref w2, .ref w3, .ref w4, .ref w5, .ref w6, .ref w7, .ref w8, .ref w9, .ref w10, .int 0, .int 0, .int 0, .int (-1), .int (-1), .int (-1), .int (-1)]))]) [1] rfl
  have hDc := hD.sub (ws' := [(oW, .inr (1, [.ref oC, .ref oK, .ref w0, .ref w1, .ref w2, .ref w3, .ref w4, .ref w5, .ref w6, .ref w7, .ref w8, .ref w9, .ref w10, .int 0, .int 0, .int 0, .int (-1), .int (-1), .int (-1), .int (-1)]))]) [1] (by decide) rfl
  have hFc := va_free (wc := [(oW, .inr (1, [.ref oC, .ref oK, .ref w0, .ref w1, .ref w2, .ref w3, .ref w4, .ref w5, .ref w6, .ref w7, .ref w8, .ref w9, .ref w10, .int 0, .int 0, .int 0, .int (-1), .int (-1), .int (-1), .int (-1)]))]) hD hS hA [1] rfl
  refine va_calli (va_runV (As := [.int i]) (rest := []) ⟨hx, hb, hml, hown, hts⟩ (m_X1_isFresh l dC dI cI cS s.heap.size oW oC oK w0 w1 w2 w3 w4 w5 w6 w7 w8 w9 w10 i ) (cwV 1 hts gX11_chosen_X1_isFresh rfl rfl rfl (by decide +kernel) ⟨Nat.le_of_ble_eq_true rfl, Nat.le_of_ble_eq_true rfl⟩) ⟨fun a U g mk q => by obtain ⟨q0, q1, qP, qK, qD⟩ := q; exact ⟨q0, q1, qP, va_K.moved (u := U) (U := U.calling g mk a) (Vm.Alike.refl U.vm) qK, qD⟩, va_recv hK hPc (ci := 1) (q0 := 0) rfl rfl, fun U hU hW => ⟨rfl, by rw [hU], by rw [hU]; exact hPc, va_K.moved hW.alike hK, hDc.weaken (fun _ _ _ _ => trivial)⟩⟩ rfl rfl hl.1 rfl (lv_room (Nat.le_of_ble_eq_true rfl)) dX11_chosen_5 ⟨Nat.le_of_ble_eq_true rfl, Nat.le_of_ble_eq_true rfl⟩) hS (fun q _ h => hFc q h) hFc (fun r_1 u t H1 locs ht hvm hw hB hz1 hk1 hS => ?_)
  obtain ⟨hP1, hD1⟩ := hB
  rw [ht] at hP1
  obtain ⟨hP, hD⟩ := va_join (wr := [(oX, .inr (11, [.ref nT, .ref nL, .ref nM, .ref oC, .ref oP, .ref oH, .ref oK, .ref oG, .ref oR, .ref oQ, .ref oW, .int (-1)]))]) (w1 := [(oW, .inr (1, [.ref oC, .ref oK, .ref w0, .ref w1, .ref w2, .ref w3, .ref w4, .ref w5, .ref w6, .ref w7, .ref w8, .ref w9, .ref w10, .int 0, .int 0, .int 0, .int (-1), .int (-1), .int (-1), .int (-1)]))]) hP hD [1] [0] rfl rfl (by decide) (by decide) hk1 hFc hP1 hD1
  generalize H1 = H at hP hS ⊢
  have hP : va_P (dC, dI) vwCl [(oX, .inr (11, [.ref nT, .ref nL, .ref nM, .ref oC, .ref oP, .ref oH, .ref oK, .ref oG, .ref oR, .ref oQ, .ref oW, .int (-1)])), (oW, .inr (1, [.ref oC, .ref oK, .ref w0, .ref w1, .ref w2, .ref w3, .ref w4, .ref w5, .ref w6, .ref w7, .ref w8, .ref w9, .ref w10, .int 0, .int 0, .int 0, .int (-1), .int (-1), .int (-1), .int (-1)]))] H := hP
  have hD : va_D A [(oX, .inr (11, [.ref nT, .ref nL, .ref nM, .ref oC, .ref oP, .ref oH, .ref oK, .ref oG, .ref oR, .ref oQ, .ref oW, .int (-1)])), (oW, .inr (1, [.ref oC, .ref oK, .ref w0, .ref w1, .ref w2, .ref w3, .ref w4, .ref w5, .ref w6, .ref w7, .ref w8, .ref w9, .ref w10, .int 0, .int 0, .int 0, .int (-1), .int (-1), .int (-1), .int (-1)]))] := hD
  subst hw
  refine lv_if_eq (tgt := 34) hx hb dX11_chosen_8 (by decide) (fun c_2 => ?_) (fun c_2 => absurd (by decide) c_2)
  refine lv_iconst (v := 0) hx hb dX11_chosen_34 (by decide) ?_
  exact W.zret (v := 0) (ty := .boolean) hx hb hr (rfl) (fun t ht hW => ⟨⟨0, (), rfl, rfl, trivial⟩, hS.F ht⟩) (hS.2.2) dX11_chosen_35
