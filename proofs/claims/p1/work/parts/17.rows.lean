theorem p_inne {r : Int32} {n : Nat} (h : vp_in r n) : ¬ r = (-1) := fun e => by
  rw [vp_in_iff, e] at h
  exact absurd h.1 (by decide)

set_option maxHeartbeats 4000000 in
set_option maxRecDepth 100000 in
theorem m_X9_find (l : Launch) (dC : Nat → ClassId) (dI : Nat → Nat → Nat) (cI cS : ClassId) (sz : Nat) (oR : Nat) (oH : Nat) (oK : Nat) (n1 : Nat) (n2 : Nat) (n3 : Nat) (f1 : Nat) (f2 : Nat) (f3 : Nat) (f4 : Nat) (f5 : Nat) (f6 : Nat) (oP : Nat) (h1 : Nat) (h2 : Nat) (nL : Nat) (n : Int32)  : Met l yX9_find wsX9_find ({ frames := 1, cells := 0, slots := 0, locals := 23 } : Room) (va_Pc [.ref oR, .int n, .ref nL] (fun U => U.heap.size = sz ∧ va_P (dC, dI) vwCl [(oR, .inr (9, [.ref oH, .ref oK, .ref n1, .ref n2, .ref n3, .ref f1, .ref f2, .ref f3, .ref f4, .ref f5, .ref f6, .int 0])), (f1, .inl (cI, 258, .inl (fun _ => (-1)))), (oH, .inr (4, [.ref oP, .ref h1, .ref h2, .int 0]))] U.heap ∧ va_K (dC, dI) vwCl [(cI, .int), (cS, .short)] U ∧ va_D (fun _ => True) [(oR, .inr (9, [.ref oH, .ref oK, .ref n1, .ref n2, .ref n3, .ref f1, .ref f2, .ref f3, .ref f4, .ref f5, .ref f6, .int 0])), (f1, .inl (cI, 258, .inl (fun _ => (-1)))), (oH, .inr (4, [.ref oP, .ref h1, .ref h2, .int 0]))])) (va_Qv (fun (_ : Unit) => True) (fun _ t => va_P (dC, dI) vwCl [(oR, .inr (9, [.ref oH, .ref oK, .ref n1, .ref n2, .ref n3, .ref f1, .ref f2, .ref f3, .ref f4, .ref f5, .ref f6, .int 0])), (f1, .inl (cI, 258, .inl (fun _ => (-1))))] t.heap ∧ va_D (va_A [(oR, .inr (9, [.ref oH, .ref oK, .ref n1, .ref n2, .ref n3, .ref f1, .ref f2, .ref f3, .ref f4, .ref f5, .ref f6, .int 0])), (f1, .inl (cI, 258, .inl (fun _ => (-1)))), (oH, .inr (4, [.ref oP, .ref h1, .ref h2, .int 0]))] sz) [(oR, .inr (9, [.ref oH, .ref oK, .ref n1, .ref n2, .ref n3, .ref f1, .ref f2, .ref f3, .ref f4, .ref f5, .ref f6, .int 0])), (f1, .inl (cI, 258, .inl (fun _ => (-1))))]) (va_A [(oR, .inr (9, [.ref oH, .ref oK, .ref n1, .ref n2, .ref n3, .ref f1, .ref f2, .ref f3, .ref f4, .ref f5, .ref f6, .int 0])), (f1, .inl (cI, 258, .inl (fun _ => (-1)))), (oH, .inr (4, [.ref oP, .ref h1, .ref h2, .int 0]))] sz)) 0 0 (va_A [(oR, .inr (9, [.ref oH, .ref oK, .ref n1, .ref n2, .ref n3, .ref f1, .ref f2, .ref f3, .ref f4, .ref f5, .ref f6, .int 0])), (f1, .inl (cI, 258, .inl (fun _ => (-1)))), (oH, .inr (4, [.ref oP, .ref h1, .ref h2, .int 0]))] sz) := by
  refine Met.ofW (cc := cX9_find) (maxL := 9) (ret := none) (by decide) rfl ?_
  intro p e s m args below meth c s₁ B hml hv
  obtain ⟨rfl, hsz, hP, hK, hD0⟩ := hv
  have hx := B.exec
  have hb := B.bytes
  have hr := B.returns
  have hts := atoms_spec (ws := wsX9_find) B.pre
  have hown : s.vm.findClass RX9 = some m.cls := findClass_of_methodNamed B.named
  have hlocks := B.notSynchronized
  have in_X9 : ∀ w ∈ wsX90, w ∈ wsX9_find := fun _ h => List.mem_cons_of_mem _ (List.mem_append_left _ (List.mem_append_left _ (List.mem_append_left _ (List.mem_append_left _ (List.mem_append_left _ (List.mem_append_left _ (List.mem_append_right _ (h))))))))
  subst hsz
  have hD := hD0.self (sz := s.heap.size)
  generalize hAe : va_A [(oR, .inr (9, [.ref oH, .ref oK, .ref n1, .ref n2, .ref n3, .ref f1, .ref f2, .ref f3, .ref f4, .ref f5, .ref f6, .int 0])), (f1, .inl (cI, 258, .inl (fun _ => (-1)))), (oH, .inr (4, [.ref oP, .ref h1, .ref h2, .int 0]))] s.heap.size = A at hD ⊢
  have hA : ∀ q : Nat, s.heap.size ≤ q → A q := fun q h => by rw [← hAe]; exact Or.inr h
  have hS : va_S A s.heap s.heap [] := va_S.rf
  have hP : va_P (dC, dI) vwCl [(oR, .inr (9, [.ref oH, .ref oK, .ref n1, .ref n2, .ref n3, .ref f1, .ref f2, .ref f3, .ref f4, .ref f5, .ref f6, .int 0])), (f1, .inl (cI, 258, .inl (fun _ => (-1)))), (oH, .inr (4, [.ref oP, .ref h1, .ref h2, .int 0]))] s.heap := hP
  have hl := lv_entry ([.ref oR, .int n, .ref nL]) (n := 9) (Nat.le_of_ble_eq_true rfl)
  rw [lg_entry_eq]
  generalize (lg_sl ([.ref oR, .int n, .ref nL]) ++ List.replicate (9 - (lg_sl ([.ref oR, .int n, .ref nL])).length) Slot.unset).toArray = ls at hl ⊢
  have hl : lv_has ls 9 [(0, .ref oR), (1, .int n), (2, .ref nL)] := hl
  refine lv_aload_n hx hb dX9_find_0 rfl (lv_at hl 0 rfl) ?_
  refine va_get (D := (dC, dI)) (ci := 9) (v := .ref f1) (C := RX9) (T := TX9) (N := 12) hx hb hts in_X9 hown hK hP 0 rfl rfl 5 (by decide) (hts (.fieldLink RX9 26 "TextMender$Rows" "foundCost" "[I") (List.mem_of_getElem? (i := 1) rfl)) (fun _ h9 => h9) rfl dX9_find_1 ?_
  refine lv_iconst (v := (-1)) hx hb dX9_find_4 (by decide) ?_
  have hPc := hP.sub (ws' := [(f1, .inl (cI, 258, .inl (fun _ => (-1))))]) [1] rfl
  have hDc := hD.sub (ws' := [(f1, .inl (cI, 258, .inl (fun _ => (-1))))]) [1] (by decide) rfl
  have hFc := va_free (wc := [(f1, .inl (cI, 258, .inl (fun _ => (-1))))]) hD hS hA [1] rfl
  refine va_callv (va_runS (As := [.ref f1, .int (-1)]) (rest := []) ⟨hx, hb, hml, hown, hts⟩ (m_J7_fill_53178 l dC dI cI cS s.heap.size f1 258 (-1) (fun _ => (-1)) (by decide)) (va_cwS 2 hts gX9_find_J7_fill_53178 rfl rfl rfl (by decide +kernel) ⟨Nat.le_of_ble_eq_true rfl, Nat.le_of_ble_eq_true rfl⟩) ⟨fun a U g mk q => by obtain ⟨q0, q1, qP, qK, qD⟩ := q; exact ⟨q0, q1, qP, va_K.moved (u := U) (U := U.calling g mk a) (Vm.Alike.refl U.vm) qK, qD⟩, fun U hU hW => ⟨rfl, by rw [hU], by rw [hU]; exact hPc, va_K.moved hW.alike hK, hDc.weaken (fun _ _ _ _ => trivial)⟩⟩ rfl rfl hl.1 rfl (lv_room (Nat.le_of_ble_eq_true rfl)) dX9_find_5 ⟨Nat.le_of_ble_eq_true rfl, Nat.le_of_ble_eq_true rfl⟩) hS (fun q _ h => hFc q h) hFc (fun u t H1 locs ht hvm hw hB hz1 hk1 hS => ?_)
  obtain ⟨hP1, hD1⟩ := hB
  rw [ht] at hP1
  obtain ⟨hP, hD⟩ := va_join (wr := [(oR, .inr (9, [.ref oH, .ref oK, .ref n1, .ref n2, .ref n3, .ref f1, .ref f2, .ref f3, .ref f4, .ref f5, .ref f6, .int 0])), (oH, .inr (4, [.ref oP, .ref h1, .ref h2, .int 0]))]) (w1 := [(f1, .inl (cI, 258, .inl (fun _ => (-1))))]) hP hD [1] [0, 2] rfl rfl (by decide) (by decide) hk1 hFc hP1 hD1
  generalize H1 = H at hP hS ⊢
  have hP : va_P (dC, dI) vwCl [(oR, .inr (9, [.ref oH, .ref oK, .ref n1, .ref n2, .ref n3, .ref f1, .ref f2, .ref f3, .ref f4, .ref f5, .ref f6, .int 0])), (oH, .inr (4, [.ref oP, .ref h1, .ref h2, .int 0])), (f1, .inl (cI, 258, .inl (fun _ => (-1))))] H := hP
  have hD : va_D A [(oR, .inr (9, [.ref oH, .ref oK, .ref n1, .ref n2, .ref n3, .ref f1, .ref f2, .ref f3, .ref f4, .ref f5, .ref f6, .int 0])), (oH, .inr (4, [.ref oP, .ref h1, .ref h2, .int 0])), (f1, .inl (cI, 258, .inl (fun _ => (-1))))] := hD
  refine lv_aload_n hx hb dX9_find_8 rfl (lv_at hl 0 rfl) ?_
  refine va_get (D := (dC, dI)) (ci := 9) (v := .ref oH) (C := RX9) (T := TX9) (N := 12) hx hb hts in_X9 hown hK hP 0 rfl rfl 0 (by decide) (hts (.fieldLink RX9 45 "TextMender$Rows" "harms" "LTextMender$Harms;") (List.mem_of_getElem? (i := 2) rfl)) (fun _ h9 => h9) rfl dX9_find_9 ?_
  have hPc := hP.sub (ws' := [(oH, .inr (4, [.ref oP, .ref h1, .ref h2, .int 0]))]) [1] rfl
  have hDc := hD.sub (ws' := [(oH, .inr (4, [.ref oP, .ref h1, .ref h2, .int 0]))]) [1] (by decide) rfl
  have hFc := va_free (wc := [(oH, .inr (4, [.ref oP, .ref h1, .ref h2, .int 0]))]) hD hS hA [1] rfl
  refine va_calli (va_runV (As := []) (rest := []) ⟨hx, hb, hml, hown, hts⟩ (m_X4_length l dC dI cI cS H.size oH oP h1 h2 ) (cwV 0 hts gX9_find_X4_length rfl rfl rfl (by decide +kernel) ⟨Nat.le_of_ble_eq_true rfl, Nat.le_of_ble_eq_true rfl⟩) ⟨fun a U g mk q => by obtain ⟨q0, q1, qP, qK, qD⟩ := q; exact ⟨q0, q1, qP, va_K.moved (u := U) (U := U.calling g mk a) (Vm.Alike.refl U.vm) qK, qD⟩, va_recv hK hPc (ci := 4) (q0 := 0) rfl rfl, fun U hU hW => ⟨rfl, by rw [hU], by rw [hU]; exact hPc, va_K.moved hW.alike hK, hDc.weaken (fun _ _ _ _ => trivial)⟩⟩ rfl rfl hl.1 rfl (lv_room (Nat.le_of_ble_eq_true rfl)) dX9_find_12 ⟨Nat.le_of_ble_eq_true rfl, Nat.le_of_ble_eq_true rfl⟩) hS (fun q _ h => hFc q h) hFc (fun r_2 u t H1 locs ht hvm hw hB hz1 hk1 hS => ?_)
  obtain ⟨hP1, hD1⟩ := hB
  rw [ht] at hP1
  obtain ⟨hP, hD⟩ := va_join (wr := [(oR, .inr (9, [.ref oH, .ref oK, .ref n1, .ref n2, .ref n3, .ref f1, .ref f2, .ref f3, .ref f4, .ref f5, .ref f6, .int 0])), (f1, .inl (cI, 258, .inl (fun _ => (-1))))]) (w1 := [(oH, .inr (4, [.ref oP, .ref h1, .ref h2, .int 0]))]) hP hD [1] [0, 2] rfl rfl (by decide) (by decide) hk1 hFc hP1 hD1
  generalize H1 = H at hP hS ⊢
  have hP : va_P (dC, dI) vwCl [(oR, .inr (9, [.ref oH, .ref oK, .ref n1, .ref n2, .ref n3, .ref f1, .ref f2, .ref f3, .ref f4, .ref f5, .ref f6, .int 0])), (f1, .inl (cI, 258, .inl (fun _ => (-1)))), (oH, .inr (4, [.ref oP, .ref h1, .ref h2, .int 0]))] H := hP
  have hD : va_D A [(oR, .inr (9, [.ref oH, .ref oK, .ref n1, .ref n2, .ref n3, .ref f1, .ref f2, .ref f3, .ref f4, .ref f5, .ref f6, .int 0])), (f1, .inl (cI, 258, .inl (fun _ => (-1)))), (oH, .inr (4, [.ref oP, .ref h1, .ref h2, .int 0]))] := hD
  subst hw
  refine lv_istore_n (lv' := [(3, .int 0), (0, .ref oR), (1, .int n), (2, .ref nL)]) hx hb dX9_find_15 rfl hl (by decide) rfl (fun ls hl => ?_)
  refine lv_iconst (v := 0) hx hb dX9_find_16 (by decide) ?_
  refine lv_istore (lv' := [(4, .int 0), (3, .int 0), (0, .ref oR), (1, .int n), (2, .ref nL)]) hx hb dX9_find_17 hl (by decide) rfl (fun ls hl => ?_)
  refine lv_iload hx hb dX9_find_19 (lv_at hl 0 rfl) ?_
  refine lv_iload_n hx hb dX9_find_21 rfl (lv_at hl 1 rfl) ?_
  refine lv_icmp_ge (tgt := 228) hx hb dX9_find_22 (by decide) (fun c_3 => ?_) (fun c_3 => absurd (by decide) c_3)
  have hP9 := hP.sub (ws' := [(oR, .inr (9, [.ref oH, .ref oK, .ref n1, .ref n2, .ref n3, .ref f1, .ref f2, .ref f3, .ref f4, .ref f5, .ref f6, .int 0])), (f1, .inl (cI, 258, .inl (fun _ => (-1))))]) [0, 1] rfl
  have hD9 := hD.sub (ws' := [(oR, .inr (9, [.ref oH, .ref oK, .ref n1, .ref n2, .ref n3, .ref f1, .ref f2, .ref f3, .ref f4, .ref f5, .ref f6, .int 0])), (f1, .inl (cI, 258, .inl (fun _ => (-1))))]) [0, 1] (by decide) rfl
  exact W.vret hx hb hr (fun t ht hW => ⟨⟨(), rfl, trivial, by rw [ht]; exact hP9, hD9⟩, hS.F ht⟩) (hS.2.2) dX9_find_228

set_option maxHeartbeats 4000000 in
set_option maxRecDepth 100000 in
theorem m_X9_keepFound (l : Launch) (dC : Nat → ClassId) (dI : Nat → Nat → Nat) (cI cS : ClassId) (sz : Nat) (oR : Nat) (oH : Nat) (oK : Nat) (n1 : Nat) (n2 : Nat) (n3 : Nat) (f1 : Nat) (f2 : Nat) (f3 : Nat) (f4 : Nat) (f5 : Nat) (f6 : Nat)  : Met l yX9_keepFound wsX9_keepFound ({ frames := 0, cells := 0, slots := 0, locals := 0 } : Room) (va_Pc [.ref oR] (fun U => U.heap.size = sz ∧ va_P (dC, dI) vwCl [(oR, .inr (9, [.ref oH, .ref oK, .ref n1, .ref n2, .ref n3, .ref f1, .ref f2, .ref f3, .ref f4, .ref f5, .ref f6, .int 0])), (f1, .inl (cI, 258, .inl (fun _ => (-1))))] U.heap ∧ va_K (dC, dI) vwCl [(cI, .int), (cS, .short)] U ∧ va_D (fun _ => True) [(oR, .inr (9, [.ref oH, .ref oK, .ref n1, .ref n2, .ref n3, .ref f1, .ref f2, .ref f3, .ref f4, .ref f5, .ref f6, .int 0])), (f1, .inl (cI, 258, .inl (fun _ => (-1))))])) (va_Qi (fun (r : Int32) (_ : Unit) => r = 0) (fun _ _ => True) (va_A [(oR, .inr (9, [.ref oH, .ref oK, .ref n1, .ref n2, .ref n3, .ref f1, .ref f2, .ref f3, .ref f4, .ref f5, .ref f6, .int 0])), (f1, .inl (cI, 258, .inl (fun _ => (-1))))] sz)) 0 0 (va_A [(oR, .inr (9, [.ref oH, .ref oK, .ref n1, .ref n2, .ref n3, .ref f1, .ref f2, .ref f3, .ref f4, .ref f5, .ref f6, .int 0])), (f1, .inl (cI, 258, .inl (fun _ => (-1))))] sz) := by
  refine Met.ofW (cc := cX9_keepFound) (maxL := 3) (ret := (some .int)) (by decide) rfl ?_
  intro p e s m args below meth c s₁ B hml hv
  obtain ⟨rfl, hsz, hP, hK, hD0⟩ := hv
  have hx := B.exec
  have hb := B.bytes
  have hr := B.returns
  have hts := atoms_spec (ws := wsX9_keepFound) B.pre
  have hown : s.vm.findClass RX9 = some m.cls := findClass_of_methodNamed B.named
  have hlocks := B.notSynchronized
  have in_X9 : ∀ w ∈ wsX90, w ∈ wsX9_keepFound := fun _ h => List.mem_cons_of_mem _ (List.mem_append_right _ (h))
  subst hsz
  have hD := hD0.self (sz := s.heap.size)
  generalize hAe : va_A [(oR, .inr (9, [.ref oH, .ref oK, .ref n1, .ref n2, .ref n3, .ref f1, .ref f2, .ref f3, .ref f4, .ref f5, .ref f6, .int 0])), (f1, .inl (cI, 258, .inl (fun _ => (-1))))] s.heap.size = A at hD ⊢
  have hA : ∀ q : Nat, s.heap.size ≤ q → A q := fun q h => by rw [← hAe]; exact Or.inr h
  have hS : va_S A s.heap s.heap [] := va_S.rf
  have hP : va_P (dC, dI) vwCl [(oR, .inr (9, [.ref oH, .ref oK, .ref n1, .ref n2, .ref n3, .ref f1, .ref f2, .ref f3, .ref f4, .ref f5, .ref f6, .int 0])), (f1, .inl (cI, 258, .inl (fun _ => (-1))))] s.heap := hP
  have hl := lv_entry ([.ref oR]) (n := 3) (Nat.le_of_ble_eq_true rfl)
  rw [lg_entry_eq]
  generalize (lg_sl ([.ref oR]) ++ List.replicate (3 - (lg_sl ([.ref oR])).length) Slot.unset).toArray = ls at hl ⊢
  have hl : lv_has ls 3 [(0, .ref oR)] := hl
  refine lv_aload_n hx hb dX9_keepFound_0 rfl (lv_at hl 0 rfl) ?_
  refine lv_iconst (v := 0) hx hb dX9_keepFound_1 (by decide) ?_
  refine va_put (D := (dC, dI)) (ci := 9) (v := .int 0) (ty := .int) (C := RX9) (T := TX9) (N := 12) hx hb hts in_X9 tyX9 tyX9_ok nmX9 hown hK hP hD hS 0 rfl rfl 11 (by decide) (hts (.fieldLink RX9 59 "TextMender$Rows" "told" "I") (List.mem_of_getElem? (i := 1) rfl)) (fun _ h9 => h9) rfl (by decide +kernel) rfl rfl (Nat.le_of_ble_eq_true rfl) dX9_keepFound_2 (fun H locs hP hD hS => ?_)
  have hP : va_P (dC, dI) vwCl [(oR, .inr (9, [.ref oH, .ref oK, .ref n1, .ref n2, .ref n3, .ref f1, .ref f2, .ref f3, .ref f4, .ref f5, .ref f6, .int 0])), (f1, .inl (cI, 258, .inl (fun _ => (-1))))] H := hP
  have hD : va_D A [(oR, .inr (9, [.ref oH, .ref oK, .ref n1, .ref n2, .ref n3, .ref f1, .ref f2, .ref f3, .ref f4, .ref f5, .ref f6, .int 0])), (f1, .inl (cI, 258, .inl (fun _ => (-1))))] := hD
  refine lv_iconst (v := 0) hx hb dX9_keepFound_5 (by decide) ?_
  refine lv_istore_n (lv' := [(1, .int 0), (0, .ref oR)]) hx hb dX9_keepFound_6 rfl hl (by decide) rfl (fun ls hl => ?_)
  have LOOP_7 : ∀ (k_7 i_7 : Nat) (xc_7 : Int32)  (H : Heap) (locs : List Loc) (ls : Array Slot), i_7 + k_7 = 258 → xc_7 = nI i_7 →  va_P (dC, dI) vwCl [(oR, .inr (9, [.ref oH, .ref oK, .ref n1, .ref n2, .ref n3, .ref f1, .ref f2, .ref f3, .ref f4, .ref f5, .ref f6, .int 0])), (f1, .inl (cI, 258, .inl (fun _ => (-1))))] H → va_D A [(oR, .inr (9, [.ref oH, .ref oK, .ref n1, .ref n2, .ref n3, .ref f1, .ref f2, .ref f3, .ref f4, .ref f5, .ref f6, .int 0])), (f1, .inl (cI, 258, .inl (fun _ => (-1))))] → va_S A s.heap H locs → lv_has ls 3 [(1, .int xc_7), (0, .ref oR)] → W p l e (headSpec wsX9_keepFound ({ frames := 0, cells := 0, slots := 0, locals := 0 } : Room)).room s m ([.ref oR] : List Value).toArray below meth c H locs 0 0 (MQ below (va_Qi (fun (r : Int32) (_ : Unit) => r = 0) (fun _ _ => True) A) ([.ref oR] : List Value).toArray s 0 0 A) (F0 m 7 ls []) := by
    intro k_7
    induction k_7 with
    | zero =>
      intro i_7 xc_7  H locs ls hi_7 hxc_7  hP hD hS hl
      have hi2_7 : i_7 = 258 := by omega
      refine lv_iload_n hx hb dX9_keepFound_7 rfl (lv_at hl 0 rfl) ?_
      refine lv_sipush (v := 258) hx hb dX9_keepFound_8 (by decide) ?_
      refine lv_icmp_ge (tgt := 106) hx hb dX9_keepFound_11 (by decide) (fun c_1 => ?_) (fun c_1 => absurd (by rw [hxc_7]; exact nI_le (a := 258) (b := i_7) (by omega) (by rw [hi2_7]; exact (by decide))) c_1)
      refine lv_aload_n hx hb dX9_keepFound_106 rfl (lv_at hl 1 rfl) ?_
      refine va_get (D := (dC, dI)) (ci := 9) (v := .int 0) (C := RX9) (T := TX9) (N := 12) hx hb hts in_X9 hown hK hP 0 rfl rfl 11 (by decide) (hts (.fieldLink RX9 59 "TextMender$Rows" "told" "I") (List.mem_of_getElem? (i := 1) rfl)) (fun _ h9 => h9) rfl dX9_keepFound_107 ?_
      exact W.iret (v := 0) hx hb hr (fun t ht hW => ⟨⟨0, (), rfl, rfl, trivial⟩, hS.F ht⟩) (hS.2.2) dX9_keepFound_110
    | succ k_7 ih_7 =>
      intro i_7 xc_7  H locs ls hi_7 hxc_7  hP hD hS hl
      refine lv_iload_n hx hb dX9_keepFound_7 rfl (lv_at hl 0 rfl) ?_
      refine lv_sipush (v := 258) hx hb dX9_keepFound_8 (by decide) ?_
      refine lv_icmp_ge (tgt := 106) hx hb dX9_keepFound_11 (by decide) (fun c_2 => absurd c_2 (by rw [hxc_7]; exact nI_ge (a := i_7) (b := 258) (by omega) (by decide))) (fun c_2 => ?_)
      refine lv_aload_n hx hb dX9_keepFound_14 rfl (lv_at hl 1 rfl) ?_
      refine va_get (D := (dC, dI)) (ci := 9) (v := .ref f1) (C := RX9) (T := TX9) (N := 12) hx hb hts in_X9 hown hK hP 0 rfl rfl 5 (by decide) (hts (.fieldLink RX9 26 "TextMender$Rows" "foundCost" "[I") (List.mem_of_getElem? (i := 2) rfl)) (fun _ h9 => h9) rfl dX9_keepFound_15 ?_
      refine lv_iload_n hx hb dX9_keepFound_18 rfl (lv_at hl 0 rfl) ?_
      refine va_iald hx hb hK hP 1 0 rfl rfl (by rw [hxc_7]; exact vp_in_nI (by omega) (by decide)) dX9_keepFound_19 ?_
      refine k_i (y := (-1)) rfl ?_
      refine lv_iconst (v := (-1)) hx hb dX9_keepFound_20 (by decide) ?_
      refine lv_icmp_eq (tgt := 100) hx hb dX9_keepFound_21 (by decide) (fun c_3 => ?_) (fun c_3 => absurd (by decide) c_3)
      obtain ⟨x_4, ex_4⟩ : ∃ y : Int32, y = xc_7 + 1 := ⟨_, rfl⟩
      refine lv_iinc (v := x_4) (lv' := [(1, .int x_4), (0, .ref oR)]) hx hb dX9_keepFound_100 hl (k := 0) rfl (by rw [ex_4]; rfl) (by decide) rfl (fun ls hl => ?_)
      refine lv_goto (tgt := 7) hx hb dX9_keepFound_103 (by decide) ?_
      exact ih_7 (i_7 + 1) x_4  _ _ _ (by omega) (by rw [ex_4, hxc_7]; exact nI_1 i_7)  hP hD hS (lv_sub hl [0, 1] rfl)
  exact LOOP_7 258 0 0  _ _ _ (by omega) nI_0.symm  hP hD hS (lv_sub hl [0, 1] rfl)

set_option maxHeartbeats 4000000 in
set_option maxRecDepth 100000 in
theorem m_X9_cheapest (l : Launch) (dC : Nat → ClassId) (dI : Nat → Nat → Nat) (cI cS : ClassId) (sz : Nat) (oR : Nat) (oH : Nat) (oK : Nat) (n1 : Nat) (n2 : Nat) (n3 : Nat) (f1 : Nat) (f2 : Nat) (f3 : Nat) (f4 : Nat) (f5 : Nat) (f6 : Nat)  : Met l yX9_cheapest wsX9_cheapest ({ frames := 0, cells := 0, slots := 0, locals := 0 } : Room) (va_Pc [.ref oR] (fun U => U.heap.size = sz ∧ va_P (dC, dI) vwCl [(oR, .inr (9, [.ref oH, .ref oK, .ref n1, .ref n2, .ref n3, .ref f1, .ref f2, .ref f3, .ref f4, .ref f5, .ref f6, .int 0])), (f1, .inl (cI, 258, .inl (fun _ => (-1))))] U.heap ∧ va_K (dC, dI) vwCl [(cI, .int), (cS, .short)] U ∧ va_D (fun _ => True) [(oR, .inr (9, [.ref oH, .ref oK, .ref n1, .ref n2, .ref n3, .ref f1, .ref f2, .ref f3, .ref f4, .ref f5, .ref f6, .int 0])), (f1, .inl (cI, 258, .inl (fun _ => (-1))))])) (va_Qi (fun (r : Int32) (_ : Unit) => r = (-1)) (fun _ _ => True) (va_A [(oR, .inr (9, [.ref oH, .ref oK, .ref n1, .ref n2, .ref n3, .ref f1, .ref f2, .ref f3, .ref f4, .ref f5, .ref f6, .int 0])), (f1, .inl (cI, 258, .inl (fun _ => (-1))))] sz)) 0 0 (va_A [(oR, .inr (9, [.ref oH, .ref oK, .ref n1, .ref n2, .ref n3, .ref f1, .ref f2, .ref f3, .ref f4, .ref f5, .ref f6, .int 0])), (f1, .inl (cI, 258, .inl (fun _ => (-1))))] sz) := by
  refine Met.ofW (cc := cX9_cheapest) (maxL := 3) (ret := (some .int)) (by decide) rfl ?_
  intro p e s m args below meth c s₁ B hml hv
  obtain ⟨rfl, hsz, hP, hK, hD0⟩ := hv
  have hx := B.exec
  have hb := B.bytes
  have hr := B.returns
  have hts := atoms_spec (ws := wsX9_cheapest) B.pre
  have hown : s.vm.findClass RX9 = some m.cls := findClass_of_methodNamed B.named
  have hlocks := B.notSynchronized
  have in_X9 : ∀ w ∈ wsX90, w ∈ wsX9_cheapest := fun _ h => List.mem_cons_of_mem _ (List.mem_append_right _ (h))
  subst hsz
  have hD := hD0.self (sz := s.heap.size)
  generalize hAe : va_A [(oR, .inr (9, [.ref oH, .ref oK, .ref n1, .ref n2, .ref n3, .ref f1, .ref f2, .ref f3, .ref f4, .ref f5, .ref f6, .int 0])), (f1, .inl (cI, 258, .inl (fun _ => (-1))))] s.heap.size = A at hD ⊢
  have hA : ∀ q : Nat, s.heap.size ≤ q → A q := fun q h => by rw [← hAe]; exact Or.inr h
  have hS : va_S A s.heap s.heap [] := va_S.rf
  have hP : va_P (dC, dI) vwCl [(oR, .inr (9, [.ref oH, .ref oK, .ref n1, .ref n2, .ref n3, .ref f1, .ref f2, .ref f3, .ref f4, .ref f5, .ref f6, .int 0])), (f1, .inl (cI, 258, .inl (fun _ => (-1))))] s.heap := hP
  have hl := lv_entry ([.ref oR]) (n := 3) (Nat.le_of_ble_eq_true rfl)
  rw [lg_entry_eq]
  generalize (lg_sl ([.ref oR]) ++ List.replicate (3 - (lg_sl ([.ref oR])).length) Slot.unset).toArray = ls at hl ⊢
  have hl : lv_has ls 3 [(0, .ref oR)] := hl
  refine lv_iconst (v := (-1)) hx hb dX9_cheapest_0 (by decide) ?_
  refine lv_istore_n (lv' := [(1, .int (-1)), (0, .ref oR)]) hx hb dX9_cheapest_1 rfl hl (by decide) rfl (fun ls hl => ?_)
  refine lv_iconst (v := 0) hx hb dX9_cheapest_2 (by decide) ?_
  refine lv_istore_n (lv' := [(2, .int 0), (1, .int (-1)), (0, .ref oR)]) hx hb dX9_cheapest_3 rfl hl (by decide) rfl (fun ls hl => ?_)
  have LOOP_4 : ∀ (k_4 i_4 : Nat) (xc_4 : Int32)  (H : Heap) (locs : List Loc) (ls : Array Slot), i_4 + k_4 = 258 → xc_4 = nI i_4 →  va_P (dC, dI) vwCl [(oR, .inr (9, [.ref oH, .ref oK, .ref n1, .ref n2, .ref n3, .ref f1, .ref f2, .ref f3, .ref f4, .ref f5, .ref f6, .int 0])), (f1, .inl (cI, 258, .inl (fun _ => (-1))))] H → va_D A [(oR, .inr (9, [.ref oH, .ref oK, .ref n1, .ref n2, .ref n3, .ref f1, .ref f2, .ref f3, .ref f4, .ref f5, .ref f6, .int 0])), (f1, .inl (cI, 258, .inl (fun _ => (-1))))] → va_S A s.heap H locs → lv_has ls 3 [(2, .int xc_4), (1, .int (-1)), (0, .ref oR)] → W p l e (headSpec wsX9_cheapest ({ frames := 0, cells := 0, slots := 0, locals := 0 } : Room)).room s m ([.ref oR] : List Value).toArray below meth c H locs 0 0 (MQ below (va_Qi (fun (r : Int32) (_ : Unit) => r = (-1)) (fun _ _ => True) A) ([.ref oR] : List Value).toArray s 0 0 A) (F0 m 4 ls []) := by
    intro k_4
    induction k_4 with
    | zero =>
      intro i_4 xc_4  H locs ls hi_4 hxc_4  hP hD hS hl
      have hi2_4 : i_4 = 258 := by omega
      refine lv_iload_n hx hb dX9_cheapest_4 rfl (lv_at hl 0 rfl) ?_
      refine lv_sipush (v := 258) hx hb dX9_cheapest_5 (by decide) ?_
      refine lv_icmp_ge (tgt := 49) hx hb dX9_cheapest_8 (by decide) (fun c_1 => ?_) (fun c_1 => absurd (by rw [hxc_4]; exact nI_le (a := 258) (b := i_4) (by omega) (by rw [hi2_4]; exact (by decide))) c_1)
      refine lv_iload_n hx hb dX9_cheapest_49 rfl (lv_at hl 1 rfl) ?_
      exact W.iret (v := (-1)) hx hb hr (fun t ht hW => ⟨⟨(-1), (), rfl, rfl, trivial⟩, hS.F ht⟩) (hS.2.2) dX9_cheapest_50
    | succ k_4 ih_4 =>
      intro i_4 xc_4  H locs ls hi_4 hxc_4  hP hD hS hl
      refine lv_iload_n hx hb dX9_cheapest_4 rfl (lv_at hl 0 rfl) ?_
      refine lv_sipush (v := 258) hx hb dX9_cheapest_5 (by decide) ?_
      refine lv_icmp_ge (tgt := 49) hx hb dX9_cheapest_8 (by decide) (fun c_2 => absurd c_2 (by rw [hxc_4]; exact nI_ge (a := i_4) (b := 258) (by omega) (by decide))) (fun c_2 => ?_)
      refine lv_aload_n hx hb dX9_cheapest_11 rfl (lv_at hl 2 rfl) ?_
      refine va_get (D := (dC, dI)) (ci := 9) (v := .ref f1) (C := RX9) (T := TX9) (N := 12) hx hb hts in_X9 hown hK hP 0 rfl rfl 5 (by decide) (hts (.fieldLink RX9 26 "TextMender$Rows" "foundCost" "[I") (List.mem_of_getElem? (i := 1) rfl)) (fun _ h9 => h9) rfl dX9_cheapest_12 ?_
      refine lv_iload_n hx hb dX9_cheapest_15 rfl (lv_at hl 0 rfl) ?_
      refine va_iald hx hb hK hP 1 0 rfl rfl (by rw [hxc_4]; exact vp_in_nI (by omega) (by decide)) dX9_cheapest_16 ?_
      refine k_i (y := (-1)) rfl ?_
      refine lv_iconst (v := (-1)) hx hb dX9_cheapest_17 (by decide) ?_
      refine lv_icmp_eq (tgt := 43) hx hb dX9_cheapest_18 (by decide) (fun c_3 => ?_) (fun c_3 => absurd (by decide) c_3)
      obtain ⟨x_4, ex_4⟩ : ∃ y : Int32, y = xc_4 + 1 := ⟨_, rfl⟩
      refine lv_iinc (v := x_4) (lv' := [(2, .int x_4), (1, .int (-1)), (0, .ref oR)]) hx hb dX9_cheapest_43 hl (k := 0) rfl (by rw [ex_4]; rfl) (by decide) rfl (fun ls hl => ?_)
      refine lv_goto (tgt := 4) hx hb dX9_cheapest_46 (by decide) ?_
      exact ih_4 (i_4 + 1) x_4  _ _ _ (by omega) (by rw [ex_4, hxc_4]; exact nI_1 i_4)  hP hD hS (lv_sub hl [0, 1, 2] rfl)
  exact LOOP_4 258 0 0  _ _ _ (by omega) nI_0.symm  hP hD hS (lv_sub hl [0, 1, 2] rfl)

set_option maxHeartbeats 4000000 in
set_option maxRecDepth 100000 in
theorem m_X3_placeFor (l : Launch) (dC : Nat → ClassId) (dI : Nat → Nat → Nat) (cI cS : ClassId) (sz : Nat) (oK : Nat) (k1 : Nat) (k2 : Nat) (x : Int32) (y : Int32)  : Met l yX3_placeFor wsX3_placeFor ({ frames := 1, cells := 0, slots := 0, locals := 21 } : Room) (va_Pc [.ref oK, .int x, .int y] (fun U => U.heap.size = sz ∧ va_P (dC, dI) vwCl [(oK, .inr (3, [.ref k1, .ref k2, .int 0])), (k1, .inl (cI, 1024, .inl (fun _ => 0))), (k2, .inl (cI, 1024, .inl (fun _ => (-1))))] U.heap ∧ va_K (dC, dI) vwCl [(cI, .int), (cS, .short)] U ∧ va_D (fun _ => True) [(oK, .inr (3, [.ref k1, .ref k2, .int 0])), (k1, .inl (cI, 1024, .inl (fun _ => 0))), (k2, .inl (cI, 1024, .inl (fun _ => (-1))))])) (va_Qi (fun (r : Int32) (_ : Unit) => vp_in r 1024) (fun _ t => va_P (dC, dI) vwCl [(oK, .inr (3, [.ref k1, .ref k2, .int 0])), (k1, .inl (cI, 1024, .inl (fun _ => 0))), (k2, .inl (cI, 1024, .inl (fun _ => (-1))))] t.heap ∧ va_D (va_A [(oK, .inr (3, [.ref k1, .ref k2, .int 0])), (k1, .inl (cI, 1024, .inl (fun _ => 0))), (k2, .inl (cI, 1024, .inl (fun _ => (-1))))] sz) [(oK, .inr (3, [.ref k1, .ref k2, .int 0])), (k1, .inl (cI, 1024, .inl (fun _ => 0))), (k2, .inl (cI, 1024, .inl (fun _ => (-1))))]) (va_A [(oK, .inr (3, [.ref k1, .ref k2, .int 0])), (k1, .inl (cI, 1024, .inl (fun _ => 0))), (k2, .inl (cI, 1024, .inl (fun _ => (-1))))] sz)) 0 0 (va_A [(oK, .inr (3, [.ref k1, .ref k2, .int 0])), (k1, .inl (cI, 1024, .inl (fun _ => 0))), (k2, .inl (cI, 1024, .inl (fun _ => (-1))))] sz) := by
  refine Met.ofW (cc := cX3_placeFor) (maxL := 7) (ret := (some .int)) (by decide) rfl ?_
  intro p e s m args below meth c s₁ B hml hv
  obtain ⟨rfl, hsz, hP, hK, hD0⟩ := hv
  have hx := B.exec
  have hb := B.bytes
  have hr := B.returns
  have hts := atoms_spec (ws := wsX3_placeFor) B.pre
  have hown : s.vm.findClass RX3 = some m.cls := findClass_of_methodNamed B.named
  have hlocks := B.notSynchronized
  have in_X3 : ∀ w ∈ wsX30, w ∈ wsX3_placeFor := fun _ h => List.mem_cons_of_mem _ (List.mem_append_right _ (h))
  subst hsz
  have hD := hD0.self (sz := s.heap.size)
  generalize hAe : va_A [(oK, .inr (3, [.ref k1, .ref k2, .int 0])), (k1, .inl (cI, 1024, .inl (fun _ => 0))), (k2, .inl (cI, 1024, .inl (fun _ => (-1))))] s.heap.size = A at hD ⊢
  have hA : ∀ q : Nat, s.heap.size ≤ q → A q := fun q h => by rw [← hAe]; exact Or.inr h
  have hS : va_S A s.heap s.heap [] := va_S.rf
  have hP : va_P (dC, dI) vwCl [(oK, .inr (3, [.ref k1, .ref k2, .int 0])), (k1, .inl (cI, 1024, .inl (fun _ => 0))), (k2, .inl (cI, 1024, .inl (fun _ => (-1))))] s.heap := hP
  have hl := lv_entry ([.ref oK, .int x, .int y]) (n := 7) (Nat.le_of_ble_eq_true rfl)
  rw [lg_entry_eq]
  generalize (lg_sl ([.ref oK, .int x, .int y]) ++ List.replicate (7 - (lg_sl ([.ref oK, .int x, .int y])).length) Slot.unset).toArray = ls at hl ⊢
  have hl : lv_has ls 7 [(0, .ref oK), (1, .int x), (2, .int y)] := hl
  refine lv_iload_n hx hb dX3_placeFor_0 rfl (lv_at hl 1 rfl) ?_
  refine lv_iload_n hx hb dX3_placeFor_1 rfl (lv_at hl 2 rfl) ?_
  have hPc := hP.sub (ws' := []) [] rfl
  have hDc := hD.sub (ws' := []) [] (by decide) rfl
  have hFc := va_free (wc := []) hD hS hA [] rfl
  refine va_calli (va_runS (As := [.int x, .int y]) (rest := []) ⟨hx, hb, hml, hown, hts⟩ (m_X3_pairOf l dC dI cI cS s.heap.size x y ) (va_cwS 2 hts gX3_placeFor_X3_pairOf rfl rfl rfl (by decide +kernel) ⟨Nat.le_of_ble_eq_true rfl, Nat.le_of_ble_eq_true rfl⟩) ⟨fun a U g mk q => by obtain ⟨q0, q1, qP, qK, qD⟩ := q; exact ⟨q0, q1, qP, va_K.moved (u := U) (U := U.calling g mk a) (Vm.Alike.refl U.vm) qK, qD⟩, fun U hU hW => ⟨rfl, by rw [hU], by rw [hU]; exact hPc, va_K.moved hW.alike hK, hDc.weaken (fun _ _ _ _ => trivial)⟩⟩ rfl rfl hl.1 rfl (lv_room (Nat.le_of_ble_eq_true rfl)) dX3_placeFor_2 ⟨Nat.le_of_ble_eq_true rfl, Nat.le_of_ble_eq_true rfl⟩) hS (fun q _ h => hFc q h) hFc (fun r_1 u t H1 locs ht hvm hw hB hz1 hk1 hS => ?_)
  obtain ⟨hP1, hD1⟩ := hB
  rw [ht] at hP1
  obtain ⟨hP, hD⟩ := va_join (wr := [(oK, .inr (3, [.ref k1, .ref k2, .int 0])), (k1, .inl (cI, 1024, .inl (fun _ => 0))), (k2, .inl (cI, 1024, .inl (fun _ => (-1))))]) (w1 := []) hP hD [] [0, 1, 2] rfl rfl (by decide) (by decide) hk1 hFc hP1 hD1
  generalize H1 = H at hP hS ⊢
  have hP : va_P (dC, dI) vwCl [(oK, .inr (3, [.ref k1, .ref k2, .int 0])), (k1, .inl (cI, 1024, .inl (fun _ => 0))), (k2, .inl (cI, 1024, .inl (fun _ => (-1))))] H := hP
  have hD : va_D A [(oK, .inr (3, [.ref k1, .ref k2, .int 0])), (k1, .inl (cI, 1024, .inl (fun _ => 0))), (k2, .inl (cI, 1024, .inl (fun _ => (-1))))] := hD
  subst hw
  refine lv_istore_n (lv' := [(3, .int (p_pair x y)), (0, .ref oK), (1, .int x), (2, .int y)]) hx hb dX3_placeFor_5 rfl hl (by decide) rfl (fun ls hl => ?_)
  refine lv_iload_n hx hb dX3_placeFor_6 rfl (lv_at hl 0 rfl) ?_
  refine lv_ldc hx hb hown (hts (.constant RX3 53 (-1640531535)) (List.mem_of_getElem? (i := 1) rfl)) dX3_placeFor_7 ?_
  refine lv_imul hx hb dX3_placeFor_9 ?_
  refine lv_topi (fun x_2 ex_2 => ?_)
  refine lv_bipush (v := 22) hx hb dX3_placeFor_10 (by decide) ?_
  obtain ⟨x_3, ex_3⟩ : ∃ v : Int32, v = ((x_2 : Int32).toUInt32 >>> ((22 : Int32).toUInt32 &&& Int32.toUInt32 31)).toInt32 := ⟨_, rfl⟩
  refine lv_iushr (v := x_3) hx hb dX3_placeFor_12 ex_3.symm ?_
  refine lv_istore (lv' := [(4, .int x_3), (3, .int (p_pair x y)), (0, .ref oK), (1, .int x), (2, .int y)]) hx hb dX3_placeFor_13 hl (by decide) rfl (fun ls hl => ?_)
  refine lv_iconst (v := 0) hx hb dX3_placeFor_15 (by decide) ?_
  refine lv_istore (lv' := [(5, .int 0), (4, .int x_3), (3, .int (p_pair x y)), (0, .ref oK), (1, .int x), (2, .int y)]) hx hb dX3_placeFor_16 hl (by decide) rfl (fun ls hl => ?_)
  refine lv_iload hx hb dX3_placeFor_18 (lv_at hl 0 rfl) ?_
  refine lv_sipush (v := 1024) hx hb dX3_placeFor_20 (by decide) ?_
  refine lv_icmp_ge (tgt := 68) hx hb dX3_placeFor_23 (by decide) (fun c_4 => absurd c_4 (by decide)) (fun c_4 => ?_)
  refine lv_iload hx hb dX3_placeFor_26 (lv_at hl 1 rfl) ?_
  refine lv_iload hx hb dX3_placeFor_28 (lv_at hl 0 rfl) ?_
  refine lv_iadd hx hb dX3_placeFor_30 ?_
  refine lv_topi (fun x_5 ex_5 => ?_)
  refine lv_sipush (v := 1023) hx hb dX3_placeFor_31 (by decide) ?_
  refine lv_iand hx hb dX3_placeFor_34 ?_
  refine lv_topi (fun x_6 ex_6 => ?_)
  refine lv_istore (lv' := [(6, .int x_6), (5, .int 0), (4, .int x_3), (3, .int (p_pair x y)), (0, .ref oK), (1, .int x), (2, .int y)]) hx hb dX3_placeFor_35 hl (by decide) rfl (fun ls hl => ?_)
  refine lv_aload_n hx hb dX3_placeFor_37 rfl (lv_at hl 4 rfl) ?_
  refine va_get (D := (dC, dI)) (ci := 3) (v := .ref k2) (C := RX3) (T := TX3) (N := 3) hx hb hts in_X3 hown hK hP 0 rfl rfl 1 (by decide) (hts (.fieldLink RX3 15 "TextMender$Costs" "value" "[I") (List.mem_of_getElem? (i := 2) rfl)) (fun _ h9 => h9) rfl dX3_placeFor_38 ?_
  refine lv_iload hx hb dX3_placeFor_41 (lv_at hl 0 rfl) ?_
  refine va_iald hx hb hK hP 2 0 rfl rfl (by rw [ex_6]; exact pk_andIn _ 10 rfl (by decide)) dX3_placeFor_43 ?_
  refine k_i (y := (-1)) rfl ?_
  refine lv_iconst (v := (-1)) hx hb dX3_placeFor_44 (by decide) ?_
  refine lv_icmp_eq (tgt := 59) hx hb dX3_placeFor_45 (by decide) (fun c_7 => ?_) (fun c_7 => absurd (by decide) c_7)
  refine lv_iload hx hb dX3_placeFor_59 (lv_at hl 0 rfl) ?_
  have hP9 := hP.sub (ws' := [(oK, .inr (3, [.ref k1, .ref k2, .int 0])), (k1, .inl (cI, 1024, .inl (fun _ => 0))), (k2, .inl (cI, 1024, .inl (fun _ => (-1))))]) [0, 1, 2] rfl
  have hD9 := hD.sub (ws' := [(oK, .inr (3, [.ref k1, .ref k2, .int 0])), (k1, .inl (cI, 1024, .inl (fun _ => 0))), (k2, .inl (cI, 1024, .inl (fun _ => (-1))))]) [0, 1, 2] (by decide) rfl
  exact W.iret (v := x_6) hx hb hr (fun t ht hW => ⟨⟨x_6, (), rfl, by rw [ex_6]; exact pk_andIn _ 10 rfl (by decide), by rw [ht]; exact hP9, hD9⟩, hS.F ht⟩) (hS.2.2) dX3_placeFor_61

set_option maxHeartbeats 4000000 in
set_option maxRecDepth 100000 in
theorem m_X3_tell (l : Launch) (dC : Nat → ClassId) (dI : Nat → Nat → Nat) (cI cS : ClassId) (sz : Nat) (oK : Nat) (k1 : Nat) (k2 : Nat) (x : Int32) (y : Int32) (v : Int32)  : Met l yX3_tell wsX3_tell ({ frames := 2, cells := 0, slots := 0, locals := 47 } : Room) (va_Pc [.ref oK, .int x, .int y, .int v] (fun U => U.heap.size = sz ∧ va_P (dC, dI) vwCl [(oK, .inr (3, [.ref k1, .ref k2, .int 0])), (k1, .inl (cI, 1024, .inl (fun _ => 0))), (k2, .inl (cI, 1024, .inl (fun _ => (-1))))] U.heap ∧ va_K (dC, dI) vwCl [(cI, .int), (cS, .short)] U ∧ va_D (fun _ => True) [(oK, .inr (3, [.ref k1, .ref k2, .int 0])), (k1, .inl (cI, 1024, .inl (fun _ => 0))), (k2, .inl (cI, 1024, .inl (fun _ => (-1))))])) (va_Qi (fun (r : Int32) (_ : Unit) => r = f_tell v) (fun _ _ => True) (va_A [(oK, .inr (3, [.ref k1, .ref k2, .int 0])), (k1, .inl (cI, 1024, .inl (fun _ => 0))), (k2, .inl (cI, 1024, .inl (fun _ => (-1))))] sz)) 0 0 (va_A [(oK, .inr (3, [.ref k1, .ref k2, .int 0])), (k1, .inl (cI, 1024, .inl (fun _ => 0))), (k2, .inl (cI, 1024, .inl (fun _ => (-1))))] sz) := by
  refine Met.ofW (cc := cX3_tell) (maxL := 5) (ret := (some .boolean)) (by decide) rfl ?_
  intro p e s m args below meth c s₁ B hml hv
  obtain ⟨rfl, hsz, hP, hK, hD0⟩ := hv
  have hx := B.exec
  have hb := B.bytes
  have hr := B.returns
  have hts := atoms_spec (ws := wsX3_tell) B.pre
  have hown : s.vm.findClass RX3 = some m.cls := findClass_of_methodNamed B.named
  have hlocks := B.notSynchronized
  have in_X3 : ∀ w ∈ wsX30, w ∈ wsX3_tell := fun _ h => List.mem_cons_of_mem _ (List.mem_append_right _ (h))
  subst hsz
  have hD := hD0.self (sz := s.heap.size)
  generalize hAe : va_A [(oK, .inr (3, [.ref k1, .ref k2, .int 0])), (k1, .inl (cI, 1024, .inl (fun _ => 0))), (k2, .inl (cI, 1024, .inl (fun _ => (-1))))] s.heap.size = A at hD ⊢
  have hA : ∀ q : Nat, s.heap.size ≤ q → A q := fun q h => by rw [← hAe]; exact Or.inr h
  have hS : va_S A s.heap s.heap [] := va_S.rf
  have hP : va_P (dC, dI) vwCl [(oK, .inr (3, [.ref k1, .ref k2, .int 0])), (k1, .inl (cI, 1024, .inl (fun _ => 0))), (k2, .inl (cI, 1024, .inl (fun _ => (-1))))] s.heap := hP
  have hl := lv_entry ([.ref oK, .int x, .int y, .int v]) (n := 5) (Nat.le_of_ble_eq_true rfl)
  rw [lg_entry_eq]
  generalize (lg_sl ([.ref oK, .int x, .int y, .int v]) ++ List.replicate (5 - (lg_sl ([.ref oK, .int x, .int y, .int v])).length) Slot.unset).toArray = ls at hl ⊢
  have hl : lv_has ls 5 [(0, .ref oK), (1, .int x), (2, .int y), (3, .int v)] := hl
  refine lv_aload_n hx hb dX3_tell_0 rfl (lv_at hl 0 rfl) ?_
  refine lv_iload_n hx hb dX3_tell_1 rfl (lv_at hl 1 rfl) ?_
  refine lv_iload_n hx hb dX3_tell_2 rfl (lv_at hl 2 rfl) ?_
  have hPc := hP.sub (ws' := [(oK, .inr (3, [.ref k1, .ref k2, .int 0])), (k1, .inl (cI, 1024, .inl (fun _ => 0))), (k2, .inl (cI, 1024, .inl (fun _ => (-1))))]) [0, 1, 2] rfl
  have hDc := hD.sub (ws' := [(oK, .inr (3, [.ref k1, .ref k2, .int 0])), (k1, .inl (cI, 1024, .inl (fun _ => 0))), (k2, .inl (cI, 1024, .inl (fun _ => (-1))))]) [0, 1, 2] (by decide) rfl
  have hFc := va_free (wc := [(oK, .inr (3, [.ref k1, .ref k2, .int 0])), (k1, .inl (cI, 1024, .inl (fun _ => 0))), (k2, .inl (cI, 1024, .inl (fun _ => (-1))))]) hD hS hA [0, 1, 2] rfl
  refine va_calli (va_runV (As := [.int x, .int y]) (rest := []) ⟨hx, hb, hml, hown, hts⟩ (m_X3_placeFor l dC dI cI cS s.heap.size oK k1 k2 x y ) (cwV 2 hts gX3_tell_X3_placeFor rfl rfl rfl (by decide +kernel) ⟨Nat.le_of_ble_eq_true rfl, Nat.le_of_ble_eq_true rfl⟩) ⟨fun a U g mk q => by obtain ⟨q0, q1, qP, qK, qD⟩ := q; exact ⟨q0, q1, qP, va_K.moved (u := U) (U := U.calling g mk a) (Vm.Alike.refl U.vm) qK, qD⟩, va_recv hK hPc (ci := 3) (q0 := 0) rfl rfl, fun U hU hW => ⟨rfl, by rw [hU], by rw [hU]; exact hPc, va_K.moved hW.alike hK, hDc.weaken (fun _ _ _ _ => trivial)⟩⟩ rfl rfl hl.1 rfl (lv_room (Nat.le_of_ble_eq_true rfl)) dX3_tell_3 ⟨Nat.le_of_ble_eq_true rfl, Nat.le_of_ble_eq_true rfl⟩) hS (fun q _ h => hFc q h) hFc (fun r_1 u t H1 locs ht hvm hw hB hz1 hk1 hS => ?_)
  obtain ⟨hP1, hD1⟩ := hB
  rw [ht] at hP1
  obtain ⟨hP, hD⟩ := va_join (wr := []) (w1 := [(oK, .inr (3, [.ref k1, .ref k2, .int 0])), (k1, .inl (cI, 1024, .inl (fun _ => 0))), (k2, .inl (cI, 1024, .inl (fun _ => (-1))))]) hP hD [0, 1, 2] [] rfl rfl (by decide) (by decide) hk1 hFc hP1 hD1
  generalize H1 = H at hP hS ⊢
  have hP : va_P (dC, dI) vwCl [(oK, .inr (3, [.ref k1, .ref k2, .int 0])), (k1, .inl (cI, 1024, .inl (fun _ => 0))), (k2, .inl (cI, 1024, .inl (fun _ => (-1))))] H := hP
  have hD : va_D A [(oK, .inr (3, [.ref k1, .ref k2, .int 0])), (k1, .inl (cI, 1024, .inl (fun _ => 0))), (k2, .inl (cI, 1024, .inl (fun _ => (-1))))] := hD
  have hw_1 := hw
  refine lv_istore (lv' := [(4, .int r_1), (0, .ref oK), (1, .int x), (2, .int y), (3, .int v)]) hx hb dX3_tell_6 hl (by decide) rfl (fun ls hl => ?_)
  refine lv_iload hx hb dX3_tell_8 (lv_at hl 0 rfl) ?_
  refine lv_iconst (v := (-1)) hx hb dX3_tell_10 (by decide) ?_
  refine lv_icmp_eq (tgt := 25) hx hb dX3_tell_11 (by decide) (fun c_2 => absurd c_2 (p_inne hw_1)) (fun c_2 => ?_)
  refine lv_iload_n hx hb dX3_tell_14 rfl (lv_at hl 4 rfl) ?_
  refine lv_if_lt (tgt := 25) hx hb dX3_tell_15 (by decide) (fun c_3 => ?_) (fun c_3 => ?_)
  · refine lv_iconst (v := 0) hx hb dX3_tell_25 (by decide) ?_
    exact W.zret (v := 0) (ty := .boolean) hx hb hr (rfl) (fun t ht hW => ⟨⟨0, (), rfl, by first | rfl | assumption | simp [f_tell, c_3], trivial⟩, hS.F ht⟩) (hS.2.2) dX3_tell_26
  · refine lv_iload_n hx hb dX3_tell_18 rfl (lv_at hl 4 rfl) ?_
    refine lv_sipush (v := 200) hx hb dX3_tell_19 (by decide) ?_
    refine lv_icmp_le (tgt := 27) hx hb dX3_tell_22 (by decide) (fun c_4 => ?_) (fun c_4 => ?_)
    · refine lv_aload_n hx hb dX3_tell_27 rfl (lv_at hl 1 rfl) ?_
      refine va_get (D := (dC, dI)) (ci := 3) (v := .ref k2) (C := RX3) (T := TX3) (N := 3) hx hb hts in_X3 hown hK hP 0 rfl rfl 1 (by decide) (hts (.fieldLink RX3 15 "TextMender$Costs" "value" "[I") (List.mem_of_getElem? (i := 1) rfl)) (fun _ h9 => h9) rfl dX3_tell_28 ?_
      refine lv_iload hx hb dX3_tell_31 (lv_at hl 0 rfl) ?_
      refine va_iald hx hb hK hP 2 0 rfl rfl hw_1 dX3_tell_33 ?_
      refine k_i (y := (-1)) rfl ?_
      refine lv_iconst (v := (-1)) hx hb dX3_tell_34 (by decide) ?_
      refine lv_icmp_ne (tgt := 72) hx hb dX3_tell_35 (by decide) (fun c_5 => absurd (by decide) c_5) (fun c_5 => ?_)
      refine lv_aload_n hx hb dX3_tell_38 rfl (lv_at hl 1 rfl) ?_
      refine va_get (D := (dC, dI)) (ci := 3) (v := .int 0) (C := RX3) (T := TX3) (N := 3) hx hb hts in_X3 hown hK hP 0 rfl rfl 2 (by decide) (hts (.fieldLink RX3 24 "TextMender$Costs" "length" "I") (List.mem_of_getElem? (i := 2) rfl)) (fun _ h9 => h9) rfl dX3_tell_39 ?_
      refine lv_sipush (v := 300) hx hb dX3_tell_42 (by decide) ?_
      refine lv_icmp_lt (tgt := 50) hx hb dX3_tell_45 (by decide) (fun c_6 => ?_) (fun c_6 => absurd (by decide) c_6)
      refine lv_aload_n hx hb dX3_tell_50 rfl (lv_at hl 1 rfl) ?_
      refine va_get (D := (dC, dI)) (ci := 3) (v := .ref k1) (C := RX3) (T := TX3) (N := 3) hx hb hts in_X3 hown hK hP 0 rfl rfl 0 (by decide) (hts (.fieldLink RX3 11 "TextMender$Costs" "pair" "[I") (List.mem_of_getElem? (i := 3) rfl)) (fun _ h9 => h9) rfl dX3_tell_51 ?_
      refine lv_iload hx hb dX3_tell_54 (lv_at hl 0 rfl) ?_
      refine lv_iload_n hx hb dX3_tell_56 rfl (lv_at hl 2 rfl) ?_
      refine lv_iload_n hx hb dX3_tell_57 rfl (lv_at hl 3 rfl) ?_
      have hPc := hP.sub (ws' := []) [] rfl
      have hDc := hD.sub (ws' := []) [] (by decide) rfl
      have hFc := va_free (wc := []) hD hS hA [] rfl
      refine va_calli (va_runS (As := [.int x, .int y]) (rest := [.int r_1, .ref k1]) ⟨hx, hb, hml, hown, hts⟩ (m_X3_pairOf l dC dI cI cS H.size x y ) (va_cwS 2 hts gX3_tell_X3_pairOf rfl rfl rfl (by decide +kernel) ⟨Nat.le_of_ble_eq_true rfl, Nat.le_of_ble_eq_true rfl⟩) ⟨fun a U g mk q => by obtain ⟨q0, q1, qP, qK, qD⟩ := q; exact ⟨q0, q1, qP, va_K.moved (u := U) (U := U.calling g mk a) (Vm.Alike.refl U.vm) qK, qD⟩, fun U hU hW => ⟨rfl, by rw [hU], by rw [hU]; exact hPc, va_K.moved hW.alike hK, hDc.weaken (fun _ _ _ _ => trivial)⟩⟩ rfl rfl hl.1 rfl (lv_room (Nat.le_of_ble_eq_true rfl)) dX3_tell_58 ⟨Nat.le_of_ble_eq_true rfl, Nat.le_of_ble_eq_true rfl⟩) hS (fun q _ h => hFc q h) hFc (fun r_7 u t H1 locs ht hvm hw hB hz1 hk1 hS => ?_)
      obtain ⟨hP1, hD1⟩ := hB
      rw [ht] at hP1
      obtain ⟨hP, hD⟩ := va_join (wr := [(oK, .inr (3, [.ref k1, .ref k2, .int 0])), (k1, .inl (cI, 1024, .inl (fun _ => 0))), (k2, .inl (cI, 1024, .inl (fun _ => (-1))))]) (w1 := []) hP hD [] [0, 1, 2] rfl rfl (by decide) (by decide) hk1 hFc hP1 hD1
      generalize H1 = H at hP hS ⊢
      have hP : va_P (dC, dI) vwCl [(oK, .inr (3, [.ref k1, .ref k2, .int 0])), (k1, .inl (cI, 1024, .inl (fun _ => 0))), (k2, .inl (cI, 1024, .inl (fun _ => (-1))))] H := hP
      have hD : va_D A [(oK, .inr (3, [.ref k1, .ref k2, .int 0])), (k1, .inl (cI, 1024, .inl (fun _ => 0))), (k2, .inl (cI, 1024, .inl (fun _ => (-1))))] := hD
      subst hw
      refine va_iast hx hb hK hP hD hS 1 0 rfl rfl hw_1 dX3_tell_61 (fun H locs hP hD hS => ?_)
      have hP : va_P (dC, dI) vwCl [(oK, .inr (3, [.ref k1, .ref k2, .int 0])), (k1, .inl (cI, 1024, .inl (upd (fun _ => 0) (r_1 : Int32).toNatClampNeg (p_pair x y)))), (k2, .inl (cI, 1024, .inl (fun _ => (-1))))] H := hP
      have hD : va_D A [(oK, .inr (3, [.ref k1, .ref k2, .int 0])), (k1, .inl (cI, 1024, .inl (upd (fun _ => 0) (r_1 : Int32).toNatClampNeg (p_pair x y)))), (k2, .inl (cI, 1024, .inl (fun _ => (-1))))] := hD
      refine lv_aload_n hx hb dX3_tell_62 rfl (lv_at hl 1 rfl) ?_
      refine lv_dup hx hb dX3_tell_63 rfl ?_
      refine va_get (D := (dC, dI)) (ci := 3) (v := .int 0) (C := RX3) (T := TX3) (N := 3) hx hb hts in_X3 hown hK hP 0 rfl rfl 2 (by decide) (hts (.fieldLink RX3 24 "TextMender$Costs" "length" "I") (List.mem_of_getElem? (i := 2) rfl)) (fun _ h9 => h9) rfl dX3_tell_64 ?_
      refine lv_iconst (v := 1) hx hb dX3_tell_67 (by decide) ?_
      refine lv_iadd hx hb dX3_tell_68 ?_
      refine k_i (y := 1) (by decide) ?_
      refine va_put (D := (dC, dI)) (ci := 3) (v := .int 1) (ty := .int) (C := RX3) (T := TX3) (N := 3) hx hb hts in_X3 tyX3 tyX3_ok nmX3 hown hK hP hD hS 0 rfl rfl 2 (by decide) (hts (.fieldLink RX3 24 "TextMender$Costs" "length" "I") (List.mem_of_getElem? (i := 2) rfl)) (fun _ h9 => h9) rfl (by decide +kernel) rfl rfl (Nat.le_of_ble_eq_true rfl) dX3_tell_69 (fun H locs hP hD hS => ?_)
      have hP : va_P (dC, dI) vwCl [(oK, .inr (3, [.ref k1, .ref k2, .int 1])), (k1, .inl (cI, 1024, .inl (upd (fun _ => 0) (r_1 : Int32).toNatClampNeg (p_pair x y)))), (k2, .inl (cI, 1024, .inl (fun _ => (-1))))] H := hP
      have hD : va_D A [(oK, .inr (3, [.ref k1, .ref k2, .int 1])), (k1, .inl (cI, 1024, .inl (upd (fun _ => 0) (r_1 : Int32).toNatClampNeg (p_pair x y)))), (k2, .inl (cI, 1024, .inl (fun _ => (-1))))] := hD
      refine lv_aload_n hx hb dX3_tell_72 rfl (lv_at hl 1 rfl) ?_
      refine va_get (D := (dC, dI)) (ci := 3) (v := .ref k2) (C := RX3) (T := TX3) (N := 3) hx hb hts in_X3 hown hK hP 0 rfl rfl 1 (by decide) (hts (.fieldLink RX3 15 "TextMender$Costs" "value" "[I") (List.mem_of_getElem? (i := 1) rfl)) (fun _ h9 => h9) rfl dX3_tell_73 ?_
      refine lv_iload hx hb dX3_tell_76 (lv_at hl 0 rfl) ?_
      refine lv_iload_n hx hb dX3_tell_78 rfl (lv_at hl 4 rfl) ?_
      refine va_iast hx hb hK hP hD hS 2 0 rfl rfl hw_1 dX3_tell_79 (fun H locs hP hD hS => ?_)
      have hP : va_P (dC, dI) vwCl [(oK, .inr (3, [.ref k1, .ref k2, .int 1])), (k1, .inl (cI, 1024, .inl (upd (fun _ => 0) (r_1 : Int32).toNatClampNeg (p_pair x y)))), (k2, .inl (cI, 1024, .inl (upd (fun _ => (-1)) (r_1 : Int32).toNatClampNeg v)))] H := hP
      have hD : va_D A [(oK, .inr (3, [.ref k1, .ref k2, .int 1])), (k1, .inl (cI, 1024, .inl (upd (fun _ => 0) (r_1 : Int32).toNatClampNeg (p_pair x y)))), (k2, .inl (cI, 1024, .inl (upd (fun _ => (-1)) (r_1 : Int32).toNatClampNeg v)))] := hD
      refine lv_iconst (v := 1) hx hb dX3_tell_80 (by decide) ?_
      exact W.zret (v := 1) (ty := .boolean) hx hb hr (rfl) (fun t ht hW => ⟨⟨1, (), rfl, by first | rfl | assumption | simp [f_tell, c_3, c_4], trivial⟩, hS.F ht⟩) (hS.2.2) dX3_tell_81
    · refine lv_iconst (v := 0) hx hb dX3_tell_25 (by decide) ?_
      exact W.zret (v := 0) (ty := .boolean) hx hb hr (rfl) (fun t ht hW => ⟨⟨0, (), rfl, by first | rfl | assumption | simp [f_tell, c_3, c_4], trivial⟩, hS.F ht⟩) (hS.2.2) dX3_tell_26

set_option maxHeartbeats 4000000 in
set_option maxRecDepth 100000 in
theorem m_X10_length (l : Launch) (dC : Nat → ClassId) (dI : Nat → Nat → Nat) (cI cS : ClassId) (sz : Nat) (o4 : Nat) (a41 : Nat) (a42 : Nat) (a43 : Nat)  : Met l yX10_length wsX10_length ({ frames := 0, cells := 0, slots := 0, locals := 0 } : Room) (va_Pc [.ref o4] (fun U => U.heap.size = sz ∧ va_P (dC, dI) vwCl [(o4, .inr (10, [.ref a41, .ref a42, .ref a43, .int 0]))] U.heap ∧ va_K (dC, dI) vwCl [(cI, .int), (cS, .short)] U ∧ va_D (fun _ => True) [(o4, .inr (10, [.ref a41, .ref a42, .ref a43, .int 0]))])) (va_Qi (fun (r : Int32) (_ : Unit) => r = 0) (fun _ _ => True) (va_A [(o4, .inr (10, [.ref a41, .ref a42, .ref a43, .int 0]))] sz)) 0 0 (va_A [(o4, .inr (10, [.ref a41, .ref a42, .ref a43, .int 0]))] sz) := by
  refine Met.ofW (cc := cX10_length) (maxL := 1) (ret := (some .int)) (by decide) rfl ?_
  intro p e s m args below meth c s₁ B hml hv
  obtain ⟨rfl, hsz, hP, hK, hD0⟩ := hv
  have hx := B.exec
  have hb := B.bytes
  have hr := B.returns
  have hts := atoms_spec (ws := wsX10_length) B.pre
  have hown : s.vm.findClass RX10 = some m.cls := findClass_of_methodNamed B.named
  have hlocks := B.notSynchronized
  have in_X10 : ∀ w ∈ wsX100, w ∈ wsX10_length := fun _ h => List.mem_cons_of_mem _ (List.mem_append_right _ (h))
  subst hsz
  have hD := hD0.self (sz := s.heap.size)
  generalize hAe : va_A [(o4, .inr (10, [.ref a41, .ref a42, .ref a43, .int 0]))] s.heap.size = A at hD ⊢
  have hA : ∀ q : Nat, s.heap.size ≤ q → A q := fun q h => by rw [← hAe]; exact Or.inr h
  have hS : va_S A s.heap s.heap [] := va_S.rf
  have hP : va_P (dC, dI) vwCl [(o4, .inr (10, [.ref a41, .ref a42, .ref a43, .int 0]))] s.heap := hP
  have hl := lv_entry ([.ref o4]) (n := 1) (Nat.le_of_ble_eq_true rfl)
  rw [lg_entry_eq]
  generalize (lg_sl ([.ref o4]) ++ List.replicate (1 - (lg_sl ([.ref o4])).length) Slot.unset).toArray = ls at hl ⊢
  have hl : lv_has ls 1 [(0, .ref o4)] := hl
  refine lv_aload_n hx hb dX10_length_0 rfl (lv_at hl 0 rfl) ?_
  refine va_get (D := (dC, dI)) (ci := 10) (v := .int 0) (C := RX10) (T := TX10) (N := 4) hx hb hts in_X10 hown hK hP 0 rfl rfl 3 (by decide) (hts (.fieldLink RX10 27 "TextMender$ToldCode" "length" "I") (List.mem_of_getElem? (i := 1) rfl)) (fun _ h9 => h9) rfl dX10_length_1 ?_
  exact W.iret (v := 0) hx hb hr (fun t ht hW => ⟨⟨0, (), rfl, rfl, trivial⟩, hS.F ht⟩) (hS.2.2) dX10_length_4

set_option maxHeartbeats 4000000 in
set_option maxRecDepth 100000 in
theorem m_X2_toldCode_4 (l : Launch) (dC : Nat → ClassId) (dI : Nat → Nat → Nat) (cI cS : ClassId) (sz : Nat) (oC : Nat) (o4 : Nat) (o5 : Nat)  : Met l yX2_toldCode wsX2_toldCode ({ frames := 0, cells := 0, slots := 0, locals := 0 } : Room) (va_Pc [.ref oC, .int 4] (fun U => U.heap.size = sz ∧ va_P (dC, dI) vwCl [(oC, .inr (2, [.ref o4, .ref o5]))] U.heap ∧ va_K (dC, dI) vwCl [(cI, .int), (cS, .short)] U ∧ va_D (fun _ => True) [(oC, .inr (2, [.ref o4, .ref o5]))])) (va_Qr (fun (_ : Unit) => True) (fun _ ra t => ra = o4 ∧ va_P (dC, dI) vwCl [(oC, .inr (2, [.ref o4, .ref o5]))] t.heap ∧ va_D (va_A [(oC, .inr (2, [.ref o4, .ref o5]))] sz) [(oC, .inr (2, [.ref o4, .ref o5]))]) (va_A [(oC, .inr (2, [.ref o4, .ref o5]))] sz)) 0 0 (va_A [(oC, .inr (2, [.ref o4, .ref o5]))] sz) := by
  refine Met.ofW (cc := cX2_toldCode) (maxL := 2) (ret := (some (.object "TextMender$ToldCode"))) (by decide) rfl ?_
  intro p e s m args below meth c s₁ B hml hv
  obtain ⟨rfl, hsz, hP, hK, hD0⟩ := hv
  have hx := B.exec
  have hb := B.bytes
  have hr := B.returns
  have hts := atoms_spec (ws := wsX2_toldCode) B.pre
  have hown : s.vm.findClass RX2 = some m.cls := findClass_of_methodNamed B.named
  have hlocks := B.notSynchronized
  have in_X2 : ∀ w ∈ wsX20, w ∈ wsX2_toldCode := fun _ h => List.mem_cons_of_mem _ (List.mem_append_right _ (h))
  subst hsz
  have hD := hD0.self (sz := s.heap.size)
  generalize hAe : va_A [(oC, .inr (2, [.ref o4, .ref o5]))] s.heap.size = A at hD ⊢
  have hA : ∀ q : Nat, s.heap.size ≤ q → A q := fun q h => by rw [← hAe]; exact Or.inr h
  have hS : va_S A s.heap s.heap [] := va_S.rf
  have hP : va_P (dC, dI) vwCl [(oC, .inr (2, [.ref o4, .ref o5]))] s.heap := hP
  have hl := lv_entry ([.ref oC, .int 4]) (n := 2) (Nat.le_of_ble_eq_true rfl)
  rw [lg_entry_eq]
  generalize (lg_sl ([.ref oC, .int 4]) ++ List.replicate (2 - (lg_sl ([.ref oC, .int 4])).length) Slot.unset).toArray = ls at hl ⊢
  have hl : lv_has ls 2 [(0, .ref oC), (1, .int 4)] := hl
  refine lv_iload_n hx hb dX2_toldCode_0 rfl (lv_at hl 1 rfl) ?_
  refine lv_iconst (v := 4) hx hb dX2_toldCode_1 (by decide) ?_
  refine lv_icmp_ne (tgt := 12) hx hb dX2_toldCode_2 (by decide) (fun c_1 => absurd (by decide) c_1) (fun c_1 => ?_)
  refine lv_aload_n hx hb dX2_toldCode_5 rfl (lv_at hl 0 rfl) ?_
  refine va_get (D := (dC, dI)) (ci := 2) (v := .ref o4) (C := RX2) (T := TX2) (N := 2) hx hb hts in_X2 hown hK hP 0 rfl rfl 0 (by decide) (hts (.fieldLink RX2 12 "TextMender$Codes" "four" "LTextMender$ToldCode;") (List.mem_of_getElem? (i := 1) rfl)) (fun _ h9 => h9) rfl dX2_toldCode_6 ?_
  refine lv_goto (tgt := 25) hx hb dX2_toldCode_9 (by decide) ?_
  have hP9 := hP.sub (ws' := [(oC, .inr (2, [.ref o4, .ref o5]))]) [0] rfl
  have hD9 := hD.sub (ws' := [(oC, .inr (2, [.ref o4, .ref o5]))]) [0] (by decide) rfl
  exact W.aret (v := .ref o4) hx hb hr (Or.inl ⟨_, rfl⟩) (Or.inr ⟨_, rfl⟩) (fun t ht hW => ⟨⟨(), o4, rfl, trivial, ⟨rfl, by rw [ht]; exact hP9, hD9⟩⟩, hS.F ht⟩) (hS.2.2) dX2_toldCode_25

set_option maxHeartbeats 4000000 in
set_option maxRecDepth 100000 in
theorem m_X2_toldCode_5 (l : Launch) (dC : Nat → ClassId) (dI : Nat → Nat → Nat) (cI cS : ClassId) (sz : Nat) (oC : Nat) (o4 : Nat) (o5 : Nat)  : Met l yX2_toldCode wsX2_toldCode ({ frames := 0, cells := 0, slots := 0, locals := 0 } : Room) (va_Pc [.ref oC, .int 5] (fun U => U.heap.size = sz ∧ va_P (dC, dI) vwCl [(oC, .inr (2, [.ref o4, .ref o5]))] U.heap ∧ va_K (dC, dI) vwCl [(cI, .int), (cS, .short)] U ∧ va_D (fun _ => True) [(oC, .inr (2, [.ref o4, .ref o5]))])) (va_Qr (fun (_ : Unit) => True) (fun _ ra t => ra = o5 ∧ va_P (dC, dI) vwCl [(oC, .inr (2, [.ref o4, .ref o5]))] t.heap ∧ va_D (va_A [(oC, .inr (2, [.ref o4, .ref o5]))] sz) [(oC, .inr (2, [.ref o4, .ref o5]))]) (va_A [(oC, .inr (2, [.ref o4, .ref o5]))] sz)) 0 0 (va_A [(oC, .inr (2, [.ref o4, .ref o5]))] sz) := by
  refine Met.ofW (cc := cX2_toldCode) (maxL := 2) (ret := (some (.object "TextMender$ToldCode"))) (by decide) rfl ?_
  intro p e s m args below meth c s₁ B hml hv
  obtain ⟨rfl, hsz, hP, hK, hD0⟩ := hv
  have hx := B.exec
  have hb := B.bytes
  have hr := B.returns
  have hts := atoms_spec (ws := wsX2_toldCode) B.pre
  have hown : s.vm.findClass RX2 = some m.cls := findClass_of_methodNamed B.named
  have hlocks := B.notSynchronized
  have in_X2 : ∀ w ∈ wsX20, w ∈ wsX2_toldCode := fun _ h => List.mem_cons_of_mem _ (List.mem_append_right _ (h))
  subst hsz
  have hD := hD0.self (sz := s.heap.size)
  generalize hAe : va_A [(oC, .inr (2, [.ref o4, .ref o5]))] s.heap.size = A at hD ⊢
  have hA : ∀ q : Nat, s.heap.size ≤ q → A q := fun q h => by rw [← hAe]; exact Or.inr h
  have hS : va_S A s.heap s.heap [] := va_S.rf
  have hP : va_P (dC, dI) vwCl [(oC, .inr (2, [.ref o4, .ref o5]))] s.heap := hP
  have hl := lv_entry ([.ref oC, .int 5]) (n := 2) (Nat.le_of_ble_eq_true rfl)
  rw [lg_entry_eq]
  generalize (lg_sl ([.ref oC, .int 5]) ++ List.replicate (2 - (lg_sl ([.ref oC, .int 5])).length) Slot.unset).toArray = ls at hl ⊢
  have hl : lv_has ls 2 [(0, .ref oC), (1, .int 5)] := hl
  refine lv_iload_n hx hb dX2_toldCode_0 rfl (lv_at hl 1 rfl) ?_
  refine lv_iconst (v := 4) hx hb dX2_toldCode_1 (by decide) ?_
  refine lv_icmp_ne (tgt := 12) hx hb dX2_toldCode_2 (by decide) (fun c_1 => ?_) (fun c_1 => absurd c_1 (by decide))
  refine lv_iload_n hx hb dX2_toldCode_12 rfl (lv_at hl 1 rfl) ?_
  refine lv_iconst (v := 5) hx hb dX2_toldCode_13 (by decide) ?_
  refine lv_icmp_ne (tgt := 24) hx hb dX2_toldCode_14 (by decide) (fun c_2 => absurd (by decide) c_2) (fun c_2 => ?_)
  refine lv_aload_n hx hb dX2_toldCode_17 rfl (lv_at hl 0 rfl) ?_
  refine va_get (D := (dC, dI)) (ci := 2) (v := .ref o5) (C := RX2) (T := TX2) (N := 2) hx hb hts in_X2 hown hK hP 0 rfl rfl 1 (by decide) (hts (.fieldLink RX2 18 "TextMender$Codes" "five" "LTextMender$ToldCode;") (List.mem_of_getElem? (i := 2) rfl)) (fun _ h9 => h9) rfl dX2_toldCode_18 ?_
  refine lv_goto (tgt := 25) hx hb dX2_toldCode_21 (by decide) ?_
  have hP9 := hP.sub (ws' := [(oC, .inr (2, [.ref o4, .ref o5]))]) [0] rfl
  have hD9 := hD.sub (ws' := [(oC, .inr (2, [.ref o4, .ref o5]))]) [0] (by decide) rfl
  exact W.aret (v := .ref o5) hx hb hr (Or.inl ⟨_, rfl⟩) (Or.inr ⟨_, rfl⟩) (fun t ht hW => ⟨⟨(), o5, rfl, trivial, ⟨rfl, by rw [ht]; exact hP9, hD9⟩⟩, hS.F ht⟩) (hS.2.2) dX2_toldCode_25

set_option maxHeartbeats 4000000 in
set_option maxRecDepth 100000 in
theorem m_X2_toldCode_n (l : Launch) (dC : Nat → ClassId) (dI : Nat → Nat → Nat) (cI cS : ClassId) (sz : Nat) (oC : Nat) (o4 : Nat) (o5 : Nat) (cd : Int32) (h4 : ¬ cd = 4) (h5 : ¬ cd = 5) : Met l yX2_toldCode wsX2_toldCode ({ frames := 0, cells := 0, slots := 0, locals := 0 } : Room) (va_Pc [.ref oC, .int cd] (fun U => U.heap.size = sz ∧ va_P (dC, dI) vwCl [(oC, .inr (2, [.ref o4, .ref o5]))] U.heap ∧ va_K (dC, dI) vwCl [(cI, .int), (cS, .short)] U ∧ va_D (fun _ => True) [(oC, .inr (2, [.ref o4, .ref o5]))])) (va_Qq (fun (r : Option Nat) (_ : Unit) => r = none) (fun _ t => va_P (dC, dI) vwCl [(oC, .inr (2, [.ref o4, .ref o5]))] t.heap ∧ va_D (va_A [(oC, .inr (2, [.ref o4, .ref o5]))] sz) [(oC, .inr (2, [.ref o4, .ref o5]))]) (va_A [(oC, .inr (2, [.ref o4, .ref o5]))] sz)) 0 0 (va_A [(oC, .inr (2, [.ref o4, .ref o5]))] sz) := by
  refine Met.ofW (cc := cX2_toldCode) (maxL := 2) (ret := (some (.object "TextMender$ToldCode"))) (by decide) rfl ?_
  intro p e s m args below meth c s₁ B hml hv
  obtain ⟨rfl, hsz, hP, hK, hD0⟩ := hv
  have hx := B.exec
  have hb := B.bytes
  have hr := B.returns
  have hts := atoms_spec (ws := wsX2_toldCode) B.pre
  have hown : s.vm.findClass RX2 = some m.cls := findClass_of_methodNamed B.named
  have hlocks := B.notSynchronized
  subst hsz
  have hD := hD0.self (sz := s.heap.size)
  generalize hAe : va_A [(oC, .inr (2, [.ref o4, .ref o5]))] s.heap.size = A at hD ⊢
  have hA : ∀ q : Nat, s.heap.size ≤ q → A q := fun q h => by rw [← hAe]; exact Or.inr h
  have hS : va_S A s.heap s.heap [] := va_S.rf
  have hP : va_P (dC, dI) vwCl [(oC, .inr (2, [.ref o4, .ref o5]))] s.heap := hP
  have hl := lv_entry ([.ref oC, .int cd]) (n := 2) (Nat.le_of_ble_eq_true rfl)
  rw [lg_entry_eq]
  generalize (lg_sl ([.ref oC, .int cd]) ++ List.replicate (2 - (lg_sl ([.ref oC, .int cd])).length) Slot.unset).toArray = ls at hl ⊢
  have hl : lv_has ls 2 [(0, .ref oC), (1, .int cd)] := hl
  refine lv_iload_n hx hb dX2_toldCode_0 rfl (lv_at hl 1 rfl) ?_
  refine lv_iconst (v := 4) hx hb dX2_toldCode_1 (by decide) ?_
  refine lv_icmp_ne (tgt := 12) hx hb dX2_toldCode_2 (by decide) (fun c_1 => ?_) (fun c_1 => absurd c_1 (h4))
  refine lv_iload_n hx hb dX2_toldCode_12 rfl (lv_at hl 1 rfl) ?_
  refine lv_iconst (v := 5) hx hb dX2_toldCode_13 (by decide) ?_
  refine lv_icmp_ne (tgt := 24) hx hb dX2_toldCode_14 (by decide) (fun c_2 => ?_) (fun c_2 => absurd c_2 (h5))
  refine lv_null hx hb dX2_toldCode_24 ?_
  have hP9 := hP.sub (ws' := [(oC, .inr (2, [.ref o4, .ref o5]))]) [0] rfl
  have hD9 := hD.sub (ws' := [(oC, .inr (2, [.ref o4, .ref o5]))]) [0] (by decide) rfl
  exact W.aret (v := .null) hx hb hr (Or.inl ⟨_, rfl⟩) (Or.inl rfl) (fun t ht hW => ⟨⟨none, (), rfl, rfl, by rw [ht]; exact hP9, hD9⟩, hS.F ht⟩) (hS.2.2) dX2_toldCode_25

set_option maxHeartbeats 4000000 in
set_option maxRecDepth 100000 in
theorem m_X2_lengthOf_4 (l : Launch) (dC : Nat → ClassId) (dI : Nat → Nat → Nat) (cI cS : ClassId) (sz : Nat) (oC : Nat) (o4 : Nat) (o5 : Nat) (a41 : Nat) (a42 : Nat) (a43 : Nat)  : Met l yX2_lengthOf wsX2_lengthOf ({ frames := 1, cells := 0, slots := 0, locals := 21 } : Room) (va_Pc [.ref oC, .int 4] (fun U => U.heap.size = sz ∧ va_P (dC, dI) vwCl [(oC, .inr (2, [.ref o4, .ref o5])), (o4, .inr (10, [.ref a41, .ref a42, .ref a43, .int 0]))] U.heap ∧ va_K (dC, dI) vwCl [(cI, .int), (cS, .short)] U ∧ va_D (fun _ => True) [(oC, .inr (2, [.ref o4, .ref o5])), (o4, .inr (10, [.ref a41, .ref a42, .ref a43, .int 0]))])) (va_Qi (fun (r : Int32) (_ : Unit) => r = 0) (fun _ _ => True) (va_A [(oC, .inr (2, [.ref o4, .ref o5])), (o4, .inr (10, [.ref a41, .ref a42, .ref a43, .int 0]))] sz)) 0 0 (va_A [(oC, .inr (2, [.ref o4, .ref o5])), (o4, .inr (10, [.ref a41, .ref a42, .ref a43, .int 0]))] sz) := by
  refine Met.ofW (cc := cX2_lengthOf) (maxL := 3) (ret := (some .int)) (by decide) rfl ?_
  intro p e s m args below meth c s₁ B hml hv
  obtain ⟨rfl, hsz, hP, hK, hD0⟩ := hv
  have hx := B.exec
  have hb := B.bytes
  have hr := B.returns
  have hts := atoms_spec (ws := wsX2_lengthOf) B.pre
  have hown : s.vm.findClass RX2 = some m.cls := findClass_of_methodNamed B.named
  have hlocks := B.notSynchronized
  subst hsz
  have hD := hD0.self (sz := s.heap.size)
  generalize hAe : va_A [(oC, .inr (2, [.ref o4, .ref o5])), (o4, .inr (10, [.ref a41, .ref a42, .ref a43, .int 0]))] s.heap.size = A at hD ⊢
  have hA : ∀ q : Nat, s.heap.size ≤ q → A q := fun q h => by rw [← hAe]; exact Or.inr h
  have hS : va_S A s.heap s.heap [] := va_S.rf
  have hP : va_P (dC, dI) vwCl [(oC, .inr (2, [.ref o4, .ref o5])), (o4, .inr (10, [.ref a41, .ref a42, .ref a43, .int 0]))] s.heap := hP
  have hl := lv_entry ([.ref oC, .int 4]) (n := 3) (Nat.le_of_ble_eq_true rfl)
  rw [lg_entry_eq]
  generalize (lg_sl ([.ref oC, .int 4]) ++ List.replicate (3 - (lg_sl ([.ref oC, .int 4])).length) Slot.unset).toArray = ls at hl ⊢
  have hl : lv_has ls 3 [(0, .ref oC), (1, .int 4)] := hl
  refine lv_aload_n hx hb dX2_lengthOf_0 rfl (lv_at hl 0 rfl) ?_
  refine lv_iload_n hx hb dX2_lengthOf_1 rfl (lv_at hl 1 rfl) ?_
  have hPc := hP.sub (ws' := [(oC, .inr (2, [.ref o4, .ref o5]))]) [0] rfl
  have hDc := hD.sub (ws' := [(oC, .inr (2, [.ref o4, .ref o5]))]) [0] (by decide) rfl
  have hFc := va_free (wc := [(oC, .inr (2, [.ref o4, .ref o5]))]) hD hS hA [0] rfl
  refine va_callr (va_runV (As := [.int 4]) (rest := []) ⟨hx, hb, hml, hown, hts⟩ (m_X2_toldCode_4 l dC dI cI cS s.heap.size oC o4 o5 ) (cwV 1 hts gX2_lengthOf_X2_toldCode rfl rfl rfl (by decide +kernel) ⟨Nat.le_of_ble_eq_true rfl, Nat.le_of_ble_eq_true rfl⟩) ⟨fun a U g mk q => by obtain ⟨q0, q1, qP, qK, qD⟩ := q; exact ⟨q0, q1, qP, va_K.moved (u := U) (U := U.calling g mk a) (Vm.Alike.refl U.vm) qK, qD⟩, va_recv hK hPc (ci := 2) (q0 := 0) rfl rfl, fun U hU hW => ⟨rfl, by rw [hU], by rw [hU]; exact hPc, va_K.moved hW.alike hK, hDc.weaken (fun _ _ _ _ => trivial)⟩⟩ rfl rfl hl.1 rfl (lv_room (Nat.le_of_ble_eq_true rfl)) dX2_lengthOf_2 ⟨Nat.le_of_ble_eq_true rfl, Nat.le_of_ble_eq_true rfl⟩) hS (fun q _ h => hFc q h) hFc (fun u r_1 t H1 locs ht hvm hw hB hz1 hk1 hS => ?_)
  obtain ⟨hra, hP1, hD1⟩ := hB
  rw [hra]
  rw [ht] at hP1
  obtain ⟨hP, hD⟩ := va_join (wr := [(o4, .inr (10, [.ref a41, .ref a42, .ref a43, .int 0]))]) (w1 := [(oC, .inr (2, [.ref o4, .ref o5]))]) hP hD [0] [1] rfl rfl (by decide) (by decide) hk1 hFc hP1 hD1
  generalize H1 = H at hP hS ⊢
  have hP : va_P (dC, dI) vwCl [(o4, .inr (10, [.ref a41, .ref a42, .ref a43, .int 0])), (oC, .inr (2, [.ref o4, .ref o5]))] H := hP
  have hD : va_D A [(o4, .inr (10, [.ref a41, .ref a42, .ref a43, .int 0])), (oC, .inr (2, [.ref o4, .ref o5]))] := hD
  refine lv_astore_n (lv' := [(2, .ref o4), (0, .ref oC), (1, .int 4)]) hx hb dX2_lengthOf_5 rfl hl (by decide) rfl (fun ls hl => ?_)
  refine lv_aload_n hx hb dX2_lengthOf_6 rfl (lv_at hl 0 rfl) ?_
  refine lv_ifnonnull (tgt := 14) hx hb dX2_lengthOf_7 (by decide) ?_
  refine lv_aload_n hx hb dX2_lengthOf_14 rfl (lv_at hl 0 rfl) ?_
  have hPc := hP.sub (ws' := [(o4, .inr (10, [.ref a41, .ref a42, .ref a43, .int 0]))]) [0] rfl
  have hDc := hD.sub (ws' := [(o4, .inr (10, [.ref a41, .ref a42, .ref a43, .int 0]))]) [0] (by decide) rfl
  have hFc := va_free (wc := [(o4, .inr (10, [.ref a41, .ref a42, .ref a43, .int 0]))]) hD hS hA [0] rfl
  refine va_calli (va_runV (As := []) (rest := []) ⟨hx, hb, hml, hown, hts⟩ (m_X10_length l dC dI cI cS H.size o4 a41 a42 a43 ) (cwV 0 hts gX2_lengthOf_X10_length rfl rfl rfl (by decide +kernel) ⟨Nat.le_of_ble_eq_true rfl, Nat.le_of_ble_eq_true rfl⟩) ⟨fun a U g mk q => by obtain ⟨q0, q1, qP, qK, qD⟩ := q; exact ⟨q0, q1, qP, va_K.moved (u := U) (U := U.calling g mk a) (Vm.Alike.refl U.vm) qK, qD⟩, va_recv hK hPc (ci := 10) (q0 := 0) rfl rfl, fun U hU hW => ⟨rfl, by rw [hU], by rw [hU]; exact hPc, va_K.moved hW.alike hK, hDc.weaken (fun _ _ _ _ => trivial)⟩⟩ rfl rfl hl.1 rfl (lv_room (Nat.le_of_ble_eq_true rfl)) dX2_lengthOf_15 ⟨Nat.le_of_ble_eq_true rfl, Nat.le_of_ble_eq_true rfl⟩) hS (fun q _ h => hFc q h) hFc (fun r_2 u t H1 locs ht hvm hw hB hz1 hk1 hS => ?_)
  obtain ⟨hP, hD⟩ := va_join (wr := [(oC, .inr (2, [.ref o4, .ref o5]))]) (w1 := []) hP hD [0] [1] rfl rfl (by decide) (by decide) hk1 hFc p_P0 p_D0
  generalize H1 = H at hP hS ⊢
  have hP : va_P (dC, dI) vwCl [(oC, .inr (2, [.ref o4, .ref o5]))] H := hP
  have hD : va_D A [(oC, .inr (2, [.ref o4, .ref o5]))] := hD
  subst hw
  exact W.iret (v := 0) hx hb hr (fun t ht hW => ⟨⟨0, (), rfl, rfl, trivial⟩, hS.F ht⟩) (hS.2.2) dX2_lengthOf_18

set_option maxHeartbeats 4000000 in
set_option maxRecDepth 100000 in
theorem m_X2_lengthOf_5 (l : Launch) (dC : Nat → ClassId) (dI : Nat → Nat → Nat) (cI cS : ClassId) (sz : Nat) (oC : Nat) (o4 : Nat) (o5 : Nat) (a51 : Nat) (a52 : Nat) (a53 : Nat)  : Met l yX2_lengthOf wsX2_lengthOf ({ frames := 1, cells := 0, slots := 0, locals := 21 } : Room) (va_Pc [.ref oC, .int 5] (fun U => U.heap.size = sz ∧ va_P (dC, dI) vwCl [(oC, .inr (2, [.ref o4, .ref o5])), (o5, .inr (10, [.ref a51, .ref a52, .ref a53, .int 0]))] U.heap ∧ va_K (dC, dI) vwCl [(cI, .int), (cS, .short)] U ∧ va_D (fun _ => True) [(oC, .inr (2, [.ref o4, .ref o5])), (o5, .inr (10, [.ref a51, .ref a52, .ref a53, .int 0]))])) (va_Qi (fun (r : Int32) (_ : Unit) => r = 0) (fun _ _ => True) (va_A [(oC, .inr (2, [.ref o4, .ref o5])), (o5, .inr (10, [.ref a51, .ref a52, .ref a53, .int 0]))] sz)) 0 0 (va_A [(oC, .inr (2, [.ref o4, .ref o5])), (o5, .inr (10, [.ref a51, .ref a52, .ref a53, .int 0]))] sz) := by
  refine Met.ofW (cc := cX2_lengthOf) (maxL := 3) (ret := (some .int)) (by decide) rfl ?_
  intro p e s m args below meth c s₁ B hml hv
  obtain ⟨rfl, hsz, hP, hK, hD0⟩ := hv
  have hx := B.exec
  have hb := B.bytes
  have hr := B.returns
  have hts := atoms_spec (ws := wsX2_lengthOf) B.pre
  have hown : s.vm.findClass RX2 = some m.cls := findClass_of_methodNamed B.named
  have hlocks := B.notSynchronized
  subst hsz
  have hD := hD0.self (sz := s.heap.size)
  generalize hAe : va_A [(oC, .inr (2, [.ref o4, .ref o5])), (o5, .inr (10, [.ref a51, .ref a52, .ref a53, .int 0]))] s.heap.size = A at hD ⊢
  have hA : ∀ q : Nat, s.heap.size ≤ q → A q := fun q h => by rw [← hAe]; exact Or.inr h
  have hS : va_S A s.heap s.heap [] := va_S.rf
  have hP : va_P (dC, dI) vwCl [(oC, .inr (2, [.ref o4, .ref o5])), (o5, .inr (10, [.ref a51, .ref a52, .ref a53, .int 0]))] s.heap := hP
  have hl := lv_entry ([.ref oC, .int 5]) (n := 3) (Nat.le_of_ble_eq_true rfl)
  rw [lg_entry_eq]
  generalize (lg_sl ([.ref oC, .int 5]) ++ List.replicate (3 - (lg_sl ([.ref oC, .int 5])).length) Slot.unset).toArray = ls at hl ⊢
  have hl : lv_has ls 3 [(0, .ref oC), (1, .int 5)] := hl
  refine lv_aload_n hx hb dX2_lengthOf_0 rfl (lv_at hl 0 rfl) ?_
  refine lv_iload_n hx hb dX2_lengthOf_1 rfl (lv_at hl 1 rfl) ?_
  have hPc := hP.sub (ws' := [(oC, .inr (2, [.ref o4, .ref o5]))]) [0] rfl
  have hDc := hD.sub (ws' := [(oC, .inr (2, [.ref o4, .ref o5]))]) [0] (by decide) rfl
  have hFc := va_free (wc := [(oC, .inr (2, [.ref o4, .ref o5]))]) hD hS hA [0] rfl
  refine va_callr (va_runV (As := [.int 5]) (rest := []) ⟨hx, hb, hml, hown, hts⟩ (m_X2_toldCode_5 l dC dI cI cS s.heap.size oC o4 o5 ) (cwV 1 hts gX2_lengthOf_X2_toldCode rfl rfl rfl (by decide +kernel) ⟨Nat.le_of_ble_eq_true rfl, Nat.le_of_ble_eq_true rfl⟩) ⟨fun a U g mk q => by obtain ⟨q0, q1, qP, qK, qD⟩ := q; exact ⟨q0, q1, qP, va_K.moved (u := U) (U := U.calling g mk a) (Vm.Alike.refl U.vm) qK, qD⟩, va_recv hK hPc (ci := 2) (q0 := 0) rfl rfl, fun U hU hW => ⟨rfl, by rw [hU], by rw [hU]; exact hPc, va_K.moved hW.alike hK, hDc.weaken (fun _ _ _ _ => trivial)⟩⟩ rfl rfl hl.1 rfl (lv_room (Nat.le_of_ble_eq_true rfl)) dX2_lengthOf_2 ⟨Nat.le_of_ble_eq_true rfl, Nat.le_of_ble_eq_true rfl⟩) hS (fun q _ h => hFc q h) hFc (fun u r_1 t H1 locs ht hvm hw hB hz1 hk1 hS => ?_)
  obtain ⟨hra, hP1, hD1⟩ := hB
  rw [hra]
  rw [ht] at hP1
  obtain ⟨hP, hD⟩ := va_join (wr := [(o5, .inr (10, [.ref a51, .ref a52, .ref a53, .int 0]))]) (w1 := [(oC, .inr (2, [.ref o4, .ref o5]))]) hP hD [0] [1] rfl rfl (by decide) (by decide) hk1 hFc hP1 hD1
  generalize H1 = H at hP hS ⊢
  have hP : va_P (dC, dI) vwCl [(o5, .inr (10, [.ref a51, .ref a52, .ref a53, .int 0])), (oC, .inr (2, [.ref o4, .ref o5]))] H := hP
  have hD : va_D A [(o5, .inr (10, [.ref a51, .ref a52, .ref a53, .int 0])), (oC, .inr (2, [.ref o4, .ref o5]))] := hD
  refine lv_astore_n (lv' := [(2, .ref o5), (0, .ref oC), (1, .int 5)]) hx hb dX2_lengthOf_5 rfl hl (by decide) rfl (fun ls hl => ?_)
  refine lv_aload_n hx hb dX2_lengthOf_6 rfl (lv_at hl 0 rfl) ?_
  refine lv_ifnonnull (tgt := 14) hx hb dX2_lengthOf_7 (by decide) ?_
  refine lv_aload_n hx hb dX2_lengthOf_14 rfl (lv_at hl 0 rfl) ?_
  have hPc := hP.sub (ws' := [(o5, .inr (10, [.ref a51, .ref a52, .ref a53, .int 0]))]) [0] rfl
  have hDc := hD.sub (ws' := [(o5, .inr (10, [.ref a51, .ref a52, .ref a53, .int 0]))]) [0] (by decide) rfl
  have hFc := va_free (wc := [(o5, .inr (10, [.ref a51, .ref a52, .ref a53, .int 0]))]) hD hS hA [0] rfl
  refine va_calli (va_runV (As := []) (rest := []) ⟨hx, hb, hml, hown, hts⟩ (m_X10_length l dC dI cI cS H.size o5 a51 a52 a53 ) (cwV 0 hts gX2_lengthOf_X10_length rfl rfl rfl (by decide +kernel) ⟨Nat.le_of_ble_eq_true rfl, Nat.le_of_ble_eq_true rfl⟩) ⟨fun a U g mk q => by obtain ⟨q0, q1, qP, qK, qD⟩ := q; exact ⟨q0, q1, qP, va_K.moved (u := U) (U := U.calling g mk a) (Vm.Alike.refl U.vm) qK, qD⟩, va_recv hK hPc (ci := 10) (q0 := 0) rfl rfl, fun U hU hW => ⟨rfl, by rw [hU], by rw [hU]; exact hPc, va_K.moved hW.alike hK, hDc.weaken (fun _ _ _ _ => trivial)⟩⟩ rfl rfl hl.1 rfl (lv_room (Nat.le_of_ble_eq_true rfl)) dX2_lengthOf_15 ⟨Nat.le_of_ble_eq_true rfl, Nat.le_of_ble_eq_true rfl⟩) hS (fun q _ h => hFc q h) hFc (fun r_2 u t H1 locs ht hvm hw hB hz1 hk1 hS => ?_)
  obtain ⟨hP, hD⟩ := va_join (wr := [(oC, .inr (2, [.ref o4, .ref o5]))]) (w1 := []) hP hD [0] [1] rfl rfl (by decide) (by decide) hk1 hFc p_P0 p_D0
  generalize H1 = H at hP hS ⊢
  have hP : va_P (dC, dI) vwCl [(oC, .inr (2, [.ref o4, .ref o5]))] H := hP
  have hD : va_D A [(oC, .inr (2, [.ref o4, .ref o5]))] := hD
  subst hw
  exact W.iret (v := 0) hx hb hr (fun t ht hW => ⟨⟨0, (), rfl, rfl, trivial⟩, hS.F ht⟩) (hS.2.2) dX2_lengthOf_18

set_option maxHeartbeats 4000000 in
set_option maxRecDepth 100000 in
theorem m_X10_empty (l : Launch) (dC : Nat → ClassId) (dI : Nat → Nat → Nat) (cI cS : ClassId) (sz : Nat) (o4 : Nat) (a41 : Nat) (a42 : Nat) (a43 : Nat)  : Met l yX10_empty wsX10_empty ({ frames := 1, cells := 0, slots := 0, locals := 23 } : Room) (va_Pc [.ref o4] (fun U => U.heap.size = sz ∧ va_P (dC, dI) vwCl [(o4, .inr (10, [.ref a41, .ref a42, .ref a43, .int 0])), (a41, .inl (cI, 256, .inl (fun _ => (-1)))), (a43, .inl (cI, 512, .inl (fun _ => (-1))))] U.heap ∧ va_K (dC, dI) vwCl [(cI, .int), (cS, .short)] U ∧ va_D (fun _ => True) [(o4, .inr (10, [.ref a41, .ref a42, .ref a43, .int 0])), (a41, .inl (cI, 256, .inl (fun _ => (-1)))), (a43, .inl (cI, 512, .inl (fun _ => (-1))))])) (va_Qv (fun (_ : Unit) => True) (fun _ _ => True) (va_A [(o4, .inr (10, [.ref a41, .ref a42, .ref a43, .int 0])), (a41, .inl (cI, 256, .inl (fun _ => (-1)))), (a43, .inl (cI, 512, .inl (fun _ => (-1))))] sz)) 0 0 (va_A [(o4, .inr (10, [.ref a41, .ref a42, .ref a43, .int 0])), (a41, .inl (cI, 256, .inl (fun _ => (-1)))), (a43, .inl (cI, 512, .inl (fun _ => (-1))))] sz) := by
  refine Met.ofW (cc := cX10_empty) (maxL := 1) (ret := none) (by decide) rfl ?_
  intro p e s m args below meth c s₁ B hml hv
  obtain ⟨rfl, hsz, hP, hK, hD0⟩ := hv
  have hx := B.exec
  have hb := B.bytes
  have hr := B.returns
  have hts := atoms_spec (ws := wsX10_empty) B.pre
  have hown : s.vm.findClass RX10 = some m.cls := findClass_of_methodNamed B.named
  have hlocks := B.notSynchronized
  have in_X10 : ∀ w ∈ wsX100, w ∈ wsX10_empty := fun _ h => List.mem_cons_of_mem _ (List.mem_append_right _ (h))
  subst hsz
  have hD := hD0.self (sz := s.heap.size)
  generalize hAe : va_A [(o4, .inr (10, [.ref a41, .ref a42, .ref a43, .int 0])), (a41, .inl (cI, 256, .inl (fun _ => (-1)))), (a43, .inl (cI, 512, .inl (fun _ => (-1))))] s.heap.size = A at hD ⊢
  have hA : ∀ q : Nat, s.heap.size ≤ q → A q := fun q h => by rw [← hAe]; exact Or.inr h
  have hS : va_S A s.heap s.heap [] := va_S.rf
  have hP : va_P (dC, dI) vwCl [(o4, .inr (10, [.ref a41, .ref a42, .ref a43, .int 0])), (a41, .inl (cI, 256, .inl (fun _ => (-1)))), (a43, .inl (cI, 512, .inl (fun _ => (-1))))] s.heap := hP
  have hl := lv_entry ([.ref o4]) (n := 1) (Nat.le_of_ble_eq_true rfl)
  rw [lg_entry_eq]
  generalize (lg_sl ([.ref o4]) ++ List.replicate (1 - (lg_sl ([.ref o4])).length) Slot.unset).toArray = ls at hl ⊢
  have hl : lv_has ls 1 [(0, .ref o4)] := hl
  refine lv_aload_n hx hb dX10_empty_0 rfl (lv_at hl 0 rfl) ?_
  refine va_get (D := (dC, dI)) (ci := 10) (v := .ref a41) (C := RX10) (T := TX10) (N := 4) hx hb hts in_X10 hown hK hP 0 rfl rfl 0 (by decide) (hts (.fieldLink RX10 9 "TextMender$ToldCode" "letterOf" "[I") (List.mem_of_getElem? (i := 1) rfl)) (fun _ h9 => h9) rfl dX10_empty_1 ?_
  refine lv_iconst (v := (-1)) hx hb dX10_empty_4 (by decide) ?_
  have hPc := hP.sub (ws' := [(a41, .inl (cI, 256, .inl (fun _ => (-1))))]) [1] rfl
  have hDc := hD.sub (ws' := [(a41, .inl (cI, 256, .inl (fun _ => (-1))))]) [1] (by decide) rfl
  have hFc := va_free (wc := [(a41, .inl (cI, 256, .inl (fun _ => (-1))))]) hD hS hA [1] rfl
  refine va_callv (va_runS (As := [.ref a41, .int (-1)]) (rest := []) ⟨hx, hb, hml, hown, hts⟩ (m_J7_fill_53178 l dC dI cI cS s.heap.size a41 256 (-1) (fun _ => (-1)) (by decide)) (va_cwS 2 hts gX10_empty_J7_fill_53178 rfl rfl rfl (by decide +kernel) ⟨Nat.le_of_ble_eq_true rfl, Nat.le_of_ble_eq_true rfl⟩) ⟨fun a U g mk q => by obtain ⟨q0, q1, qP, qK, qD⟩ := q; exact ⟨q0, q1, qP, va_K.moved (u := U) (U := U.calling g mk a) (Vm.Alike.refl U.vm) qK, qD⟩, fun U hU hW => ⟨rfl, by rw [hU], by rw [hU]; exact hPc, va_K.moved hW.alike hK, hDc.weaken (fun _ _ _ _ => trivial)⟩⟩ rfl rfl hl.1 rfl (lv_room (Nat.le_of_ble_eq_true rfl)) dX10_empty_5 ⟨Nat.le_of_ble_eq_true rfl, Nat.le_of_ble_eq_true rfl⟩) hS (fun q _ h => hFc q h) hFc (fun u t H1 locs ht hvm hw hB hz1 hk1 hS => ?_)
  obtain ⟨hP1, hD1⟩ := hB
  rw [ht] at hP1
  obtain ⟨hP, hD⟩ := va_join (wr := [(o4, .inr (10, [.ref a41, .ref a42, .ref a43, .int 0])), (a43, .inl (cI, 512, .inl (fun _ => (-1))))]) (w1 := [(a41, .inl (cI, 256, .inl (fun _ => (-1))))]) hP hD [1] [0, 2] rfl rfl (by decide) (by decide) hk1 hFc hP1 hD1
  generalize H1 = H at hP hS ⊢
  have hP : va_P (dC, dI) vwCl [(o4, .inr (10, [.ref a41, .ref a42, .ref a43, .int 0])), (a43, .inl (cI, 512, .inl (fun _ => (-1)))), (a41, .inl (cI, 256, .inl (fun _ => (-1))))] H := hP
  have hD : va_D A [(o4, .inr (10, [.ref a41, .ref a42, .ref a43, .int 0])), (a43, .inl (cI, 512, .inl (fun _ => (-1)))), (a41, .inl (cI, 256, .inl (fun _ => (-1))))] := hD
  refine lv_aload_n hx hb dX10_empty_8 rfl (lv_at hl 0 rfl) ?_
  refine va_get (D := (dC, dI)) (ci := 10) (v := .ref a43) (C := RX10) (T := TX10) (N := 4) hx hb hts in_X10 hown hK hP 0 rfl rfl 2 (by decide) (hts (.fieldLink RX10 18 "TextMender$ToldCode" "placeByte" "[I") (List.mem_of_getElem? (i := 2) rfl)) (fun _ h9 => h9) rfl dX10_empty_9 ?_
  refine lv_iconst (v := (-1)) hx hb dX10_empty_12 (by decide) ?_
  have hPc := hP.sub (ws' := [(a43, .inl (cI, 512, .inl (fun _ => (-1))))]) [1] rfl
  have hDc := hD.sub (ws' := [(a43, .inl (cI, 512, .inl (fun _ => (-1))))]) [1] (by decide) rfl
  have hFc := va_free (wc := [(a43, .inl (cI, 512, .inl (fun _ => (-1))))]) hD hS hA [1] rfl
  refine va_callv (va_runS (As := [.ref a43, .int (-1)]) (rest := []) ⟨hx, hb, hml, hown, hts⟩ (m_J7_fill_53178 l dC dI cI cS H.size a43 512 (-1) (fun _ => (-1)) (by decide)) (va_cwS 2 hts gX10_empty_J7_fill_53178 rfl rfl rfl (by decide +kernel) ⟨Nat.le_of_ble_eq_true rfl, Nat.le_of_ble_eq_true rfl⟩) ⟨fun a U g mk q => by obtain ⟨q0, q1, qP, qK, qD⟩ := q; exact ⟨q0, q1, qP, va_K.moved (u := U) (U := U.calling g mk a) (Vm.Alike.refl U.vm) qK, qD⟩, fun U hU hW => ⟨rfl, by rw [hU], by rw [hU]; exact hPc, va_K.moved hW.alike hK, hDc.weaken (fun _ _ _ _ => trivial)⟩⟩ rfl rfl hl.1 rfl (lv_room (Nat.le_of_ble_eq_true rfl)) dX10_empty_13 ⟨Nat.le_of_ble_eq_true rfl, Nat.le_of_ble_eq_true rfl⟩) hS (fun q _ h => hFc q h) hFc (fun u t H1 locs ht hvm hw hB hz1 hk1 hS => ?_)
  obtain ⟨hP1, hD1⟩ := hB
  rw [ht] at hP1
  obtain ⟨hP, hD⟩ := va_join (wr := [(o4, .inr (10, [.ref a41, .ref a42, .ref a43, .int 0])), (a41, .inl (cI, 256, .inl (fun _ => (-1))))]) (w1 := [(a43, .inl (cI, 512, .inl (fun _ => (-1))))]) hP hD [1] [0, 2] rfl rfl (by decide) (by decide) hk1 hFc hP1 hD1
  generalize H1 = H at hP hS ⊢
  have hP : va_P (dC, dI) vwCl [(o4, .inr (10, [.ref a41, .ref a42, .ref a43, .int 0])), (a41, .inl (cI, 256, .inl (fun _ => (-1)))), (a43, .inl (cI, 512, .inl (fun _ => (-1))))] H := hP
  have hD : va_D A [(o4, .inr (10, [.ref a41, .ref a42, .ref a43, .int 0])), (a41, .inl (cI, 256, .inl (fun _ => (-1)))), (a43, .inl (cI, 512, .inl (fun _ => (-1))))] := hD
  refine lv_aload_n hx hb dX10_empty_16 rfl (lv_at hl 0 rfl) ?_
  refine lv_iconst (v := 0) hx hb dX10_empty_17 (by decide) ?_
  refine va_put (D := (dC, dI)) (ci := 10) (v := .int 0) (ty := .int) (C := RX10) (T := TX10) (N := 4) hx hb hts in_X10 tyX10 tyX10_ok nmX10 hown hK hP hD hS 0 rfl rfl 3 (by decide) (hts (.fieldLink RX10 27 "TextMender$ToldCode" "length" "I") (List.mem_of_getElem? (i := 3) rfl)) (fun _ h9 => h9) rfl (by decide +kernel) rfl rfl (Nat.le_of_ble_eq_true rfl) dX10_empty_18 (fun H locs hP hD hS => ?_)
  have hP : va_P (dC, dI) vwCl [(o4, .inr (10, [.ref a41, .ref a42, .ref a43, .int 0])), (a41, .inl (cI, 256, .inl (fun _ => (-1)))), (a43, .inl (cI, 512, .inl (fun _ => (-1))))] H := hP
  have hD : va_D A [(o4, .inr (10, [.ref a41, .ref a42, .ref a43, .int 0])), (a41, .inl (cI, 256, .inl (fun _ => (-1)))), (a43, .inl (cI, 512, .inl (fun _ => (-1))))] := hD
  exact W.vret hx hb hr (fun t ht hW => ⟨⟨(), rfl, trivial, trivial⟩, hS.F ht⟩) (hS.2.2) dX10_empty_21

set_option maxHeartbeats 4000000 in
set_option maxRecDepth 100000 in
theorem m_X11_marksOf (l : Launch) (dC : Nat → ClassId) (dI : Nat → Nat → Nat) (cI cS : ClassId) (sz : Nat) (nL : Nat) (aL : Nat)  : Met l yX11_marksOf wsX11_marksOf ({ frames := 1, cells := 0, slots := 0, locals := 20 } : Room) (va_Pc [.ref nL] (fun U => U.heap.size = sz ∧ va_P (dC, dI) vwCl [(nL, .inr (5, [.ref aL, .int 0]))] U.heap ∧ va_K (dC, dI) vwCl [(cI, .int), (cS, .short)] U ∧ va_D (fun _ => True) [(nL, .inr (5, [.ref aL, .int 0]))])) (va_Qi (fun (r : Int32) (_ : Unit) => r = 0) (fun _ t => va_P (dC, dI) vwCl [(nL, .inr (5, [.ref aL, .int 0]))] t.heap ∧ va_D (va_A [(nL, .inr (5, [.ref aL, .int 0]))] sz) [(nL, .inr (5, [.ref aL, .int 0]))]) (va_A [(nL, .inr (5, [.ref aL, .int 0]))] sz)) 0 0 (va_A [(nL, .inr (5, [.ref aL, .int 0]))] sz) := by
  refine Met.ofW (cc := cX11_marksOf) (maxL := 3) (ret := (some .int)) (by decide) rfl ?_
  intro p e s m args below meth c s₁ B hml hv
  obtain ⟨rfl, hsz, hP, hK, hD0⟩ := hv
  have hx := B.exec
  have hb := B.bytes
  have hr := B.returns
  have hts := atoms_spec (ws := wsX11_marksOf) B.pre
  have hown : s.vm.findClass RX11 = some m.cls := findClass_of_methodNamed B.named
  have hlocks := B.notSynchronized
  subst hsz
  have hD := hD0.self (sz := s.heap.size)
  generalize hAe : va_A [(nL, .inr (5, [.ref aL, .int 0]))] s.heap.size = A at hD ⊢
  have hA : ∀ q : Nat, s.heap.size ≤ q → A q := fun q h => by rw [← hAe]; exact Or.inr h
  have hS : va_S A s.heap s.heap [] := va_S.rf
  have hP : va_P (dC, dI) vwCl [(nL, .inr (5, [.ref aL, .int 0]))] s.heap := hP
  have hl := lv_entry ([.ref nL]) (n := 3) (Nat.le_of_ble_eq_true rfl)
  rw [lg_entry_eq]
  generalize (lg_sl ([.ref nL]) ++ List.replicate (3 - (lg_sl ([.ref nL])).length) Slot.unset).toArray = ls at hl ⊢
  have hl : lv_has ls 3 [(0, .ref nL)] := hl
  refine lv_iconst (v := 0) hx hb dX11_marksOf_0 (by decide) ?_
  refine lv_istore_n (lv' := [(1, .int 0), (0, .ref nL)]) hx hb dX11_marksOf_1 rfl hl (by decide) rfl (fun ls hl => ?_)
  refine lv_iconst (v := 0) hx hb dX11_marksOf_2 (by decide) ?_
  refine lv_istore_n (lv' := [(2, .int 0), (1, .int 0), (0, .ref nL)]) hx hb dX11_marksOf_3 rfl hl (by decide) rfl (fun ls hl => ?_)
  refine lv_iload_n hx hb dX11_marksOf_4 rfl (lv_at hl 0 rfl) ?_
  refine lv_aload_n hx hb dX11_marksOf_5 rfl (lv_at hl 2 rfl) ?_
  have hPc := hP.sub (ws' := [(nL, .inr (5, [.ref aL, .int 0]))]) [0] rfl
  have hDc := hD.sub (ws' := [(nL, .inr (5, [.ref aL, .int 0]))]) [0] (by decide) rfl
  have hFc := va_free (wc := [(nL, .inr (5, [.ref aL, .int 0]))]) hD hS hA [0] rfl
  refine va_calli (va_runV (As := []) (rest := [.int 0]) ⟨hx, hb, hml, hown, hts⟩ (m_X5_length l dC dI cI cS s.heap.size nL aL 0 ) (cwV 0 hts gX11_marksOf_X5_length rfl rfl rfl (by decide +kernel) ⟨Nat.le_of_ble_eq_true rfl, Nat.le_of_ble_eq_true rfl⟩) ⟨fun a U g mk q => by obtain ⟨q0, q1, qP, qK, qD⟩ := q; exact ⟨q0, q1, qP, va_K.moved (u := U) (U := U.calling g mk a) (Vm.Alike.refl U.vm) qK, qD⟩, va_recv hK hPc (ci := 5) (q0 := 0) rfl rfl, fun U hU hW => ⟨rfl, by rw [hU], by rw [hU]; exact hPc, va_K.moved hW.alike hK, hDc.weaken (fun _ _ _ _ => trivial)⟩⟩ rfl rfl hl.1 rfl (lv_room (Nat.le_of_ble_eq_true rfl)) dX11_marksOf_6 ⟨Nat.le_of_ble_eq_true rfl, Nat.le_of_ble_eq_true rfl⟩) hS (fun q _ h => hFc q h) hFc (fun r_1 u t H1 locs ht hvm hw hB hz1 hk1 hS => ?_)
  obtain ⟨hP1, hD1⟩ := hB
  rw [ht] at hP1
  obtain ⟨hP, hD⟩ := va_join (wr := []) (w1 := [(nL, .inr (5, [.ref aL, .int 0]))]) hP hD [0] [] rfl rfl (by decide) (by decide) hk1 hFc hP1 hD1
  generalize H1 = H at hP hS ⊢
  have hP : va_P (dC, dI) vwCl [(nL, .inr (5, [.ref aL, .int 0]))] H := hP
  have hD : va_D A [(nL, .inr (5, [.ref aL, .int 0]))] := hD
  subst hw
  refine lv_icmp_ge (tgt := 32) hx hb dX11_marksOf_9 (by decide) (fun c_2 => ?_) (fun c_2 => absurd (by decide) c_2)
  refine lv_iload_n hx hb dX11_marksOf_32 rfl (lv_at hl 1 rfl) ?_
  have hP9 := hP.sub (ws' := [(nL, .inr (5, [.ref aL, .int 0]))]) [0] rfl
  have hD9 := hD.sub (ws' := [(nL, .inr (5, [.ref aL, .int 0]))]) [0] (by decide) rfl
  exact W.iret (v := 0) hx hb hr (fun t ht hW => ⟨⟨0, (), rfl, rfl, by rw [ht]; exact hP9, hD9⟩, hS.F ht⟩) (hS.2.2) dX11_marksOf_33

set_option maxHeartbeats 4000000 in
set_option maxRecDepth 100000 in
theorem m_X11_tapeHoldsLetters (l : Launch) (dC : Nat → ClassId) (dI : Nat → Nat → Nat) (cI cS : ClassId) (sz : Nat) (oX : Nat) (nT : Nat) (nL : Nat) (nM : Nat) (oC : Nat) (oP : Nat) (oH : Nat) (oK : Nat) (oG : Nat) (oR : Nat) (oQ : Nat) (oW : Nat) (aT : Nat)  : Met l yX11_tapeHoldsLetters wsX11_tapeHoldsLetters ({ frames := 1, cells := 0, slots := 0, locals := 20 } : Room) (va_Pc [.ref oX] (fun U => U.heap.size = sz ∧ va_P (dC, dI) vwCl [(oX, .inr (11, [.ref nT, .ref nL, .ref nM, .ref oC, .ref oP, .ref oH, .ref oK, .ref oG, .ref oR, .ref oQ, .ref oW, .int (-1)])), (nT, .inr (5, [.ref aT, .int 0]))] U.heap ∧ va_K (dC, dI) vwCl [(cI, .int), (cS, .short)] U ∧ va_D (fun _ => True) [(oX, .inr (11, [.ref nT, .ref nL, .ref nM, .ref oC, .ref oP, .ref oH, .ref oK, .ref oG, .ref oR, .ref oQ, .ref oW, .int (-1)])), (nT, .inr (5, [.ref aT, .int 0]))])) (va_Qi (fun (r : Int32) (_ : Unit) => r = 1) (fun _ t => va_P (dC, dI) vwCl [(oX, .inr (11, [.ref nT, .ref nL, .ref nM, .ref oC, .ref oP, .ref oH, .ref oK, .ref oG, .ref oR, .ref oQ, .ref oW, .int (-1)])), (nT, .inr (5, [.ref aT, .int 0]))] t.heap ∧ va_D (va_A [(oX, .inr (11, [.ref nT, .ref nL, .ref nM, .ref oC, .ref oP, .ref oH, .ref oK, .ref oG, .ref oR, .ref oQ, .ref oW, .int (-1)])), (nT, .inr (5, [.ref aT, .int 0]))] sz) [(oX, .inr (11, [.ref nT, .ref nL, .ref nM, .ref oC, .ref oP, .ref oH, .ref oK, .ref oG, .ref oR, .ref oQ, .ref oW, .int (-1)])), (nT, .inr (5, [.ref aT, .int 0]))]) (va_A [(oX, .inr (11, [.ref nT, .ref nL, .ref nM, .ref oC, .ref oP, .ref oH, .ref oK, .ref oG, .ref oR, .ref oQ, .ref oW, .int (-1)])), (nT, .inr (5, [.ref aT, .int 0]))] sz)) 0 0 (va_A [(oX, .inr (11, [.ref nT, .ref nL, .ref nM, .ref oC, .ref oP, .ref oH, .ref oK, .ref oG, .ref oR, .ref oQ, .ref oW, .int (-1)])), (nT, .inr (5, [.ref aT, .int 0]))] sz) := by
  refine Met.ofW (cc := cX11_tapeHoldsLetters) (maxL := 2) (ret := (some .boolean)) (by decide) rfl ?_
  intro p e s m args below meth c s₁ B hml hv
  obtain ⟨rfl, hsz, hP, hK, hD0⟩ := hv
  have hx := B.exec
  have hb := B.bytes
  have hr := B.returns
  have hts := atoms_spec (ws := wsX11_tapeHoldsLetters) B.pre
  have hown : s.vm.findClass RX11 = some m.cls := findClass_of_methodNamed B.named
  have hlocks := B.notSynchronized
  have in_X11 : ∀ w ∈ wsX110, w ∈ wsX11_tapeHoldsLetters := fun _ h => List.mem_cons_of_mem _ (List.mem_append_left _ (List.mem_append_right _ (h)))
  subst hsz
  have hD := hD0.self (sz := s.heap.size)
  generalize hAe : va_A [(oX, .inr (11, [.ref nT, .ref nL, .ref nM, .ref oC, .ref oP, .ref oH, .ref oK, .ref oG, .ref oR, .ref oQ, .ref oW, .int (-1)])), (nT, .inr (5, [.ref aT, .int 0]))] s.heap.size = A at hD ⊢
  have hA : ∀ q : Nat, s.heap.size ≤ q → A q := fun q h => by rw [← hAe]; exact Or.inr h
  have hS : va_S A s.heap s.heap [] := va_S.rf
  have hP : va_P (dC, dI) vwCl [(oX, .inr (11, [.ref nT, .ref nL, .ref nM, .ref oC, .ref oP, .ref oH, .ref oK, .ref oG, .ref oR, .ref oQ, .ref oW, .int (-1)])), (nT, .inr (5, [.ref aT, .int 0]))] s.heap := hP
  have hl := lv_entry ([.ref oX]) (n := 2) (Nat.le_of_ble_eq_true rfl)
  rw [lg_entry_eq]
  generalize (lg_sl ([.ref oX]) ++ List.replicate (2 - (lg_sl ([.ref oX])).length) Slot.unset).toArray = ls at hl ⊢
  have hl : lv_has ls 2 [(0, .ref oX)] := hl
  refine lv_iconst (v := 0) hx hb dX11_tapeHoldsLetters_0 (by decide) ?_
  refine lv_istore_n (lv' := [(1, .int 0), (0, .ref oX)]) hx hb dX11_tapeHoldsLetters_1 rfl hl (by decide) rfl (fun ls hl => ?_)
  refine lv_iload_n hx hb dX11_tapeHoldsLetters_2 rfl (lv_at hl 0 rfl) ?_
  refine lv_aload_n hx hb dX11_tapeHoldsLetters_3 rfl (lv_at hl 1 rfl) ?_
  refine va_get (D := (dC, dI)) (ci := 11) (v := .ref nT) (C := RX11) (T := TX11) (N := 12) hx hb hts in_X11 hown hK hP 0 rfl rfl 0 (by decide) (hts (.fieldLink RX11 30 "TextMender" "tape" "LTextMender$Numbers;") (List.mem_of_getElem? (i := 1) rfl)) (fun _ h9 => h9) rfl dX11_tapeHoldsLetters_4 ?_
  have hPc := hP.sub (ws' := [(nT, .inr (5, [.ref aT, .int 0]))]) [1] rfl
  have hDc := hD.sub (ws' := [(nT, .inr (5, [.ref aT, .int 0]))]) [1] (by decide) rfl
  have hFc := va_free (wc := [(nT, .inr (5, [.ref aT, .int 0]))]) hD hS hA [1] rfl
  refine va_calli (va_runV (As := []) (rest := [.int 0]) ⟨hx, hb, hml, hown, hts⟩ (m_X5_length l dC dI cI cS s.heap.size nT aT 0 ) (cwV 0 hts gX11_tapeHoldsLetters_X5_length rfl rfl rfl (by decide +kernel) ⟨Nat.le_of_ble_eq_true rfl, Nat.le_of_ble_eq_true rfl⟩) ⟨fun a U g mk q => by obtain ⟨q0, q1, qP, qK, qD⟩ := q; exact ⟨q0, q1, qP, va_K.moved (u := U) (U := U.calling g mk a) (Vm.Alike.refl U.vm) qK, qD⟩, va_recv hK hPc (ci := 5) (q0 := 0) rfl rfl, fun U hU hW => ⟨rfl, by rw [hU], by rw [hU]; exact hPc, va_K.moved hW.alike hK, hDc.weaken (fun _ _ _ _ => trivial)⟩⟩ rfl rfl hl.1 rfl (lv_room (Nat.le_of_ble_eq_true rfl)) dX11_tapeHoldsLetters_7 ⟨Nat.le_of_ble_eq_true rfl, Nat.le_of_ble_eq_true rfl⟩) hS (fun q _ h => hFc q h) hFc (fun r_1 u t H1 locs ht hvm hw hB hz1 hk1 hS => ?_)
  obtain ⟨hP1, hD1⟩ := hB
  rw [ht] at hP1
  obtain ⟨hP, hD⟩ := va_join (wr := [(oX, .inr (11, [.ref nT, .ref nL, .ref nM, .ref oC, .ref oP, .ref oH, .ref oK, .ref oG, .ref oR, .ref oQ, .ref oW, .int (-1)]))]) (w1 := [(nT, .inr (5, [.ref aT, .int 0]))]) hP hD [1] [0] rfl rfl (by decide) (by decide) hk1 hFc hP1 hD1
  generalize H1 = H at hP hS ⊢
  have hP : va_P (dC, dI) vwCl [(oX, .inr (11, [.ref nT, .ref nL, .ref nM, .ref oC, .ref oP, .ref oH, .ref oK, .ref oG, .ref oR, .ref oQ, .ref oW, .int (-1)])), (nT, .inr (5, [.ref aT, .int 0]))] H := hP
  have hD : va_D A [(oX, .inr (11, [.ref nT, .ref nL, .ref nM, .ref oC, .ref oP, .ref oH, .ref oK, .ref oG, .ref oR, .ref oQ, .ref oW, .int (-1)])), (nT, .inr (5, [.ref aT, .int 0]))] := hD
  subst hw
  refine lv_icmp_ge (tgt := 40) hx hb dX11_tapeHoldsLetters_10 (by decide) (fun c_2 => ?_) (fun c_2 => absurd (by decide) c_2)
  refine lv_iconst (v := 1) hx hb dX11_tapeHoldsLetters_40 (by decide) ?_
  have hP9 := hP.sub (ws' := [(oX, .inr (11, [.ref nT, .ref nL, .ref nM, .ref oC, .ref oP, .ref oH, .ref oK, .ref oG, .ref oR, .ref oQ, .ref oW, .int (-1)])), (nT, .inr (5, [.ref aT, .int 0]))]) [0, 1] rfl
  have hD9 := hD.sub (ws' := [(oX, .inr (11, [.ref nT, .ref nL, .ref nM, .ref oC, .ref oP, .ref oH, .ref oK, .ref oG, .ref oR, .ref oQ, .ref oW, .int (-1)])), (nT, .inr (5, [.ref aT, .int 0]))]) [0, 1] (by decide) rfl
  exact W.zret (v := 1) (ty := .boolean) hx hb hr (rfl) (fun t ht hW => ⟨⟨1, (), rfl, rfl, by rw [ht]; exact hP9, hD9⟩, hS.F ht⟩) (hS.2.2) dX11_tapeHoldsLetters_41

set_option maxHeartbeats 4000000 in
set_option maxRecDepth 100000 in
theorem m_X11_tapeHoldsBytes (l : Launch) (dC : Nat → ClassId) (dI : Nat → Nat → Nat) (cI cS : ClassId) (sz : Nat) (oX : Nat) (nT : Nat) (nL : Nat) (nM : Nat) (oC : Nat) (oP : Nat) (oH : Nat) (oK : Nat) (oG : Nat) (oR : Nat) (oQ : Nat) (oW : Nat) (aT : Nat)  : Met l yX11_tapeHoldsBytes wsX11_tapeHoldsBytes ({ frames := 1, cells := 0, slots := 0, locals := 20 } : Room) (va_Pc [.ref oX] (fun U => U.heap.size = sz ∧ va_P (dC, dI) vwCl [(oX, .inr (11, [.ref nT, .ref nL, .ref nM, .ref oC, .ref oP, .ref oH, .ref oK, .ref oG, .ref oR, .ref oQ, .ref oW, .int (-1)])), (nT, .inr (5, [.ref aT, .int 0]))] U.heap ∧ va_K (dC, dI) vwCl [(cI, .int), (cS, .short)] U ∧ va_D (fun _ => True) [(oX, .inr (11, [.ref nT, .ref nL, .ref nM, .ref oC, .ref oP, .ref oH, .ref oK, .ref oG, .ref oR, .ref oQ, .ref oW, .int (-1)])), (nT, .inr (5, [.ref aT, .int 0]))])) (va_Qi (fun (r : Int32) (_ : Unit) => r = 1) (fun _ t => va_P (dC, dI) vwCl [(oX, .inr (11, [.ref nT, .ref nL, .ref nM, .ref oC, .ref oP, .ref oH, .ref oK, .ref oG, .ref oR, .ref oQ, .ref oW, .int (-1)])), (nT, .inr (5, [.ref aT, .int 0]))] t.heap ∧ va_D (va_A [(oX, .inr (11, [.ref nT, .ref nL, .ref nM, .ref oC, .ref oP, .ref oH, .ref oK, .ref oG, .ref oR, .ref oQ, .ref oW, .int (-1)])), (nT, .inr (5, [.ref aT, .int 0]))] sz) [(oX, .inr (11, [.ref nT, .ref nL, .ref nM, .ref oC, .ref oP, .ref oH, .ref oK, .ref oG, .ref oR, .ref oQ, .ref oW, .int (-1)])), (nT, .inr (5, [.ref aT, .int 0]))]) (va_A [(oX, .inr (11, [.ref nT, .ref nL, .ref nM, .ref oC, .ref oP, .ref oH, .ref oK, .ref oG, .ref oR, .ref oQ, .ref oW, .int (-1)])), (nT, .inr (5, [.ref aT, .int 0]))] sz)) 0 0 (va_A [(oX, .inr (11, [.ref nT, .ref nL, .ref nM, .ref oC, .ref oP, .ref oH, .ref oK, .ref oG, .ref oR, .ref oQ, .ref oW, .int (-1)])), (nT, .inr (5, [.ref aT, .int 0]))] sz) := by
  refine Met.ofW (cc := cX11_tapeHoldsBytes) (maxL := 3) (ret := (some .boolean)) (by decide) rfl ?_
  intro p e s m args below meth c s₁ B hml hv
  obtain ⟨rfl, hsz, hP, hK, hD0⟩ := hv
  have hx := B.exec
  have hb := B.bytes
  have hr := B.returns
  have hts := atoms_spec (ws := wsX11_tapeHoldsBytes) B.pre
  have hown : s.vm.findClass RX11 = some m.cls := findClass_of_methodNamed B.named
  have hlocks := B.notSynchronized
  have in_X11 : ∀ w ∈ wsX110, w ∈ wsX11_tapeHoldsBytes := fun _ h => List.mem_cons_of_mem _ (List.mem_append_left _ (List.mem_append_right _ (h)))
  subst hsz
  have hD := hD0.self (sz := s.heap.size)
  generalize hAe : va_A [(oX, .inr (11, [.ref nT, .ref nL, .ref nM, .ref oC, .ref oP, .ref oH, .ref oK, .ref oG, .ref oR, .ref oQ, .ref oW, .int (-1)])), (nT, .inr (5, [.ref aT, .int 0]))] s.heap.size = A at hD ⊢
  have hA : ∀ q : Nat, s.heap.size ≤ q → A q := fun q h => by rw [← hAe]; exact Or.inr h
  have hS : va_S A s.heap s.heap [] := va_S.rf
  have hP : va_P (dC, dI) vwCl [(oX, .inr (11, [.ref nT, .ref nL, .ref nM, .ref oC, .ref oP, .ref oH, .ref oK, .ref oG, .ref oR, .ref oQ, .ref oW, .int (-1)])), (nT, .inr (5, [.ref aT, .int 0]))] s.heap := hP
  have hl := lv_entry ([.ref oX]) (n := 3) (Nat.le_of_ble_eq_true rfl)
  rw [lg_entry_eq]
  generalize (lg_sl ([.ref oX]) ++ List.replicate (3 - (lg_sl ([.ref oX])).length) Slot.unset).toArray = ls at hl ⊢
  have hl : lv_has ls 3 [(0, .ref oX)] := hl
  refine lv_iconst (v := 0) hx hb dX11_tapeHoldsBytes_0 (by decide) ?_
  refine lv_istore_n (lv' := [(1, .int 0), (0, .ref oX)]) hx hb dX11_tapeHoldsBytes_1 rfl hl (by decide) rfl (fun ls hl => ?_)
  refine lv_iload_n hx hb dX11_tapeHoldsBytes_2 rfl (lv_at hl 0 rfl) ?_
  refine lv_aload_n hx hb dX11_tapeHoldsBytes_3 rfl (lv_at hl 1 rfl) ?_
  refine va_get (D := (dC, dI)) (ci := 11) (v := .ref nT) (C := RX11) (T := TX11) (N := 12) hx hb hts in_X11 hown hK hP 0 rfl rfl 0 (by decide) (hts (.fieldLink RX11 30 "TextMender" "tape" "LTextMender$Numbers;") (List.mem_of_getElem? (i := 1) rfl)) (fun _ h9 => h9) rfl dX11_tapeHoldsBytes_4 ?_
  have hPc := hP.sub (ws' := [(nT, .inr (5, [.ref aT, .int 0]))]) [1] rfl
  have hDc := hD.sub (ws' := [(nT, .inr (5, [.ref aT, .int 0]))]) [1] (by decide) rfl
  have hFc := va_free (wc := [(nT, .inr (5, [.ref aT, .int 0]))]) hD hS hA [1] rfl
  refine va_calli (va_runV (As := []) (rest := [.int 0]) ⟨hx, hb, hml, hown, hts⟩ (m_X5_length l dC dI cI cS s.heap.size nT aT 0 ) (cwV 0 hts gX11_tapeHoldsBytes_X5_length rfl rfl rfl (by decide +kernel) ⟨Nat.le_of_ble_eq_true rfl, Nat.le_of_ble_eq_true rfl⟩) ⟨fun a U g mk q => by obtain ⟨q0, q1, qP, qK, qD⟩ := q; exact ⟨q0, q1, qP, va_K.moved (u := U) (U := U.calling g mk a) (Vm.Alike.refl U.vm) qK, qD⟩, va_recv hK hPc (ci := 5) (q0 := 0) rfl rfl, fun U hU hW => ⟨rfl, by rw [hU], by rw [hU]; exact hPc, va_K.moved hW.alike hK, hDc.weaken (fun _ _ _ _ => trivial)⟩⟩ rfl rfl hl.1 rfl (lv_room (Nat.le_of_ble_eq_true rfl)) dX11_tapeHoldsBytes_7 ⟨Nat.le_of_ble_eq_true rfl, Nat.le_of_ble_eq_true rfl⟩) hS (fun q _ h => hFc q h) hFc (fun r_1 u t H1 locs ht hvm hw hB hz1 hk1 hS => ?_)
  obtain ⟨hP1, hD1⟩ := hB
  rw [ht] at hP1
  obtain ⟨hP, hD⟩ := va_join (wr := [(oX, .inr (11, [.ref nT, .ref nL, .ref nM, .ref oC, .ref oP, .ref oH, .ref oK, .ref oG, .ref oR, .ref oQ, .ref oW, .int (-1)]))]) (w1 := [(nT, .inr (5, [.ref aT, .int 0]))]) hP hD [1] [0] rfl rfl (by decide) (by decide) hk1 hFc hP1 hD1
  generalize H1 = H at hP hS ⊢
  have hP : va_P (dC, dI) vwCl [(oX, .inr (11, [.ref nT, .ref nL, .ref nM, .ref oC, .ref oP, .ref oH, .ref oK, .ref oG, .ref oR, .ref oQ, .ref oW, .int (-1)])), (nT, .inr (5, [.ref aT, .int 0]))] H := hP
  have hD : va_D A [(oX, .inr (11, [.ref nT, .ref nL, .ref nM, .ref oC, .ref oP, .ref oH, .ref oK, .ref oG, .ref oR, .ref oQ, .ref oW, .int (-1)])), (nT, .inr (5, [.ref aT, .int 0]))] := hD
  subst hw
  refine lv_icmp_ge (tgt := 46) hx hb dX11_tapeHoldsBytes_10 (by decide) (fun c_2 => ?_) (fun c_2 => absurd (by decide) c_2)
  refine lv_iconst (v := 1) hx hb dX11_tapeHoldsBytes_46 (by decide) ?_
  have hP9 := hP.sub (ws' := [(oX, .inr (11, [.ref nT, .ref nL, .ref nM, .ref oC, .ref oP, .ref oH, .ref oK, .ref oG, .ref oR, .ref oQ, .ref oW, .int (-1)])), (nT, .inr (5, [.ref aT, .int 0]))]) [0, 1] rfl
  have hD9 := hD.sub (ws' := [(oX, .inr (11, [.ref nT, .ref nL, .ref nM, .ref oC, .ref oP, .ref oH, .ref oK, .ref oG, .ref oR, .ref oQ, .ref oW, .int (-1)])), (nT, .inr (5, [.ref aT, .int 0]))]) [0, 1] (by decide) rfl
  exact W.zret (v := 1) (ty := .boolean) hx hb hr (rfl) (fun t ht hW => ⟨⟨1, (), rfl, rfl, by rw [ht]; exact hP9, hD9⟩, hS.F ht⟩) (hS.2.2) dX11_tapeHoldsBytes_47

theorem p_k1 {c : Int32} (h : ¬ f_known c = 0) : 1 = f_known c := by
  by_cases h1 : c < 0
  · exact absurd (by rw [f_known, if_pos h1]) h
  · by_cases h2 : 5 < c
    · exact absurd (by rw [f_known, if_neg h1, if_pos h2]) h
    · rw [f_known, if_neg h1, if_neg h2]

set_option maxHeartbeats 4000000 in
set_option maxRecDepth 100000 in
theorem m_X11_writes (l : Launch) (dC : Nat → ClassId) (dI : Nat → Nat → Nat) (cI cS : ClassId) (sz : Nat) (oX : Nat) (nT : Nat) (nL : Nat) (nM : Nat) (oC : Nat) (oP : Nat) (oH : Nat) (oK : Nat) (oG : Nat) (oR : Nat) (oQ : Nat) (oW : Nat) (aL : Nat) (nB : Nat) (aB : Nat) (cd : Int32)  : Met l yX11_writes wsX11_writes ({ frames := 2, cells := 0, slots := 0, locals := 44 } : Room) (va_Pc [.ref oX, .int cd] (fun U => U.heap.size = sz ∧ va_P (dC, dI) vwCl [(oX, .inr (11, [.ref nT, .ref nL, .ref nM, .ref oC, .ref oP, .ref oH, .ref oK, .ref oG, .ref oR, .ref oQ, .ref oW, .int (-1)])), (nL, .inr (5, [.ref aL, .int 0])), (oP, .inr (7, [.ref oC, .ref nB, .int (-1)])), (nB, .inr (5, [.ref aB, .int 0]))] U.heap ∧ va_K (dC, dI) vwCl [(cI, .int), (cS, .short)] U ∧ va_D (fun _ => True) [(oX, .inr (11, [.ref nT, .ref nL, .ref nM, .ref oC, .ref oP, .ref oH, .ref oK, .ref oG, .ref oR, .ref oQ, .ref oW, .int (-1)])), (nL, .inr (5, [.ref aL, .int 0])), (oP, .inr (7, [.ref oC, .ref nB, .int (-1)])), (nB, .inr (5, [.ref aB, .int 0]))])) (va_Qi (fun (r : Int32) (_ : Unit) => r = f_known cd) (fun _ t => va_P (dC, dI) vwCl [(oX, .inr (11, [.ref nT, .ref nL, .ref nM, .ref oC, .ref oP, .ref oH, .ref oK, .ref oG, .ref oR, .ref oQ, .ref oW, .int (-1)])), (nL, .inr (5, [.ref aL, .int 0])), (oP, .inr (7, [.ref oC, .ref nB, .int (-1)])), (nB, .inr (5, [.ref aB, .int 0]))] t.heap ∧ va_D (va_A [(oX, .inr (11, [.ref nT, .ref nL, .ref nM, .ref oC, .ref oP, .ref oH, .ref oK, .ref oG, .ref oR, .ref oQ, .ref oW, .int (-1)])), (nL, .inr (5, [.ref aL, .int 0])), (oP, .inr (7, [.ref oC, .ref nB, .int (-1)])), (nB, .inr (5, [.ref aB, .int 0]))] sz) [(oX, .inr (11, [.ref nT, .ref nL, .ref nM, .ref oC, .ref oP, .ref oH, .ref oK, .ref oG, .ref oR, .ref oQ, .ref oW, .int (-1)])), (nL, .inr (5, [.ref aL, .int 0])), (oP, .inr (7, [.ref oC, .ref nB, .int (-1)])), (nB, .inr (5, [.ref aB, .int 0]))]) (va_A [(oX, .inr (11, [.ref nT, .ref nL, .ref nM, .ref oC, .ref oP, .ref oH, .ref oK, .ref oG, .ref oR, .ref oQ, .ref oW, .int (-1)])), (nL, .inr (5, [.ref aL, .int 0])), (oP, .inr (7, [.ref oC, .ref nB, .int (-1)])), (nB, .inr (5, [.ref aB, .int 0]))] sz)) 0 0 (va_A [(oX, .inr (11, [.ref nT, .ref nL, .ref nM, .ref oC, .ref oP, .ref oH, .ref oK, .ref oG, .ref oR, .ref oQ, .ref oW, .int (-1)])), (nL, .inr (5, [.ref aL, .int 0])), (oP, .inr (7, [.ref oC, .ref nB, .int (-1)])), (nB, .inr (5, [.ref aB, .int 0]))] sz) := by
  refine Met.ofW (cc := cX11_writes) (maxL := 3) (ret := (some .boolean)) (by decide) rfl ?_
  intro p e s m args below meth c s₁ B hml hv
  obtain ⟨rfl, hsz, hP, hK, hD0⟩ := hv
  have hx := B.exec
  have hb := B.bytes
  have hr := B.returns
  have hts := atoms_spec (ws := wsX11_writes) B.pre
  have hown : s.vm.findClass RX11 = some m.cls := findClass_of_methodNamed B.named
  have hlocks := B.notSynchronized
  have in_X11 : ∀ w ∈ wsX110, w ∈ wsX11_writes := fun _ h => List.mem_cons_of_mem _ (List.mem_append_left _ (List.mem_append_left _ (List.mem_append_left _ (List.mem_append_left _ (List.mem_append_right _ (h))))))
  subst hsz
  have hD := hD0.self (sz := s.heap.size)
  generalize hAe : va_A [(oX, .inr (11, [.ref nT, .ref nL, .ref nM, .ref oC, .ref oP, .ref oH, .ref oK, .ref oG, .ref oR, .ref oQ, .ref oW, .int (-1)])), (nL, .inr (5, [.ref aL, .int 0])), (oP, .inr (7, [.ref oC, .ref nB, .int (-1)])), (nB, .inr (5, [.ref aB, .int 0]))] s.heap.size = A at hD ⊢
  have hA : ∀ q : Nat, s.heap.size ≤ q → A q := fun q h => by rw [← hAe]; exact Or.inr h
  have hS : va_S A s.heap s.heap [] := va_S.rf
  have hP : va_P (dC, dI) vwCl [(oX, .inr (11, [.ref nT, .ref nL, .ref nM, .ref oC, .ref oP, .ref oH, .ref oK, .ref oG, .ref oR, .ref oQ, .ref oW, .int (-1)])), (nL, .inr (5, [.ref aL, .int 0])), (oP, .inr (7, [.ref oC, .ref nB, .int (-1)])), (nB, .inr (5, [.ref aB, .int 0]))] s.heap := hP
  have hl := lv_entry ([.ref oX, .int cd]) (n := 3) (Nat.le_of_ble_eq_true rfl)
  rw [lg_entry_eq]
  generalize (lg_sl ([.ref oX, .int cd]) ++ List.replicate (3 - (lg_sl ([.ref oX, .int cd])).length) Slot.unset).toArray = ls at hl ⊢
  have hl : lv_has ls 3 [(0, .ref oX), (1, .int cd)] := hl
  refine lv_aload_n hx hb dX11_writes_0 rfl (lv_at hl 0 rfl) ?_
  refine lv_iconst (v := (-1)) hx hb dX11_writes_1 (by decide) ?_
  refine va_put (D := (dC, dI)) (ci := 11) (v := .int (-1)) (ty := .int) (C := RX11) (T := TX11) (N := 12) hx hb hts in_X11 tyX11 tyX11_ok nmX11 hown hK hP hD hS 0 rfl rfl 11 (by decide) (hts (.fieldLink RX11 90 "TextMender" "fault" "I") (List.mem_of_getElem? (i := 1) rfl)) (fun _ h9 => h9) rfl (by decide +kernel) rfl rfl (Nat.le_of_ble_eq_true rfl) dX11_writes_2 (fun H locs hP hD hS => ?_)
  have hP : va_P (dC, dI) vwCl [(oX, .inr (11, [.ref nT, .ref nL, .ref nM, .ref oC, .ref oP, .ref oH, .ref oK, .ref oG, .ref oR, .ref oQ, .ref oW, .int (-1)])), (nL, .inr (5, [.ref aL, .int 0])), (oP, .inr (7, [.ref oC, .ref nB, .int (-1)])), (nB, .inr (5, [.ref aB, .int 0]))] H := hP
  have hD : va_D A [(oX, .inr (11, [.ref nT, .ref nL, .ref nM, .ref oC, .ref oP, .ref oH, .ref oK, .ref oG, .ref oR, .ref oQ, .ref oW, .int (-1)])), (nL, .inr (5, [.ref aL, .int 0])), (oP, .inr (7, [.ref oC, .ref nB, .int (-1)])), (nB, .inr (5, [.ref aB, .int 0]))] := hD
  refine lv_iload_n hx hb dX11_writes_5 rfl (lv_at hl 1 rfl) ?_
  have hPc := hP.sub (ws' := []) [] rfl
  have hDc := hD.sub (ws' := []) [] (by decide) rfl
  have hFc := va_free (wc := []) hD hS hA [] rfl
  refine va_calli (va_runS (As := [.int cd]) (rest := []) ⟨hx, hb, hml, hown, hts⟩ (m_X2_known l dC dI cI cS H.size cd ) (va_cwS 1 hts gX11_writes_X2_known rfl rfl rfl (by decide +kernel) ⟨Nat.le_of_ble_eq_true rfl, Nat.le_of_ble_eq_true rfl⟩) ⟨fun a U g mk q => by obtain ⟨q0, q1, qP, qK, qD⟩ := q; exact ⟨q0, q1, qP, va_K.moved (u := U) (U := U.calling g mk a) (Vm.Alike.refl U.vm) qK, qD⟩, fun U hU hW => ⟨rfl, by rw [hU], by rw [hU]; exact hPc, va_K.moved hW.alike hK, hDc.weaken (fun _ _ _ _ => trivial)⟩⟩ rfl rfl hl.1 rfl (lv_room (Nat.le_of_ble_eq_true rfl)) dX11_writes_6 ⟨Nat.le_of_ble_eq_true rfl, Nat.le_of_ble_eq_true rfl⟩) hS (fun q _ h => hFc q h) hFc (fun r_1 u t H1 locs ht hvm hw hB hz1 hk1 hS => ?_)
  obtain ⟨hP1, hD1⟩ := hB
  rw [ht] at hP1
  obtain ⟨hP, hD⟩ := va_join (wr := [(oX, .inr (11, [.ref nT, .ref nL, .ref nM, .ref oC, .ref oP, .ref oH, .ref oK, .ref oG, .ref oR, .ref oQ, .ref oW, .int (-1)])), (nL, .inr (5, [.ref aL, .int 0])), (oP, .inr (7, [.ref oC, .ref nB, .int (-1)])), (nB, .inr (5, [.ref aB, .int 0]))]) (w1 := []) hP hD [] [0, 1, 2, 3] rfl rfl (by decide) (by decide) hk1 hFc hP1 hD1
  generalize H1 = H at hP hS ⊢
  have hP : va_P (dC, dI) vwCl [(oX, .inr (11, [.ref nT, .ref nL, .ref nM, .ref oC, .ref oP, .ref oH, .ref oK, .ref oG, .ref oR, .ref oQ, .ref oW, .int (-1)])), (nL, .inr (5, [.ref aL, .int 0])), (oP, .inr (7, [.ref oC, .ref nB, .int (-1)])), (nB, .inr (5, [.ref aB, .int 0]))] H := hP
  have hD : va_D A [(oX, .inr (11, [.ref nT, .ref nL, .ref nM, .ref oC, .ref oP, .ref oH, .ref oK, .ref oG, .ref oR, .ref oQ, .ref oW, .int (-1)])), (nL, .inr (5, [.ref aL, .int 0])), (oP, .inr (7, [.ref oC, .ref nB, .int (-1)])), (nB, .inr (5, [.ref aB, .int 0]))] := hD
  subst hw
  refine lv_if_ne (tgt := 14) hx hb dX11_writes_9 (by decide) (fun c_2 => ?_) (fun c_2 => ?_)
  · refine lv_aload_n hx hb dX11_writes_14 rfl (lv_at hl 0 rfl) ?_
    refine va_get (D := (dC, dI)) (ci := 11) (v := .ref oP) (C := RX11) (T := TX11) (N := 12) hx hb hts in_X11 hown hK hP 0 rfl rfl 4 (by decide) (hts (.fieldLink RX11 44 "TextMender" "passage" "LTextMender$Passage;") (List.mem_of_getElem? (i := 2) rfl)) (fun _ h9 => h9) rfl dX11_writes_15 ?_
    refine lv_iload_n hx hb dX11_writes_18 rfl (lv_at hl 1 rfl) ?_
    refine lv_aload_n hx hb dX11_writes_19 rfl (lv_at hl 0 rfl) ?_
    refine va_get (D := (dC, dI)) (ci := 11) (v := .ref nL) (C := RX11) (T := TX11) (N := 12) hx hb hts in_X11 hown hK hP 0 rfl rfl 1 (by decide) (hts (.fieldLink RX11 34 "TextMender" "letters" "LTextMender$Numbers;") (List.mem_of_getElem? (i := 3) rfl)) (fun _ h9 => h9) rfl dX11_writes_20 ?_
    have hPc := hP.sub (ws' := [(oP, .inr (7, [.ref oC, .ref nB, .int (-1)])), (nB, .inr (5, [.ref aB, .int 0])), (nL, .inr (5, [.ref aL, .int 0]))]) [2, 3, 1] rfl
    have hDc := hD.sub (ws' := [(oP, .inr (7, [.ref oC, .ref nB, .int (-1)])), (nB, .inr (5, [.ref aB, .int 0])), (nL, .inr (5, [.ref aL, .int 0]))]) [2, 3, 1] (by decide) rfl
    have hFc := va_free (wc := [(oP, .inr (7, [.ref oC, .ref nB, .int (-1)])), (nB, .inr (5, [.ref aB, .int 0])), (nL, .inr (5, [.ref aL, .int 0]))]) hD hS hA [2, 3, 1] rfl
    refine va_calli (va_runV (As := [.int cd, .ref nL]) (rest := []) ⟨hx, hb, hml, hown, hts⟩ (m_X7_write l dC dI cI cS H.size oP oC nB aB nL aL cd ) (cwV 2 hts gX11_writes_X7_write rfl rfl rfl (by decide +kernel) ⟨Nat.le_of_ble_eq_true rfl, Nat.le_of_ble_eq_true rfl⟩) ⟨fun a U g mk q => by obtain ⟨q0, q1, qP, qK, qD⟩ := q; exact ⟨q0, q1, qP, va_K.moved (u := U) (U := U.calling g mk a) (Vm.Alike.refl U.vm) qK, qD⟩, va_recv hK hPc (ci := 7) (q0 := 0) rfl rfl, fun U hU hW => ⟨rfl, by rw [hU], by rw [hU]; exact hPc, va_K.moved hW.alike hK, hDc.weaken (fun _ _ _ _ => trivial)⟩⟩ rfl rfl hl.1 rfl (lv_room (Nat.le_of_ble_eq_true rfl)) dX11_writes_23 ⟨Nat.le_of_ble_eq_true rfl, Nat.le_of_ble_eq_true rfl⟩) hS (fun q _ h => hFc q h) hFc (fun r_3 u t H1 locs ht hvm hw hB hz1 hk1 hS => ?_)
    obtain ⟨hP1, hD1⟩ := hB
    rw [ht] at hP1
    obtain ⟨hP, hD⟩ := va_join (wr := [(oX, .inr (11, [.ref nT, .ref nL, .ref nM, .ref oC, .ref oP, .ref oH, .ref oK, .ref oG, .ref oR, .ref oQ, .ref oW, .int (-1)]))]) (w1 := [(oP, .inr (7, [.ref oC, .ref nB, .int (-1)])), (nB, .inr (5, [.ref aB, .int 0])), (nL, .inr (5, [.ref aL, .int 0]))]) hP hD [2, 3, 1] [0] rfl rfl (by decide) (by decide) hk1 hFc hP1 hD1
    generalize H1 = H at hP hS ⊢
    have hP : va_P (dC, dI) vwCl [(oX, .inr (11, [.ref nT, .ref nL, .ref nM, .ref oC, .ref oP, .ref oH, .ref oK, .ref oG, .ref oR, .ref oQ, .ref oW, .int (-1)])), (oP, .inr (7, [.ref oC, .ref nB, .int (-1)])), (nB, .inr (5, [.ref aB, .int 0])), (nL, .inr (5, [.ref aL, .int 0]))] H := hP
    have hD : va_D A [(oX, .inr (11, [.ref nT, .ref nL, .ref nM, .ref oC, .ref oP, .ref oH, .ref oK, .ref oG, .ref oR, .ref oQ, .ref oW, .int (-1)])), (oP, .inr (7, [.ref oC, .ref nB, .int (-1)])), (nB, .inr (5, [.ref aB, .int 0])), (nL, .inr (5, [.ref aL, .int 0]))] := hD
    subst hw
    refine lv_istore_n (lv' := [(2, .int 1), (0, .ref oX), (1, .int cd)]) hx hb dX11_writes_26 rfl hl (by decide) rfl (fun ls hl => ?_)
    refine lv_aload_n hx hb dX11_writes_27 rfl (lv_at hl 1 rfl) ?_
    refine lv_aload_n hx hb dX11_writes_28 rfl (lv_at hl 1 rfl) ?_
    refine va_get (D := (dC, dI)) (ci := 11) (v := .ref oP) (C := RX11) (T := TX11) (N := 12) hx hb hts in_X11 hown hK hP 0 rfl rfl 4 (by decide) (hts (.fieldLink RX11 44 "TextMender" "passage" "LTextMender$Passage;") (List.mem_of_getElem? (i := 2) rfl)) (fun _ h9 => h9) rfl dX11_writes_29 ?_
    have hPc := hP.sub (ws' := [(oP, .inr (7, [.ref oC, .ref nB, .int (-1)]))]) [1] rfl
    have hDc := hD.sub (ws' := [(oP, .inr (7, [.ref oC, .ref nB, .int (-1)]))]) [1] (by decide) rfl
    have hFc := va_free (wc := [(oP, .inr (7, [.ref oC, .ref nB, .int (-1)]))]) hD hS hA [1] rfl
    refine va_calli (va_runV (As := []) (rest := [.ref oX]) ⟨hx, hb, hml, hown, hts⟩ (m_X7_fault l dC dI cI cS H.size oP oC nB ) (cwV 0 hts gX11_writes_X7_fault rfl rfl rfl (by decide +kernel) ⟨Nat.le_of_ble_eq_true rfl, Nat.le_of_ble_eq_true rfl⟩) ⟨fun a U g mk q => by obtain ⟨q0, q1, qP, qK, qD⟩ := q; exact ⟨q0, q1, qP, va_K.moved (u := U) (U := U.calling g mk a) (Vm.Alike.refl U.vm) qK, qD⟩, va_recv hK hPc (ci := 7) (q0 := 0) rfl rfl, fun U hU hW => ⟨rfl, by rw [hU], by rw [hU]; exact hPc, va_K.moved hW.alike hK, hDc.weaken (fun _ _ _ _ => trivial)⟩⟩ rfl rfl hl.1 rfl (lv_room (Nat.le_of_ble_eq_true rfl)) dX11_writes_32 ⟨Nat.le_of_ble_eq_true rfl, Nat.le_of_ble_eq_true rfl⟩) hS (fun q _ h => hFc q h) hFc (fun r_4 u t H1 locs ht hvm hw hB hz1 hk1 hS => ?_)
    obtain ⟨hP1, hD1⟩ := hB
    rw [ht] at hP1
    obtain ⟨hP, hD⟩ := va_join (wr := [(oX, .inr (11, [.ref nT, .ref nL, .ref nM, .ref oC, .ref oP, .ref oH, .ref oK, .ref oG, .ref oR, .ref oQ, .ref oW, .int (-1)])), (nB, .inr (5, [.ref aB, .int 0])), (nL, .inr (5, [.ref aL, .int 0]))]) (w1 := [(oP, .inr (7, [.ref oC, .ref nB, .int (-1)]))]) hP hD [1] [0, 2, 3] rfl rfl (by decide) (by decide) hk1 hFc hP1 hD1
    generalize H1 = H at hP hS ⊢
    have hP : va_P (dC, dI) vwCl [(oX, .inr (11, [.ref nT, .ref nL, .ref nM, .ref oC, .ref oP, .ref oH, .ref oK, .ref oG, .ref oR, .ref oQ, .ref oW, .int (-1)])), (nB, .inr (5, [.ref aB, .int 0])), (nL, .inr (5, [.ref aL, .int 0])), (oP, .inr (7, [.ref oC, .ref nB, .int (-1)]))] H := hP
    have hD : va_D A [(oX, .inr (11, [.ref nT, .ref nL, .ref nM, .ref oC, .ref oP, .ref oH, .ref oK, .ref oG, .ref oR, .ref oQ, .ref oW, .int (-1)])), (nB, .inr (5, [.ref aB, .int 0])), (nL, .inr (5, [.ref aL, .int 0])), (oP, .inr (7, [.ref oC, .ref nB, .int (-1)]))] := hD
    subst hw
    refine va_put (D := (dC, dI)) (ci := 11) (v := .int (-1)) (ty := .int) (C := RX11) (T := TX11) (N := 12) hx hb hts in_X11 tyX11 tyX11_ok nmX11 hown hK hP hD hS 0 rfl rfl 11 (by decide) (hts (.fieldLink RX11 90 "TextMender" "fault" "I") (List.mem_of_getElem? (i := 1) rfl)) (fun _ h9 => h9) rfl (by decide +kernel) rfl rfl (Nat.le_of_ble_eq_true rfl) dX11_writes_35 (fun H locs hP hD hS => ?_)
    have hP : va_P (dC, dI) vwCl [(oX, .inr (11, [.ref nT, .ref nL, .ref nM, .ref oC, .ref oP, .ref oH, .ref oK, .ref oG, .ref oR, .ref oQ, .ref oW, .int (-1)])), (nB, .inr (5, [.ref aB, .int 0])), (nL, .inr (5, [.ref aL, .int 0])), (oP, .inr (7, [.ref oC, .ref nB, .int (-1)]))] H := hP
    have hD : va_D A [(oX, .inr (11, [.ref nT, .ref nL, .ref nM, .ref oC, .ref oP, .ref oH, .ref oK, .ref oG, .ref oR, .ref oQ, .ref oW, .int (-1)])), (nB, .inr (5, [.ref aB, .int 0])), (nL, .inr (5, [.ref aL, .int 0])), (oP, .inr (7, [.ref oC, .ref nB, .int (-1)]))] := hD
    refine lv_iload_n hx hb dX11_writes_38 rfl (lv_at hl 0 rfl) ?_
    have hP9 := hP.sub (ws' := [(oX, .inr (11, [.ref nT, .ref nL, .ref nM, .ref oC, .ref oP, .ref oH, .ref oK, .ref oG, .ref oR, .ref oQ, .ref oW, .int (-1)])), (nL, .inr (5, [.ref aL, .int 0])), (oP, .inr (7, [.ref oC, .ref nB, .int (-1)])), (nB, .inr (5, [.ref aB, .int 0]))]) [0, 2, 3, 1] rfl
    have hD9 := hD.sub (ws' := [(oX, .inr (11, [.ref nT, .ref nL, .ref nM, .ref oC, .ref oP, .ref oH, .ref oK, .ref oG, .ref oR, .ref oQ, .ref oW, .int (-1)])), (nL, .inr (5, [.ref aL, .int 0])), (oP, .inr (7, [.ref oC, .ref nB, .int (-1)])), (nB, .inr (5, [.ref aB, .int 0]))]) [0, 2, 3, 1] (by decide) rfl
    exact W.zret (v := 1) (ty := .boolean) hx hb hr (rfl) (fun t ht hW => ⟨⟨1, (), rfl, by first | exact p_k1 (by assumption) | exact Eq.symm (by assumption), by rw [ht]; exact hP9, hD9⟩, hS.F ht⟩) (hS.2.2) dX11_writes_39
  · refine lv_iconst (v := 0) hx hb dX11_writes_12 (by decide) ?_
    have hP9 := hP.sub (ws' := [(oX, .inr (11, [.ref nT, .ref nL, .ref nM, .ref oC, .ref oP, .ref oH, .ref oK, .ref oG, .ref oR, .ref oQ, .ref oW, .int (-1)])), (nL, .inr (5, [.ref aL, .int 0])), (oP, .inr (7, [.ref oC, .ref nB, .int (-1)])), (nB, .inr (5, [.ref aB, .int 0]))]) [0, 1, 2, 3] rfl
    have hD9 := hD.sub (ws' := [(oX, .inr (11, [.ref nT, .ref nL, .ref nM, .ref oC, .ref oP, .ref oH, .ref oK, .ref oG, .ref oR, .ref oQ, .ref oW, .int (-1)])), (nL, .inr (5, [.ref aL, .int 0])), (oP, .inr (7, [.ref oC, .ref nB, .int (-1)])), (nB, .inr (5, [.ref aB, .int 0]))]) [0, 1, 2, 3] (by decide) rfl
    exact W.zret (v := 0) (ty := .boolean) hx hb hr (rfl) (fun t ht hW => ⟨⟨0, (), rfl, by first | exact p_k1 (by assumption) | exact Eq.symm (by assumption), by rw [ht]; exact hP9, hD9⟩, hS.F ht⟩) (hS.2.2) dX11_writes_13

set_option maxHeartbeats 4000000 in
set_option maxRecDepth 100000 in
theorem m_X11_passes (l : Launch) (dC : Nat → ClassId) (dI : Nat → Nat → Nat) (cI cS : ClassId) (sz : Nat) (oX : Nat) (nT : Nat) (nL : Nat) (nM : Nat) (oC : Nat) (oP : Nat) (oH : Nat) (oK : Nat) (oG : Nat) (oR : Nat) (oQ : Nat) (oW : Nat) (aL : Nat) (aM : Nat) (nB : Nat) (aB : Nat) (a : Int32) (b : Int32)  : Met l yX11_passes wsX11_passes ({ frames := 3, cells := 0, slots := 0, locals := 71 } : Room) (va_Pc [.ref oX, .int a, .int b] (fun U => U.heap.size = sz ∧ va_P (dC, dI) vwCl [(oX, .inr (11, [.ref nT, .ref nL, .ref nM, .ref oC, .ref oP, .ref oH, .ref oK, .ref oG, .ref oR, .ref oQ, .ref oW, .int (-1)])), (nL, .inr (5, [.ref aL, .int 0])), (nM, .inr (5, [.ref aM, .int 0])), (oP, .inr (7, [.ref oC, .ref nB, .int (-1)])), (nB, .inr (5, [.ref aB, .int 0]))] U.heap ∧ va_K (dC, dI) vwCl [(cI, .int), (cS, .short)] U ∧ va_D (fun _ => True) [(oX, .inr (11, [.ref nT, .ref nL, .ref nM, .ref oC, .ref oP, .ref oH, .ref oK, .ref oG, .ref oR, .ref oQ, .ref oW, .int (-1)])), (nL, .inr (5, [.ref aL, .int 0])), (nM, .inr (5, [.ref aM, .int 0])), (oP, .inr (7, [.ref oC, .ref nB, .int (-1)])), (nB, .inr (5, [.ref aB, .int 0]))])) (va_Qi (fun (r : Int32) (_ : Unit) => r = f_both a b) (fun _ t => va_P (dC, dI) vwCl [(oX, .inr (11, [.ref nT, .ref nL, .ref nM, .ref oC, .ref oP, .ref oH, .ref oK, .ref oG, .ref oR, .ref oQ, .ref oW, .int (-1)])), (nL, .inr (5, [.ref aL, .int 0])), (nM, .inr (5, [.ref aM, .int 0])), (oP, .inr (7, [.ref oC, .ref nB, .int (-1)])), (nB, .inr (5, [.ref aB, .int 0]))] t.heap ∧ va_D (va_A [(oX, .inr (11, [.ref nT, .ref nL, .ref nM, .ref oC, .ref oP, .ref oH, .ref oK, .ref oG, .ref oR, .ref oQ, .ref oW, .int (-1)])), (nL, .inr (5, [.ref aL, .int 0])), (nM, .inr (5, [.ref aM, .int 0])), (oP, .inr (7, [.ref oC, .ref nB, .int (-1)])), (nB, .inr (5, [.ref aB, .int 0]))] sz) [(oX, .inr (11, [.ref nT, .ref nL, .ref nM, .ref oC, .ref oP, .ref oH, .ref oK, .ref oG, .ref oR, .ref oQ, .ref oW, .int (-1)])), (nL, .inr (5, [.ref aL, .int 0])), (nM, .inr (5, [.ref aM, .int 0])), (oP, .inr (7, [.ref oC, .ref nB, .int (-1)])), (nB, .inr (5, [.ref aB, .int 0]))]) (va_A [(oX, .inr (11, [.ref nT, .ref nL, .ref nM, .ref oC, .ref oP, .ref oH, .ref oK, .ref oG, .ref oR, .ref oQ, .ref oW, .int (-1)])), (nL, .inr (5, [.ref aL, .int 0])), (nM, .inr (5, [.ref aM, .int 0])), (oP, .inr (7, [.ref oC, .ref nB, .int (-1)])), (nB, .inr (5, [.ref aB, .int 0]))] sz)) 0 0 (va_A [(oX, .inr (11, [.ref nT, .ref nL, .ref nM, .ref oC, .ref oP, .ref oH, .ref oK, .ref oG, .ref oR, .ref oQ, .ref oW, .int (-1)])), (nL, .inr (5, [.ref aL, .int 0])), (nM, .inr (5, [.ref aM, .int 0])), (oP, .inr (7, [.ref oC, .ref nB, .int (-1)])), (nB, .inr (5, [.ref aB, .int 0]))] sz) := by
  refine Met.ofW (cc := cX11_passes) (maxL := 4) (ret := (some .boolean)) (by decide) rfl ?_
  intro p e s m args below meth c s₁ B hml hv
  obtain ⟨rfl, hsz, hP, hK, hD0⟩ := hv
  have hx := B.exec
  have hb := B.bytes
  have hr := B.returns
  have hts := atoms_spec (ws := wsX11_passes) B.pre
  have hown : s.vm.findClass RX11 = some m.cls := findClass_of_methodNamed B.named
  have hlocks := B.notSynchronized
  have in_X11 : ∀ w ∈ wsX110, w ∈ wsX11_passes := fun _ h => List.mem_cons_of_mem _ (List.mem_append_left _ (List.mem_append_left _ (List.mem_append_left _ (List.mem_append_left _ (List.mem_append_right _ (h))))))
  subst hsz
  have hD := hD0.self (sz := s.heap.size)
  generalize hAe : va_A [(oX, .inr (11, [.ref nT, .ref nL, .ref nM, .ref oC, .ref oP, .ref oH, .ref oK, .ref oG, .ref oR, .ref oQ, .ref oW, .int (-1)])), (nL, .inr (5, [.ref aL, .int 0])), (nM, .inr (5, [.ref aM, .int 0])), (oP, .inr (7, [.ref oC, .ref nB, .int (-1)])), (nB, .inr (5, [.ref aB, .int 0]))] s.heap.size = A at hD ⊢
  have hA : ∀ q : Nat, s.heap.size ≤ q → A q := fun q h => by rw [← hAe]; exact Or.inr h
  have hS : va_S A s.heap s.heap [] := va_S.rf
  have hP : va_P (dC, dI) vwCl [(oX, .inr (11, [.ref nT, .ref nL, .ref nM, .ref oC, .ref oP, .ref oH, .ref oK, .ref oG, .ref oR, .ref oQ, .ref oW, .int (-1)])), (nL, .inr (5, [.ref aL, .int 0])), (nM, .inr (5, [.ref aM, .int 0])), (oP, .inr (7, [.ref oC, .ref nB, .int (-1)])), (nB, .inr (5, [.ref aB, .int 0]))] s.heap := hP
  have hl := lv_entry ([.ref oX, .int a, .int b]) (n := 4) (Nat.le_of_ble_eq_true rfl)
  rw [lg_entry_eq]
  generalize (lg_sl ([.ref oX, .int a, .int b]) ++ List.replicate (4 - (lg_sl ([.ref oX, .int a, .int b])).length) Slot.unset).toArray = ls at hl ⊢
  have hl : lv_has ls 4 [(0, .ref oX), (1, .int a), (2, .int b)] := hl
  refine lv_aload_n hx hb dX11_passes_0 rfl (lv_at hl 0 rfl) ?_
  refine lv_iconst (v := (-1)) hx hb dX11_passes_1 (by decide) ?_
  refine va_put (D := (dC, dI)) (ci := 11) (v := .int (-1)) (ty := .int) (C := RX11) (T := TX11) (N := 12) hx hb hts in_X11 tyX11 tyX11_ok nmX11 hown hK hP hD hS 0 rfl rfl 11 (by decide) (hts (.fieldLink RX11 90 "TextMender" "fault" "I") (List.mem_of_getElem? (i := 1) rfl)) (fun _ h9 => h9) rfl (by decide +kernel) rfl rfl (Nat.le_of_ble_eq_true rfl) dX11_passes_2 (fun H locs hP hD hS => ?_)
  have hP : va_P (dC, dI) vwCl [(oX, .inr (11, [.ref nT, .ref nL, .ref nM, .ref oC, .ref oP, .ref oH, .ref oK, .ref oG, .ref oR, .ref oQ, .ref oW, .int (-1)])), (nL, .inr (5, [.ref aL, .int 0])), (nM, .inr (5, [.ref aM, .int 0])), (oP, .inr (7, [.ref oC, .ref nB, .int (-1)])), (nB, .inr (5, [.ref aB, .int 0]))] H := hP
  have hD : va_D A [(oX, .inr (11, [.ref nT, .ref nL, .ref nM, .ref oC, .ref oP, .ref oH, .ref oK, .ref oG, .ref oR, .ref oQ, .ref oW, .int (-1)])), (nL, .inr (5, [.ref aL, .int 0])), (nM, .inr (5, [.ref aM, .int 0])), (oP, .inr (7, [.ref oC, .ref nB, .int (-1)])), (nB, .inr (5, [.ref aB, .int 0]))] := hD
  refine lv_iload_n hx hb dX11_passes_5 rfl (lv_at hl 1 rfl) ?_
  have hPc := hP.sub (ws' := []) [] rfl
  have hDc := hD.sub (ws' := []) [] (by decide) rfl
  have hFc := va_free (wc := []) hD hS hA [] rfl
  refine va_calli (va_runS (As := [.int a]) (rest := []) ⟨hx, hb, hml, hown, hts⟩ (m_X2_known l dC dI cI cS H.size a ) (va_cwS 1 hts gX11_passes_X2_known rfl rfl rfl (by decide +kernel) ⟨Nat.le_of_ble_eq_true rfl, Nat.le_of_ble_eq_true rfl⟩) ⟨fun a U g mk q => by obtain ⟨q0, q1, qP, qK, qD⟩ := q; exact ⟨q0, q1, qP, va_K.moved (u := U) (U := U.calling g mk a) (Vm.Alike.refl U.vm) qK, qD⟩, fun U hU hW => ⟨rfl, by rw [hU], by rw [hU]; exact hPc, va_K.moved hW.alike hK, hDc.weaken (fun _ _ _ _ => trivial)⟩⟩ rfl rfl hl.1 rfl (lv_room (Nat.le_of_ble_eq_true rfl)) dX11_passes_6 ⟨Nat.le_of_ble_eq_true rfl, Nat.le_of_ble_eq_true rfl⟩) hS (fun q _ h => hFc q h) hFc (fun r_1 u t H1 locs ht hvm hw hB hz1 hk1 hS => ?_)
  obtain ⟨hP1, hD1⟩ := hB
  rw [ht] at hP1
  obtain ⟨hP, hD⟩ := va_join (wr := [(oX, .inr (11, [.ref nT, .ref nL, .ref nM, .ref oC, .ref oP, .ref oH, .ref oK, .ref oG, .ref oR, .ref oQ, .ref oW, .int (-1)])), (nL, .inr (5, [.ref aL, .int 0])), (nM, .inr (5, [.ref aM, .int 0])), (oP, .inr (7, [.ref oC, .ref nB, .int (-1)])), (nB, .inr (5, [.ref aB, .int 0]))]) (w1 := []) hP hD [] [0, 1, 2, 3, 4] rfl rfl (by decide) (by decide) hk1 hFc hP1 hD1
  generalize H1 = H at hP hS ⊢
  have hP : va_P (dC, dI) vwCl [(oX, .inr (11, [.ref nT, .ref nL, .ref nM, .ref oC, .ref oP, .ref oH, .ref oK, .ref oG, .ref oR, .ref oQ, .ref oW, .int (-1)])), (nL, .inr (5, [.ref aL, .int 0])), (nM, .inr (5, [.ref aM, .int 0])), (oP, .inr (7, [.ref oC, .ref nB, .int (-1)])), (nB, .inr (5, [.ref aB, .int 0]))] H := hP
  have hD : va_D A [(oX, .inr (11, [.ref nT, .ref nL, .ref nM, .ref oC, .ref oP, .ref oH, .ref oK, .ref oG, .ref oR, .ref oQ, .ref oW, .int (-1)])), (nL, .inr (5, [.ref aL, .int 0])), (nM, .inr (5, [.ref aM, .int 0])), (oP, .inr (7, [.ref oC, .ref nB, .int (-1)])), (nB, .inr (5, [.ref aB, .int 0]))] := hD
  subst hw
  refine lv_if_eq (tgt := 19) hx hb dX11_passes_9 (by decide) (fun c_2 => ?_) (fun c_2 => ?_)
  · refine lv_iconst (v := 0) hx hb dX11_passes_19 (by decide) ?_
    have hP9 := hP.sub (ws' := [(oX, .inr (11, [.ref nT, .ref nL, .ref nM, .ref oC, .ref oP, .ref oH, .ref oK, .ref oG, .ref oR, .ref oQ, .ref oW, .int (-1)])), (nL, .inr (5, [.ref aL, .int 0])), (nM, .inr (5, [.ref aM, .int 0])), (oP, .inr (7, [.ref oC, .ref nB, .int (-1)])), (nB, .inr (5, [.ref aB, .int 0]))]) [0, 1, 2, 3, 4] rfl
    have hD9 := hD.sub (ws' := [(oX, .inr (11, [.ref nT, .ref nL, .ref nM, .ref oC, .ref oP, .ref oH, .ref oK, .ref oG, .ref oR, .ref oQ, .ref oW, .int (-1)])), (nL, .inr (5, [.ref aL, .int 0])), (nM, .inr (5, [.ref aM, .int 0])), (oP, .inr (7, [.ref oC, .ref nB, .int (-1)])), (nB, .inr (5, [.ref aB, .int 0]))]) [0, 1, 2, 3, 4] (by decide) rfl
    exact W.zret (v := 0) (ty := .boolean) hx hb hr (rfl) (fun t ht hW => ⟨⟨0, (), rfl, by first | rfl | assumption | simp [f_both, c_2], by rw [ht]; exact hP9, hD9⟩, hS.F ht⟩) (hS.2.2) dX11_passes_20
  · refine lv_iload_n hx hb dX11_passes_12 rfl (lv_at hl 2 rfl) ?_
    have hPc := hP.sub (ws' := []) [] rfl
    have hDc := hD.sub (ws' := []) [] (by decide) rfl
    have hFc := va_free (wc := []) hD hS hA [] rfl
    refine va_calli (va_runS (As := [.int b]) (rest := []) ⟨hx, hb, hml, hown, hts⟩ (m_X2_known l dC dI cI cS H.size b ) (va_cwS 1 hts gX11_passes_X2_known rfl rfl rfl (by decide +kernel) ⟨Nat.le_of_ble_eq_true rfl, Nat.le_of_ble_eq_true rfl⟩) ⟨fun a U g mk q => by obtain ⟨q0, q1, qP, qK, qD⟩ := q; exact ⟨q0, q1, qP, va_K.moved (u := U) (U := U.calling g mk a) (Vm.Alike.refl U.vm) qK, qD⟩, fun U hU hW => ⟨rfl, by rw [hU], by rw [hU]; exact hPc, va_K.moved hW.alike hK, hDc.weaken (fun _ _ _ _ => trivial)⟩⟩ rfl rfl hl.1 rfl (lv_room (Nat.le_of_ble_eq_true rfl)) dX11_passes_13 ⟨Nat.le_of_ble_eq_true rfl, Nat.le_of_ble_eq_true rfl⟩) hS (fun q _ h => hFc q h) hFc (fun r_3 u t H1 locs ht hvm hw hB hz1 hk1 hS => ?_)
    obtain ⟨hP1, hD1⟩ := hB
    rw [ht] at hP1
    obtain ⟨hP, hD⟩ := va_join (wr := [(oX, .inr (11, [.ref nT, .ref nL, .ref nM, .ref oC, .ref oP, .ref oH, .ref oK, .ref oG, .ref oR, .ref oQ, .ref oW, .int (-1)])), (nL, .inr (5, [.ref aL, .int 0])), (nM, .inr (5, [.ref aM, .int 0])), (oP, .inr (7, [.ref oC, .ref nB, .int (-1)])), (nB, .inr (5, [.ref aB, .int 0]))]) (w1 := []) hP hD [] [0, 1, 2, 3, 4] rfl rfl (by decide) (by decide) hk1 hFc hP1 hD1
    generalize H1 = H at hP hS ⊢
    have hP : va_P (dC, dI) vwCl [(oX, .inr (11, [.ref nT, .ref nL, .ref nM, .ref oC, .ref oP, .ref oH, .ref oK, .ref oG, .ref oR, .ref oQ, .ref oW, .int (-1)])), (nL, .inr (5, [.ref aL, .int 0])), (nM, .inr (5, [.ref aM, .int 0])), (oP, .inr (7, [.ref oC, .ref nB, .int (-1)])), (nB, .inr (5, [.ref aB, .int 0]))] H := hP
    have hD : va_D A [(oX, .inr (11, [.ref nT, .ref nL, .ref nM, .ref oC, .ref oP, .ref oH, .ref oK, .ref oG, .ref oR, .ref oQ, .ref oW, .int (-1)])), (nL, .inr (5, [.ref aL, .int 0])), (nM, .inr (5, [.ref aM, .int 0])), (oP, .inr (7, [.ref oC, .ref nB, .int (-1)])), (nB, .inr (5, [.ref aB, .int 0]))] := hD
    subst hw
    refine lv_if_ne (tgt := 21) hx hb dX11_passes_16 (by decide) (fun c_4 => ?_) (fun c_4 => ?_)
    · refine lv_aload_n hx hb dX11_passes_21 rfl (lv_at hl 0 rfl) ?_
      refine va_get (D := (dC, dI)) (ci := 11) (v := .ref oP) (C := RX11) (T := TX11) (N := 12) hx hb hts in_X11 hown hK hP 0 rfl rfl 4 (by decide) (hts (.fieldLink RX11 44 "TextMender" "passage" "LTextMender$Passage;") (List.mem_of_getElem? (i := 2) rfl)) (fun _ h9 => h9) rfl dX11_passes_22 ?_
      refine lv_iload_n hx hb dX11_passes_25 rfl (lv_at hl 1 rfl) ?_
      refine lv_iload_n hx hb dX11_passes_26 rfl (lv_at hl 2 rfl) ?_
      refine lv_aload_n hx hb dX11_passes_27 rfl (lv_at hl 0 rfl) ?_
      refine va_get (D := (dC, dI)) (ci := 11) (v := .ref nL) (C := RX11) (T := TX11) (N := 12) hx hb hts in_X11 hown hK hP 0 rfl rfl 1 (by decide) (hts (.fieldLink RX11 34 "TextMender" "letters" "LTextMender$Numbers;") (List.mem_of_getElem? (i := 3) rfl)) (fun _ h9 => h9) rfl dX11_passes_28 ?_
      refine lv_aload_n hx hb dX11_passes_31 rfl (lv_at hl 0 rfl) ?_
      refine va_get (D := (dC, dI)) (ci := 11) (v := .ref nM) (C := RX11) (T := TX11) (N := 12) hx hb hts in_X11 hown hK hP 0 rfl rfl 2 (by decide) (hts (.fieldLink RX11 37 "TextMender" "made" "LTextMender$Numbers;") (List.mem_of_getElem? (i := 4) rfl)) (fun _ h9 => h9) rfl dX11_passes_32 ?_
      have hPc := hP.sub (ws' := [(oP, .inr (7, [.ref oC, .ref nB, .int (-1)])), (nB, .inr (5, [.ref aB, .int 0])), (nL, .inr (5, [.ref aL, .int 0])), (nM, .inr (5, [.ref aM, .int 0]))]) [3, 4, 1, 2] rfl
      have hDc := hD.sub (ws' := [(oP, .inr (7, [.ref oC, .ref nB, .int (-1)])), (nB, .inr (5, [.ref aB, .int 0])), (nL, .inr (5, [.ref aL, .int 0])), (nM, .inr (5, [.ref aM, .int 0]))]) [3, 4, 1, 2] (by decide) rfl
      have hFc := va_free (wc := [(oP, .inr (7, [.ref oC, .ref nB, .int (-1)])), (nB, .inr (5, [.ref aB, .int 0])), (nL, .inr (5, [.ref aL, .int 0])), (nM, .inr (5, [.ref aM, .int 0]))]) hD hS hA [3, 4, 1, 2] rfl
      refine va_calli (va_runV (As := [.int a, .int b, .ref nL, .ref nM]) (rest := []) ⟨hx, hb, hml, hown, hts⟩ (m_X7_pass l dC dI cI cS H.size oP oC nB aB nL aL nM aM a b ) (cwV 4 hts gX11_passes_X7_pass rfl rfl rfl (by decide +kernel) ⟨Nat.le_of_ble_eq_true rfl, Nat.le_of_ble_eq_true rfl⟩) ⟨fun a U g mk q => by obtain ⟨q0, q1, qP, qK, qD⟩ := q; exact ⟨q0, q1, qP, va_K.moved (u := U) (U := U.calling g mk a) (Vm.Alike.refl U.vm) qK, qD⟩, va_recv hK hPc (ci := 7) (q0 := 0) rfl rfl, fun U hU hW => ⟨rfl, by rw [hU], by rw [hU]; exact hPc, va_K.moved hW.alike hK, hDc.weaken (fun _ _ _ _ => trivial)⟩⟩ rfl rfl hl.1 rfl (lv_room (Nat.le_of_ble_eq_true rfl)) dX11_passes_35 ⟨Nat.le_of_ble_eq_true rfl, Nat.le_of_ble_eq_true rfl⟩) hS (fun q _ h => hFc q h) hFc (fun r_5 u t H1 locs ht hvm hw hB hz1 hk1 hS => ?_)
      obtain ⟨hP1, hD1⟩ := hB
      rw [ht] at hP1
      obtain ⟨hP, hD⟩ := va_join (wr := [(oX, .inr (11, [.ref nT, .ref nL, .ref nM, .ref oC, .ref oP, .ref oH, .ref oK, .ref oG, .ref oR, .ref oQ, .ref oW, .int (-1)]))]) (w1 := [(oP, .inr (7, [.ref oC, .ref nB, .int (-1)])), (nB, .inr (5, [.ref aB, .int 0])), (nL, .inr (5, [.ref aL, .int 0])), (nM, .inr (5, [.ref aM, .int 0]))]) hP hD [3, 4, 1, 2] [0] rfl rfl (by decide) (by decide) hk1 hFc hP1 hD1
      generalize H1 = H at hP hS ⊢
      have hP : va_P (dC, dI) vwCl [(oX, .inr (11, [.ref nT, .ref nL, .ref nM, .ref oC, .ref oP, .ref oH, .ref oK, .ref oG, .ref oR, .ref oQ, .ref oW, .int (-1)])), (oP, .inr (7, [.ref oC, .ref nB, .int (-1)])), (nB, .inr (5, [.ref aB, .int 0])), (nL, .inr (5, [.ref aL, .int 0])), (nM, .inr (5, [.ref aM, .int 0]))] H := hP
      have hD : va_D A [(oX, .inr (11, [.ref nT, .ref nL, .ref nM, .ref oC, .ref oP, .ref oH, .ref oK, .ref oG, .ref oR, .ref oQ, .ref oW, .int (-1)])), (oP, .inr (7, [.ref oC, .ref nB, .int (-1)])), (nB, .inr (5, [.ref aB, .int 0])), (nL, .inr (5, [.ref aL, .int 0])), (nM, .inr (5, [.ref aM, .int 0]))] := hD
      subst hw
      refine lv_istore_n (lv' := [(3, .int 1), (0, .ref oX), (1, .int a), (2, .int b)]) hx hb dX11_passes_38 rfl hl (by decide) rfl (fun ls hl => ?_)
      refine lv_aload_n hx hb dX11_passes_39 rfl (lv_at hl 1 rfl) ?_
      refine lv_aload_n hx hb dX11_passes_40 rfl (lv_at hl 1 rfl) ?_
      refine va_get (D := (dC, dI)) (ci := 11) (v := .ref oP) (C := RX11) (T := TX11) (N := 12) hx hb hts in_X11 hown hK hP 0 rfl rfl 4 (by decide) (hts (.fieldLink RX11 44 "TextMender" "passage" "LTextMender$Passage;") (List.mem_of_getElem? (i := 2) rfl)) (fun _ h9 => h9) rfl dX11_passes_41 ?_
      have hPc := hP.sub (ws' := [(oP, .inr (7, [.ref oC, .ref nB, .int (-1)]))]) [1] rfl
      have hDc := hD.sub (ws' := [(oP, .inr (7, [.ref oC, .ref nB, .int (-1)]))]) [1] (by decide) rfl
      have hFc := va_free (wc := [(oP, .inr (7, [.ref oC, .ref nB, .int (-1)]))]) hD hS hA [1] rfl
      refine va_calli (va_runV (As := []) (rest := [.ref oX]) ⟨hx, hb, hml, hown, hts⟩ (m_X7_fault l dC dI cI cS H.size oP oC nB ) (cwV 0 hts gX11_passes_X7_fault rfl rfl rfl (by decide +kernel) ⟨Nat.le_of_ble_eq_true rfl, Nat.le_of_ble_eq_true rfl⟩) ⟨fun a U g mk q => by obtain ⟨q0, q1, qP, qK, qD⟩ := q; exact ⟨q0, q1, qP, va_K.moved (u := U) (U := U.calling g mk a) (Vm.Alike.refl U.vm) qK, qD⟩, va_recv hK hPc (ci := 7) (q0 := 0) rfl rfl, fun U hU hW => ⟨rfl, by rw [hU], by rw [hU]; exact hPc, va_K.moved hW.alike hK, hDc.weaken (fun _ _ _ _ => trivial)⟩⟩ rfl rfl hl.1 rfl (lv_room (Nat.le_of_ble_eq_true rfl)) dX11_passes_44 ⟨Nat.le_of_ble_eq_true rfl, Nat.le_of_ble_eq_true rfl⟩) hS (fun q _ h => hFc q h) hFc (fun r_6 u t H1 locs ht hvm hw hB hz1 hk1 hS => ?_)
      obtain ⟨hP1, hD1⟩ := hB
      rw [ht] at hP1
      obtain ⟨hP, hD⟩ := va_join (wr := [(oX, .inr (11, [.ref nT, .ref nL, .ref nM, .ref oC, .ref oP, .ref oH, .ref oK, .ref oG, .ref oR, .ref oQ, .ref oW, .int (-1)])), (nB, .inr (5, [.ref aB, .int 0])), (nL, .inr (5, [.ref aL, .int 0])), (nM, .inr (5, [.ref aM, .int 0]))]) (w1 := [(oP, .inr (7, [.ref oC, .ref nB, .int (-1)]))]) hP hD [1] [0, 2, 3, 4] rfl rfl (by decide) (by decide) hk1 hFc hP1 hD1
      generalize H1 = H at hP hS ⊢
      have hP : va_P (dC, dI) vwCl [(oX, .inr (11, [.ref nT, .ref nL, .ref nM, .ref oC, .ref oP, .ref oH, .ref oK, .ref oG, .ref oR, .ref oQ, .ref oW, .int (-1)])), (nB, .inr (5, [.ref aB, .int 0])), (nL, .inr (5, [.ref aL, .int 0])), (nM, .inr (5, [.ref aM, .int 0])), (oP, .inr (7, [.ref oC, .ref nB, .int (-1)]))] H := hP
      have hD : va_D A [(oX, .inr (11, [.ref nT, .ref nL, .ref nM, .ref oC, .ref oP, .ref oH, .ref oK, .ref oG, .ref oR, .ref oQ, .ref oW, .int (-1)])), (nB, .inr (5, [.ref aB, .int 0])), (nL, .inr (5, [.ref aL, .int 0])), (nM, .inr (5, [.ref aM, .int 0])), (oP, .inr (7, [.ref oC, .ref nB, .int (-1)]))] := hD
      subst hw
      refine va_put (D := (dC, dI)) (ci := 11) (v := .int (-1)) (ty := .int) (C := RX11) (T := TX11) (N := 12) hx hb hts in_X11 tyX11 tyX11_ok nmX11 hown hK hP hD hS 0 rfl rfl 11 (by decide) (hts (.fieldLink RX11 90 "TextMender" "fault" "I") (List.mem_of_getElem? (i := 1) rfl)) (fun _ h9 => h9) rfl (by decide +kernel) rfl rfl (Nat.le_of_ble_eq_true rfl) dX11_passes_47 (fun H locs hP hD hS => ?_)
      have hP : va_P (dC, dI) vwCl [(oX, .inr (11, [.ref nT, .ref nL, .ref nM, .ref oC, .ref oP, .ref oH, .ref oK, .ref oG, .ref oR, .ref oQ, .ref oW, .int (-1)])), (nB, .inr (5, [.ref aB, .int 0])), (nL, .inr (5, [.ref aL, .int 0])), (nM, .inr (5, [.ref aM, .int 0])), (oP, .inr (7, [.ref oC, .ref nB, .int (-1)]))] H := hP
      have hD : va_D A [(oX, .inr (11, [.ref nT, .ref nL, .ref nM, .ref oC, .ref oP, .ref oH, .ref oK, .ref oG, .ref oR, .ref oQ, .ref oW, .int (-1)])), (nB, .inr (5, [.ref aB, .int 0])), (nL, .inr (5, [.ref aL, .int 0])), (nM, .inr (5, [.ref aM, .int 0])), (oP, .inr (7, [.ref oC, .ref nB, .int (-1)]))] := hD
      refine lv_iload_n hx hb dX11_passes_50 rfl (lv_at hl 0 rfl) ?_
      have hP9 := hP.sub (ws' := [(oX, .inr (11, [.ref nT, .ref nL, .ref nM, .ref oC, .ref oP, .ref oH, .ref oK, .ref oG, .ref oR, .ref oQ, .ref oW, .int (-1)])), (nL, .inr (5, [.ref aL, .int 0])), (nM, .inr (5, [.ref aM, .int 0])), (oP, .inr (7, [.ref oC, .ref nB, .int (-1)])), (nB, .inr (5, [.ref aB, .int 0]))]) [0, 2, 3, 4, 1] rfl
      have hD9 := hD.sub (ws' := [(oX, .inr (11, [.ref nT, .ref nL, .ref nM, .ref oC, .ref oP, .ref oH, .ref oK, .ref oG, .ref oR, .ref oQ, .ref oW, .int (-1)])), (nL, .inr (5, [.ref aL, .int 0])), (nM, .inr (5, [.ref aM, .int 0])), (oP, .inr (7, [.ref oC, .ref nB, .int (-1)])), (nB, .inr (5, [.ref aB, .int 0]))]) [0, 2, 3, 4, 1] (by decide) rfl
      exact W.zret (v := 1) (ty := .boolean) hx hb hr (rfl) (fun t ht hW => ⟨⟨1, (), rfl, by first | rfl | assumption | simp [f_both, c_2, c_4], by rw [ht]; exact hP9, hD9⟩, hS.F ht⟩) (hS.2.2) dX11_passes_51
    · refine lv_iconst (v := 0) hx hb dX11_passes_19 (by decide) ?_
      have hP9 := hP.sub (ws' := [(oX, .inr (11, [.ref nT, .ref nL, .ref nM, .ref oC, .ref oP, .ref oH, .ref oK, .ref oG, .ref oR, .ref oQ, .ref oW, .int (-1)])), (nL, .inr (5, [.ref aL, .int 0])), (nM, .inr (5, [.ref aM, .int 0])), (oP, .inr (7, [.ref oC, .ref nB, .int (-1)])), (nB, .inr (5, [.ref aB, .int 0]))]) [0, 1, 2, 3, 4] rfl
      have hD9 := hD.sub (ws' := [(oX, .inr (11, [.ref nT, .ref nL, .ref nM, .ref oC, .ref oP, .ref oH, .ref oK, .ref oG, .ref oR, .ref oQ, .ref oW, .int (-1)])), (nL, .inr (5, [.ref aL, .int 0])), (nM, .inr (5, [.ref aM, .int 0])), (oP, .inr (7, [.ref oC, .ref nB, .int (-1)])), (nB, .inr (5, [.ref aB, .int 0]))]) [0, 1, 2, 3, 4] (by decide) rfl
      exact W.zret (v := 0) (ty := .boolean) hx hb hr (rfl) (fun t ht hW => ⟨⟨0, (), rfl, by first | rfl | assumption | simp [f_both, c_2, c_4], by rw [ht]; exact hP9, hD9⟩, hS.F ht⟩) (hS.2.2) dX11_passes_20

set_option maxHeartbeats 4000000 in
set_option maxRecDepth 100000 in
theorem m_X11_become (l : Launch) (dC : Nat → ClassId) (dI : Nat → Nat → Nat) (cI cS : ClassId) (sz : Nat) (oX : Nat) (nT : Nat) (nL : Nat) (nM : Nat) (oC : Nat) (oP : Nat) (oH : Nat) (oK : Nat) (oG : Nat) (oR : Nat) (oQ : Nat) (oW : Nat) (aL : Nat) (aM : Nat) (g1 : Nat) (g2 : Nat) (w0 : Nat) (w1 : Nat) (w2 : Nat) (w3 : Nat) (w4 : Nat) (w5 : Nat) (w6 : Nat) (w7 : Nat) (w8 : Nat) (w9 : Nat) (w10 : Nat)  : Met l yX11_become wsX11_become ({ frames := 3, cells := 0, slots := 0, locals := 90 } : Room) (va_Pc [.ref oX, .ref nM] (fun U => U.heap.size = sz ∧ va_P (dC, dI) vwCl [(oX, .inr (11, [.ref nT, .ref nL, .ref nM, .ref oC, .ref oP, .ref oH, .ref oK, .ref oG, .ref oR, .ref oQ, .ref oW, .int (-1)])), (nL, .inr (5, [.ref aL, .int 0])), (aL, .inl (cI, 300, .inl (fun _ => 0))), (nM, .inr (5, [.ref aM, .int 0])), (aM, .inl (cI, 300, .inl (fun _ => 0))), (oG, .inr (0, [.ref g1, .ref g2, .int 0, .int 0])), (g1, .inl (cI, 6000, .inl (fun _ => 0))), (g2, .inl (cI, 20, .inl (fun _ => 0))), (oW, .inr (1, [.ref oC, .ref oK, .ref w0, .ref w1, .ref w2, .ref w3, .ref w4, .ref w5, .ref w6, .ref w7, .ref w8, .ref w9, .ref w10, .int 0, .int 0, .int 0, .int (-1), .int (-1), .int (-1), .int (-1)]))] U.heap ∧ va_K (dC, dI) vwCl [(cI, .int), (cS, .short)] U ∧ va_D (fun _ => True) [(oX, .inr (11, [.ref nT, .ref nL, .ref nM, .ref oC, .ref oP, .ref oH, .ref oK, .ref oG, .ref oR, .ref oQ, .ref oW, .int (-1)])), (nL, .inr (5, [.ref aL, .int 0])), (aL, .inl (cI, 300, .inl (fun _ => 0))), (nM, .inr (5, [.ref aM, .int 0])), (aM, .inl (cI, 300, .inl (fun _ => 0))), (oG, .inr (0, [.ref g1, .ref g2, .int 0, .int 0])), (g1, .inl (cI, 6000, .inl (fun _ => 0))), (g2, .inl (cI, 20, .inl (fun _ => 0))), (oW, .inr (1, [.ref oC, .ref oK, .ref w0, .ref w1, .ref w2, .ref w3, .ref w4, .ref w5, .ref w6, .ref w7, .ref w8, .ref w9, .ref w10, .int 0, .int 0, .int 0, .int (-1), .int (-1), .int (-1), .int (-1)]))])) (va_Qi (fun (r : Int32) (_ : Unit) => r = 0) (fun _ _ => True) (va_A [(oX, .inr (11, [.ref nT, .ref nL, .ref nM, .ref oC, .ref oP, .ref oH, .ref oK, .ref oG, .ref oR, .ref oQ, .ref oW, .int (-1)])), (nL, .inr (5, [.ref aL, .int 0])), (aL, .inl (cI, 300, .inl (fun _ => 0))), (nM, .inr (5, [.ref aM, .int 0])), (aM, .inl (cI, 300, .inl (fun _ => 0))), (oG, .inr (0, [.ref g1, .ref g2, .int 0, .int 0])), (g1, .inl (cI, 6000, .inl (fun _ => 0))), (g2, .inl (cI, 20, .inl (fun _ => 0))), (oW, .inr (1, [.ref oC, .ref oK, .ref w0, .ref w1, .ref w2, .ref w3, .ref w4, .ref w5, .ref w6, .ref w7, .ref w8, .ref w9, .ref w10, .int 0, .int 0, .int 0, .int (-1), .int (-1), .int (-1), .int (-1)]))] sz)) 0 0 (va_A [(oX, .inr (11, [.ref nT, .ref nL, .ref nM, .ref oC, .ref oP, .ref oH, .ref oK, .ref oG, .ref oR, .ref oQ, .ref oW, .int (-1)])), (nL, .inr (5, [.ref aL, .int 0])), (aL, .inl (cI, 300, .inl (fun _ => 0))), (nM, .inr (5, [.ref aM, .int 0])), (aM, .inl (cI, 300, .inl (fun _ => 0))), (oG, .inr (0, [.ref g1, .ref g2, .int 0, .int 0])), (g1, .inl (cI, 6000, .inl (fun _ => 0))), (g2, .inl (cI, 20, .inl (fun _ => 0))), (oW, .inr (1, [.ref oC, .ref oK, .ref w0, .ref w1, .ref w2, .ref w3, .ref w4, .ref w5, .ref w6, .ref w7, .ref w8, .ref w9, .ref w10, .int 0, .int 0, .int 0, .int (-1), .int (-1), .int (-1), .int (-1)]))] sz) := by
  refine Met.ofW (cc := cX11_become) (maxL := 2) (ret := (some .int)) (by decide) rfl ?_
  intro p e s m args below meth c s₁ B hml hv
  obtain ⟨rfl, hsz, hP, hK, hD0⟩ := hv
  have hx := B.exec
  have hb := B.bytes
  have hr := B.returns
  have hts := atoms_spec (ws := wsX11_become) B.pre
  have hown : s.vm.findClass RX11 = some m.cls := findClass_of_methodNamed B.named
  have hlocks := B.notSynchronized
  have in_X11 : ∀ w ∈ wsX110, w ∈ wsX11_become := fun _ h => List.mem_cons_of_mem _ (List.mem_append_left _ (List.mem_append_left _ (List.mem_append_left _ (List.mem_append_right _ (h)))))
  subst hsz
  have hD := hD0.self (sz := s.heap.size)
  generalize hAe : va_A [(oX, .inr (11, [.ref nT, .ref nL, .ref nM, .ref oC, .ref oP, .ref oH, .ref oK, .ref oG, .ref oR, .ref oQ, .ref oW, .int (-1)])), (nL, .inr (5, [.ref aL, .int 0])), (aL, .inl (cI, 300, .inl (fun _ => 0))), (nM, .inr (5, [.ref aM, .int 0])), (aM, .inl (cI, 300, .inl (fun _ => 0))), (oG, .inr (0, [.ref g1, .ref g2, .int 0, .int 0])), (g1, .inl (cI, 6000, .inl (fun _ => 0))), (g2, .inl (cI, 20, .inl (fun _ => 0))), (oW, .inr (1, [.ref oC, .ref oK, .ref w0, .ref w1, .ref w2, .ref w3, .ref w4, .ref w5, .ref w6, .ref w7, .ref w8, .ref w9, .ref w10, .int 0, .int 0, .int 0, .int (-1), .int (-1), .int (-1), .int (-1)]))] s.heap.size = A at hD ⊢
  have hA : ∀ q : Nat, s.heap.size ≤ q → A q := fun q h => by rw [← hAe]; exact Or.inr h
  have hS : va_S A s.heap s.heap [] := va_S.rf
  have hP : va_P (dC, dI) vwCl [(oX, .inr (11, [.ref nT, .ref nL, .ref nM, .ref oC, .ref oP, .ref oH, .ref oK, .ref oG, .ref oR, .ref oQ, .ref oW, .int (-1)])), (nL, .inr (5, [.ref aL, .int 0])), (aL, .inl (cI, 300, .inl (fun _ => 0))), (nM, .inr (5, [.ref aM, .int 0])), (aM, .inl (cI, 300, .inl (fun _ => 0))), (oG, .inr (0, [.ref g1, .ref g2, .int 0, .int 0])), (g1, .inl (cI, 6000, .inl (fun _ => 0))), (g2, .inl (cI, 20, .inl (fun _ => 0))), (oW, .inr (1, [.ref oC, .ref oK, .ref w0, .ref w1, .ref w2, .ref w3, .ref w4, .ref w5, .ref w6, .ref w7, .ref w8, .ref w9, .ref w10, .int 0, .int 0, .int 0, .int (-1), .int (-1), .int (-1), .int (-1)]))] s.heap := hP
  have hl := lv_entry ([.ref oX, .ref nM]) (n := 2) (Nat.le_of_ble_eq_true rfl)
  rw [lg_entry_eq]
  generalize (lg_sl ([.ref oX, .ref nM]) ++ List.replicate (2 - (lg_sl ([.ref oX, .ref nM])).length) Slot.unset).toArray = ls at hl ⊢
  have hl : lv_has ls 2 [(0, .ref oX), (1, .ref nM)] := hl
  refine lv_aload_n hx hb dX11_become_0 rfl (lv_at hl 0 rfl) ?_
  refine va_get (D := (dC, dI)) (ci := 11) (v := .ref oG) (C := RX11) (T := TX11) (N := 12) hx hb hts in_X11 hown hK hP 0 rfl rfl 7 (by decide) (hts (.fieldLink RX11 59 "TextMender" "changes" "LTextMender$Changes;") (List.mem_of_getElem? (i := 1) rfl)) (fun _ h9 => h9) rfl dX11_become_1 ?_
  refine lv_aload_n hx hb dX11_become_4 rfl (lv_at hl 0 rfl) ?_
  refine va_get (D := (dC, dI)) (ci := 11) (v := .ref nL) (C := RX11) (T := TX11) (N := 12) hx hb hts in_X11 hown hK hP 0 rfl rfl 1 (by decide) (hts (.fieldLink RX11 34 "TextMender" "letters" "LTextMender$Numbers;") (List.mem_of_getElem? (i := 2) rfl)) (fun _ h9 => h9) rfl dX11_become_5 ?_
  have hPc := hP.sub (ws' := [(oG, .inr (0, [.ref g1, .ref g2, .int 0, .int 0])), (g1, .inl (cI, 6000, .inl (fun _ => 0))), (g2, .inl (cI, 20, .inl (fun _ => 0))), (nL, .inr (5, [.ref aL, .int 0]))]) [5, 6, 7, 1] rfl
  have hDc := hD.sub (ws' := [(oG, .inr (0, [.ref g1, .ref g2, .int 0, .int 0])), (g1, .inl (cI, 6000, .inl (fun _ => 0))), (g2, .inl (cI, 20, .inl (fun _ => 0))), (nL, .inr (5, [.ref aL, .int 0]))]) [5, 6, 7, 1] (by decide) rfl
  have hFc := va_free (wc := [(oG, .inr (0, [.ref g1, .ref g2, .int 0, .int 0])), (g1, .inl (cI, 6000, .inl (fun _ => 0))), (g2, .inl (cI, 20, .inl (fun _ => 0))), (nL, .inr (5, [.ref aL, .int 0]))]) hD hS hA [5, 6, 7, 1] rfl
  refine va_callv (va_runV (As := [.ref nL]) (rest := []) ⟨hx, hb, hml, hown, hts⟩ (m_X0_remember l dC dI cI cS s.heap.size oG g1 g2 nL aL ) (cwV 1 hts gX11_become_X0_remember rfl rfl rfl (by decide +kernel) ⟨Nat.le_of_ble_eq_true rfl, Nat.le_of_ble_eq_true rfl⟩) ⟨fun a U g mk q => by obtain ⟨q0, q1, qP, qK, qD⟩ := q; exact ⟨q0, q1, qP, va_K.moved (u := U) (U := U.calling g mk a) (Vm.Alike.refl U.vm) qK, qD⟩, va_recv hK hPc (ci := 0) (q0 := 0) rfl rfl, fun U hU hW => ⟨rfl, by rw [hU], by rw [hU]; exact hPc, va_K.moved hW.alike hK, hDc.weaken (fun _ _ _ _ => trivial)⟩⟩ rfl rfl hl.1 rfl (lv_room (Nat.le_of_ble_eq_true rfl)) dX11_become_8 ⟨Nat.le_of_ble_eq_true rfl, Nat.le_of_ble_eq_true rfl⟩) hS (fun q _ h => hFc q h) hFc (fun u t H1 locs ht hvm hw hB hz1 hk1 hS => ?_)
  obtain ⟨hP1, hD1⟩ := hB
  rw [ht] at hP1
  obtain ⟨hP, hD⟩ := va_join (wr := [(oX, .inr (11, [.ref nT, .ref nL, .ref nM, .ref oC, .ref oP, .ref oH, .ref oK, .ref oG, .ref oR, .ref oQ, .ref oW, .int (-1)])), (aL, .inl (cI, 300, .inl (fun _ => 0))), (nM, .inr (5, [.ref aM, .int 0])), (aM, .inl (cI, 300, .inl (fun _ => 0))), (oW, .inr (1, [.ref oC, .ref oK, .ref w0, .ref w1, .ref w2, .ref w3, .ref w4, .ref w5, .ref w6, .ref w7, .ref w8, .ref w9, .ref w10, .int 0, .int 0, .int 0, .int (-1), .int (-1), .int (-1), .int (-1)]))]) (w1 := [(nL, .inr (5, [.ref aL, .int 0]))]) hP hD [5, 6, 7, 1] [0, 2, 3, 4, 8] rfl rfl (by decide) (by decide) hk1 hFc hP1 hD1
  generalize H1 = H at hP hS ⊢
  have hP : va_P (dC, dI) vwCl [(oX, .inr (11, [.ref nT, .ref nL, .ref nM, .ref oC, .ref oP, .ref oH, .ref oK, .ref oG, .ref oR, .ref oQ, .ref oW, .int (-1)])), (aL, .inl (cI, 300, .inl (fun _ => 0))), (nM, .inr (5, [.ref aM, .int 0])), (aM, .inl (cI, 300, .inl (fun _ => 0))), (oW, .inr (1, [.ref oC, .ref oK, .ref w0, .ref w1, .ref w2, .ref w3, .ref w4, .ref w5, .ref w6, .ref w7, .ref w8, .ref w9, .ref w10, .int 0, .int 0, .int 0, .int (-1), .int (-1), .int (-1), .int (-1)])), (nL, .inr (5, [.ref aL, .int 0]))] H := hP
  have hD : va_D A [(oX, .inr (11, [.ref nT, .ref nL, .ref nM, .ref oC, .ref oP, .ref oH, .ref oK, .ref oG, .ref oR, .ref oQ, .ref oW, .int (-1)])), (aL, .inl (cI, 300, .inl (fun _ => 0))), (nM, .inr (5, [.ref aM, .int 0])), (aM, .inl (cI, 300, .inl (fun _ => 0))), (oW, .inr (1, [.ref oC, .ref oK, .ref w0, .ref w1, .ref w2, .ref w3, .ref w4, .ref w5, .ref w6, .ref w7, .ref w8, .ref w9, .ref w10, .int 0, .int 0, .int 0, .int (-1), .int (-1), .int (-1), .int (-1)])), (nL, .inr (5, [.ref aL, .int 0]))] := hD
  refine lv_aload_n hx hb dX11_become_11 rfl (lv_at hl 0 rfl) ?_
  refine va_get (D := (dC, dI)) (ci := 11) (v := .ref nL) (C := RX11) (T := TX11) (N := 12) hx hb hts in_X11 hown hK hP 0 rfl rfl 1 (by decide) (hts (.fieldLink RX11 34 "TextMender" "letters" "LTextMender$Numbers;") (List.mem_of_getElem? (i := 2) rfl)) (fun _ h9 => h9) rfl dX11_become_12 ?_
  refine lv_aload_n hx hb dX11_become_15 rfl (lv_at hl 1 rfl) ?_
  have hPc := hP.sub (ws' := [(nL, .inr (5, [.ref aL, .int 0])), (aL, .inl (cI, 300, .inl (fun _ => 0))), (nM, .inr (5, [.ref aM, .int 0])), (aM, .inl (cI, 300, .inl (fun _ => 0)))]) [5, 1, 2, 3] rfl
  have hDc := hD.sub (ws' := [(nL, .inr (5, [.ref aL, .int 0])), (aL, .inl (cI, 300, .inl (fun _ => 0))), (nM, .inr (5, [.ref aM, .int 0])), (aM, .inl (cI, 300, .inl (fun _ => 0)))]) [5, 1, 2, 3] (by decide) rfl
  have hFc := va_free (wc := [(nL, .inr (5, [.ref aL, .int 0])), (aL, .inl (cI, 300, .inl (fun _ => 0))), (nM, .inr (5, [.ref aM, .int 0])), (aM, .inl (cI, 300, .inl (fun _ => 0)))]) hD hS hA [5, 1, 2, 3] rfl
  refine va_calli (va_runV (As := [.ref nM]) (rest := []) ⟨hx, hb, hml, hown, hts⟩ (m_X5_takeAll l dC dI cI cS H.size nL aL nM aM 300 (fun _ => 0) (fun _ => 0) ) (cwV 1 hts gX11_become_X5_takeAll rfl rfl rfl (by decide +kernel) ⟨Nat.le_of_ble_eq_true rfl, Nat.le_of_ble_eq_true rfl⟩) ⟨fun a U g mk q => by obtain ⟨q0, q1, qP, qK, qD⟩ := q; exact ⟨q0, q1, qP, va_K.moved (u := U) (U := U.calling g mk a) (Vm.Alike.refl U.vm) qK, qD⟩, va_recv hK hPc (ci := 5) (q0 := 0) rfl rfl, fun U hU hW => ⟨rfl, by rw [hU], by rw [hU]; exact hPc, va_K.moved hW.alike hK, hDc.weaken (fun _ _ _ _ => trivial)⟩⟩ rfl rfl hl.1 rfl (lv_room (Nat.le_of_ble_eq_true rfl)) dX11_become_16 ⟨Nat.le_of_ble_eq_true rfl, Nat.le_of_ble_eq_true rfl⟩) hS (fun q _ h => hFc q h) hFc (fun r_2 u t H1 locs ht hvm hw hB hz1 hk1 hS => ?_)
  obtain ⟨hP1, hD1⟩ := hB
  rw [ht] at hP1
  obtain ⟨hP, hD⟩ := va_join (wr := [(oX, .inr (11, [.ref nT, .ref nL, .ref nM, .ref oC, .ref oP, .ref oH, .ref oK, .ref oG, .ref oR, .ref oQ, .ref oW, .int (-1)])), (oW, .inr (1, [.ref oC, .ref oK, .ref w0, .ref w1, .ref w2, .ref w3, .ref w4, .ref w5, .ref w6, .ref w7, .ref w8, .ref w9, .ref w10, .int 0, .int 0, .int 0, .int (-1), .int (-1), .int (-1), .int (-1)]))]) (w1 := [(nL, .inr (5, [.ref aL, .int 0])), (aL, .inl (cI, 300, .inl (fun _ => 0))), (nM, .inr (5, [.ref aM, .int 0])), (aM, .inl (cI, 300, .inl (fun _ => 0)))]) hP hD [5, 1, 2, 3] [0, 4] rfl rfl (by decide) (by decide) hk1 hFc hP1 hD1
  generalize H1 = H at hP hS ⊢
  have hP : va_P (dC, dI) vwCl [(oX, .inr (11, [.ref nT, .ref nL, .ref nM, .ref oC, .ref oP, .ref oH, .ref oK, .ref oG, .ref oR, .ref oQ, .ref oW, .int (-1)])), (oW, .inr (1, [.ref oC, .ref oK, .ref w0, .ref w1, .ref w2, .ref w3, .ref w4, .ref w5, .ref w6, .ref w7, .ref w8, .ref w9, .ref w10, .int 0, .int 0, .int 0, .int (-1), .int (-1), .int (-1), .int (-1)])), (nL, .inr (5, [.ref aL, .int 0])), (aL, .inl (cI, 300, .inl (fun _ => 0))), (nM, .inr (5, [.ref aM, .int 0])), (aM, .inl (cI, 300, .inl (fun _ => 0)))] H := hP
  have hD : va_D A [(oX, .inr (11, [.ref nT, .ref nL, .ref nM, .ref oC, .ref oP, .ref oH, .ref oK, .ref oG, .ref oR, .ref oQ, .ref oW, .int (-1)])), (oW, .inr (1, [.ref oC, .ref oK, .ref w0, .ref w1, .ref w2, .ref w3, .ref w4, .ref w5, .ref w6, .ref w7, .ref w8, .ref w9, .ref w10, .int 0, .int 0, .int 0, .int (-1), .int (-1), .int (-1), .int (-1)])), (nL, .inr (5, [.ref aL, .int 0])), (aL, .inl (cI, 300, .inl (fun _ => 0))), (nM, .inr (5, [.ref aM, .int 0])), (aM, .inl (cI, 300, .inl (fun _ => 0)))] := hD
  subst hw
  refine lv_pop hx hb dX11_become_19 rfl ?_
  refine lv_aload_n hx hb dX11_become_20 rfl (lv_at hl 0 rfl) ?_
  refine va_get (D := (dC, dI)) (ci := 11) (v := .ref oW) (C := RX11) (T := TX11) (N := 12) hx hb hts in_X11 hown hK hP 0 rfl rfl 10 (by decide) (hts (.fieldLink RX11 86 "TextMender" "choiceBook" "LTextMender$Choices;") (List.mem_of_getElem? (i := 3) rfl)) (fun _ h9 => h9) rfl dX11_become_21 ?_
  have hPc := hP.sub (ws' := [(oW, .inr (1, [.ref oC, .ref oK, .ref w0, .ref w1, .ref w2, .ref w3, .ref w4, .ref w5, .ref w6, .ref w7, .ref w8, .ref w9, .ref w10, .int 0, .int 0, .int 0, .int (-1), .int (-1), .int (-1), .int (-1)]))]) [1] rfl
  have hDc := hD.sub (ws' := [(oW, .inr (1, [.ref oC, .ref oK, .ref w0, .ref w1, .ref w2, .ref w3, .ref w4, .ref w5, .ref w6, .ref w7, .ref w8, .ref w9, .ref w10, .int 0, .int 0, .int 0, .int (-1), .int (-1), .int (-1), .int (-1)]))]) [1] (by decide) rfl
  have hFc := va_free (wc := [(oW, .inr (1, [.ref oC, .ref oK, .ref w0, .ref w1, .ref w2, .ref w3, .ref w4, .ref w5, .ref w6, .ref w7, .ref w8, .ref w9, .ref w10, .int 0, .int 0, .int 0, .int (-1), .int (-1), .int (-1), .int (-1)]))]) hD hS hA [1] rfl
  refine va_callv (va_runV (As := []) (rest := []) ⟨hx, hb, hml, hown, hts⟩ (m_X1_forgetFreshness l dC dI cI cS H.size oW oC oK w0 w1 w2 w3 w4 w5 w6 w7 w8 w9 w10 ) (cwV 0 hts gX11_become_X1_forgetFreshness rfl rfl rfl (by decide +kernel) ⟨Nat.le_of_ble_eq_true rfl, Nat.le_of_ble_eq_true rfl⟩) ⟨fun a U g mk q => by obtain ⟨q0, q1, qP, qK, qD⟩ := q; exact ⟨q0, q1, qP, va_K.moved (u := U) (U := U.calling g mk a) (Vm.Alike.refl U.vm) qK, qD⟩, va_recv hK hPc (ci := 1) (q0 := 0) rfl rfl, fun U hU hW => ⟨rfl, by rw [hU], by rw [hU]; exact hPc, va_K.moved hW.alike hK, hDc.weaken (fun _ _ _ _ => trivial)⟩⟩ rfl rfl hl.1 rfl (lv_room (Nat.le_of_ble_eq_true rfl)) dX11_become_24 ⟨Nat.le_of_ble_eq_true rfl, Nat.le_of_ble_eq_true rfl⟩) hS (fun q _ h => hFc q h) hFc (fun u t H1 locs ht hvm hw hB hz1 hk1 hS => ?_)
  obtain ⟨hP1, hD1⟩ := hB
  rw [ht] at hP1
  obtain ⟨hP, hD⟩ := va_join (wr := [(oX, .inr (11, [.ref nT, .ref nL, .ref nM, .ref oC, .ref oP, .ref oH, .ref oK, .ref oG, .ref oR, .ref oQ, .ref oW, .int (-1)])), (nL, .inr (5, [.ref aL, .int 0])), (aL, .inl (cI, 300, .inl (fun _ => 0))), (nM, .inr (5, [.ref aM, .int 0])), (aM, .inl (cI, 300, .inl (fun _ => 0)))]) (w1 := [(oW, .inr (1, [.ref oC, .ref oK, .ref w0, .ref w1, .ref w2, .ref w3, .ref w4, .ref w5, .ref w6, .ref w7, .ref w8, .ref w9, .ref w10, .int 0, .int 0, .int 0, .int (-1), .int (-1), .int (-1), .int (-1)]))]) hP hD [1] [0, 2, 3, 4, 5] rfl rfl (by decide) (by decide) hk1 hFc hP1 hD1
  generalize H1 = H at hP hS ⊢
  have hP : va_P (dC, dI) vwCl [(oX, .inr (11, [.ref nT, .ref nL, .ref nM, .ref oC, .ref oP, .ref oH, .ref oK, .ref oG, .ref oR, .ref oQ, .ref oW, .int (-1)])), (nL, .inr (5, [.ref aL, .int 0])), (aL, .inl (cI, 300, .inl (fun _ => 0))), (nM, .inr (5, [.ref aM, .int 0])), (aM, .inl (cI, 300, .inl (fun _ => 0))), (oW, .inr (1, [.ref oC, .ref oK, .ref w0, .ref w1, .ref w2, .ref w3, .ref w4, .ref w5, .ref w6, .ref w7, .ref w8, .ref w9, .ref w10, .int 0, .int 0, .int 0, .int (-1), .int (-1), .int (-1), .int (-1)]))] H := hP
  have hD : va_D A [(oX, .inr (11, [.ref nT, .ref nL, .ref nM, .ref oC, .ref oP, .ref oH, .ref oK, .ref oG, .ref oR, .ref oQ, .ref oW, .int (-1)])), (nL, .inr (5, [.ref aL, .int 0])), (aL, .inl (cI, 300, .inl (fun _ => 0))), (nM, .inr (5, [.ref aM, .int 0])), (aM, .inl (cI, 300, .inl (fun _ => 0))), (oW, .inr (1, [.ref oC, .ref oK, .ref w0, .ref w1, .ref w2, .ref w3, .ref w4, .ref w5, .ref w6, .ref w7, .ref w8, .ref w9, .ref w10, .int 0, .int 0, .int 0, .int (-1), .int (-1), .int (-1), .int (-1)]))] := hD
  refine lv_aload_n hx hb dX11_become_27 rfl (lv_at hl 0 rfl) ?_
  refine va_get (D := (dC, dI)) (ci := 11) (v := .ref nL) (C := RX11) (T := TX11) (N := 12) hx hb hts in_X11 hown hK hP 0 rfl rfl 1 (by decide) (hts (.fieldLink RX11 34 "TextMender" "letters" "LTextMender$Numbers;") (List.mem_of_getElem? (i := 2) rfl)) (fun _ h9 => h9) rfl dX11_become_28 ?_
  have hPc := hP.sub (ws' := [(nL, .inr (5, [.ref aL, .int 0]))]) [1] rfl
  have hDc := hD.sub (ws' := [(nL, .inr (5, [.ref aL, .int 0]))]) [1] (by decide) rfl
  have hFc := va_free (wc := [(nL, .inr (5, [.ref aL, .int 0]))]) hD hS hA [1] rfl
  refine va_calli (va_runV (As := []) (rest := []) ⟨hx, hb, hml, hown, hts⟩ (m_X5_length l dC dI cI cS H.size nL aL 0 ) (cwV 0 hts gX11_become_X5_length rfl rfl rfl (by decide +kernel) ⟨Nat.le_of_ble_eq_true rfl, Nat.le_of_ble_eq_true rfl⟩) ⟨fun a U g mk q => by obtain ⟨q0, q1, qP, qK, qD⟩ := q; exact ⟨q0, q1, qP, va_K.moved (u := U) (U := U.calling g mk a) (Vm.Alike.refl U.vm) qK, qD⟩, va_recv hK hPc (ci := 5) (q0 := 0) rfl rfl, fun U hU hW => ⟨rfl, by rw [hU], by rw [hU]; exact hPc, va_K.moved hW.alike hK, hDc.weaken (fun _ _ _ _ => trivial)⟩⟩ rfl rfl hl.1 rfl (lv_room (Nat.le_of_ble_eq_true rfl)) dX11_become_31 ⟨Nat.le_of_ble_eq_true rfl, Nat.le_of_ble_eq_true rfl⟩) hS (fun q _ h => hFc q h) hFc (fun r_4 u t H1 locs ht hvm hw hB hz1 hk1 hS => ?_)
  obtain ⟨hP1, hD1⟩ := hB
  rw [ht] at hP1
  obtain ⟨hP, hD⟩ := va_join (wr := [(oX, .inr (11, [.ref nT, .ref nL, .ref nM, .ref oC, .ref oP, .ref oH, .ref oK, .ref oG, .ref oR, .ref oQ, .ref oW, .int (-1)])), (aL, .inl (cI, 300, .inl (fun _ => 0))), (nM, .inr (5, [.ref aM, .int 0])), (aM, .inl (cI, 300, .inl (fun _ => 0))), (oW, .inr (1, [.ref oC, .ref oK, .ref w0, .ref w1, .ref w2, .ref w3, .ref w4, .ref w5, .ref w6, .ref w7, .ref w8, .ref w9, .ref w10, .int 0, .int 0, .int 0, .int (-1), .int (-1), .int (-1), .int (-1)]))]) (w1 := [(nL, .inr (5, [.ref aL, .int 0]))]) hP hD [1] [0, 2, 3, 4, 5] rfl rfl (by decide) (by decide) hk1 hFc hP1 hD1
  generalize H1 = H at hP hS ⊢
  have hP : va_P (dC, dI) vwCl [(oX, .inr (11, [.ref nT, .ref nL, .ref nM, .ref oC, .ref oP, .ref oH, .ref oK, .ref oG, .ref oR, .ref oQ, .ref oW, .int (-1)])), (aL, .inl (cI, 300, .inl (fun _ => 0))), (nM, .inr (5, [.ref aM, .int 0])), (aM, .inl (cI, 300, .inl (fun _ => 0))), (oW, .inr (1, [.ref oC, .ref oK, .ref w0, .ref w1, .ref w2, .ref w3, .ref w4, .ref w5, .ref w6, .ref w7, .ref w8, .ref w9, .ref w10, .int 0, .int 0, .int 0, .int (-1), .int (-1), .int (-1), .int (-1)])), (nL, .inr (5, [.ref aL, .int 0]))] H := hP
  have hD : va_D A [(oX, .inr (11, [.ref nT, .ref nL, .ref nM, .ref oC, .ref oP, .ref oH, .ref oK, .ref oG, .ref oR, .ref oQ, .ref oW, .int (-1)])), (aL, .inl (cI, 300, .inl (fun _ => 0))), (nM, .inr (5, [.ref aM, .int 0])), (aM, .inl (cI, 300, .inl (fun _ => 0))), (oW, .inr (1, [.ref oC, .ref oK, .ref w0, .ref w1, .ref w2, .ref w3, .ref w4, .ref w5, .ref w6, .ref w7, .ref w8, .ref w9, .ref w10, .int 0, .int 0, .int 0, .int (-1), .int (-1), .int (-1), .int (-1)])), (nL, .inr (5, [.ref aL, .int 0]))] := hD
  subst hw
  exact W.iret (v := 0) hx hb hr (fun t ht hW => ⟨⟨0, (), rfl, rfl, trivial⟩, hS.F ht⟩) (hS.2.2) dX11_become_34
