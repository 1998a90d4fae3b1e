theorem p_x0 : decode prog_22_method_4_code 0 = .ok (.aload_n 0, 1) := by decide +kernel

theorem p_x1 : decode prog_22_method_4_code 1 = .ok (.aload_n 1, 1) := by decide +kernel

theorem p_x2 : decode prog_22_method_4_code 2 = .ok (.invokespecial 13, 3) := by decide +kernel

theorem p_x5 : decode prog_22_method_4_code 5 = .ok (.return_, 1) := by decide +kernel

/-- the words of the throw that aren't kept by the tables alone -/
def p_Dw (U : State) : Prop := va_Nw (.castable "java/util/NoSuchElementException" "java/util/NoSuchElementException") U ∧ va_Nw (.declares ⟨"java/lang/RuntimeException", "<init>", "(Ljava/lang/String;)V"⟩) U ∧ va_Nw (.declares ⟨"java/lang/Exception", "<init>", "(Ljava/lang/String;)V"⟩) U ∧ va_Nw (.declares ⟨"java/lang/Throwable", "<init>", "(Ljava/lang/String;)V"⟩) U
theorem p_Dw.same {u U : State} (h : u.vm = U.vm) (z : p_Dw u) : p_Dw U := ⟨va_Nw.same rfl h z.1, va_Nw.same rfl h z.2.1, va_Nw.same rfl h z.2.2.1, va_Nw.same rfl h z.2.2.2⟩
theorem p_Dw.warm {s U : State} (hW : s.WarmedH U.vm) (z : p_Dw s) : p_Dw U := ⟨va_Nw.warmC hW z.1, va_Nw.warmD hW z.2.1, va_Nw.warmD hW z.2.2.1, va_Nw.warmD hW z.2.2.2⟩
theorem p_ofWH {l : Launch} {y : MethodName} {ws ws' : List Cond} {rm : Room} {Pc : Array Value → State → Prop} {Qc : Array Value → State → Outcome → State → Prop} {mc ms : Nat} {free : Addr → Prop} {cc : ByteArray} {maxL : Nat} {ret : Option FieldType} {hh : List (Nat × Nat × Nat × Nat)}
    (hy : plainName y.cls = true) (hw : ws = Cond.codeWith y cc maxL ret hh :: ws')
    (body : ∀ p e s m args below meth c s₁, BodyLoose p l y (headSpec ws rm) cc maxL ret e s m args below meth c s₁ → c.maxLocals = maxL → Pc args s →
      W p l e (headSpec ws rm).room s m args below meth c s.heap [] 0 0 (MQ below Qc args s mc ms free) (entryFrame m args maxL)) : Met l y ws rm Pc Qc mc ms free := by
  refine MetFree.of_bodyS (code := cc) (maxLocals := maxL) (ret := ret) hy ?_ ?_
  · intro args s m h hn
    obtain ⟨m9, meth, c, hn9, h1, h2, h3, h4, -, h5, h6, -⟩ := Cond.codeWith_spec (atoms_spec (ws := ws) h _ (by rw [hw]; exact List.mem_cons_self))
    cases hn.symm.trans hn9
    exact ⟨meth, c, h1, h2, h3, h4, h5, h6⟩
  · intro p e s m args below meth c s₁ B hml hP _
    have hh0 : s₁.heap = s.heap := by rw [B.state]; rfl
    obtain ⟨t, a1, o, b1, b2, b3⟩ := body p e s m args below meth c s₁ B hml hP s₁ hh0 (Stand.of_body B)
    exact ⟨t, o, a1, b1, b2, ⟨b3.1, b3.2⟩⟩

set_option maxHeartbeats 4000000 in
set_option maxRecDepth 100000 in
/-- at(i): the letter, or the throw -/
theorem x_at (l : Launch) (hst : l.stackTraces = false) (dC : Nat → ClassId) (dI : Nat → Nat → Nat) (cI cS : ClassId) (sz : Nat) (oX : Nat) (nT : Nat) (nL : Nat) (nM : Nat) (oC : Nat) (oP : Nat) (oH : Nat) (oK : Nat) (oG : Nat) (oR : Nat) (oQ : Nat) (oW : Nat) (aL : Nat) (fa : Int32) (lL : Int32) (fL : Nat → Int32) (i : Int32) (sa : Nat) (g_lL : 0 ≤ lL.toInt ∧ lL.toInt ≤ 300) : vx_Met l yX11_at wsX11_at2 ({ frames := 6, cells := 1, slots := 6, locals := 100 } : Room) (va_Pc [.ref oX, .int i] (fun U => U.heap.size = sz ∧ va_P (dC, dI) vwCl [(oX, .inr (11, [.ref nT, .ref nL, .ref nM, .ref oC, .ref oP, .ref oH, .ref oK, .ref oG, .ref oR, .ref oQ, .ref oW, .int fa])), (nL, .inr (5, [.ref aL, .int lL])), (aL, .inl (cI, 300, .inl fL))] U.heap ∧ va_K (dC, dI) vwCl [(cI, .int), (cS, .short)] U ∧ va_D (fun _ => True) [(oX, .inr (11, [.ref nT, .ref nL, .ref nM, .ref oC, .ref oP, .ref oH, .ref oK, .ref oG, .ref oR, .ref oQ, .ref oW, .int fa])), (nL, .inr (5, [.ref aL, .int lL])), (aL, .inl (cI, 300, .inl fL))] ∧ p_Dw U ∧ vk_R RX11 162 "no such letter" sa U ∧ vx_Zq Bundle.tN "UNASSIGNED_STACK" Bundle.steD (va_A [(oX, .inr (11, [.ref nT, .ref nL, .ref nM, .ref oC, .ref oP, .ref oH, .ref oK, .ref oG, .ref oR, .ref oQ, .ref oW, .int fa])), (nL, .inr (5, [.ref aL, .int lL])), (aL, .inl (cI, 300, .inl fL))] sz) U U.heap ∧ vx_Zq Bundle.tN "SUPPRESSED_SENTINEL" Bundle.listD (va_A [(oX, .inr (11, [.ref nT, .ref nL, .ref nM, .ref oC, .ref oP, .ref oH, .ref oK, .ref oG, .ref oR, .ref oQ, .ref oW, .int fa])), (nL, .inr (5, [.ref aL, .int lL])), (aL, .inl (cI, 300, .inl fL))] sz) U U.heap)) (va_Qi (fun (r : Int32) (u : Int32) => r = u) (fun (r : Int32) t => va_P (dC, dI) vwCl [(oX, .inr (11, [.ref nT, .ref nL, .ref nM, .ref oC, .ref oP, .ref oH, .ref oK, .ref oG, .ref oR, .ref oQ, .ref oW, .int fa])), (nL, .inr (5, [.ref aL, .int lL])), (aL, .inl (cI, 300, .inl fL))] t.heap ∧ va_D (va_A [(oX, .inr (11, [.ref nT, .ref nL, .ref nM, .ref oC, .ref oP, .ref oH, .ref oK, .ref oG, .ref oR, .ref oQ, .ref oW, .int fa])), (nL, .inr (5, [.ref aL, .int lL])), (aL, .inl (cI, 300, .inl fL))] sz) [(oX, .inr (11, [.ref nT, .ref nL, .ref nM, .ref oC, .ref oP, .ref oH, .ref oK, .ref oG, .ref oR, .ref oQ, .ref oW, .int fa])), (nL, .inr (5, [.ref aL, .int lL])), (aL, .inl (cI, 300, .inl fL))] ∧ F_get lL i r fL ∧ 0 ≤ i.toInt ∧ i.toInt < lL.toInt) (va_A [(oX, .inr (11, [.ref nT, .ref nL, .ref nM, .ref oC, .ref oP, .ref oH, .ref oK, .ref oG, .ref oR, .ref oQ, .ref oW, .int fa])), (nL, .inr (5, [.ref aL, .int lL])), (aL, .inl (cI, 300, .inl fL))] sz)) (vx_X (fun (_ : Unit) => True) (fun E _ t => E = "java/util/NoSuchElementException" ∧ va_P (dC, dI) vwCl [(oX, .inr (11, [.ref nT, .ref nL, .ref nM, .ref oC, .ref oP, .ref oH, .ref oK, .ref oG, .ref oR, .ref oQ, .ref oW, .int fa])), (nL, .inr (5, [.ref aL, .int lL])), (aL, .inl (cI, 300, .inl fL))] t.heap ∧ va_D (va_A [(oX, .inr (11, [.ref nT, .ref nL, .ref nM, .ref oC, .ref oP, .ref oH, .ref oK, .ref oG, .ref oR, .ref oQ, .ref oW, .int fa])), (nL, .inr (5, [.ref aL, .int lL])), (aL, .inl (cI, 300, .inl fL))] sz) [(oX, .inr (11, [.ref nT, .ref nL, .ref nM, .ref oC, .ref oP, .ref oH, .ref oK, .ref oG, .ref oR, .ref oQ, .ref oW, .int fa])), (nL, .inr (5, [.ref aL, .int lL])), (aL, .inl (cI, 300, .inl fL))] ∧ (i.toInt < 0 ∨ lL.toInt ≤ i.toInt)) (va_A [(oX, .inr (11, [.ref nT, .ref nL, .ref nM, .ref oC, .ref oP, .ref oH, .ref oK, .ref oG, .ref oR, .ref oQ, .ref oW, .int fa])), (nL, .inr (5, [.ref aL, .int lL])), (aL, .inl (cI, 300, .inl fL))] sz)) 1 6 (va_A [(oX, .inr (11, [.ref nT, .ref nL, .ref nM, .ref oC, .ref oP, .ref oH, .ref oK, .ref oG, .ref oR, .ref oQ, .ref oW, .int fa])), (nL, .inr (5, [.ref aL, .int lL])), (aL, .inl (cI, 300, .inl fL))] sz) := by
  refine vx_ofW (cc := cX11_at) (maxL := 2) (ret := (some .int)) (by decide) rfl ?_
  intro p e s m args below meth c s₁ B hml htab hv
  obtain ⟨rfl, hsz, hP, hK, hD0, hcast, hstr, hU, hN⟩ := hv
  have hx := B.exec
  have hb := B.bytes
  have hr := B.returns
  have hts := atoms_spec (ws := wsX11_at2) B.pre
  have hown : s.vm.findClass RX11 = some m.cls := findClass_of_methodNamed B.named
  have hlocks := B.notSynchronized
  have in_X11 : ∀ w ∈ wsX110, w ∈ wsX11_at2 := fun _ h => List.mem_cons_of_mem _ (List.mem_append_left _ (List.mem_append_left _ (List.mem_append_right _ (h))))
  subst hsz
  have hD := hD0.self (sz := s.heap.size)
  generalize hAe : va_A [(oX, .inr (11, [.ref nT, .ref nL, .ref nM, .ref oC, .ref oP, .ref oH, .ref oK, .ref oG, .ref oR, .ref oQ, .ref oW, .int fa])), (nL, .inr (5, [.ref aL, .int lL])), (aL, .inl (cI, 300, .inl fL))] s.heap.size = A at hD hU hN ⊢
  have hA : ∀ q : Nat, s.heap.size ≤ q → A q := fun q h => by rw [← hAe]; exact Or.inr h
  have hS : va_S A s.heap s.heap [] := va_S.rf
  have hP : va_P (dC, dI) vwCl [(oX, .inr (11, [.ref nT, .ref nL, .ref nM, .ref oC, .ref oP, .ref oH, .ref oK, .ref oG, .ref oR, .ref oQ, .ref oW, .int fa])), (nL, .inr (5, [.ref aL, .int lL])), (aL, .inl (cI, 300, .inl fL))] s.heap := hP
  have hl := lv_entry ([.ref oX, .int i]) (n := 2) (Nat.le_of_ble_eq_true rfl)
  rw [lg_entry_eq]
  generalize (lg_sl ([.ref oX, .int i]) ++ List.replicate (2 - (lg_sl ([.ref oX, .int i])).length) Slot.unset).toArray = ls at hl ⊢
  have hl : lv_has ls 2 [(0, .ref oX), (1, .int i)] := hl
  refine lv_iload_n hx hb dX11_at_0 rfl (lv_at hl 1 rfl) ?_
  refine lv_if_lt (tgt := 15) hx hb dX11_at_1 (by decide) (fun c_1 => ?_) (fun c_1 => ?_)
  · have tc_1 : i.toInt < 0 := v_lt c_1
    have hP9 := hP.sub (ws' := [(oX, .inr (11, [.ref nT, .ref nL, .ref nM, .ref oC, .ref oP, .ref oH, .ref oK, .ref oG, .ref oR, .ref oQ, .ref oW, .int fa])), (nL, .inr (5, [.ref aL, .int lL])), (aL, .inl (cI, 300, .inl fL))]) [0, 1, 2] rfl
    have hD9 := hD.sub (ws' := [(oX, .inr (11, [.ref nT, .ref nL, .ref nM, .ref oC, .ref oP, .ref oH, .ref oK, .ref oG, .ref oR, .ref oQ, .ref oW, .int fa])), (nL, .inr (5, [.ref aL, .int lL])), (aL, .inl (cI, 300, .inl fL))]) [0, 1, 2] (by decide) rfl
    refine p_throwX (ix := 13) (rx := prog_22_method_4_code) (cls := "java/util/NoSuchElementException") (text := "no such letter") (names := ["java/lang/RuntimeException", "java/lang/Exception"]) (ik := 160) (is := 162) (ic := 164) (sa := sa) (A := A) hx hb hst p_x0 p_x1 p_x2 p_x5 hown (by decide) (by decide) (hts (.classLink RX11 160 "java/util/NoSuchElementException") (List.mem_of_getElem? (i := 1) rfl)) (hts (.initialized "java/util/NoSuchElementException") (List.mem_of_getElem? (i := 2) rfl)) hstr (vx_hat (B := [.castable "java/util/NoSuchElementException" "java/util/NoSuchElementException", .declares ⟨"java/lang/RuntimeException", "<init>", "(Ljava/lang/String;)V"⟩, .declares ⟨"java/lang/Exception", "<init>", "(Ljava/lang/String;)V"⟩, .declares ⟨"java/lang/Throwable", "<init>", "(Ljava/lang/String;)V"⟩]) (fun w h => hts w (List.mem_cons_of_mem _ (List.mem_append_right _ h))) (by decide +kernel) (vx_c (va_Nw.use rfl hcast.1) (vx_c (va_Nw.use rfl hcast.2.1) (vx_c (va_Nw.use rfl hcast.2.2.1) (vx_c (va_Nw.use rfl hcast.2.2.2) vx_n))))) (by decide +kernel) hU hN hS (hl.1.trans hml.symm) dX11_at_15 dX11_at_18 dX11_at_19 dX11_at_21 dX11_at_24 (fun x h9 => (htab x h9).elim) (by decide) (Nat.le_of_ble_eq_true rfl) (Nat.le_of_ble_eq_true rfl) (Nat.le_of_ble_eq_true rfl) hlocks (fun t ha hz hk => ⟨(), trivial, ⟨rfl, hP9.kept (fun k q hq => hk q.1 (vx_lt hP9 hq)), hD9, by omega⟩, Nat.le_trans hS.1 hz, fun q h1 h2 => (hk q (Nat.lt_of_lt_of_le h1 hS.1)).trans (hS.2.1 q h1 h2)⟩) hS.2.2 (by decide) (by decide)
  · have tc_1 : 0 ≤ i.toInt := v_nlt c_1
    refine lv_iload_n hx hb dX11_at_4 rfl (lv_at hl 1 rfl) ?_
    refine lv_aload_n hx hb dX11_at_5 rfl (lv_at hl 0 rfl) ?_
    refine va_get (D := (dC, dI)) (ci := 11) (v := .ref nL) (C := RX11) (T := TX11) (N := 12) hx hb hts in_X11 hown hK hP 0 rfl rfl 1 (by decide) (hts (.fieldLink RX11 34 "TextMender" "letters" "LTextMender$Numbers;") (List.mem_of_getElem? (i := 3) rfl)) (fun _ h9 => h9) rfl dX11_at_6 ?_
    have hPc := hP.sub (ws' := [(nL, .inr (5, [.ref aL, .int lL]))]) [1] rfl
    have hDc := hD.sub (ws' := [(nL, .inr (5, [.ref aL, .int lL]))]) [1] (by decide) rfl
    have hFc := va_free (wc := [(nL, .inr (5, [.ref aL, .int lL]))]) hD hS hA [1] rfl
    refine va_calli (va_runV (As := []) (rest := [.int i]) ⟨hx, hb, hml, hown, hts⟩ (m_X5_length l dC dI cI cS s.heap.size nL aL lL ) (cwV 0 hts gX11_at_X5_length rfl rfl rfl (by decide +kernel) ⟨Nat.le_of_ble_eq_true rfl, Nat.le_of_ble_eq_true rfl⟩) ⟨fun a U g mk q => by obtain ⟨q0, q1, qP, qK, qD⟩ := q; exact ⟨q0, q1, qP, va_K.moved (u := U) (U := U.calling g mk a) (Vm.Alike.refl U.vm) qK, qD⟩, va_recv hK hPc (ci := 5) (q0 := 0) rfl rfl, fun U hU hW => ⟨rfl, by rw [hU], by rw [hU]; exact hPc, va_K.moved hW.alike hK, hDc.weaken (fun _ _ _ _ => trivial)⟩⟩ rfl rfl hl.1 rfl (lv_room (Nat.le_of_ble_eq_true rfl)) dX11_at_9 ⟨Nat.le_of_ble_eq_true rfl, Nat.le_of_ble_eq_true rfl⟩) hS (fun q _ h => hFc q h) hFc (fun r_2 u t H1 locs ht hvm hw hB hz1 hk1 hS => ?_)
    subst hw
    obtain ⟨hP1, hD1, hf2_0⟩ := hB
    rw [ht] at hP1
    obtain ⟨hP, hD⟩ := va_join (wr := [(oX, .inr (11, [.ref nT, .ref nL, .ref nM, .ref oC, .ref oP, .ref oH, .ref oK, .ref oG, .ref oR, .ref oQ, .ref oW, .int fa])), (aL, .inl (cI, 300, .inl fL))]) (w1 := [(nL, .inr (5, [.ref aL, .int lL]))]) hP hD [1] [0, 2] rfl rfl (by decide) (by decide) hk1 hFc hP1 hD1
    generalize H1 = H at hP hS ⊢
    have hP : va_P (dC, dI) vwCl [(oX, .inr (11, [.ref nT, .ref nL, .ref nM, .ref oC, .ref oP, .ref oH, .ref oK, .ref oG, .ref oR, .ref oQ, .ref oW, .int fa])), (aL, .inl (cI, 300, .inl fL)), (nL, .inr (5, [.ref aL, .int lL]))] H := hP
    have hD : va_D A [(oX, .inr (11, [.ref nT, .ref nL, .ref nM, .ref oC, .ref oP, .ref oH, .ref oK, .ref oG, .ref oR, .ref oQ, .ref oW, .int fa])), (aL, .inl (cI, 300, .inl fL)), (nL, .inr (5, [.ref aL, .int lL]))] := hD
    rw [hf2_0]
    refine lv_icmp_lt (tgt := 25) hx hb dX11_at_12 (by decide) (fun c_3 => ?_) (fun c_3 => ?_)
    · have tc_3 : i.toInt < lL.toInt := v_lt c_3
      have rw3_0 := v_rng i
      refine lv_aload_n hx hb dX11_at_25 rfl (lv_at hl 0 rfl) ?_
      refine va_get (D := (dC, dI)) (ci := 11) (v := .ref nL) (C := RX11) (T := TX11) (N := 12) hx hb hts in_X11 hown hK hP 0 rfl rfl 1 (by decide) (hts (.fieldLink RX11 34 "TextMender" "letters" "LTextMender$Numbers;") (List.mem_of_getElem? (i := 3) rfl)) (fun _ h9 => h9) rfl dX11_at_26 ?_
      refine lv_iload_n hx hb dX11_at_29 rfl (lv_at hl 1 rfl) ?_
      have hPc := hP.sub (ws' := [(nL, .inr (5, [.ref aL, .int lL])), (aL, .inl (cI, 300, .inl fL))]) [2, 1] rfl
      have hDc := hD.sub (ws' := [(nL, .inr (5, [.ref aL, .int lL])), (aL, .inl (cI, 300, .inl fL))]) [2, 1] (by decide) rfl
      have hFc := va_free (wc := [(nL, .inr (5, [.ref aL, .int lL])), (aL, .inl (cI, 300, .inl fL))]) hD hS hA [2, 1] rfl
      refine va_calli (va_runV (As := [.int i]) (rest := []) ⟨hx, hb, hml, hown, hts⟩ (m_X5_get l dC dI cI cS H.size nL aL 300 lL fL i (by omega) (by omega)) (cwV 1 hts gX11_at_X5_get rfl rfl rfl (by decide +kernel) ⟨Nat.le_of_ble_eq_true rfl, Nat.le_of_ble_eq_true rfl⟩) ⟨fun a U g mk q => by obtain ⟨q0, q1, qP, qK, qD⟩ := q; exact ⟨q0, q1, qP, va_K.moved (u := U) (U := U.calling g mk a) (Vm.Alike.refl U.vm) qK, qD⟩, va_recv hK hPc (ci := 5) (q0 := 0) rfl rfl, fun U hU hW => ⟨rfl, by rw [hU], by rw [hU]; exact hPc, va_K.moved hW.alike hK, hDc.weaken (fun _ _ _ _ => trivial)⟩⟩ rfl rfl hl.1 rfl (lv_room (Nat.le_of_ble_eq_true rfl)) dX11_at_30 ⟨Nat.le_of_ble_eq_true rfl, Nat.le_of_ble_eq_true rfl⟩) hS (fun q _ h => hFc q h) hFc (fun r_4 u t H1 locs ht hvm hw hB hz1 hk1 hS => ?_)
      subst hw
      obtain ⟨hP1, hD1, hf4_0⟩ := hB
      rw [ht] at hP1
      obtain ⟨hP, hD⟩ := va_join (wr := [(oX, .inr (11, [.ref nT, .ref nL, .ref nM, .ref oC, .ref oP, .ref oH, .ref oK, .ref oG, .ref oR, .ref oQ, .ref oW, .int fa]))]) (w1 := [(nL, .inr (5, [.ref aL, .int lL])), (aL, .inl (cI, 300, .inl fL))]) hP hD [2, 1] [0] rfl rfl (by decide) (by decide) hk1 hFc hP1 hD1
      generalize H1 = H at hP hS ⊢
      have hP : va_P (dC, dI) vwCl [(oX, .inr (11, [.ref nT, .ref nL, .ref nM, .ref oC, .ref oP, .ref oH, .ref oK, .ref oG, .ref oR, .ref oQ, .ref oW, .int fa])), (nL, .inr (5, [.ref aL, .int lL])), (aL, .inl (cI, 300, .inl fL))] H := hP
      have hD : va_D A [(oX, .inr (11, [.ref nT, .ref nL, .ref nM, .ref oC, .ref oP, .ref oH, .ref oK, .ref oG, .ref oR, .ref oQ, .ref oW, .int fa])), (nL, .inr (5, [.ref aL, .int lL])), (aL, .inl (cI, 300, .inl fL))] := hD
      have hP9 := hP.sub (ws' := [(oX, .inr (11, [.ref nT, .ref nL, .ref nM, .ref oC, .ref oP, .ref oH, .ref oK, .ref oG, .ref oR, .ref oQ, .ref oW, .int fa])), (nL, .inr (5, [.ref aL, .int lL])), (aL, .inl (cI, 300, .inl fL))]) [0, 1, 2] rfl
      have hD9 := hD.sub (ws' := [(oX, .inr (11, [.ref nT, .ref nL, .ref nM, .ref oC, .ref oP, .ref oH, .ref oK, .ref oG, .ref oR, .ref oQ, .ref oW, .int fa])), (nL, .inr (5, [.ref aL, .int lL])), (aL, .inl (cI, 300, .inl fL))]) [0, 1, 2] (by decide) rfl
      refine vx_ret ?_
      refine W.widen (k := 1) (n := 6) (by omega) (by omega) ?_
      exact W.iret (v := r_4) hx hb hr (fun t ht hW => ⟨⟨r_4, r_4, rfl, rfl, ⟨by rw [ht]; exact hP9, hD9, hf4_0, by omega, by omega⟩⟩, hS.F ht⟩) hS.2.2 dX11_at_33
    · have tc_3 : lL.toInt ≤ i.toInt := v_nlt c_3
      have rw3_0 := v_rng i
      have hP9 := hP.sub (ws' := [(oX, .inr (11, [.ref nT, .ref nL, .ref nM, .ref oC, .ref oP, .ref oH, .ref oK, .ref oG, .ref oR, .ref oQ, .ref oW, .int fa])), (nL, .inr (5, [.ref aL, .int lL])), (aL, .inl (cI, 300, .inl fL))]) [0, 2, 1] rfl
      have hD9 := hD.sub (ws' := [(oX, .inr (11, [.ref nT, .ref nL, .ref nM, .ref oC, .ref oP, .ref oH, .ref oK, .ref oG, .ref oR, .ref oQ, .ref oW, .int fa])), (nL, .inr (5, [.ref aL, .int lL])), (aL, .inl (cI, 300, .inl fL))]) [0, 2, 1] (by decide) rfl
      refine p_throwX (ix := 13) (rx := prog_22_method_4_code) (cls := "java/util/NoSuchElementException") (text := "no such letter") (names := ["java/lang/RuntimeException", "java/lang/Exception"]) (ik := 160) (is := 162) (ic := 164) (sa := sa) (A := A) hx hb hst p_x0 p_x1 p_x2 p_x5 hown (by decide) (by decide) (hts (.classLink RX11 160 "java/util/NoSuchElementException") (List.mem_of_getElem? (i := 1) rfl)) (hts (.initialized "java/util/NoSuchElementException") (List.mem_of_getElem? (i := 2) rfl)) hstr (vx_hat (B := [.castable "java/util/NoSuchElementException" "java/util/NoSuchElementException", .declares ⟨"java/lang/RuntimeException", "<init>", "(Ljava/lang/String;)V"⟩, .declares ⟨"java/lang/Exception", "<init>", "(Ljava/lang/String;)V"⟩, .declares ⟨"java/lang/Throwable", "<init>", "(Ljava/lang/String;)V"⟩]) (fun w h => hts w (List.mem_cons_of_mem _ (List.mem_append_right _ h))) (by decide +kernel) (vx_c (va_Nw.use rfl hcast.1) (vx_c (va_Nw.use rfl hcast.2.1) (vx_c (va_Nw.use rfl hcast.2.2.1) (vx_c (va_Nw.use rfl hcast.2.2.2) vx_n))))) (by decide +kernel) hU hN hS (hl.1.trans hml.symm) dX11_at_15 dX11_at_18 dX11_at_19 dX11_at_21 dX11_at_24 (fun x h9 => (htab x h9).elim) (by decide) (Nat.le_of_ble_eq_true rfl) (Nat.le_of_ble_eq_true rfl) (Nat.le_of_ble_eq_true rfl) hlocks (fun t ha hz hk => ⟨(), trivial, ⟨rfl, hP9.kept (fun k q hq => hk q.1 (vx_lt hP9 hq)), hD9, by omega⟩, Nat.le_trans hS.1 hz, fun q h1 h2 => (hk q (Nat.lt_of_lt_of_le h1 hS.1)).trans (hS.2.1 q h1 h2)⟩) hS.2.2 (by decide) (by decide)

set_option maxHeartbeats 4000000 in
set_option maxRecDepth 100000 in
/-- the law's own at: the letter into its row of one long, or 1 where at throws -/
theorem m_L_at (l : Launch) (hst : l.stackTraces = false) (dC : Nat → ClassId) (dI : Nat → Nat → Nat) (cI cS cJ : ClassId) (sz : Nat) (oX : Nat) (nT : Nat) (nL : Nat) (nM : Nat) (oC : Nat) (oP : Nat) (oH : Nat) (oK : Nat) (oG : Nat) (oR : Nat) (oQ : Nat) (oW : Nat) (aL : Nat) (fa : Int32) (lL : Int32) (fL : Nat → Int32) (oJ : Nat) (fJ : Nat → Int64) (i : Int32) (sa : Nat) (g_lL : 0 ≤ lL.toInt ∧ lL.toInt ≤ 300) : Met l yL_at wsL_at2 ({ frames := 7, cells := 1, slots := 6, locals := 130 } : Room) (va_Pc [.ref oX, .int i, .ref oJ] (fun U => U.heap.size = sz ∧ va_P (dC, dI) vwCl [(oX, .inr (11, [.ref nT, .ref nL, .ref nM, .ref oC, .ref oP, .ref oH, .ref oK, .ref oG, .ref oR, .ref oQ, .ref oW, .int fa])), (nL, .inr (5, [.ref aL, .int lL])), (aL, .inl (cI, 300, .inl fL)), (oJ, .inl (cJ, 1, .inr (.inl fJ)))] U.heap ∧ va_K (dC, dI) vwCl [(cI, .int), (cS, .short), (cJ, .long)] U ∧ va_D (fun _ => True) [(oX, .inr (11, [.ref nT, .ref nL, .ref nM, .ref oC, .ref oP, .ref oH, .ref oK, .ref oG, .ref oR, .ref oQ, .ref oW, .int fa])), (nL, .inr (5, [.ref aL, .int lL])), (aL, .inl (cI, 300, .inl fL)), (oJ, .inl (cJ, 1, .inr (.inl fJ)))] ∧ p_Dw U ∧ vk_R RX11 162 "no such letter" sa U ∧ vx_Zq Bundle.tN "UNASSIGNED_STACK" Bundle.steD (va_A [(oX, .inr (11, [.ref nT, .ref nL, .ref nM, .ref oC, .ref oP, .ref oH, .ref oK, .ref oG, .ref oR, .ref oQ, .ref oW, .int fa])), (nL, .inr (5, [.ref aL, .int lL])), (aL, .inl (cI, 300, .inl fL)), (oJ, .inl (cJ, 1, .inr (.inl fJ)))] sz) U U.heap ∧ vx_Zq Bundle.tN "SUPPRESSED_SENTINEL" Bundle.listD (va_A [(oX, .inr (11, [.ref nT, .ref nL, .ref nM, .ref oC, .ref oP, .ref oH, .ref oK, .ref oG, .ref oR, .ref oQ, .ref oW, .int fa])), (nL, .inr (5, [.ref aL, .int lL])), (aL, .inl (cI, 300, .inl fL)), (oJ, .inl (cJ, 1, .inr (.inl fJ)))] sz) U U.heap)) (va_Qi (fun (r : Int32) (u : Int32) => r = u) (fun (r : Int32) t => ∃ fJ' : Nat → Int64, va_P (dC, dI) vwCl [(oX, .inr (11, [.ref nT, .ref nL, .ref nM, .ref oC, .ref oP, .ref oH, .ref oK, .ref oG, .ref oR, .ref oQ, .ref oW, .int fa])), (nL, .inr (5, [.ref aL, .int lL])), (aL, .inl (cI, 300, .inl fL)), (oJ, .inl (cJ, 1, .inr (.inl fJ')))] t.heap ∧ va_D (va_A [(oX, .inr (11, [.ref nT, .ref nL, .ref nM, .ref oC, .ref oP, .ref oH, .ref oK, .ref oG, .ref oR, .ref oQ, .ref oW, .int fa])), (nL, .inr (5, [.ref aL, .int lL])), (aL, .inl (cI, 300, .inl fL)), (oJ, .inl (cJ, 1, .inr (.inl fJ)))] sz) [(oX, .inr (11, [.ref nT, .ref nL, .ref nM, .ref oC, .ref oP, .ref oH, .ref oK, .ref oG, .ref oR, .ref oQ, .ref oW, .int fa])), (nL, .inr (5, [.ref aL, .int lL])), (aL, .inl (cI, 300, .inl fL)), (oJ, .inl (cJ, 1, .inr (.inl fJ')))]) (va_A [(oX, .inr (11, [.ref nT, .ref nL, .ref nM, .ref oC, .ref oP, .ref oH, .ref oK, .ref oG, .ref oR, .ref oQ, .ref oW, .int fa])), (nL, .inr (5, [.ref aL, .int lL])), (aL, .inl (cI, 300, .inl fL)), (oJ, .inl (cJ, 1, .inr (.inl fJ)))] sz)) 1 6 (va_A [(oX, .inr (11, [.ref nT, .ref nL, .ref nM, .ref oC, .ref oP, .ref oH, .ref oK, .ref oG, .ref oR, .ref oQ, .ref oW, .int fa])), (nL, .inr (5, [.ref aL, .int lL])), (aL, .inl (cI, 300, .inl fL)), (oJ, .inl (cJ, 1, .inr (.inl fJ)))] sz) := by
  refine p_ofWH (cc := cL_at) (maxL := 4) (ret := (some .int)) (hh := [(0, 9, 12, 13)]) (by decide) rfl ?_
  intro p e s m args below meth c s₁ B hml hv
  obtain ⟨rfl, hsz, hP, hK3, hD0, hcast, hstr, hU, hN⟩ := hv
  have hK : va_K (dC, dI) vwCl [(cI, .int), (cS, .short)] s := hK3.sub [0, 1] rfl
  have hx := B.exec
  have hb := B.bytes
  have hr := B.returns
  have hts := atoms_spec (ws := wsL_at2) B.pre
  have hown : s.vm.findClass RL = some m.cls := findClass_of_methodNamed B.named
  have hlocks := B.notSynchronized
  have htab : c.exceptionTable.toList = tableOf [(0, 9, 12, 13)] := vx_table (x := yL_at) B (hts _ List.mem_cons_self)
  subst hsz
  have hD := hD0.self (sz := s.heap.size)
  generalize hAe : va_A [(oX, .inr (11, [.ref nT, .ref nL, .ref nM, .ref oC, .ref oP, .ref oH, .ref oK, .ref oG, .ref oR, .ref oQ, .ref oW, .int fa])), (nL, .inr (5, [.ref aL, .int lL])), (aL, .inl (cI, 300, .inl fL)), (oJ, .inl (cJ, 1, .inr (.inl fJ)))] s.heap.size = A at hD hU hN ⊢
  have hA : ∀ q : Nat, s.heap.size ≤ q → A q := fun q h => by rw [← hAe]; exact Or.inr h
  have hS : va_S A s.heap s.heap [] := va_S.rf
  have hP : va_P (dC, dI) vwCl [(oX, .inr (11, [.ref nT, .ref nL, .ref nM, .ref oC, .ref oP, .ref oH, .ref oK, .ref oG, .ref oR, .ref oQ, .ref oW, .int fa])), (nL, .inr (5, [.ref aL, .int lL])), (aL, .inl (cI, 300, .inl fL)), (oJ, .inl (cJ, 1, .inr (.inl fJ)))] s.heap := hP
  have hl := lv_entry ([.ref oX, .int i, .ref oJ]) (n := 4) (Nat.le_of_ble_eq_true rfl)
  rw [lg_entry_eq]
  generalize (lg_sl ([.ref oX, .int i, .ref oJ]) ++ List.replicate (4 - (lg_sl ([.ref oX, .int i, .ref oJ])).length) Slot.unset).toArray = ls at hl ⊢
  have hl : lv_has ls 4 [(0, .ref oX), (1, .int i), (2, .ref oJ)] := hl
  refine lv_aload_n hx hb dL_at_0 rfl (lv_at hl 2 rfl) ?_
  refine lv_iconst (v := 0) hx hb dL_at_1 (by decide) ?_
  refine lv_aload_n hx hb dL_at_2 rfl (lv_at hl 0 rfl) ?_
  refine lv_iload_n hx hb dL_at_3 rfl (lv_at hl 1 rfl) ?_
  have hPc := hP.sub (ws' := [(oX, .inr (11, [.ref nT, .ref nL, .ref nM, .ref oC, .ref oP, .ref oH, .ref oK, .ref oG, .ref oR, .ref oQ, .ref oW, .int fa])), (nL, .inr (5, [.ref aL, .int lL])), (aL, .inl (cI, 300, .inl fL))]) [0, 1, 2] rfl
  have hDc := hD.sub (ws' := [(oX, .inr (11, [.ref nT, .ref nL, .ref nM, .ref oC, .ref oP, .ref oH, .ref oK, .ref oG, .ref oR, .ref oQ, .ref oW, .int fa])), (nL, .inr (5, [.ref aL, .int lL])), (aL, .inl (cI, 300, .inl fL))]) [0, 1, 2] (by decide) rfl
  have hFc := va_free (wc := [(oX, .inr (11, [.ref nT, .ref nL, .ref nM, .ref oC, .ref oP, .ref oH, .ref oK, .ref oG, .ref oR, .ref oQ, .ref oW, .int fa])), (nL, .inr (5, [.ref aL, .int lL])), (aL, .inl (cI, 300, .inl fL))]) hD hS hA [0, 1, 2] rfl
  refine vx_calli (vx_runV (As := [.int i]) (rest := [.int 0, .ref oJ]) ⟨hx, hb, hml, hown, hts⟩ (x_at l hst dC dI cI cS s.heap.size oX nT nL nM oC oP oH oK oG oR oQ oW aL fa lL fL i sa g_lL) (cwV 1 hts gL_at_X11_at rfl rfl rfl (by decide +kernel) ⟨Nat.le_of_ble_eq_true rfl, Nat.le_of_ble_eq_true rfl⟩) ⟨fun a U g mk q => by obtain ⟨q0, q1, qP, qK, qD, qc, qs, qU, qN⟩ := q; exact ⟨q0, q1, qP, va_K.moved (u := U) (U := U.calling g mk a) (Vm.Alike.refl U.vm) qK, qD, p_Dw.same rfl qc, vk_R.same rfl qs, vx_Zq.moved (Vm.Alike.refl U.vm) qU, vx_Zq.moved (Vm.Alike.refl U.vm) qN⟩, va_recv hK hPc (ci := 11) (q0 := 0) rfl rfl, fun U hU9 hW => ⟨rfl, by rw [hU9], by rw [hU9]; exact hPc, va_K.moved hW.alike hK, hDc.weaken (fun _ _ _ _ => trivial), p_Dw.warm hW hcast, vk_R.warm hW hstr, by rw [hU9]; exact vx_Zq.moved hW.alike (hU.narrow hFc), by rw [hU9]; exact vx_Zq.moved hW.alike (hN.narrow hFc)⟩⟩ rfl rfl hl.1 rfl (lv_room (Nat.le_of_ble_eq_true rfl)) dL_at_4 ⟨Nat.le_of_ble_eq_true rfl, Nat.le_of_ble_eq_true rfl⟩) hS (fun q _ h => hFc q h) hFc (fun q _ h => hFc q h) (fun E ce q9 u t H1 locs ht hvm hw hB hz1 hk1 hS hcell hcv hcl => ?_) (fun r_9 u t H1 locs ht hvm hw hB hz1 hk1 hS => ?_)
  · obtain ⟨hE, hP1, hD1, -⟩ := hB
    rw [ht] at hP1
    obtain ⟨hP, hD⟩ := va_join (wr := [(oJ, .inl (cJ, 1, .inr (.inl fJ)))]) (w1 := [(oX, .inr (11, [.ref nT, .ref nL, .ref nM, .ref oC, .ref oP, .ref oH, .ref oK, .ref oG, .ref oR, .ref oQ, .ref oW, .int fa])), (nL, .inr (5, [.ref aL, .int lL])), (aL, .inl (cI, 300, .inl fL))]) hP hD [0, 1, 2] [3] rfl rfl (by decide) (by decide) hk1 hFc hP1 hD1
    subst hE
    refine vx_catch (own := RL) (name := "java/util/NoSuchElementException") hown [] ⟨0, 9, 12, 13⟩ [] htab (fun z hz => nomatch hz) (by decide) (by decide) (hts (.classLink RL 13 "java/util/NoSuchElementException") (List.mem_of_getElem? (i := 1) rfl)) (va_Nw.use rfl hcast.1) hcell hcv hcl ?_
    refine lv_astore_n (lv' := [(3, .ref q9), (0, .ref oX), (1, .int i), (2, .ref oJ)]) hx hb dL_at_12 rfl hl (by decide) rfl (fun ls hl => ?_)
    refine lv_iconst (v := 1) hx hb dL_at_13 (by decide) ?_
    refine W.widen (k := 1) (n := 6) (by omega) (by omega) ?_
    have hP9 := hP.sub (ws' := [(oX, .inr (11, [.ref nT, .ref nL, .ref nM, .ref oC, .ref oP, .ref oH, .ref oK, .ref oG, .ref oR, .ref oQ, .ref oW, .int fa])), (nL, .inr (5, [.ref aL, .int lL])), (aL, .inl (cI, 300, .inl fL)), (oJ, .inl (cJ, 1, .inr (.inl fJ)))]) [1, 2, 3, 0] rfl
    have hD9 := hD.sub (ws' := [(oX, .inr (11, [.ref nT, .ref nL, .ref nM, .ref oC, .ref oP, .ref oH, .ref oK, .ref oG, .ref oR, .ref oQ, .ref oW, .int fa])), (nL, .inr (5, [.ref aL, .int lL])), (aL, .inl (cI, 300, .inl fL)), (oJ, .inl (cJ, 1, .inr (.inl fJ)))]) [1, 2, 3, 0] (by decide) rfl
    exact W.iret (v := 1) hx hb hr (fun t9 ht9 hW => ⟨⟨1, 1, rfl, rfl, fJ, by rw [ht9]; exact hP9, hD9⟩, hS.F ht9⟩) hS.2.2 dL_at_14
  · obtain ⟨hP1, hD1, -⟩ := hB
    rw [ht] at hP1
    obtain ⟨hP, hD⟩ := va_join (wr := [(oJ, .inl (cJ, 1, .inr (.inl fJ)))]) (w1 := [(oX, .inr (11, [.ref nT, .ref nL, .ref nM, .ref oC, .ref oP, .ref oH, .ref oK, .ref oG, .ref oR, .ref oQ, .ref oW, .int fa])), (nL, .inr (5, [.ref aL, .int lL])), (aL, .inl (cI, 300, .inl fL))]) hP hD [0, 1, 2] [3] rfl rfl (by decide) (by decide) hk1 hFc hP1 hD1
    have hP : va_P (dC, dI) vwCl [(oJ, .inl (cJ, 1, .inr (.inl fJ))), (oX, .inr (11, [.ref nT, .ref nL, .ref nM, .ref oC, .ref oP, .ref oH, .ref oK, .ref oG, .ref oR, .ref oQ, .ref oW, .int fa])), (nL, .inr (5, [.ref aL, .int lL])), (aL, .inl (cI, 300, .inl fL))] H1 := hP
    have hD : va_D A [(oJ, .inl (cJ, 1, .inr (.inl fJ))), (oX, .inr (11, [.ref nT, .ref nL, .ref nM, .ref oC, .ref oP, .ref oH, .ref oK, .ref oG, .ref oR, .ref oQ, .ref oW, .int fa])), (nL, .inr (5, [.ref aL, .int lL])), (aL, .inl (cI, 300, .inl fL))] := hD
    refine lv_i2l (v := r_9.toInt64) hx hb dL_at_7 rfl ?_
    refine va_last hx hb hK3 hP hD hS 0 2 rfl rfl (by unfold vp_in; decide) dL_at_8 (fun H locs hP hD hS => ?_)
    have hP : va_P (dC, dI) vwCl [(oJ, .inl (cJ, 1, .inr (.inl (vp_updL fJ (0 : Int32).toNatClampNeg (r_9.toInt64))))), (oX, .inr (11, [.ref nT, .ref nL, .ref nM, .ref oC, .ref oP, .ref oH, .ref oK, .ref oG, .ref oR, .ref oQ, .ref oW, .int fa])), (nL, .inr (5, [.ref aL, .int lL])), (aL, .inl (cI, 300, .inl fL))] H := hP
    have hD : va_D A [(oJ, .inl (cJ, 1, .inr (.inl (vp_updL fJ (0 : Int32).toNatClampNeg (r_9.toInt64))))), (oX, .inr (11, [.ref nT, .ref nL, .ref nM, .ref oC, .ref oP, .ref oH, .ref oK, .ref oG, .ref oR, .ref oQ, .ref oW, .int fa])), (nL, .inr (5, [.ref aL, .int lL])), (aL, .inl (cI, 300, .inl fL))] := hD
    refine lv_goto (tgt := 15) hx hb dL_at_9 (by decide) ?_
    refine lv_iconst (v := 0) hx hb dL_at_15 (by decide) ?_
    refine W.widen (k := 1) (n := 6) (by omega) (by omega) ?_
    have hP9 := hP.sub (ws' := [(oX, .inr (11, [.ref nT, .ref nL, .ref nM, .ref oC, .ref oP, .ref oH, .ref oK, .ref oG, .ref oR, .ref oQ, .ref oW, .int fa])), (nL, .inr (5, [.ref aL, .int lL])), (aL, .inl (cI, 300, .inl fL)), (oJ, .inl (cJ, 1, .inr (.inl (vp_updL fJ (0 : Int32).toNatClampNeg (r_9.toInt64)))))]) [1, 2, 3, 0] rfl
    have hD9 := hD.sub (ws' := [(oX, .inr (11, [.ref nT, .ref nL, .ref nM, .ref oC, .ref oP, .ref oH, .ref oK, .ref oG, .ref oR, .ref oQ, .ref oW, .int fa])), (nL, .inr (5, [.ref aL, .int lL])), (aL, .inl (cI, 300, .inl fL)), (oJ, .inl (cJ, 1, .inr (.inl (vp_updL fJ (0 : Int32).toNatClampNeg (r_9.toInt64)))))]) [1, 2, 3, 0] (by decide) rfl
    exact W.iret (v := 0) hx hb hr (fun t9 ht9 hW => ⟨⟨0, 0, rfl, rfl, _, by rw [ht9]; exact hP9, hD9⟩, hS.F ht9⟩) hS.2.2 dL_at_16
