/-! 36.mender -/
section
set_option maxHeartbeats 40000000 in
set_option maxRecDepth 100000 in
theorem x_end (l : Launch) (dC : Nat → ClassId) (dI : Nat → Nat → Nat) (cI cS : ClassId) (sz : Nat) (oX : Nat) (nT : Nat) (nL : Nat) (nM : Nat) (oC : Nat) (oP : Nat) (oH : Nat) (oK : Nat) (oG : Nat) (oR : Nat) (oQ : Nat) (oW : Nat) (aT : Nat) (fa : Int32) (lT : Int32) (n : Int32) (g_lT : 0 ≤ lT.toInt ∧ lT.toInt ≤ 900) : kMi l yX11_end wsX11_end ({ frames := 1, cells := 0, slots := 0, locals := 21 } : Room) [.ref oX, .int n] sz (dC, dI) vwCl [(cI, .int), (cS, .short)] [(oX, .inr (11, [.ref nT, .ref nL, .ref nM, .ref oC, .ref oP, .ref oH, .ref oK, .ref oG, .ref oR, .ref oQ, .ref oW, .int fa])), (nT, .inr (5, [.ref aT, .int lT]))] (fun _ => True) 0 0 (fun (A : Nat → Prop) (r : Int32) (hh9 : Heap) => ∃ (lT' : Int32), kPD (dC, dI) vwCl A [(oX, .inr (11, [.ref nT, .ref nL, .ref nM, .ref oC, .ref oP, .ref oH, .ref oK, .ref oG, .ref oR, .ref oQ, .ref oW, .int fa])), (nT, .inr (5, [.ref aT, .int lT']))] hh9 ∧ (0 ≤ lT'.toInt ∧ lT'.toInt ≤ 900) ∧ ((r.toInt = 1 ∧ 0 ≤ n.toInt ∧ n.toInt ≤ lT.toInt ∧ lT'.toInt = n.toInt) ∨ (r.toInt = 0 ∧ (n.toInt < 0 ∨ lT.toInt < n.toInt) ∧ lT'.toInt = lT.toInt))) := by
  refine kMi_of (cc := cX11_end) (maxL := 2) (ret := (some .boolean)) (lv := [(0, .ref oX), (1, .int n)]) (by decide +kernel) rfl rfl (Nat.le_of_ble_eq_true rfl) ?_
  intro p e s m below meth c A QQ ls hx hb hr hts hml hown hlocks hA hQQ hK hX hP hD hS hl
  have hown : s.vm.findClass RX11 = some m.cls := hown
  have hcf := k_cf hx hb hml hown hts
  have in_X11 : ∀ w ∈ wsX110, w ∈ wsX11_end := fun _ h => List.mem_cons_of_mem _ (List.mem_append_left _ (List.mem_append_right _ (h)))
  refine lv_iload_n hx hb dX11_end_0 rfl (lv_at hl 1 rfl) ?_
  refine lv_if_lt (tgt := 15) hx hb dX11_end_1 (by decide) (fun c_1 => ?_) (fun c_1 => ?_)
  · have tc_1 : n.toInt < 0 := v_lt c_1
    refine lv_iconst (v := 0) hx hb dX11_end_15 (by decide) ?_
    exact kl_z (v := 0) hQQ hx hb hr hlocks hS dX11_end_16 (rfl) ⟨lT, ⟨hP, hD⟩, g_lT, by show (0 = 1 ∧ 0 ≤ n.toInt ∧ n.toInt ≤ lT.toInt ∧ lT.toInt = n.toInt) ∨ (0 = 0 ∧ (n.toInt < 0 ∨ lT.toInt < n.toInt) ∧ lT.toInt = lT.toInt); omega⟩
  · have tc_1 : 0 ≤ n.toInt := v_nlt c_1
    refine lv_iload_n hx hb dX11_end_4 rfl (lv_at hl 1 rfl) ?_
    refine lv_aload_n hx hb dX11_end_5 rfl (lv_at hl 0 rfl) ?_
    refine va_get (D := (dC, dI)) (ci := 11) (v := .ref nT) (C := RX11) (T := TX11) (N := 12) hx hb hts in_X11 hown hK hP 0 rfl rfl 0 (by decide) (hts (.fieldLink RX11 30 "TextMender" "tape" "LTextMender$Numbers;") (List.mem_of_getElem? (i := 1) rfl)) (fun _ h9 => h9) rfl dX11_end_6 ?_
    refine kV_i (rest := [.int n]) (q0 := 0) (ci := 5) hcf (m_X5_length l dC dI cI cS s.heap.size nT aT lT ) kc_X5_length gX11_end_X5_length rfl rfl rfl ⟨Nat.le_of_ble_eq_true rfl, Nat.le_of_ble_eq_true rfl⟩ kX_t hK hP hD hS hA [1] [0] rfl (by decide +kernel) rfl rfl rfl hl rfl (Nat.le_of_ble_eq_true rfl) dX11_end_9 ⟨Nat.le_of_ble_eq_true rfl, Nat.le_of_ble_eq_true rfl⟩ (fun r_2 H locs hB hJ hSn => ?_)
    obtain ⟨⟨hP1, hD1⟩, hf2_0⟩ := hB
    obtain ⟨hPn, hDn⟩ := hJ _ hP1 hD1 [(oX, .inr (11, [.ref nT, .ref nL, .ref nM, .ref oC, .ref oP, .ref oH, .ref oK, .ref oG, .ref oR, .ref oQ, .ref oW, .int fa])), (nT, .inr (5, [.ref aT, .int lT]))] rfl
    clear hP hD hS hJ hP1 hD1
    have hP := hPn
    have hD := hDn
    have hS := hSn
    clear hPn hDn hSn
    rw [hf2_0]
    refine lv_icmp_le (tgt := 17) hx hb dX11_end_12 (by decide) (fun c_3 => ?_) (fun c_3 => ?_)
    · have tc_3 : n.toInt ≤ lT.toInt := v_le c_3
      have rw3_0 := v_rng n
      refine lv_aload_n hx hb dX11_end_17 rfl (lv_at hl 0 rfl) ?_
      refine va_get (D := (dC, dI)) (ci := 11) (v := .ref nT) (C := RX11) (T := TX11) (N := 12) hx hb hts in_X11 hown hK hP 0 rfl rfl 0 (by decide) (hts (.fieldLink RX11 30 "TextMender" "tape" "LTextMender$Numbers;") (List.mem_of_getElem? (i := 1) rfl)) (fun _ h9 => h9) rfl dX11_end_18 ?_
      refine lv_iload_n hx hb dX11_end_21 rfl (lv_at hl 1 rfl) ?_
      refine kV_v (rest := []) (q0 := 0) (ci := 5) hcf (m_X5_cut l dC dI cI cS H.size nT aT lT n (v_rr g_lT (by decide) (by decide))) kc_X5_cut gX11_end_X5_cut rfl rfl rfl ⟨Nat.le_of_ble_eq_true rfl, Nat.le_of_ble_eq_true rfl⟩ kX_t hK hP hD hS hA [1] [0] rfl (by decide +kernel) rfl rfl rfl hl rfl (Nat.le_of_ble_eq_true rfl) dX11_end_22 ⟨Nat.le_of_ble_eq_true rfl, Nat.le_of_ble_eq_true rfl⟩ (fun H locs hB hJ hSn => ?_)
      obtain ⟨lu_4, ⟨hP1, hD1⟩, hf4_0, hf4_1, hf4_2⟩ := hB
      obtain ⟨hPn, hDn⟩ := hJ _ hP1 hD1 [(oX, .inr (11, [.ref nT, .ref nL, .ref nM, .ref oC, .ref oP, .ref oH, .ref oK, .ref oG, .ref oR, .ref oQ, .ref oW, .int fa])), (nT, .inr (5, [.ref aT, .int lu_4]))] rfl
      clear hP hD hS hJ hP1 hD1
      have hP := hPn
      have hD := hDn
      have hS := hSn
      clear hPn hDn hSn
      have ha4 : lu_4.toInt = n.toInt := F_cut_l hf4_2 (by first | decide | omega) (by first | omega | (show (0 : Int) ≤ _; omega))
      refine lv_iconst (v := 1) hx hb dX11_end_25 (by decide) ?_
      exact kl_z (v := 1) hQQ hx hb hr hlocks hS dX11_end_26 (rfl) ⟨lu_4, ⟨hP, hD⟩, by omega, by show (1 = 1 ∧ 0 ≤ n.toInt ∧ n.toInt ≤ lT.toInt ∧ lu_4.toInt = n.toInt) ∨ (1 = 0 ∧ (n.toInt < 0 ∨ lT.toInt < n.toInt) ∧ lu_4.toInt = lT.toInt); omega⟩
    · have tc_3 : lT.toInt < n.toInt := v_nle c_3
      have rw3_0 := v_rng n
      refine lv_iconst (v := 0) hx hb dX11_end_15 (by decide) ?_
      exact kl_z (v := 0) hQQ hx hb hr hlocks hS dX11_end_16 (rfl) ⟨lT, ⟨hP, hD⟩, g_lT, by show (0 = 1 ∧ 0 ≤ n.toInt ∧ n.toInt ≤ lT.toInt ∧ lT.toInt = n.toInt) ∨ (0 = 0 ∧ (n.toInt < 0 ∨ lT.toInt < n.toInt) ∧ lT.toInt = lT.toInt); omega⟩

set_option maxHeartbeats 40000000 in
set_option maxRecDepth 100000 in
theorem x_span_n (l : Launch) (dC : Nat → ClassId) (dI : Nat → Nat → Nat) (cI cS : ClassId) (sz : Nat) (oX : Nat) (nT : Nat) (nL : Nat) (nM : Nat) (oC : Nat) (oP : Nat) (oH : Nat) (oK : Nat) (oG : Nat) (oR : Nat) (oQ : Nat) (oW : Nat) (o4 : Nat) (o5 : Nat) (fa : Int32) (cd : Int32) (fr : Int32) (n : Int32) (le : Int32) (sp : Int32) (h4 : ¬ cd.toInt = 4) (h5 : ¬ cd.toInt = 5) : kMi l yX11_span wsX11_span ({ frames := 1, cells := 0, slots := 0, locals := 21 } : Room) [.ref oX, .int cd, .int fr, .int n, .int le, .int sp] sz (dC, dI) vwCl [(cI, .int), (cS, .short)] [(oX, .inr (11, [.ref nT, .ref nL, .ref nM, .ref oC, .ref oP, .ref oH, .ref oK, .ref oG, .ref oR, .ref oQ, .ref oW, .int fa])), (oC, .inr (2, [.ref o4, .ref o5]))] (fun _ => True) 0 0 (fun (A : Nat → Prop) (r : Int32) (hh9 : Heap) => ∃ (fa' : Int32), kPD (dC, dI) vwCl A [(oX, .inr (11, [.ref nT, .ref nL, .ref nM, .ref oC, .ref oP, .ref oH, .ref oK, .ref oG, .ref oR, .ref oQ, .ref oW, .int fa'])), (oC, .inr (2, [.ref o4, .ref o5]))] hh9 ∧ (r = (-1))) := by
  refine kMi_of (cc := cX11_span) (maxL := 8) (ret := (some .int)) (lv := [(0, .ref oX), (1, .int cd), (2, .int fr), (3, .int n), (4, .int le), (5, .int sp)]) (by decide +kernel) rfl rfl (Nat.le_of_ble_eq_true rfl) ?_
  intro p e s m below meth c A QQ ls hx hb hr hts hml hown hlocks hA hQQ hK hX hP hD hS hl
  have hown : s.vm.findClass RX11 = some m.cls := hown
  have hcf := k_cf hx hb hml hown hts
  have in_X11 : ∀ w ∈ wsX110, w ∈ wsX11_span := fun _ h => List.mem_cons_of_mem _ (List.mem_append_left _ (List.mem_append_left _ (List.mem_append_left _ (List.mem_append_right _ (h)))))
  refine lv_aload_n hx hb dX11_span_0 rfl (lv_at hl 0 rfl) ?_
  refine lv_iconst (v := (-1)) hx hb dX11_span_1 (by decide) ?_
  refine va_put (D := (dC, dI)) (ci := 11) (v := .int (-1)) (ty := .int) (C := RX11) (T := TX11) (N := 12) hx hb hts in_X11 tyX11 tyX11_ok nmX11 hown hK hP hD hS 0 rfl rfl 11 (by decide) (hts (.fieldLink RX11 90 "TextMender" "fault" "I") (List.mem_of_getElem? (i := 1) rfl)) (fun _ h9 => h9) rfl (by decide +kernel) rfl rfl (Nat.le_of_ble_eq_true rfl) dX11_span_2 (kW (wn := [(oX, .inr (11, [.ref nT, .ref nL, .ref nM, .ref oC, .ref oP, .ref oH, .ref oK, .ref oG, .ref oR, .ref oQ, .ref oW, .int (-1)])), (oC, .inr (2, [.ref o4, .ref o5]))]) rfl (fun H locs hPn hDn hSn => ?_))
  clear hP hD hS
  have hP := hPn
  have hD := hDn
  have hS := hSn
  clear hPn hDn hSn
  refine lv_aload_n hx hb dX11_span_5 rfl (lv_at hl 0 rfl) ?_
  refine va_get (D := (dC, dI)) (ci := 11) (v := .ref oC) (C := RX11) (T := TX11) (N := 12) hx hb hts in_X11 hown hK hP 0 rfl rfl 3 (by decide) (hts (.fieldLink RX11 40 "TextMender" "codes" "LTextMender$Codes;") (List.mem_of_getElem? (i := 2) rfl)) (fun _ h9 => h9) rfl dX11_span_6 ?_
  refine lv_iload_n hx hb dX11_span_9 rfl (lv_at hl 1 rfl) ?_
  refine kV_q (rest := []) (q0 := 0) (ci := 2) hcf (m_X2_toldCode_n l dC dI cI cS H.size oC o4 o5 cd (by omega) (by omega)) kc_X2_toldCode gX11_span_X2_toldCode rfl rfl rfl ⟨Nat.le_of_ble_eq_true rfl, Nat.le_of_ble_eq_true rfl⟩ kX_t hK hP hD hS hA [1] [0] rfl (by decide +kernel) rfl rfl rfl hl rfl (Nat.le_of_ble_eq_true rfl) dX11_span_10 ⟨Nat.le_of_ble_eq_true rfl, Nat.le_of_ble_eq_true rfl⟩ (fun H locs hB hJ hSn => ?_)
  obtain ⟨hP1, hD1⟩ := hB
  obtain ⟨hPn, hDn⟩ := hJ _ hP1 hD1 [(oX, .inr (11, [.ref nT, .ref nL, .ref nM, .ref oC, .ref oP, .ref oH, .ref oK, .ref oG, .ref oR, .ref oQ, .ref oW, .int (-1)])), (oC, .inr (2, [.ref o4, .ref o5]))] rfl
  clear hP hD hS hJ hP1 hD1
  have hP := hPn
  have hD := hDn
  have hS := hSn
  clear hPn hDn hSn
  refine lv_astoreN (lv' := [(6, .null), (0, .ref oX), (1, .int cd), (2, .int fr), (3, .int n), (4, .int le), (5, .int sp)]) hx hb dX11_span_13 hl (by decide) rfl (fun ls hl => ?_)
  refine lv_aloadN hx hb dX11_span_15 (lv_at hl 0 rfl) ?_
  refine lv_ifnullN (tgt := 34) hx hb dX11_span_17 (by decide) ?_
  refine lv_iconst (v := (-1)) hx hb dX11_span_34 (by decide) ?_
  exact kl_i (v := (-1)) hQQ hx hb hr hlocks hS dX11_span_35 ⟨(-1), ⟨hP, hD⟩, rfl⟩

set_option maxHeartbeats 40000000 in
set_option maxRecDepth 100000 in
theorem x_blank_n (l : Launch) (dC : Nat → ClassId) (dI : Nat → Nat → Nat) (cI cS : ClassId) (sz : Nat) (oX : Nat) (nT : Nat) (nL : Nat) (nM : Nat) (oC : Nat) (oP : Nat) (oH : Nat) (oK : Nat) (oG : Nat) (oR : Nat) (oQ : Nat) (oW : Nat) (o4 : Nat) (o5 : Nat) (fa : Int32) (cd : Int32) (h4 : ¬ cd.toInt = 4) (h5 : ¬ cd.toInt = 5) : kMi l yX11_blank wsX11_blank ({ frames := 1, cells := 0, slots := 0, locals := 21 } : Room) [.ref oX, .int cd] sz (dC, dI) vwCl [(cI, .int), (cS, .short)] [(oX, .inr (11, [.ref nT, .ref nL, .ref nM, .ref oC, .ref oP, .ref oH, .ref oK, .ref oG, .ref oR, .ref oQ, .ref oW, .int fa])), (oC, .inr (2, [.ref o4, .ref o5]))] (fun _ => True) 0 0 (fun (A : Nat → Prop) (r : Int32) (hh9 : Heap) => kPD (dC, dI) vwCl A [(oX, .inr (11, [.ref nT, .ref nL, .ref nM, .ref oC, .ref oP, .ref oH, .ref oK, .ref oG, .ref oR, .ref oQ, .ref oW, .int fa])), (oC, .inr (2, [.ref o4, .ref o5]))] hh9 ∧ (r = 0)) := by
  refine kMi_of (cc := cX11_blank) (maxL := 3) (ret := (some .boolean)) (lv := [(0, .ref oX), (1, .int cd)]) (by decide +kernel) rfl rfl (Nat.le_of_ble_eq_true rfl) ?_
  intro p e s m below meth c A QQ ls hx hb hr hts hml hown hlocks hA hQQ hK hX hP hD hS hl
  have hown : s.vm.findClass RX11 = some m.cls := hown
  have hcf := k_cf hx hb hml hown hts
  have in_X11 : ∀ w ∈ wsX110, w ∈ wsX11_blank := fun _ h => List.mem_cons_of_mem _ (List.mem_append_left _ (List.mem_append_left _ (List.mem_append_left _ (List.mem_append_right _ (h)))))
  refine lv_aload_n hx hb dX11_blank_0 rfl (lv_at hl 0 rfl) ?_
  refine va_get (D := (dC, dI)) (ci := 11) (v := .ref oC) (C := RX11) (T := TX11) (N := 12) hx hb hts in_X11 hown hK hP 0 rfl rfl 3 (by decide) (hts (.fieldLink RX11 40 "TextMender" "codes" "LTextMender$Codes;") (List.mem_of_getElem? (i := 1) rfl)) (fun _ h9 => h9) rfl dX11_blank_1 ?_
  refine lv_iload_n hx hb dX11_blank_4 rfl (lv_at hl 1 rfl) ?_
  refine kV_q (rest := []) (q0 := 0) (ci := 2) hcf (m_X2_toldCode_n l dC dI cI cS s.heap.size oC o4 o5 cd (by omega) (by omega)) kc_X2_toldCode gX11_blank_X2_toldCode rfl rfl rfl ⟨Nat.le_of_ble_eq_true rfl, Nat.le_of_ble_eq_true rfl⟩ kX_t hK hP hD hS hA [1] [0] rfl (by decide +kernel) rfl rfl rfl hl rfl (Nat.le_of_ble_eq_true rfl) dX11_blank_5 ⟨Nat.le_of_ble_eq_true rfl, Nat.le_of_ble_eq_true rfl⟩ (fun H locs hB hJ hSn => ?_)
  obtain ⟨hP1, hD1⟩ := hB
  obtain ⟨hPn, hDn⟩ := hJ _ hP1 hD1 [(oX, .inr (11, [.ref nT, .ref nL, .ref nM, .ref oC, .ref oP, .ref oH, .ref oK, .ref oG, .ref oR, .ref oQ, .ref oW, .int fa])), (oC, .inr (2, [.ref o4, .ref o5]))] rfl
  clear hP hD hS hJ hP1 hD1
  have hP := hPn
  have hD := hDn
  have hS := hSn
  clear hPn hDn hSn
  refine lv_astore_nN (lv' := [(2, .null), (0, .ref oX), (1, .int cd)]) hx hb dX11_blank_8 rfl hl (by decide) rfl (fun ls hl => ?_)
  refine lv_aload_nN hx hb dX11_blank_9 rfl (lv_at hl 0 rfl) ?_
  refine lv_ifnonnullN hx hb dX11_blank_10 ?_
  refine lv_iconst (v := 0) hx hb dX11_blank_13 (by decide) ?_
  exact kl_z (v := 0) hQQ hx hb hr hlocks hS dX11_blank_14 (rfl) ⟨⟨hP, hD⟩, rfl⟩

set_option maxHeartbeats 40000000 in
set_option maxRecDepth 100000 in
theorem m_X11_marksOf (l : Launch) (dC : Nat → ClassId) (dI : Nat → Nat → Nat) (cI cS : ClassId) (sz : Nat) (nx : Nat) (ax : Nat) (lx : Int32) (fx : Nat → Int32) (g_lx : 0 ≤ lx.toInt ∧ lx.toInt ≤ 300) : kMi l yX11_marksOf wsX11_marksOf ({ frames := 1, cells := 0, slots := 0, locals := 21 } : Room) [.ref nx] sz (dC, dI) vwCl [(cI, .int), (cS, .short)] [(nx, .inr (5, [.ref ax, .int lx])), (ax, .inl (cI, 300, .inl fx))] (fun _ => True) 0 0 (fun (A : Nat → Prop) (r : Int32) (hh9 : Heap) => kPD (dC, dI) vwCl A [(nx, .inr (5, [.ref ax, .int lx])), (ax, .inl (cI, 300, .inl fx))] hh9 ∧ (0 ≤ r.toInt ∧ r.toInt ≤ 300)) := by
  refine kMi_of (cc := cX11_marksOf) (maxL := 3) (ret := (some .int)) (lv := [(0, .ref nx)]) (by decide +kernel) rfl rfl (Nat.le_of_ble_eq_true rfl) ?_
  intro p e s m below meth c A QQ ls hx hb hr hts hml hown hlocks hA hQQ hK hX hP hD hS hl
  have hown : s.vm.findClass RX11 = some m.cls := hown
  have hcf := k_cf hx hb hml hown hts
  refine lv_iconst (v := 0) hx hb dX11_marksOf_0 (by decide) ?_
  refine lv_istore_n (lv' := [(1, .int 0), (0, .ref nx)]) hx hb dX11_marksOf_1 rfl hl (by decide) rfl (fun ls hl => ?_)
  refine lv_iconst (v := 0) hx hb dX11_marksOf_2 (by decide) ?_
  refine lv_istore_n (lv' := [(2, .int 0), (1, .int 0), (0, .ref nx)]) hx hb dX11_marksOf_3 rfl hl (by decide) rfl (fun ls hl => ?_)
  have LOOP_4 : ∀ (k_4 : Nat) (i : Int32) (mk : Int32) (H : Heap) (locs : List Loc) (ls : Array Slot), MSd (300 - i.toInt : Int) k_4 → (0 ≤ i.toInt ∧ i.toInt ≤ 300) → (0 ≤ mk.toInt ∧ mk.toInt ≤ i.toInt) → va_P (dC, dI) vwCl [(nx, .inr (5, [.ref ax, .int lx])), (ax, .inl (cI, 300, .inl fx))] H → va_D A [(nx, .inr (5, [.ref ax, .int lx])), (ax, .inl (cI, 300, .inl fx))] → va_S A s.heap H locs → lv_has ls 3 [(2, .int i), (1, .int mk), (0, .ref nx)] → W p l e (headSpec wsX11_marksOf ({ frames := 1, cells := 0, slots := 0, locals := 21 } : Room)).room s m ([.ref nx] : List Value).toArray below meth c H locs 0 0 (MQ below QQ ([.ref nx] : List Value).toArray s 0 0 A) (F0 m 4 ls []) := by
    clear hP hD hS hl
    intro k_4
    induction k_4 with
    | zero =>
      intro i mk H locs ls hm_4 g_i g_mk hP hD hS hl
      exact ms_0 hm_4
    | succ k_4 ih_4 =>
      intro i mk H locs ls hm_4 g_i g_mk hP hD hS hl
      refine lv_iload_n hx hb dX11_marksOf_4 rfl (lv_at hl 0 rfl) ?_
      refine lv_aload_n hx hb dX11_marksOf_5 rfl (lv_at hl 2 rfl) ?_
      refine kV_i (rest := [.int i]) (q0 := 0) (ci := 5) hcf (m_X5_length l dC dI cI cS H.size nx ax lx ) kc_X5_length gX11_marksOf_X5_length rfl rfl rfl ⟨Nat.le_of_ble_eq_true rfl, Nat.le_of_ble_eq_true rfl⟩ kX_t hK hP hD hS hA [0] [1] rfl (by decide +kernel) rfl rfl rfl hl rfl (Nat.le_of_ble_eq_true rfl) dX11_marksOf_6 ⟨Nat.le_of_ble_eq_true rfl, Nat.le_of_ble_eq_true rfl⟩ (fun r_1 H locs hB hJ hSn => ?_)
      obtain ⟨⟨hP1, hD1⟩, hf1_0⟩ := hB
      obtain ⟨hPn, hDn⟩ := hJ _ hP1 hD1 [(ax, .inl (cI, 300, .inl fx)), (nx, .inr (5, [.ref ax, .int lx]))] rfl
      clear hP hD hS hJ hP1 hD1
      have hP := hPn
      have hD := hDn
      have hS := hSn
      clear hPn hDn hSn
      rw [hf1_0]
      refine lv_icmp_ge (tgt := 32) hx hb dX11_marksOf_9 (by decide) (fun c_2 => ?_) (fun c_2 => ?_)
      · have tc_2 : lx.toInt ≤ i.toInt := v_le c_2
        refine lv_iload_n hx hb dX11_marksOf_32 rfl (lv_at hl 1 rfl) ?_
        exact kl_i (v := mk) hQQ hx hb hr hlocks hS dX11_marksOf_33 ⟨kPD_sub hP hD [1, 0] (by decide +kernel) rfl, by omega⟩
      · have tc_2 : i.toInt < lx.toInt := v_nle c_2
        refine lv_aload_n hx hb dX11_marksOf_12 rfl (lv_at hl 2 rfl) ?_
        refine lv_iload_n hx hb dX11_marksOf_13 rfl (lv_at hl 0 rfl) ?_
        refine kV_i (rest := []) (q0 := 0) (ci := 5) hcf (m_X5_get l dC dI cI cS H.size nx ax 300 lx fx i (by omega) (by omega)) kc_X5_get gX11_marksOf_X5_get rfl rfl rfl ⟨Nat.le_of_ble_eq_true rfl, Nat.le_of_ble_eq_true rfl⟩ kX_t hK hP hD hS hA [1, 0] [] rfl (by decide +kernel) rfl rfl rfl hl rfl (Nat.le_of_ble_eq_true rfl) dX11_marksOf_14 ⟨Nat.le_of_ble_eq_true rfl, Nat.le_of_ble_eq_true rfl⟩ (fun r_3 H locs hB hJ hSn => ?_)
        obtain ⟨⟨hP1, hD1⟩, hf3_0⟩ := hB
        obtain ⟨hPn, hDn⟩ := hJ _ hP1 hD1 [(nx, .inr (5, [.ref ax, .int lx])), (ax, .inl (cI, 300, .inl fx))] rfl
        clear hP hD hS hJ hP1 hD1
        have hP := hPn
        have hD := hDn
        have hS := hSn
        clear hPn hDn hSn
        refine lv_ldcw hx hb hown (hts (.constant RX11 261 (65533)) (List.mem_of_getElem? (i := 1) rfl)) dX11_marksOf_17 ?_
        refine lv_icmp_ne (tgt := 26) hx hb dX11_marksOf_20 (by decide) (fun c_4 => ?_) (fun c_4 => ?_)
        · have tc_4 : ¬ r_3.toInt = 65533 := v_ne c_4
          obtain ⟨x_5, ex_5⟩ : ∃ y : Int32, y = i + 1 := ⟨_, rfl⟩
          have tx_5 : x_5.toInt = i.toInt + 1 := v_addR (l2 := 1) (h2 := 1) ex_5 g_i (by decide) (by decide) (by decide)
          refine lv_iinc (v := x_5) (lv' := [(2, .int x_5), (1, .int mk), (0, .ref nx)]) hx hb dX11_marksOf_26 hl (k := 0) rfl (by rw [ex_5]; rfl) (by decide) rfl (fun ls hl => ?_)
          refine lv_goto (tgt := 4) hx hb dX11_marksOf_29 (by decide) ?_
          exact ih_4 x_5 mk _ _ _ (ms_lt hm_4 (by show ((300 - x_5.toInt : Int)) < 300 - i.toInt; omega) (by show (0 : Int) < 300 - i.toInt; omega)) (by show 0 ≤ x_5.toInt ∧ x_5.toInt ≤ 300; omega) (by show 0 ≤ mk.toInt ∧ mk.toInt ≤ x_5.toInt; omega) hP hD hS (lv_sub hl [0, 1, 2] rfl)
        · have tc_4 : r_3.toInt = 65533 := v_eq c_4
          obtain ⟨x_6, ex_6⟩ : ∃ y : Int32, y = mk + 1 := ⟨_, rfl⟩
          have tx_6 : x_6.toInt = mk.toInt + 1 := v_add ex_6 (by show -2147483648 ≤ mk.toInt + 1; omega) (by show mk.toInt + 1 < 2147483648; omega)
          refine lv_iinc (v := x_6) (lv' := [(1, .int x_6), (2, .int i), (0, .ref nx)]) hx hb dX11_marksOf_23 hl (k := 1) rfl (by rw [ex_6]; rfl) (by decide) rfl (fun ls hl => ?_)
          obtain ⟨x_7, ex_7⟩ : ∃ y : Int32, y = i + 1 := ⟨_, rfl⟩
          have tx_7 : x_7.toInt = i.toInt + 1 := v_addR (l2 := 1) (h2 := 1) ex_7 g_i (by decide) (by decide) (by decide)
          refine lv_iinc (v := x_7) (lv' := [(2, .int x_7), (1, .int x_6), (0, .ref nx)]) hx hb dX11_marksOf_26 hl (k := 1) rfl (by rw [ex_7]; rfl) (by decide) rfl (fun ls hl => ?_)
          refine lv_goto (tgt := 4) hx hb dX11_marksOf_29 (by decide) ?_
          exact ih_4 x_7 x_6 _ _ _ (ms_lt hm_4 (by show ((300 - x_7.toInt : Int)) < 300 - i.toInt; omega) (by show (0 : Int) < 300 - i.toInt; omega)) (by show 0 ≤ x_7.toInt ∧ x_7.toInt ≤ 300; omega) (by show 0 ≤ x_6.toInt ∧ x_6.toInt ≤ x_7.toInt; omega) hP hD hS (lv_sub hl [0, 1, 2] rfl)
  exact LOOP_4 _ 0 0 _ _ _ (ms_s _) (by decide) (by show 0 ≤ (0 : Int) ∧ (0 : Int) ≤ 0; omega) hP hD hS (lv_sub hl [0, 1, 2] rfl)

set_option maxHeartbeats 40000000 in
set_option maxRecDepth 100000 in
theorem x_count (l : Launch) (dC : Nat → ClassId) (dI : Nat → Nat → Nat) (cI cS : ClassId) (sz : Nat) (oX : Nat) (nT : Nat) (nL : Nat) (nM : Nat) (oC : Nat) (oP : Nat) (oH : Nat) (oK : Nat) (oG : Nat) (oR : Nat) (oQ : Nat) (oW : Nat) (aL : Nat) (aT : Nat) (h1 : Nat) (h2 : Nat) (g1 : Nat) (g2 : Nat) (k1 : Nat) (k2 : Nat) (o4 : Nat) (o5 : Nat) (a41 : Nat) (a42 : Nat) (a43 : Nat) (a51 : Nat) (a52 : Nat) (a53 : Nat) (fa : Int32) (lL : Int32) (fL : Nat → Int32) (lT : Int32) (lH : Int32) (gn : Int32) (lG : Int32) (lK : Int32) (l4 : Int32) (l5 : Int32) (wh : Int32) (g_lL : 0 ≤ lL.toInt ∧ lL.toInt ≤ 300) (g_lT : 0 ≤ lT.toInt ∧ lT.toInt ≤ 900) (g_lH : 0 ≤ lH.toInt ∧ lH.toInt ≤ 6) (g_gn : 0 ≤ gn.toInt ∧ gn.toInt ≤ 19) (g_lG : 0 ≤ lG.toInt ∧ lG.toInt ≤ 20) (g_lK : 0 ≤ lK.toInt ∧ lK.toInt ≤ 300) : kMi l yX11_count wsX11_count ({ frames := 2, cells := 0, slots := 0, locals := 43 } : Room) [.ref oX, .int wh] sz (dC, dI) vwCl [(cI, .int), (cS, .short)] [(oX, .inr (11, [.ref nT, .ref nL, .ref nM, .ref oC, .ref oP, .ref oH, .ref oK, .ref oG, .ref oR, .ref oQ, .ref oW, .int fa])), (nL, .inr (5, [.ref aL, .int lL])), (aL, .inl (cI, 300, .inl fL)), (nT, .inr (5, [.ref aT, .int lT])), (oH, .inr (4, [.ref oP, .ref h1, .ref h2, .int lH])), (oG, .inr (0, [.ref g1, .ref g2, .int gn, .int lG])), (oK, .inr (3, [.ref k1, .ref k2, .int lK])), (oC, .inr (2, [.ref o4, .ref o5])), (o4, .inr (10, [.ref a41, .ref a42, .ref a43, .int l4])), (o5, .inr (10, [.ref a51, .ref a52, .ref a53, .int l5]))] (fun _ => True) 0 0 (fun (A : Nat → Prop) (r : Int32) (hh9 : Heap) => kPD (dC, dI) vwCl A [(oX, .inr (11, [.ref nT, .ref nL, .ref nM, .ref oC, .ref oP, .ref oH, .ref oK, .ref oG, .ref oR, .ref oQ, .ref oW, .int fa])), (nL, .inr (5, [.ref aL, .int lL])), (aL, .inl (cI, 300, .inl fL)), (nT, .inr (5, [.ref aT, .int lT])), (oH, .inr (4, [.ref oP, .ref h1, .ref h2, .int lH])), (oG, .inr (0, [.ref g1, .ref g2, .int gn, .int lG])), (oK, .inr (3, [.ref k1, .ref k2, .int lK])), (oC, .inr (2, [.ref o4, .ref o5])), (o4, .inr (10, [.ref a41, .ref a42, .ref a43, .int l4])), (o5, .inr (10, [.ref a51, .ref a52, .ref a53, .int l5]))] hh9) := by
  refine kMi_of (cc := cX11_count) (maxL := 2) (ret := (some .int)) (lv := [(0, .ref oX), (1, .int wh)]) (by decide +kernel) rfl rfl (Nat.le_of_ble_eq_true rfl) ?_
  intro p e s m below meth c A QQ ls hx hb hr hts hml hown hlocks hA hQQ hK hX hP hD hS hl
  have hown : s.vm.findClass RX11 = some m.cls := hown
  have hcf := k_cf hx hb hml hown hts
  have in_X11 : ∀ w ∈ wsX110, w ∈ wsX11_count := fun _ h => List.mem_cons_of_mem _ (List.mem_append_left _ (List.mem_append_left _ (List.mem_append_left _ (List.mem_append_left _ (List.mem_append_left _ (List.mem_append_left _ (List.mem_append_right _ (h))))))))
  replace g_lL := hid g_lL
  replace g_lT := hid g_lT
  replace g_lH := hid g_lH
  replace g_gn := hid g_gn
  replace g_lG := hid g_lG
  replace g_lK := hid g_lK
  refine lv_iload_n hx hb dX11_count_0 rfl (lv_at hl 1 rfl) ?_
  by_cases c_1 : wh = 0
  · refine lv_tableIn (tgt := 48) hx hb dX11_count_1 (by rw [c_1]; decide) (by rw [c_1]; decide) (by rw [c_1]; rfl) (by decide) ?_
    have tc_1 : wh.toInt = 0 := v_eq c_1
    refine lv_aload_n hx hb dX11_count_48 rfl (lv_at hl 0 rfl) ?_
    refine va_get (D := (dC, dI)) (ci := 11) (v := .ref nL) (C := RX11) (T := TX11) (N := 12) hx hb hts in_X11 hown hK hP 0 rfl rfl 1 (by decide) (hts (.fieldLink RX11 34 "TextMender" "letters" "LTextMender$Numbers;") (List.mem_of_getElem? (i := 1) rfl)) (fun _ h9 => h9) rfl dX11_count_49 ?_
    refine kV_i (rest := []) (q0 := 0) (ci := 5) hcf (m_X5_length l dC dI cI cS s.heap.size nL aL lL ) kc_X5_length gX11_count_X5_length rfl rfl rfl ⟨Nat.le_of_ble_eq_true rfl, Nat.le_of_ble_eq_true rfl⟩ kX_t hK hP hD hS hA [1] [0, 2, 3, 4, 5, 6, 7, 8, 9] rfl (by decide +kernel) rfl rfl rfl hl rfl (Nat.le_of_ble_eq_true rfl) dX11_count_52 ⟨Nat.le_of_ble_eq_true rfl, Nat.le_of_ble_eq_true rfl⟩ (fun r_2 H locs hB hJ hSn => ?_)
    obtain ⟨⟨hP1, hD1⟩, hf2_0⟩ := hB
    obtain ⟨hPn, hDn⟩ := hJ _ hP1 hD1 [(oX, .inr (11, [.ref nT, .ref nL, .ref nM, .ref oC, .ref oP, .ref oH, .ref oK, .ref oG, .ref oR, .ref oQ, .ref oW, .int fa])), (aL, .inl (cI, 300, .inl fL)), (nT, .inr (5, [.ref aT, .int lT])), (oH, .inr (4, [.ref oP, .ref h1, .ref h2, .int lH])), (oG, .inr (0, [.ref g1, .ref g2, .int gn, .int lG])), (oK, .inr (3, [.ref k1, .ref k2, .int lK])), (oC, .inr (2, [.ref o4, .ref o5])), (o4, .inr (10, [.ref a41, .ref a42, .ref a43, .int l4])), (o5, .inr (10, [.ref a51, .ref a52, .ref a53, .int l5])), (nL, .inr (5, [.ref aL, .int lL]))] rfl
    clear hP hD hS hJ hP1 hD1
    have hP := hPn
    have hD := hDn
    have hS := hSn
    clear hPn hDn hSn
    rw [hf2_0]
    exact kl_i (v := lL) hQQ hx hb hr hlocks hS dX11_count_55 (kPD_sub hP hD [0, 9, 1, 2, 3, 4, 5, 6, 7, 8] (by decide +kernel) rfl)
  · skip
    have tc_1 : ¬ wh.toInt = 0 := v_ne c_1
    by_cases c_3 : wh = 1
    · refine lv_tableIn (tgt := 56) hx hb dX11_count_1 (by rw [c_3]; decide) (by rw [c_3]; decide) (by rw [c_3]; rfl) (by decide) ?_
      have tc_3 : wh.toInt = 1 := v_eq c_3
      refine lv_aload_n hx hb dX11_count_56 rfl (lv_at hl 0 rfl) ?_
      refine va_get (D := (dC, dI)) (ci := 11) (v := .ref nT) (C := RX11) (T := TX11) (N := 12) hx hb hts in_X11 hown hK hP 0 rfl rfl 0 (by decide) (hts (.fieldLink RX11 30 "TextMender" "tape" "LTextMender$Numbers;") (List.mem_of_getElem? (i := 2) rfl)) (fun _ h9 => h9) rfl dX11_count_57 ?_
      refine kV_i (rest := []) (q0 := 0) (ci := 5) hcf (m_X5_length l dC dI cI cS s.heap.size nT aT lT ) kc_X5_length gX11_count_X5_length rfl rfl rfl ⟨Nat.le_of_ble_eq_true rfl, Nat.le_of_ble_eq_true rfl⟩ kX_t hK hP hD hS hA [3] [0, 1, 2, 4, 5, 6, 7, 8, 9] rfl (by decide +kernel) rfl rfl rfl hl rfl (Nat.le_of_ble_eq_true rfl) dX11_count_60 ⟨Nat.le_of_ble_eq_true rfl, Nat.le_of_ble_eq_true rfl⟩ (fun r_4 H locs hB hJ hSn => ?_)
      obtain ⟨⟨hP1, hD1⟩, hf4_0⟩ := hB
      obtain ⟨hPn, hDn⟩ := hJ _ hP1 hD1 [(oX, .inr (11, [.ref nT, .ref nL, .ref nM, .ref oC, .ref oP, .ref oH, .ref oK, .ref oG, .ref oR, .ref oQ, .ref oW, .int fa])), (nL, .inr (5, [.ref aL, .int lL])), (aL, .inl (cI, 300, .inl fL)), (oH, .inr (4, [.ref oP, .ref h1, .ref h2, .int lH])), (oG, .inr (0, [.ref g1, .ref g2, .int gn, .int lG])), (oK, .inr (3, [.ref k1, .ref k2, .int lK])), (oC, .inr (2, [.ref o4, .ref o5])), (o4, .inr (10, [.ref a41, .ref a42, .ref a43, .int l4])), (o5, .inr (10, [.ref a51, .ref a52, .ref a53, .int l5])), (nT, .inr (5, [.ref aT, .int lT]))] rfl
      clear hP hD hS hJ hP1 hD1
      have hP := hPn
      have hD := hDn
      have hS := hSn
      clear hPn hDn hSn
      rw [hf4_0]
      exact kl_i (v := lT) hQQ hx hb hr hlocks hS dX11_count_63 (kPD_sub hP hD [0, 1, 2, 9, 3, 4, 5, 6, 7, 8] (by decide +kernel) rfl)
    · skip
      have tc_3 : ¬ wh.toInt = 1 := v_ne c_3
      by_cases c_5 : wh = 2
      · refine lv_tableIn (tgt := 64) hx hb dX11_count_1 (by rw [c_5]; decide) (by rw [c_5]; decide) (by rw [c_5]; rfl) (by decide) ?_
        have tc_5 : wh.toInt = 2 := v_eq c_5
        refine lv_aload_n hx hb dX11_count_64 rfl (lv_at hl 0 rfl) ?_
        refine va_get (D := (dC, dI)) (ci := 11) (v := .ref oH) (C := RX11) (T := TX11) (N := 12) hx hb hts in_X11 hown hK hP 0 rfl rfl 5 (by decide) (hts (.fieldLink RX11 48 "TextMender" "harms" "LTextMender$Harms;") (List.mem_of_getElem? (i := 3) rfl)) (fun _ h9 => h9) rfl dX11_count_65 ?_
        refine kV_i (rest := []) (q0 := 0) (ci := 4) hcf (m_X4_length l dC dI cI cS s.heap.size oH oP h1 h2 lH (g_lH)) kc_X4_length gX11_count_X4_length rfl rfl rfl ⟨Nat.le_of_ble_eq_true rfl, Nat.le_of_ble_eq_true rfl⟩ kX_t hK hP hD hS hA [4] [0, 1, 2, 3, 5, 6, 7, 8, 9] rfl (by decide +kernel) rfl rfl rfl hl rfl (Nat.le_of_ble_eq_true rfl) dX11_count_68 ⟨Nat.le_of_ble_eq_true rfl, Nat.le_of_ble_eq_true rfl⟩ (fun r_6 H locs hB hJ hSn => ?_)
        obtain ⟨⟨hP1, hD1⟩, hf6_0⟩ := hB
        obtain ⟨hPn, hDn⟩ := hJ _ hP1 hD1 [(oX, .inr (11, [.ref nT, .ref nL, .ref nM, .ref oC, .ref oP, .ref oH, .ref oK, .ref oG, .ref oR, .ref oQ, .ref oW, .int fa])), (nL, .inr (5, [.ref aL, .int lL])), (aL, .inl (cI, 300, .inl fL)), (nT, .inr (5, [.ref aT, .int lT])), (oG, .inr (0, [.ref g1, .ref g2, .int gn, .int lG])), (oK, .inr (3, [.ref k1, .ref k2, .int lK])), (oC, .inr (2, [.ref o4, .ref o5])), (o4, .inr (10, [.ref a41, .ref a42, .ref a43, .int l4])), (o5, .inr (10, [.ref a51, .ref a52, .ref a53, .int l5])), (oH, .inr (4, [.ref oP, .ref h1, .ref h2, .int lH]))] rfl
        clear hP hD hS hJ hP1 hD1
        have hP := hPn
        have hD := hDn
        have hS := hSn
        clear hPn hDn hSn
        rw [hf6_0]
        exact kl_i (v := lH) hQQ hx hb hr hlocks hS dX11_count_71 (kPD_sub hP hD [0, 1, 2, 3, 9, 4, 5, 6, 7, 8] (by decide +kernel) rfl)
      · skip
        have tc_5 : ¬ wh.toInt = 2 := v_ne c_5
        by_cases c_7 : wh = 3
        · refine lv_tableIn (tgt := 72) hx hb dX11_count_1 (by rw [c_7]; decide) (by rw [c_7]; decide) (by rw [c_7]; rfl) (by decide) ?_
          have tc_7 : wh.toInt = 3 := v_eq c_7
          refine lv_aload_n hx hb dX11_count_72 rfl (lv_at hl 0 rfl) ?_
          refine va_get (D := (dC, dI)) (ci := 11) (v := .ref oG) (C := RX11) (T := TX11) (N := 12) hx hb hts in_X11 hown hK hP 0 rfl rfl 7 (by decide) (hts (.fieldLink RX11 59 "TextMender" "changes" "LTextMender$Changes;") (List.mem_of_getElem? (i := 4) rfl)) (fun _ h9 => h9) rfl dX11_count_73 ?_
          refine kV_i (rest := []) (q0 := 0) (ci := 0) hcf (m_X0_length l dC dI cI cS s.heap.size oG g1 g2 gn lG (g_gn) (g_lG)) kc_X0_length gX11_count_X0_length rfl rfl rfl ⟨Nat.le_of_ble_eq_true rfl, Nat.le_of_ble_eq_true rfl⟩ kX_t hK hP hD hS hA [5] [0, 1, 2, 3, 4, 6, 7, 8, 9] rfl (by decide +kernel) rfl rfl rfl hl rfl (Nat.le_of_ble_eq_true rfl) dX11_count_76 ⟨Nat.le_of_ble_eq_true rfl, Nat.le_of_ble_eq_true rfl⟩ (fun r_8 H locs hB hJ hSn => ?_)
          obtain ⟨⟨hP1, hD1⟩, hf8_0⟩ := hB
          obtain ⟨hPn, hDn⟩ := hJ _ hP1 hD1 [(oX, .inr (11, [.ref nT, .ref nL, .ref nM, .ref oC, .ref oP, .ref oH, .ref oK, .ref oG, .ref oR, .ref oQ, .ref oW, .int fa])), (nL, .inr (5, [.ref aL, .int lL])), (aL, .inl (cI, 300, .inl fL)), (nT, .inr (5, [.ref aT, .int lT])), (oH, .inr (4, [.ref oP, .ref h1, .ref h2, .int lH])), (oK, .inr (3, [.ref k1, .ref k2, .int lK])), (oC, .inr (2, [.ref o4, .ref o5])), (o4, .inr (10, [.ref a41, .ref a42, .ref a43, .int l4])), (o5, .inr (10, [.ref a51, .ref a52, .ref a53, .int l5])), (oG, .inr (0, [.ref g1, .ref g2, .int gn, .int lG]))] rfl
          clear hP hD hS hJ hP1 hD1
          have hP := hPn
          have hD := hDn
          have hS := hSn
          clear hPn hDn hSn
          rw [hf8_0]
          exact kl_i (v := lG) hQQ hx hb hr hlocks hS dX11_count_79 (kPD_sub hP hD [0, 1, 2, 3, 4, 9, 5, 6, 7, 8] (by decide +kernel) rfl)
        · skip
          have tc_7 : ¬ wh.toInt = 3 := v_ne c_7
          by_cases c_9 : wh = 4
          · refine lv_tableIn (tgt := 80) hx hb dX11_count_1 (by rw [c_9]; decide) (by rw [c_9]; decide) (by rw [c_9]; rfl) (by decide) ?_
            have tc_9 : wh.toInt = 4 := v_eq c_9
            refine lv_aload_n hx hb dX11_count_80 rfl (lv_at hl 0 rfl) ?_
            refine va_get (D := (dC, dI)) (ci := 11) (v := .ref nL) (C := RX11) (T := TX11) (N := 12) hx hb hts in_X11 hown hK hP 0 rfl rfl 1 (by decide) (hts (.fieldLink RX11 34 "TextMender" "letters" "LTextMender$Numbers;") (List.mem_of_getElem? (i := 1) rfl)) (fun _ h9 => h9) rfl dX11_count_81 ?_
            refine kS_i (rest := []) hcf (m_X11_marksOf l dC dI cI cS s.heap.size nL aL lL fL (g_lL)) kc_X11_marksOf gX11_count_X11_marksOf rfl rfl ⟨Nat.le_of_ble_eq_true rfl, Nat.le_of_ble_eq_true rfl⟩ kX_t hK hP hD hS hA [1, 2] [0, 3, 4, 5, 6, 7, 8, 9] rfl (by decide +kernel) rfl hl rfl (Nat.le_of_ble_eq_true rfl) dX11_count_84 ⟨Nat.le_of_ble_eq_true rfl, Nat.le_of_ble_eq_true rfl⟩ (fun r_10 H locs hB hJ hSn => ?_)
            obtain ⟨⟨hP1, hD1⟩, hf10_0⟩ := hB
            obtain ⟨hPn, hDn⟩ := hJ _ hP1 hD1 [(oX, .inr (11, [.ref nT, .ref nL, .ref nM, .ref oC, .ref oP, .ref oH, .ref oK, .ref oG, .ref oR, .ref oQ, .ref oW, .int fa])), (nT, .inr (5, [.ref aT, .int lT])), (oH, .inr (4, [.ref oP, .ref h1, .ref h2, .int lH])), (oG, .inr (0, [.ref g1, .ref g2, .int gn, .int lG])), (oK, .inr (3, [.ref k1, .ref k2, .int lK])), (oC, .inr (2, [.ref o4, .ref o5])), (o4, .inr (10, [.ref a41, .ref a42, .ref a43, .int l4])), (o5, .inr (10, [.ref a51, .ref a52, .ref a53, .int l5])), (nL, .inr (5, [.ref aL, .int lL])), (aL, .inl (cI, 300, .inl fL))] rfl
            clear hP hD hS hJ hP1 hD1
            have hP := hPn
            have hD := hDn
            have hS := hSn
            clear hPn hDn hSn
            exact kl_i (v := r_10) hQQ hx hb hr hlocks hS dX11_count_87 (kPD_sub hP hD [0, 8, 9, 1, 2, 3, 4, 5, 6, 7] (by decide +kernel) rfl)
          · skip
            have tc_9 : ¬ wh.toInt = 4 := v_ne c_9
            by_cases c_11 : wh = 5
            · refine lv_tableIn (tgt := 88) hx hb dX11_count_1 (by rw [c_11]; decide) (by rw [c_11]; decide) (by rw [c_11]; rfl) (by decide) ?_
              have tc_11 : wh.toInt = 5 := v_eq c_11
              refine lv_aload_n hx hb dX11_count_88 rfl (lv_at hl 0 rfl) ?_
              refine va_get (D := (dC, dI)) (ci := 11) (v := .ref oK) (C := RX11) (T := TX11) (N := 12) hx hb hts in_X11 hown hK hP 0 rfl rfl 6 (by decide) (hts (.fieldLink RX11 52 "TextMender" "costs" "LTextMender$Costs;") (List.mem_of_getElem? (i := 5) rfl)) (fun _ h9 => h9) rfl dX11_count_89 ?_
              refine kV_i (rest := []) (q0 := 0) (ci := 3) hcf (m_X3_length l dC dI cI cS s.heap.size oK k1 k2 lK (g_lK)) kc_X3_length gX11_count_X3_length rfl rfl rfl ⟨Nat.le_of_ble_eq_true rfl, Nat.le_of_ble_eq_true rfl⟩ kX_t hK hP hD hS hA [6] [0, 1, 2, 3, 4, 5, 7, 8, 9] rfl (by decide +kernel) rfl rfl rfl hl rfl (Nat.le_of_ble_eq_true rfl) dX11_count_92 ⟨Nat.le_of_ble_eq_true rfl, Nat.le_of_ble_eq_true rfl⟩ (fun r_12 H locs hB hJ hSn => ?_)
              obtain ⟨⟨hP1, hD1⟩, hf12_0⟩ := hB
              obtain ⟨hPn, hDn⟩ := hJ _ hP1 hD1 [(oX, .inr (11, [.ref nT, .ref nL, .ref nM, .ref oC, .ref oP, .ref oH, .ref oK, .ref oG, .ref oR, .ref oQ, .ref oW, .int fa])), (nL, .inr (5, [.ref aL, .int lL])), (aL, .inl (cI, 300, .inl fL)), (nT, .inr (5, [.ref aT, .int lT])), (oH, .inr (4, [.ref oP, .ref h1, .ref h2, .int lH])), (oG, .inr (0, [.ref g1, .ref g2, .int gn, .int lG])), (oC, .inr (2, [.ref o4, .ref o5])), (o4, .inr (10, [.ref a41, .ref a42, .ref a43, .int l4])), (o5, .inr (10, [.ref a51, .ref a52, .ref a53, .int l5])), (oK, .inr (3, [.ref k1, .ref k2, .int lK]))] rfl
              clear hP hD hS hJ hP1 hD1
              have hP := hPn
              have hD := hDn
              have hS := hSn
              clear hPn hDn hSn
              rw [hf12_0]
              exact kl_i (v := lK) hQQ hx hb hr hlocks hS dX11_count_95 (kPD_sub hP hD [0, 1, 2, 3, 4, 5, 9, 6, 7, 8] (by decide +kernel) rfl)
            · skip
              have tc_11 : ¬ wh.toInt = 5 := v_ne c_11
              by_cases c_13 : wh = 6
              · refine lv_tableIn (tgt := 96) hx hb dX11_count_1 (by rw [c_13]; decide) (by rw [c_13]; decide) (by rw [c_13]; rfl) (by decide) ?_
                have tc_13 : wh.toInt = 6 := v_eq c_13
                refine lv_aload_n hx hb dX11_count_96 rfl (lv_at hl 0 rfl) ?_
                refine va_get (D := (dC, dI)) (ci := 11) (v := .ref oC) (C := RX11) (T := TX11) (N := 12) hx hb hts in_X11 hown hK hP 0 rfl rfl 3 (by decide) (hts (.fieldLink RX11 40 "TextMender" "codes" "LTextMender$Codes;") (List.mem_of_getElem? (i := 6) rfl)) (fun _ h9 => h9) rfl dX11_count_97 ?_
                refine lv_iconst (v := 4) hx hb dX11_count_100 (by decide) ?_
                refine kV_i (rest := []) (q0 := 0) (ci := 2) hcf (m_X2_lengthOf l dC dI cI cS s.heap.size oC o4 o5 a41 a42 a43 a51 a52 a53 l4 l5 4 ) kc_X2_lengthOf gX11_count_X2_lengthOf rfl rfl rfl ⟨Nat.le_of_ble_eq_true rfl, Nat.le_of_ble_eq_true rfl⟩ kX_t hK hP hD hS hA [7, 8, 9] [0, 1, 2, 3, 4, 5, 6] rfl (by decide +kernel) rfl rfl rfl hl rfl (Nat.le_of_ble_eq_true rfl) dX11_count_101 ⟨Nat.le_of_ble_eq_true rfl, Nat.le_of_ble_eq_true rfl⟩ (fun r_14 H locs hB hJ hSn => ?_)
                obtain ⟨hP1, hD1⟩ := hB
                obtain ⟨hPn, hDn⟩ := hJ _ hP1 hD1 [(oX, .inr (11, [.ref nT, .ref nL, .ref nM, .ref oC, .ref oP, .ref oH, .ref oK, .ref oG, .ref oR, .ref oQ, .ref oW, .int fa])), (nL, .inr (5, [.ref aL, .int lL])), (aL, .inl (cI, 300, .inl fL)), (nT, .inr (5, [.ref aT, .int lT])), (oH, .inr (4, [.ref oP, .ref h1, .ref h2, .int lH])), (oG, .inr (0, [.ref g1, .ref g2, .int gn, .int lG])), (oK, .inr (3, [.ref k1, .ref k2, .int lK])), (oC, .inr (2, [.ref o4, .ref o5])), (o4, .inr (10, [.ref a41, .ref a42, .ref a43, .int l4])), (o5, .inr (10, [.ref a51, .ref a52, .ref a53, .int l5]))] rfl
                clear hP hD hS hJ hP1 hD1
                have hP := hPn
                have hD := hDn
                have hS := hSn
                clear hPn hDn hSn
                exact kl_i (v := r_14) hQQ hx hb hr hlocks hS dX11_count_104 ⟨hP, hD⟩
              · skip
                have tc_13 : ¬ wh.toInt = 6 := v_ne c_13
                by_cases c_15 : wh = 7
                · refine lv_tableIn (tgt := 105) hx hb dX11_count_1 (by rw [c_15]; decide) (by rw [c_15]; decide) (by rw [c_15]; rfl) (by decide) ?_
                  have tc_15 : wh.toInt = 7 := v_eq c_15
                  refine lv_aload_n hx hb dX11_count_105 rfl (lv_at hl 0 rfl) ?_
                  refine va_get (D := (dC, dI)) (ci := 11) (v := .ref oC) (C := RX11) (T := TX11) (N := 12) hx hb hts in_X11 hown hK hP 0 rfl rfl 3 (by decide) (hts (.fieldLink RX11 40 "TextMender" "codes" "LTextMender$Codes;") (List.mem_of_getElem? (i := 6) rfl)) (fun _ h9 => h9) rfl dX11_count_106 ?_
                  refine lv_iconst (v := 5) hx hb dX11_count_109 (by decide) ?_
                  refine kV_i (rest := []) (q0 := 0) (ci := 2) hcf (m_X2_lengthOf l dC dI cI cS s.heap.size oC o4 o5 a41 a42 a43 a51 a52 a53 l4 l5 5 ) kc_X2_lengthOf gX11_count_X2_lengthOf rfl rfl rfl ⟨Nat.le_of_ble_eq_true rfl, Nat.le_of_ble_eq_true rfl⟩ kX_t hK hP hD hS hA [7, 8, 9] [0, 1, 2, 3, 4, 5, 6] rfl (by decide +kernel) rfl rfl rfl hl rfl (Nat.le_of_ble_eq_true rfl) dX11_count_110 ⟨Nat.le_of_ble_eq_true rfl, Nat.le_of_ble_eq_true rfl⟩ (fun r_16 H locs hB hJ hSn => ?_)
                  obtain ⟨hP1, hD1⟩ := hB
                  obtain ⟨hPn, hDn⟩ := hJ _ hP1 hD1 [(oX, .inr (11, [.ref nT, .ref nL, .ref nM, .ref oC, .ref oP, .ref oH, .ref oK, .ref oG, .ref oR, .ref oQ, .ref oW, .int fa])), (nL, .inr (5, [.ref aL, .int lL])), (aL, .inl (cI, 300, .inl fL)), (nT, .inr (5, [.ref aT, .int lT])), (oH, .inr (4, [.ref oP, .ref h1, .ref h2, .int lH])), (oG, .inr (0, [.ref g1, .ref g2, .int gn, .int lG])), (oK, .inr (3, [.ref k1, .ref k2, .int lK])), (oC, .inr (2, [.ref o4, .ref o5])), (o4, .inr (10, [.ref a41, .ref a42, .ref a43, .int l4])), (o5, .inr (10, [.ref a51, .ref a52, .ref a53, .int l5]))] rfl
                  clear hP hD hS hJ hP1 hD1
                  have hP := hPn
                  have hD := hDn
                  have hS := hSn
                  clear hPn hDn hSn
                  exact kl_i (v := r_16) hQQ hx hb hr hlocks hS dX11_count_113 ⟨hP, hD⟩
                · skip
                  have tc_15 : ¬ wh.toInt = 7 := v_ne c_15
                  refine lv_tableOut (tgt := 114) hx hb dX11_count_1 (by omega) (by decide) ?_
                  refine lv_iconst (v := (-1)) hx hb dX11_count_114 (by decide) ?_
                  exact kl_i (v := (-1)) hQQ hx hb hr hlocks hS dX11_count_115 ⟨hP, hD⟩

set_option maxHeartbeats 40000000 in
set_option maxRecDepth 100000 in
theorem m_X11_writes (l : Launch) (dC : Nat → ClassId) (dI : Nat → Nat → Nat) (cI cS : ClassId) (sz : Nat) (oX : Nat) (nT : Nat) (nL : Nat) (nM : Nat) (oC : Nat) (oP : Nat) (oH : Nat) (oK : Nat) (oG : Nat) (oR : Nat) (oQ : Nat) (oW : Nat) (aL : Nat) (nB : Nat) (aB : Nat) (o4 : Nat) (o5 : Nat) (a41 : Nat) (a42 : Nat) (a43 : Nat) (a51 : Nat) (a52 : Nat) (a53 : Nat) (fa : Int32) (lL : Int32) (fL : Nat → Int32) (ft : Int32) (lB : Int32) (fB : Nat → Int32) (l4 : Int32) (f42 : Nat → Int32) (f43 : Nat → Int32) (l5 : Int32) (f52 : Nat → Int32) (f53 : Nat → Int32) (cd : Int32) (g_lL : 0 ≤ lL.toInt ∧ lL.toInt ≤ 300) (g_lB : 0 ≤ lB.toInt ∧ lB.toInt ≤ 2400) : kMi l yX11_writes wsX11_writes ({ frames := 4, cells := 0, slots := 0, locals := 94 } : Room) [.ref oX, .int cd] sz (dC, dI) vwCl [(cI, .int), (cS, .short)] [(oX, .inr (11, [.ref nT, .ref nL, .ref nM, .ref oC, .ref oP, .ref oH, .ref oK, .ref oG, .ref oR, .ref oQ, .ref oW, .int fa])), (nL, .inr (5, [.ref aL, .int lL])), (aL, .inl (cI, 300, .inl fL)), (oP, .inr (7, [.ref oC, .ref nB, .int ft])), (nB, .inr (5, [.ref aB, .int lB])), (aB, .inl (cI, 2400, .inl fB)), (oC, .inr (2, [.ref o4, .ref o5])), (o4, .inr (10, [.ref a41, .ref a42, .ref a43, .int l4])), (a42, .inl (cI, 512, .inl f42)), (a43, .inl (cI, 512, .inl f43)), (o5, .inr (10, [.ref a51, .ref a52, .ref a53, .int l5])), (a52, .inl (cI, 512, .inl f52)), (a53, .inl (cI, 512, .inl f53))] (fun _ => True) 0 0 (fun (A : Nat → Prop) (r : Int32) (hh9 : Heap) => ∃ (fa' : Int32) (ft' : Int32) (lB' : Int32) (fB' : Nat → Int32), kPD (dC, dI) vwCl A [(oX, .inr (11, [.ref nT, .ref nL, .ref nM, .ref oC, .ref oP, .ref oH, .ref oK, .ref oG, .ref oR, .ref oQ, .ref oW, .int fa'])), (nL, .inr (5, [.ref aL, .int lL])), (aL, .inl (cI, 300, .inl fL)), (oP, .inr (7, [.ref oC, .ref nB, .int ft'])), (nB, .inr (5, [.ref aB, .int lB'])), (aB, .inl (cI, 2400, .inl fB')), (oC, .inr (2, [.ref o4, .ref o5])), (o4, .inr (10, [.ref a41, .ref a42, .ref a43, .int l4])), (a42, .inl (cI, 512, .inl f42)), (a43, .inl (cI, 512, .inl f43)), (o5, .inr (10, [.ref a51, .ref a52, .ref a53, .int l5])), (a52, .inl (cI, 512, .inl f52)), (a53, .inl (cI, 512, .inl f53))] hh9 ∧ (0 ≤ lB'.toInt ∧ lB'.toInt ≤ 2400) ∧ (0 ≤ r.toInt ∧ r.toInt ≤ 1)) := by
  refine kMi_of (cc := cX11_writes) (maxL := 3) (ret := (some .boolean)) (lv := [(0, .ref oX), (1, .int cd)]) (by decide +kernel) rfl rfl (Nat.le_of_ble_eq_true rfl) ?_
  intro p e s m below meth c A QQ ls hx hb hr hts hml hown hlocks hA hQQ hK hX hP hD hS hl
  have hown : s.vm.findClass RX11 = some m.cls := hown
  have hcf := k_cf hx hb hml hown hts
  have in_X11 : ∀ w ∈ wsX110, w ∈ wsX11_writes := fun _ h => List.mem_cons_of_mem _ (List.mem_append_left _ (List.mem_append_left _ (List.mem_append_left _ (List.mem_append_left _ (List.mem_append_right _ (h))))))
  replace g_lL := hid g_lL
  replace g_lB := hid g_lB
  refine lv_aload_n hx hb dX11_writes_0 rfl (lv_at hl 0 rfl) ?_
  refine lv_iconst (v := (-1)) hx hb dX11_writes_1 (by decide) ?_
  refine va_put (D := (dC, dI)) (ci := 11) (v := .int (-1)) (ty := .int) (C := RX11) (T := TX11) (N := 12) hx hb hts in_X11 tyX11 tyX11_ok nmX11 hown hK hP hD hS 0 rfl rfl 11 (by decide) (hts (.fieldLink RX11 90 "TextMender" "fault" "I") (List.mem_of_getElem? (i := 1) rfl)) (fun _ h9 => h9) rfl (by decide +kernel) rfl rfl (Nat.le_of_ble_eq_true rfl) dX11_writes_2 (kW (wn := [(oX, .inr (11, [.ref nT, .ref nL, .ref nM, .ref oC, .ref oP, .ref oH, .ref oK, .ref oG, .ref oR, .ref oQ, .ref oW, .int (-1)])), (nL, .inr (5, [.ref aL, .int lL])), (aL, .inl (cI, 300, .inl fL)), (oP, .inr (7, [.ref oC, .ref nB, .int ft])), (nB, .inr (5, [.ref aB, .int lB])), (aB, .inl (cI, 2400, .inl fB)), (oC, .inr (2, [.ref o4, .ref o5])), (o4, .inr (10, [.ref a41, .ref a42, .ref a43, .int l4])), (a42, .inl (cI, 512, .inl f42)), (a43, .inl (cI, 512, .inl f43)), (o5, .inr (10, [.ref a51, .ref a52, .ref a53, .int l5])), (a52, .inl (cI, 512, .inl f52)), (a53, .inl (cI, 512, .inl f53))]) rfl (fun H locs hPn hDn hSn => ?_))
  clear hP hD hS
  have hP := hPn
  have hD := hDn
  have hS := hSn
  clear hPn hDn hSn
  refine lv_iload_n hx hb dX11_writes_5 rfl (lv_at hl 1 rfl) ?_
  refine kS_i (rest := []) hcf (m_X2_known l dC dI cI cS H.size cd ) kc_X2_known gX11_writes_X2_known rfl rfl ⟨Nat.le_of_ble_eq_true rfl, Nat.le_of_ble_eq_true rfl⟩ kX_t hK hP hD hS hA [] [0, 1, 2, 3, 4, 5, 6, 7, 8, 9, 10, 11, 12] rfl (by decide +kernel) rfl hl rfl (Nat.le_of_ble_eq_true rfl) dX11_writes_6 ⟨Nat.le_of_ble_eq_true rfl, Nat.le_of_ble_eq_true rfl⟩ (fun r_1 H locs hB hJ hSn => ?_)
  obtain ⟨⟨hP1, hD1⟩, hf1_0, hf1_1⟩ := hB
  obtain ⟨hPn, hDn⟩ := hJ _ hP1 hD1 [(oX, .inr (11, [.ref nT, .ref nL, .ref nM, .ref oC, .ref oP, .ref oH, .ref oK, .ref oG, .ref oR, .ref oQ, .ref oW, .int (-1)])), (nL, .inr (5, [.ref aL, .int lL])), (aL, .inl (cI, 300, .inl fL)), (oP, .inr (7, [.ref oC, .ref nB, .int ft])), (nB, .inr (5, [.ref aB, .int lB])), (aB, .inl (cI, 2400, .inl fB)), (oC, .inr (2, [.ref o4, .ref o5])), (o4, .inr (10, [.ref a41, .ref a42, .ref a43, .int l4])), (a42, .inl (cI, 512, .inl f42)), (a43, .inl (cI, 512, .inl f43)), (o5, .inr (10, [.ref a51, .ref a52, .ref a53, .int l5])), (a52, .inl (cI, 512, .inl f52)), (a53, .inl (cI, 512, .inl f53))] rfl
  clear hP hD hS hJ hP1 hD1
  have hP := hPn
  have hD := hDn
  have hS := hSn
  clear hPn hDn hSn
  refine lv_if_ne (tgt := 14) hx hb dX11_writes_9 (by decide) (fun c_2 => ?_) (fun c_2 => ?_)
  · have tc_2 : ¬ r_1.toInt = 0 := v_ne c_2
    refine lv_aload_n hx hb dX11_writes_14 rfl (lv_at hl 0 rfl) ?_
    refine va_get (D := (dC, dI)) (ci := 11) (v := .ref oP) (C := RX11) (T := TX11) (N := 12) hx hb hts in_X11 hown hK hP 0 rfl rfl 4 (by decide) (hts (.fieldLink RX11 44 "TextMender" "passage" "LTextMender$Passage;") (List.mem_of_getElem? (i := 2) rfl)) (fun _ h9 => h9) rfl dX11_writes_15 ?_
    refine lv_iload_n hx hb dX11_writes_18 rfl (lv_at hl 1 rfl) ?_
    refine lv_aload_n hx hb dX11_writes_19 rfl (lv_at hl 0 rfl) ?_
    refine va_get (D := (dC, dI)) (ci := 11) (v := .ref nL) (C := RX11) (T := TX11) (N := 12) hx hb hts in_X11 hown hK hP 0 rfl rfl 1 (by decide) (hts (.fieldLink RX11 34 "TextMender" "letters" "LTextMender$Numbers;") (List.mem_of_getElem? (i := 3) rfl)) (fun _ h9 => h9) rfl dX11_writes_20 ?_
    refine kV_i (rest := []) (q0 := 0) (ci := 7) hcf (m_X7_write l dC dI cI cS H.size oP nL oC nB aB o4 o5 a41 a42 a43 a51 a52 a53 aL ft lB fB l4 f42 f43 l5 f52 f53 lL fL cd (g_lB) (g_lL)) kc_X7_write gX11_writes_X7_write rfl rfl rfl ⟨Nat.le_of_ble_eq_true rfl, Nat.le_of_ble_eq_true rfl⟩ kX_t hK hP hD hS hA [3, 4, 5, 6, 7, 8, 9, 10, 11, 12, 1, 2] [0] rfl (by decide +kernel) rfl rfl rfl hl rfl (Nat.le_of_ble_eq_true rfl) dX11_writes_23 ⟨Nat.le_of_ble_eq_true rfl, Nat.le_of_ble_eq_true rfl⟩ (fun r_3 H locs hB hJ hSn => ?_)
    obtain ⟨ft_3, lB_3, fB_3, ⟨hP1, hD1⟩, hf3_0, hf3_1⟩ := hB
    obtain ⟨hPn, hDn⟩ := hJ _ hP1 hD1 [(oX, .inr (11, [.ref nT, .ref nL, .ref nM, .ref oC, .ref oP, .ref oH, .ref oK, .ref oG, .ref oR, .ref oQ, .ref oW, .int (-1)])), (oP, .inr (7, [.ref oC, .ref nB, .int ft_3])), (nB, .inr (5, [.ref aB, .int lB_3])), (aB, .inl (cI, 2400, .inl fB_3)), (oC, .inr (2, [.ref o4, .ref o5])), (o4, .inr (10, [.ref a41, .ref a42, .ref a43, .int l4])), (a42, .inl (cI, 512, .inl f42)), (a43, .inl (cI, 512, .inl f43)), (o5, .inr (10, [.ref a51, .ref a52, .ref a53, .int l5])), (a52, .inl (cI, 512, .inl f52)), (a53, .inl (cI, 512, .inl f53)), (nL, .inr (5, [.ref aL, .int lL])), (aL, .inl (cI, 300, .inl fL))] rfl
    clear hP hD hS hJ hP1 hD1
    have hP := hPn
    have hD := hDn
    have hS := hSn
    clear hPn hDn hSn
    refine lv_istore_n (lv' := [(2, .int r_3), (0, .ref oX), (1, .int cd)]) hx hb dX11_writes_26 rfl hl (by decide) rfl (fun ls hl => ?_)
    refine lv_aload_n hx hb dX11_writes_27 rfl (lv_at hl 1 rfl) ?_
    refine lv_aload_n hx hb dX11_writes_28 rfl (lv_at hl 1 rfl) ?_
    refine va_get (D := (dC, dI)) (ci := 11) (v := .ref oP) (C := RX11) (T := TX11) (N := 12) hx hb hts in_X11 hown hK hP 0 rfl rfl 4 (by decide) (hts (.fieldLink RX11 44 "TextMender" "passage" "LTextMender$Passage;") (List.mem_of_getElem? (i := 2) rfl)) (fun _ h9 => h9) rfl dX11_writes_29 ?_
    refine kV_i (rest := [.ref oX]) (q0 := 0) (ci := 7) hcf (m_X7_fault l dC dI cI cS H.size oP oC nB ft_3 ) kc_X7_fault gX11_writes_X7_fault rfl rfl rfl ⟨Nat.le_of_ble_eq_true rfl, Nat.le_of_ble_eq_true rfl⟩ kX_t hK hP hD hS hA [1] [0, 2, 3, 4, 5, 6, 7, 8, 9, 10, 11, 12] rfl (by decide +kernel) rfl rfl rfl hl rfl (Nat.le_of_ble_eq_true rfl) dX11_writes_32 ⟨Nat.le_of_ble_eq_true rfl, Nat.le_of_ble_eq_true rfl⟩ (fun r_4 H locs hB hJ hSn => ?_)
    obtain ⟨⟨hP1, hD1⟩, hf4_0⟩ := hB
    obtain ⟨hPn, hDn⟩ := hJ _ hP1 hD1 [(oX, .inr (11, [.ref nT, .ref nL, .ref nM, .ref oC, .ref oP, .ref oH, .ref oK, .ref oG, .ref oR, .ref oQ, .ref oW, .int (-1)])), (nB, .inr (5, [.ref aB, .int lB_3])), (aB, .inl (cI, 2400, .inl fB_3)), (oC, .inr (2, [.ref o4, .ref o5])), (o4, .inr (10, [.ref a41, .ref a42, .ref a43, .int l4])), (a42, .inl (cI, 512, .inl f42)), (a43, .inl (cI, 512, .inl f43)), (o5, .inr (10, [.ref a51, .ref a52, .ref a53, .int l5])), (a52, .inl (cI, 512, .inl f52)), (a53, .inl (cI, 512, .inl f53)), (nL, .inr (5, [.ref aL, .int lL])), (aL, .inl (cI, 300, .inl fL)), (oP, .inr (7, [.ref oC, .ref nB, .int ft_3]))] rfl
    clear hP hD hS hJ hP1 hD1
    have hP := hPn
    have hD := hDn
    have hS := hSn
    clear hPn hDn hSn
    rw [hf4_0]
    refine va_put (D := (dC, dI)) (ci := 11) (v := .int ft_3) (ty := .int) (C := RX11) (T := TX11) (N := 12) hx hb hts in_X11 tyX11 tyX11_ok nmX11 hown hK hP hD hS 0 rfl rfl 11 (by decide) (hts (.fieldLink RX11 90 "TextMender" "fault" "I") (List.mem_of_getElem? (i := 1) rfl)) (fun _ h9 => h9) rfl (by decide +kernel) rfl rfl (Nat.le_of_ble_eq_true rfl) dX11_writes_35 (kW (wn := [(oX, .inr (11, [.ref nT, .ref nL, .ref nM, .ref oC, .ref oP, .ref oH, .ref oK, .ref oG, .ref oR, .ref oQ, .ref oW, .int ft_3])), (nB, .inr (5, [.ref aB, .int lB_3])), (aB, .inl (cI, 2400, .inl fB_3)), (oC, .inr (2, [.ref o4, .ref o5])), (o4, .inr (10, [.ref a41, .ref a42, .ref a43, .int l4])), (a42, .inl (cI, 512, .inl f42)), (a43, .inl (cI, 512, .inl f43)), (o5, .inr (10, [.ref a51, .ref a52, .ref a53, .int l5])), (a52, .inl (cI, 512, .inl f52)), (a53, .inl (cI, 512, .inl f53)), (nL, .inr (5, [.ref aL, .int lL])), (aL, .inl (cI, 300, .inl fL)), (oP, .inr (7, [.ref oC, .ref nB, .int ft_3]))]) rfl (fun H locs hPn hDn hSn => ?_))
    clear hP hD hS
    have hP := hPn
    have hD := hDn
    have hS := hSn
    clear hPn hDn hSn
    refine lv_iload_n hx hb dX11_writes_38 rfl (lv_at hl 0 rfl) ?_
    exact kl_z (v := r_3) hQQ hx hb hr hlocks hS dX11_writes_39 (v_bool (by omega)) ⟨ft_3, ft_3, lB_3, fB_3, kPD_sub hP hD [0, 10, 11, 12, 1, 2, 3, 4, 5, 6, 7, 8, 9] (by decide +kernel) rfl, hf3_0, hf3_1⟩
  · have tc_2 : r_1.toInt = 0 := v_eq c_2
    refine lv_iconst (v := 0) hx hb dX11_writes_12 (by decide) ?_
    exact kl_z (v := 0) hQQ hx hb hr hlocks hS dX11_writes_13 (rfl) ⟨(-1), ft, lB, fB, ⟨hP, hD⟩, g_lB, by decide⟩

set_option maxHeartbeats 40000000 in
set_option maxRecDepth 100000 in
theorem x_size (l : Launch) (dC : Nat → ClassId) (dI : Nat → Nat → Nat) (cI cS : ClassId) (sz : Nat) (oX : Nat) (nT : Nat) (nL : Nat) (nM : Nat) (oC : Nat) (oP : Nat) (oH : Nat) (oK : Nat) (oG : Nat) (oR : Nat) (oQ : Nat) (oW : Nat) (aL : Nat) (nB : Nat) (aB : Nat) (o4 : Nat) (o5 : Nat) (a41 : Nat) (a42 : Nat) (a43 : Nat) (a51 : Nat) (a52 : Nat) (a53 : Nat) (fa : Int32) (lL : Int32) (fL : Nat → Int32) (ft : Int32) (lB : Int32) (fB : Nat → Int32) (l4 : Int32) (f42 : Nat → Int32) (f43 : Nat → Int32) (l5 : Int32) (f52 : Nat → Int32) (f53 : Nat → Int32) (cd : Int32) (g_lL : 0 ≤ lL.toInt ∧ lL.toInt ≤ 300) (g_lB : 0 ≤ lB.toInt ∧ lB.toInt ≤ 2400) : kMi l yX11_size wsX11_size ({ frames := 5, cells := 0, slots := 0, locals := 116 } : Room) [.ref oX, .int cd] sz (dC, dI) vwCl [(cI, .int), (cS, .short)] [(oX, .inr (11, [.ref nT, .ref nL, .ref nM, .ref oC, .ref oP, .ref oH, .ref oK, .ref oG, .ref oR, .ref oQ, .ref oW, .int fa])), (nL, .inr (5, [.ref aL, .int lL])), (aL, .inl (cI, 300, .inl fL)), (oP, .inr (7, [.ref oC, .ref nB, .int ft])), (nB, .inr (5, [.ref aB, .int lB])), (aB, .inl (cI, 2400, .inl fB)), (oC, .inr (2, [.ref o4, .ref o5])), (o4, .inr (10, [.ref a41, .ref a42, .ref a43, .int l4])), (a42, .inl (cI, 512, .inl f42)), (a43, .inl (cI, 512, .inl f43)), (o5, .inr (10, [.ref a51, .ref a52, .ref a53, .int l5])), (a52, .inl (cI, 512, .inl f52)), (a53, .inl (cI, 512, .inl f53))] (fun _ => True) 0 0 (fun (A : Nat → Prop) (r : Int32) (hh9 : Heap) => ∃ (fa' : Int32) (ft' : Int32) (lB' : Int32) (fB' : Nat → Int32), kPD (dC, dI) vwCl A [(oX, .inr (11, [.ref nT, .ref nL, .ref nM, .ref oC, .ref oP, .ref oH, .ref oK, .ref oG, .ref oR, .ref oQ, .ref oW, .int fa'])), (nL, .inr (5, [.ref aL, .int lL])), (aL, .inl (cI, 300, .inl fL)), (oP, .inr (7, [.ref oC, .ref nB, .int ft'])), (nB, .inr (5, [.ref aB, .int lB'])), (aB, .inl (cI, 2400, .inl fB')), (oC, .inr (2, [.ref o4, .ref o5])), (o4, .inr (10, [.ref a41, .ref a42, .ref a43, .int l4])), (a42, .inl (cI, 512, .inl f42)), (a43, .inl (cI, 512, .inl f43)), (o5, .inr (10, [.ref a51, .ref a52, .ref a53, .int l5])), (a52, .inl (cI, 512, .inl f52)), (a53, .inl (cI, 512, .inl f53))] hh9 ∧ (0 ≤ lB'.toInt ∧ lB'.toInt ≤ 2400)) := by
  refine kMi_of (cc := cX11_size) (maxL := 2) (ret := (some .int)) (lv := [(0, .ref oX), (1, .int cd)]) (by decide +kernel) rfl rfl (Nat.le_of_ble_eq_true rfl) ?_
  intro p e s m below meth c A QQ ls hx hb hr hts hml hown hlocks hA hQQ hK hX hP hD hS hl
  have hown : s.vm.findClass RX11 = some m.cls := hown
  have hcf := k_cf hx hb hml hown hts
  have in_X11 : ∀ w ∈ wsX110, w ∈ wsX11_size := fun _ h => List.mem_cons_of_mem _ (List.mem_append_left _ (List.mem_append_left _ (List.mem_append_left _ (List.mem_append_left _ (List.mem_append_right _ (h))))))
  replace g_lL := hid g_lL
  replace g_lB := hid g_lB
  refine lv_aload_n hx hb dX11_size_0 rfl (lv_at hl 0 rfl) ?_
  refine lv_iload_n hx hb dX11_size_1 rfl (lv_at hl 1 rfl) ?_
  refine kV_i (rest := []) (q0 := 0) (ci := 11) hcf (m_X11_writes l dC dI cI cS s.heap.size oX nT nL nM oC oP oH oK oG oR oQ oW aL nB aB o4 o5 a41 a42 a43 a51 a52 a53 fa lL fL ft lB fB l4 f42 f43 l5 f52 f53 cd (g_lL) (g_lB)) kc_X11_writes gX11_size_X11_writes rfl rfl rfl ⟨Nat.le_of_ble_eq_true rfl, Nat.le_of_ble_eq_true rfl⟩ kX_t hK hP hD hS hA [0, 1, 2, 3, 4, 5, 6, 7, 8, 9, 10, 11, 12] [] rfl (by decide +kernel) rfl rfl rfl hl rfl (Nat.le_of_ble_eq_true rfl) dX11_size_2 ⟨Nat.le_of_ble_eq_true rfl, Nat.le_of_ble_eq_true rfl⟩ (fun r_1 H locs hB hJ hSn => ?_)
  obtain ⟨fa_1, ft_1, lB_1, fB_1, ⟨hP1, hD1⟩, hf1_0, hf1_1⟩ := hB
  obtain ⟨hPn, hDn⟩ := hJ _ hP1 hD1 [(oX, .inr (11, [.ref nT, .ref nL, .ref nM, .ref oC, .ref oP, .ref oH, .ref oK, .ref oG, .ref oR, .ref oQ, .ref oW, .int fa_1])), (nL, .inr (5, [.ref aL, .int lL])), (aL, .inl (cI, 300, .inl fL)), (oP, .inr (7, [.ref oC, .ref nB, .int ft_1])), (nB, .inr (5, [.ref aB, .int lB_1])), (aB, .inl (cI, 2400, .inl fB_1)), (oC, .inr (2, [.ref o4, .ref o5])), (o4, .inr (10, [.ref a41, .ref a42, .ref a43, .int l4])), (a42, .inl (cI, 512, .inl f42)), (a43, .inl (cI, 512, .inl f43)), (o5, .inr (10, [.ref a51, .ref a52, .ref a53, .int l5])), (a52, .inl (cI, 512, .inl f52)), (a53, .inl (cI, 512, .inl f53))] rfl
  clear hP hD hS hJ hP1 hD1
  have hP := hPn
  have hD := hDn
  have hS := hSn
  clear hPn hDn hSn
  refine lv_if_eq (tgt := 21) hx hb dX11_size_5 (by decide) (fun c_2 => ?_) (fun c_2 => ?_)
  · have tc_2 : r_1.toInt = 0 := v_eq c_2
    refine lv_iconst (v := (-1)) hx hb dX11_size_21 (by decide) ?_
    exact kl_i (v := (-1)) hQQ hx hb hr hlocks hS dX11_size_22 ⟨fa_1, ft_1, lB_1, fB_1, ⟨hP, hD⟩, hf1_0⟩
  · have tc_2 : ¬ r_1.toInt = 0 := v_ne c_2
    refine lv_aload_n hx hb dX11_size_8 rfl (lv_at hl 0 rfl) ?_
    refine va_get (D := (dC, dI)) (ci := 11) (v := .ref oP) (C := RX11) (T := TX11) (N := 12) hx hb hts in_X11 hown hK hP 0 rfl rfl 4 (by decide) (hts (.fieldLink RX11 44 "TextMender" "passage" "LTextMender$Passage;") (List.mem_of_getElem? (i := 1) rfl)) (fun _ h9 => h9) rfl dX11_size_9 ?_
    refine kV_r (rest := []) (q0 := 0) (ci := 7) hcf (m_X7_bytes l dC dI cI cS H.size oP oC nB ft_1 ) kc_X7_bytes gX11_size_X7_bytes rfl rfl rfl ⟨Nat.le_of_ble_eq_true rfl, Nat.le_of_ble_eq_true rfl⟩ kX_t hK hP hD hS hA [3] [0, 1, 2, 4, 5, 6, 7, 8, 9, 10, 11, 12] rfl (by decide +kernel) rfl rfl rfl hl rfl (Nat.le_of_ble_eq_true rfl) dX11_size_12 ⟨Nat.le_of_ble_eq_true rfl, Nat.le_of_ble_eq_true rfl⟩ (fun r_3 H locs hB hJ hSn => ?_)
    obtain ⟨hra, ⟨hP1, hD1⟩⟩ := hB
    rw [hra]
    obtain ⟨hPn, hDn⟩ := hJ _ hP1 hD1 [(oX, .inr (11, [.ref nT, .ref nL, .ref nM, .ref oC, .ref oP, .ref oH, .ref oK, .ref oG, .ref oR, .ref oQ, .ref oW, .int fa_1])), (nL, .inr (5, [.ref aL, .int lL])), (aL, .inl (cI, 300, .inl fL)), (nB, .inr (5, [.ref aB, .int lB_1])), (aB, .inl (cI, 2400, .inl fB_1)), (oC, .inr (2, [.ref o4, .ref o5])), (o4, .inr (10, [.ref a41, .ref a42, .ref a43, .int l4])), (a42, .inl (cI, 512, .inl f42)), (a43, .inl (cI, 512, .inl f43)), (o5, .inr (10, [.ref a51, .ref a52, .ref a53, .int l5])), (a52, .inl (cI, 512, .inl f52)), (a53, .inl (cI, 512, .inl f53)), (oP, .inr (7, [.ref oC, .ref nB, .int ft_1]))] rfl
    clear hP hD hS hJ hP1 hD1
    have hP := hPn
    have hD := hDn
    have hS := hSn
    clear hPn hDn hSn
    refine kV_i (rest := []) (q0 := 0) (ci := 5) hcf (m_X5_length l dC dI cI cS H.size nB aB lB_1 ) kc_X5_length gX11_size_X5_length rfl rfl rfl ⟨Nat.le_of_ble_eq_true rfl, Nat.le_of_ble_eq_true rfl⟩ kX_t hK hP hD hS hA [3] [0, 1, 2, 4, 5, 6, 7, 8, 9, 10, 11, 12] rfl (by decide +kernel) rfl rfl rfl hl rfl (Nat.le_of_ble_eq_true rfl) dX11_size_15 ⟨Nat.le_of_ble_eq_true rfl, Nat.le_of_ble_eq_true rfl⟩ (fun r_4 H locs hB hJ hSn => ?_)
    obtain ⟨⟨hP1, hD1⟩, hf4_0⟩ := hB
    obtain ⟨hPn, hDn⟩ := hJ _ hP1 hD1 [(oX, .inr (11, [.ref nT, .ref nL, .ref nM, .ref oC, .ref oP, .ref oH, .ref oK, .ref oG, .ref oR, .ref oQ, .ref oW, .int fa_1])), (nL, .inr (5, [.ref aL, .int lL])), (aL, .inl (cI, 300, .inl fL)), (aB, .inl (cI, 2400, .inl fB_1)), (oC, .inr (2, [.ref o4, .ref o5])), (o4, .inr (10, [.ref a41, .ref a42, .ref a43, .int l4])), (a42, .inl (cI, 512, .inl f42)), (a43, .inl (cI, 512, .inl f43)), (o5, .inr (10, [.ref a51, .ref a52, .ref a53, .int l5])), (a52, .inl (cI, 512, .inl f52)), (a53, .inl (cI, 512, .inl f53)), (oP, .inr (7, [.ref oC, .ref nB, .int ft_1])), (nB, .inr (5, [.ref aB, .int lB_1]))] rfl
    clear hP hD hS hJ hP1 hD1
    have hP := hPn
    have hD := hDn
    have hS := hSn
    clear hPn hDn hSn
    rw [hf4_0]
    refine lv_goto (tgt := 22) hx hb dX11_size_18 (by decide) ?_
    exact kl_i (v := lB_1) hQQ hx hb hr hlocks hS dX11_size_22 ⟨fa_1, ft_1, lB_1, fB_1, kPD_sub hP hD [0, 1, 2, 11, 12, 3, 4, 5, 6, 7, 8, 9, 10] (by decide +kernel) rfl, hf1_0⟩

set_option maxHeartbeats 40000000 in
set_option maxRecDepth 100000 in
theorem x_byteOf (l : Launch) (dC : Nat → ClassId) (dI : Nat → Nat → Nat) (cI cS : ClassId) (sz : Nat) (oX : Nat) (nT : Nat) (nL : Nat) (nM : Nat) (oC : Nat) (oP : Nat) (oH : Nat) (oK : Nat) (oG : Nat) (oR : Nat) (oQ : Nat) (oW : Nat) (aL : Nat) (nB : Nat) (aB : Nat) (o4 : Nat) (o5 : Nat) (a41 : Nat) (a42 : Nat) (a43 : Nat) (a51 : Nat) (a52 : Nat) (a53 : Nat) (fa : Int32) (lL : Int32) (fL : Nat → Int32) (ft : Int32) (lB : Int32) (fB : Nat → Int32) (l4 : Int32) (f42 : Nat → Int32) (f43 : Nat → Int32) (l5 : Int32) (f52 : Nat → Int32) (f53 : Nat → Int32) (cd : Int32) (i : Int32) (g_lL : 0 ≤ lL.toInt ∧ lL.toInt ≤ 300) (g_lB : 0 ≤ lB.toInt ∧ lB.toInt ≤ 2400) : kMi l yX11_byteOf wsX11_byteOf ({ frames := 5, cells := 0, slots := 0, locals := 116 } : Room) [.ref oX, .int cd, .int i] sz (dC, dI) vwCl [(cI, .int), (cS, .short)] [(oX, .inr (11, [.ref nT, .ref nL, .ref nM, .ref oC, .ref oP, .ref oH, .ref oK, .ref oG, .ref oR, .ref oQ, .ref oW, .int fa])), (nL, .inr (5, [.ref aL, .int lL])), (aL, .inl (cI, 300, .inl fL)), (oP, .inr (7, [.ref oC, .ref nB, .int ft])), (nB, .inr (5, [.ref aB, .int lB])), (aB, .inl (cI, 2400, .inl fB)), (oC, .inr (2, [.ref o4, .ref o5])), (o4, .inr (10, [.ref a41, .ref a42, .ref a43, .int l4])), (a42, .inl (cI, 512, .inl f42)), (a43, .inl (cI, 512, .inl f43)), (o5, .inr (10, [.ref a51, .ref a52, .ref a53, .int l5])), (a52, .inl (cI, 512, .inl f52)), (a53, .inl (cI, 512, .inl f53))] (fun _ => True) 0 0 (fun (A : Nat → Prop) (r : Int32) (hh9 : Heap) => ∃ (fa' : Int32) (ft' : Int32) (lB' : Int32) (fB' : Nat → Int32), kPD (dC, dI) vwCl A [(oX, .inr (11, [.ref nT, .ref nL, .ref nM, .ref oC, .ref oP, .ref oH, .ref oK, .ref oG, .ref oR, .ref oQ, .ref oW, .int fa'])), (nL, .inr (5, [.ref aL, .int lL])), (aL, .inl (cI, 300, .inl fL)), (oP, .inr (7, [.ref oC, .ref nB, .int ft'])), (nB, .inr (5, [.ref aB, .int lB'])), (aB, .inl (cI, 2400, .inl fB')), (oC, .inr (2, [.ref o4, .ref o5])), (o4, .inr (10, [.ref a41, .ref a42, .ref a43, .int l4])), (a42, .inl (cI, 512, .inl f42)), (a43, .inl (cI, 512, .inl f43)), (o5, .inr (10, [.ref a51, .ref a52, .ref a53, .int l5])), (a52, .inl (cI, 512, .inl f52)), (a53, .inl (cI, 512, .inl f53))] hh9 ∧ (0 ≤ lB'.toInt ∧ lB'.toInt ≤ 2400)) := by
  refine kMi_of (cc := cX11_byteOf) (maxL := 3) (ret := (some .int)) (lv := [(0, .ref oX), (1, .int cd), (2, .int i)]) (by decide +kernel) rfl rfl (Nat.le_of_ble_eq_true rfl) ?_
  intro p e s m below meth c A QQ ls hx hb hr hts hml hown hlocks hA hQQ hK hX hP hD hS hl
  have hown : s.vm.findClass RX11 = some m.cls := hown
  have hcf := k_cf hx hb hml hown hts
  have in_X11 : ∀ w ∈ wsX110, w ∈ wsX11_byteOf := fun _ h => List.mem_cons_of_mem _ (List.mem_append_left _ (List.mem_append_left _ (List.mem_append_left _ (List.mem_append_left _ (List.mem_append_right _ (h))))))
  replace g_lL := hid g_lL
  replace g_lB := hid g_lB
  refine lv_aload_n hx hb dX11_byteOf_0 rfl (lv_at hl 0 rfl) ?_
  refine lv_iload_n hx hb dX11_byteOf_1 rfl (lv_at hl 1 rfl) ?_
  refine kV_i (rest := []) (q0 := 0) (ci := 11) hcf (m_X11_writes l dC dI cI cS s.heap.size oX nT nL nM oC oP oH oK oG oR oQ oW aL nB aB o4 o5 a41 a42 a43 a51 a52 a53 fa lL fL ft lB fB l4 f42 f43 l5 f52 f53 cd (g_lL) (g_lB)) kc_X11_writes gX11_byteOf_X11_writes rfl rfl rfl ⟨Nat.le_of_ble_eq_true rfl, Nat.le_of_ble_eq_true rfl⟩ kX_t hK hP hD hS hA [0, 1, 2, 3, 4, 5, 6, 7, 8, 9, 10, 11, 12] [] rfl (by decide +kernel) rfl rfl rfl hl rfl (Nat.le_of_ble_eq_true rfl) dX11_byteOf_2 ⟨Nat.le_of_ble_eq_true rfl, Nat.le_of_ble_eq_true rfl⟩ (fun r_1 H locs hB hJ hSn => ?_)
  obtain ⟨fa_1, ft_1, lB_1, fB_1, ⟨hP1, hD1⟩, hf1_0, hf1_1⟩ := hB
  obtain ⟨hPn, hDn⟩ := hJ _ hP1 hD1 [(oX, .inr (11, [.ref nT, .ref nL, .ref nM, .ref oC, .ref oP, .ref oH, .ref oK, .ref oG, .ref oR, .ref oQ, .ref oW, .int fa_1])), (nL, .inr (5, [.ref aL, .int lL])), (aL, .inl (cI, 300, .inl fL)), (oP, .inr (7, [.ref oC, .ref nB, .int ft_1])), (nB, .inr (5, [.ref aB, .int lB_1])), (aB, .inl (cI, 2400, .inl fB_1)), (oC, .inr (2, [.ref o4, .ref o5])), (o4, .inr (10, [.ref a41, .ref a42, .ref a43, .int l4])), (a42, .inl (cI, 512, .inl f42)), (a43, .inl (cI, 512, .inl f43)), (o5, .inr (10, [.ref a51, .ref a52, .ref a53, .int l5])), (a52, .inl (cI, 512, .inl f52)), (a53, .inl (cI, 512, .inl f53))] rfl
  clear hP hD hS hJ hP1 hD1
  have hP := hPn
  have hD := hDn
  have hS := hSn
  clear hPn hDn hSn
  refine lv_if_eq (tgt := 22) hx hb dX11_byteOf_5 (by decide) (fun c_2 => ?_) (fun c_2 => ?_)
  · have tc_2 : r_1.toInt = 0 := v_eq c_2
    refine lv_iconst (v := (-1)) hx hb dX11_byteOf_22 (by decide) ?_
    exact kl_i (v := (-1)) hQQ hx hb hr hlocks hS dX11_byteOf_23 ⟨fa_1, ft_1, lB_1, fB_1, ⟨hP, hD⟩, hf1_0⟩
  · have tc_2 : ¬ r_1.toInt = 0 := v_ne c_2
    refine lv_aload_n hx hb dX11_byteOf_8 rfl (lv_at hl 0 rfl) ?_
    refine va_get (D := (dC, dI)) (ci := 11) (v := .ref oP) (C := RX11) (T := TX11) (N := 12) hx hb hts in_X11 hown hK hP 0 rfl rfl 4 (by decide) (hts (.fieldLink RX11 44 "TextMender" "passage" "LTextMender$Passage;") (List.mem_of_getElem? (i := 1) rfl)) (fun _ h9 => h9) rfl dX11_byteOf_9 ?_
    refine kV_r (rest := []) (q0 := 0) (ci := 7) hcf (m_X7_bytes l dC dI cI cS H.size oP oC nB ft_1 ) kc_X7_bytes gX11_byteOf_X7_bytes rfl rfl rfl ⟨Nat.le_of_ble_eq_true rfl, Nat.le_of_ble_eq_true rfl⟩ kX_t hK hP hD hS hA [3] [0, 1, 2, 4, 5, 6, 7, 8, 9, 10, 11, 12] rfl (by decide +kernel) rfl rfl rfl hl rfl (Nat.le_of_ble_eq_true rfl) dX11_byteOf_12 ⟨Nat.le_of_ble_eq_true rfl, Nat.le_of_ble_eq_true rfl⟩ (fun r_3 H locs hB hJ hSn => ?_)
    obtain ⟨hra, ⟨hP1, hD1⟩⟩ := hB
    rw [hra]
    obtain ⟨hPn, hDn⟩ := hJ _ hP1 hD1 [(oX, .inr (11, [.ref nT, .ref nL, .ref nM, .ref oC, .ref oP, .ref oH, .ref oK, .ref oG, .ref oR, .ref oQ, .ref oW, .int fa_1])), (nL, .inr (5, [.ref aL, .int lL])), (aL, .inl (cI, 300, .inl fL)), (nB, .inr (5, [.ref aB, .int lB_1])), (aB, .inl (cI, 2400, .inl fB_1)), (oC, .inr (2, [.ref o4, .ref o5])), (o4, .inr (10, [.ref a41, .ref a42, .ref a43, .int l4])), (a42, .inl (cI, 512, .inl f42)), (a43, .inl (cI, 512, .inl f43)), (o5, .inr (10, [.ref a51, .ref a52, .ref a53, .int l5])), (a52, .inl (cI, 512, .inl f52)), (a53, .inl (cI, 512, .inl f53)), (oP, .inr (7, [.ref oC, .ref nB, .int ft_1]))] rfl
    clear hP hD hS hJ hP1 hD1
    have hP := hPn
    have hD := hDn
    have hS := hSn
    clear hPn hDn hSn
    refine lv_iload_n hx hb dX11_byteOf_15 rfl (lv_at hl 2 rfl) ?_
    refine kV_i (rest := []) (q0 := 0) (ci := 5) hcf (m_X5_get l dC dI cI cS H.size nB aB 2400 lB_1 fB_1 i (by omega) (by omega)) kc_X5_get gX11_byteOf_X5_get rfl rfl rfl ⟨Nat.le_of_ble_eq_true rfl, Nat.le_of_ble_eq_true rfl⟩ kX_t hK hP hD hS hA [3, 4] [0, 1, 2, 5, 6, 7, 8, 9, 10, 11, 12] rfl (by decide +kernel) rfl rfl rfl hl rfl (Nat.le_of_ble_eq_true rfl) dX11_byteOf_16 ⟨Nat.le_of_ble_eq_true rfl, Nat.le_of_ble_eq_true rfl⟩ (fun r_4 H locs hB hJ hSn => ?_)
    obtain ⟨⟨hP1, hD1⟩, hf4_0⟩ := hB
    obtain ⟨hPn, hDn⟩ := hJ _ hP1 hD1 [(oX, .inr (11, [.ref nT, .ref nL, .ref nM, .ref oC, .ref oP, .ref oH, .ref oK, .ref oG, .ref oR, .ref oQ, .ref oW, .int fa_1])), (nL, .inr (5, [.ref aL, .int lL])), (aL, .inl (cI, 300, .inl fL)), (oC, .inr (2, [.ref o4, .ref o5])), (o4, .inr (10, [.ref a41, .ref a42, .ref a43, .int l4])), (a42, .inl (cI, 512, .inl f42)), (a43, .inl (cI, 512, .inl f43)), (o5, .inr (10, [.ref a51, .ref a52, .ref a53, .int l5])), (a52, .inl (cI, 512, .inl f52)), (a53, .inl (cI, 512, .inl f53)), (oP, .inr (7, [.ref oC, .ref nB, .int ft_1])), (nB, .inr (5, [.ref aB, .int lB_1])), (aB, .inl (cI, 2400, .inl fB_1))] rfl
    clear hP hD hS hJ hP1 hD1
    have hP := hPn
    have hD := hDn
    have hS := hSn
    clear hPn hDn hSn
    refine lv_goto (tgt := 23) hx hb dX11_byteOf_19 (by decide) ?_
    exact kl_i (v := r_4) hQQ hx hb hr hlocks hS dX11_byteOf_23 ⟨fa_1, ft_1, lB_1, fB_1, kPD_sub hP hD [0, 1, 2, 10, 11, 12, 3, 4, 5, 6, 7, 8, 9] (by decide +kernel) rfl, hf1_0⟩

set_option maxHeartbeats 40000000 in
set_option maxRecDepth 100000 in
theorem x_where (l : Launch) (dC : Nat → ClassId) (dI : Nat → Nat → Nat) (cI cS : ClassId) (sz : Nat) (oX : Nat) (nT : Nat) (nL : Nat) (nM : Nat) (oC : Nat) (oP : Nat) (oH : Nat) (oK : Nat) (oG : Nat) (oR : Nat) (oQ : Nat) (oW : Nat) (fa : Int32)  : kMi l yX11_where wsX11_where ({ frames := 0, cells := 0, slots := 0, locals := 0 } : Room) [.ref oX] sz (dC, dI) vwCl [(cI, .int), (cS, .short)] [(oX, .inr (11, [.ref nT, .ref nL, .ref nM, .ref oC, .ref oP, .ref oH, .ref oK, .ref oG, .ref oR, .ref oQ, .ref oW, .int fa]))] (fun _ => True) 0 0 (fun (A : Nat → Prop) (r : Int32) (hh9 : Heap) => kPD (dC, dI) vwCl A [(oX, .inr (11, [.ref nT, .ref nL, .ref nM, .ref oC, .ref oP, .ref oH, .ref oK, .ref oG, .ref oR, .ref oQ, .ref oW, .int fa]))] hh9 ∧ (r = fa)) := by
  refine kMi_of (cc := cX11_where) (maxL := 1) (ret := (some .int)) (lv := [(0, .ref oX)]) (by decide +kernel) rfl rfl (Nat.le_of_ble_eq_true rfl) ?_
  intro p e s m below meth c A QQ ls hx hb hr hts hml hown hlocks hA hQQ hK hX hP hD hS hl
  have hown : s.vm.findClass RX11 = some m.cls := hown
  have hcf := k_cf hx hb hml hown hts
  have in_X11 : ∀ w ∈ wsX110, w ∈ wsX11_where := fun _ h => List.mem_cons_of_mem _ (List.mem_append_right _ (h))
  refine lv_aload_n hx hb dX11_where_0 rfl (lv_at hl 0 rfl) ?_
  refine va_get (D := (dC, dI)) (ci := 11) (v := .int fa) (C := RX11) (T := TX11) (N := 12) hx hb hts in_X11 hown hK hP 0 rfl rfl 11 (by decide) (hts (.fieldLink RX11 90 "TextMender" "fault" "I") (List.mem_of_getElem? (i := 1) rfl)) (fun _ h9 => h9) rfl dX11_where_1 ?_
  exact kl_i (v := fa) hQQ hx hb hr hlocks hS dX11_where_4 ⟨⟨hP, hD⟩, rfl⟩

set_option maxHeartbeats 40000000 in
set_option maxRecDepth 100000 in
theorem x_safe (l : Launch) (dC : Nat → ClassId) (dI : Nat → Nat → Nat) (cI cS : ClassId) (sz : Nat) (oX : Nat) (nT : Nat) (nL : Nat) (nM : Nat) (oC : Nat) (oP : Nat) (oH : Nat) (oK : Nat) (oG : Nat) (oR : Nat) (oQ : Nat) (oW : Nat) (o4 : Nat) (o5 : Nat) (a41 : Nat) (a42 : Nat) (a43 : Nat) (a51 : Nat) (a52 : Nat) (a53 : Nat) (fa : Int32) (l4 : Int32) (f41 : Nat → Int32) (l5 : Int32) (f51 : Nat → Int32) (a : Int32) (b : Int32)  : kMi l yX11_safe wsX11_safe ({ frames := 4, cells := 0, slots := 0, locals := 89 } : Room) [.ref oX, .int a, .int b] sz (dC, dI) vwCl [(cI, .int), (cS, .short)] [(oX, .inr (11, [.ref nT, .ref nL, .ref nM, .ref oC, .ref oP, .ref oH, .ref oK, .ref oG, .ref oR, .ref oQ, .ref oW, .int fa])), (oC, .inr (2, [.ref o4, .ref o5])), (o4, .inr (10, [.ref a41, .ref a42, .ref a43, .int l4])), (a41, .inl (cI, 256, .inl f41)), (o5, .inr (10, [.ref a51, .ref a52, .ref a53, .int l5])), (a51, .inl (cI, 256, .inl f51))] (fun _ => True) 0 0 (fun (A : Nat → Prop) (r : Int32) (hh9 : Heap) => ∃ (fa' : Int32), kPD (dC, dI) vwCl A [(oX, .inr (11, [.ref nT, .ref nL, .ref nM, .ref oC, .ref oP, .ref oH, .ref oK, .ref oG, .ref oR, .ref oQ, .ref oW, .int fa'])), (oC, .inr (2, [.ref o4, .ref o5])), (o4, .inr (10, [.ref a41, .ref a42, .ref a43, .int l4])), (a41, .inl (cI, 256, .inl f41)), (o5, .inr (10, [.ref a51, .ref a52, .ref a53, .int l5])), (a51, .inl (cI, 256, .inl f51))] hh9) := by
  refine kMi_of (cc := cX11_safe) (maxL := 3) (ret := (some .int)) (lv := [(0, .ref oX), (1, .int a), (2, .int b)]) (by decide +kernel) rfl rfl (Nat.le_of_ble_eq_true rfl) ?_
  intro p e s m below meth c A QQ ls hx hb hr hts hml hown hlocks hA hQQ hK hX hP hD hS hl
  have hown : s.vm.findClass RX11 = some m.cls := hown
  have hcf := k_cf hx hb hml hown hts
  have in_X11 : ∀ w ∈ wsX110, w ∈ wsX11_safe := fun _ h => List.mem_cons_of_mem _ (List.mem_append_left _ (List.mem_append_left _ (List.mem_append_right _ (h))))
  refine lv_aload_n hx hb dX11_safe_0 rfl (lv_at hl 0 rfl) ?_
  refine lv_iconst (v := (-1)) hx hb dX11_safe_1 (by decide) ?_
  refine va_put (D := (dC, dI)) (ci := 11) (v := .int (-1)) (ty := .int) (C := RX11) (T := TX11) (N := 12) hx hb hts in_X11 tyX11 tyX11_ok nmX11 hown hK hP hD hS 0 rfl rfl 11 (by decide) (hts (.fieldLink RX11 90 "TextMender" "fault" "I") (List.mem_of_getElem? (i := 1) rfl)) (fun _ h9 => h9) rfl (by decide +kernel) rfl rfl (Nat.le_of_ble_eq_true rfl) dX11_safe_2 (kW (wn := [(oX, .inr (11, [.ref nT, .ref nL, .ref nM, .ref oC, .ref oP, .ref oH, .ref oK, .ref oG, .ref oR, .ref oQ, .ref oW, .int (-1)])), (oC, .inr (2, [.ref o4, .ref o5])), (o4, .inr (10, [.ref a41, .ref a42, .ref a43, .int l4])), (a41, .inl (cI, 256, .inl f41)), (o5, .inr (10, [.ref a51, .ref a52, .ref a53, .int l5])), (a51, .inl (cI, 256, .inl f51))]) rfl (fun H locs hPn hDn hSn => ?_))
  clear hP hD hS
  have hP := hPn
  have hD := hDn
  have hS := hSn
  clear hPn hDn hSn
  refine lv_iload_n hx hb dX11_safe_5 rfl (lv_at hl 1 rfl) ?_
  refine kS_i (rest := []) hcf (m_X2_known l dC dI cI cS H.size a ) kc_X2_known gX11_safe_X2_known rfl rfl ⟨Nat.le_of_ble_eq_true rfl, Nat.le_of_ble_eq_true rfl⟩ kX_t hK hP hD hS hA [] [0, 1, 2, 3, 4, 5] rfl (by decide +kernel) rfl hl rfl (Nat.le_of_ble_eq_true rfl) dX11_safe_6 ⟨Nat.le_of_ble_eq_true rfl, Nat.le_of_ble_eq_true rfl⟩ (fun r_1 H locs hB hJ hSn => ?_)
  obtain ⟨⟨hP1, hD1⟩, hf1_0, hf1_1⟩ := hB
  obtain ⟨hPn, hDn⟩ := hJ _ hP1 hD1 [(oX, .inr (11, [.ref nT, .ref nL, .ref nM, .ref oC, .ref oP, .ref oH, .ref oK, .ref oG, .ref oR, .ref oQ, .ref oW, .int (-1)])), (oC, .inr (2, [.ref o4, .ref o5])), (o4, .inr (10, [.ref a41, .ref a42, .ref a43, .int l4])), (a41, .inl (cI, 256, .inl f41)), (o5, .inr (10, [.ref a51, .ref a52, .ref a53, .int l5])), (a51, .inl (cI, 256, .inl f51))] rfl
  clear hP hD hS hJ hP1 hD1
  have hP := hPn
  have hD := hDn
  have hS := hSn
  clear hPn hDn hSn
  refine lv_if_eq (tgt := 19) hx hb dX11_safe_9 (by decide) (fun c_2 => ?_) (fun c_2 => ?_)
  · have tc_2 : r_1.toInt = 0 := v_eq c_2
    refine lv_iconst (v := (-1)) hx hb dX11_safe_19 (by decide) ?_
    exact kl_i (v := (-1)) hQQ hx hb hr hlocks hS dX11_safe_20 ⟨(-1), ⟨hP, hD⟩⟩
  · have tc_2 : ¬ r_1.toInt = 0 := v_ne c_2
    refine lv_iload_n hx hb dX11_safe_12 rfl (lv_at hl 2 rfl) ?_
    refine kS_i (rest := []) hcf (m_X2_known l dC dI cI cS H.size b ) kc_X2_known gX11_safe_X2_known rfl rfl ⟨Nat.le_of_ble_eq_true rfl, Nat.le_of_ble_eq_true rfl⟩ kX_t hK hP hD hS hA [] [0, 1, 2, 3, 4, 5] rfl (by decide +kernel) rfl hl rfl (Nat.le_of_ble_eq_true rfl) dX11_safe_13 ⟨Nat.le_of_ble_eq_true rfl, Nat.le_of_ble_eq_true rfl⟩ (fun r_3 H locs hB hJ hSn => ?_)
    obtain ⟨⟨hP1, hD1⟩, hf3_0, hf3_1⟩ := hB
    obtain ⟨hPn, hDn⟩ := hJ _ hP1 hD1 [(oX, .inr (11, [.ref nT, .ref nL, .ref nM, .ref oC, .ref oP, .ref oH, .ref oK, .ref oG, .ref oR, .ref oQ, .ref oW, .int (-1)])), (oC, .inr (2, [.ref o4, .ref o5])), (o4, .inr (10, [.ref a41, .ref a42, .ref a43, .int l4])), (a41, .inl (cI, 256, .inl f41)), (o5, .inr (10, [.ref a51, .ref a52, .ref a53, .int l5])), (a51, .inl (cI, 256, .inl f51))] rfl
    clear hP hD hS hJ hP1 hD1
    have hP := hPn
    have hD := hDn
    have hS := hSn
    clear hPn hDn hSn
    refine lv_if_ne (tgt := 21) hx hb dX11_safe_16 (by decide) (fun c_4 => ?_) (fun c_4 => ?_)
    · have tc_4 : ¬ r_3.toInt = 0 := v_ne c_4
      refine lv_aload_n hx hb dX11_safe_21 rfl (lv_at hl 0 rfl) ?_
      refine va_get (D := (dC, dI)) (ci := 11) (v := .ref oC) (C := RX11) (T := TX11) (N := 12) hx hb hts in_X11 hown hK hP 0 rfl rfl 3 (by decide) (hts (.fieldLink RX11 40 "TextMender" "codes" "LTextMender$Codes;") (List.mem_of_getElem? (i := 2) rfl)) (fun _ h9 => h9) rfl dX11_safe_22 ?_
      refine lv_iload_n hx hb dX11_safe_25 rfl (lv_at hl 1 rfl) ?_
      refine lv_iload_n hx hb dX11_safe_26 rfl (lv_at hl 2 rfl) ?_
      refine kV_i (rest := []) (q0 := 0) (ci := 2) hcf (m_X2_neverLost l dC dI cI cS H.size oC o4 o5 a41 a42 a43 a51 a52 a53 l4 f41 l5 f51 a b ) kc_X2_neverLost gX11_safe_X2_neverLost rfl rfl rfl ⟨Nat.le_of_ble_eq_true rfl, Nat.le_of_ble_eq_true rfl⟩ kX_t hK hP hD hS hA [1, 2, 3, 4, 5] [0] rfl (by decide +kernel) rfl rfl rfl hl rfl (Nat.le_of_ble_eq_true rfl) dX11_safe_27 ⟨Nat.le_of_ble_eq_true rfl, Nat.le_of_ble_eq_true rfl⟩ (fun r_5 H locs hB hJ hSn => ?_)
      obtain ⟨⟨hP1, hD1⟩, hf5_0⟩ := hB
      obtain ⟨hPn, hDn⟩ := hJ _ hP1 hD1 [(oX, .inr (11, [.ref nT, .ref nL, .ref nM, .ref oC, .ref oP, .ref oH, .ref oK, .ref oG, .ref oR, .ref oQ, .ref oW, .int (-1)])), (oC, .inr (2, [.ref o4, .ref o5])), (o4, .inr (10, [.ref a41, .ref a42, .ref a43, .int l4])), (a41, .inl (cI, 256, .inl f41)), (o5, .inr (10, [.ref a51, .ref a52, .ref a53, .int l5])), (a51, .inl (cI, 256, .inl f51))] rfl
      clear hP hD hS hJ hP1 hD1
      have hP := hPn
      have hD := hDn
      have hS := hSn
      clear hPn hDn hSn
      refine lv_if_eq (tgt := 37) hx hb dX11_safe_30 (by decide) (fun c_6 => ?_) (fun c_6 => ?_)
      · have tc_6 : r_5.toInt = 0 := v_eq c_6
        refine lv_iconst (v := 0) hx hb dX11_safe_37 (by decide) ?_
        exact kl_i (v := 0) hQQ hx hb hr hlocks hS dX11_safe_38 ⟨(-1), ⟨hP, hD⟩⟩
      · have tc_6 : ¬ r_5.toInt = 0 := v_ne c_6
        refine lv_iconst (v := 1) hx hb dX11_safe_33 (by decide) ?_
        refine lv_goto (tgt := 38) hx hb dX11_safe_34 (by decide) ?_
        exact kl_i (v := 1) hQQ hx hb hr hlocks hS dX11_safe_38 ⟨(-1), ⟨hP, hD⟩⟩
    · have tc_4 : r_3.toInt = 0 := v_eq c_4
      refine lv_iconst (v := (-1)) hx hb dX11_safe_19 (by decide) ?_
      exact kl_i (v := (-1)) hQQ hx hb hr hlocks hS dX11_safe_20 ⟨(-1), ⟨hP, hD⟩⟩

set_option maxHeartbeats 40000000 in
set_option maxRecDepth 100000 in
theorem x_rows (l : Launch) (dC : Nat → ClassId) (dI : Nat → Nat → Nat) (cI cS : ClassId) (sz : Nat) (oX : Nat) (nT : Nat) (nL : Nat) (nM : Nat) (oC : Nat) (oP : Nat) (oH : Nat) (oK : Nat) (oG : Nat) (oR : Nat) (oQ : Nat) (oW : Nat) (n1 : Nat) (n2 : Nat) (n3 : Nat) (r1 : Nat) (r2 : Nat) (r3 : Nat) (r4 : Nat) (r5 : Nat) (r6 : Nat) (a1 : Nat) (a2 : Nat) (a3 : Nat) (h1 : Nat) (h2 : Nat) (nB : Nat) (aB : Nat) (o4 : Nat) (o5 : Nat) (a41 : Nat) (a42 : Nat) (a43 : Nat) (a51 : Nat) (a52 : Nat) (a53 : Nat) (k1 : Nat) (k2 : Nat) (aL : Nat) (fa : Int32) (lR : Int32) (fR1 : Nat → Int32) (fR2 : Nat → Int32) (fR3 : Nat → Int32) (fR4 : Nat → Int32) (fR5 : Nat → Int32) (fR6 : Nat → Int32) (l1 : Int32) (f1 : Nat → Int32) (l2 : Int32) (f2 : Nat → Int32) (l3 : Int32) (f3 : Nat → Int32) (lH : Int32) (fH1 : Nat → Int32) (fH2 : Nat → Int32) (ft : Int32) (lB : Int32) (fB : Nat → Int32) (l4 : Int32) (f41 : Nat → Int32) (f42 : Nat → Int32) (f43 : Nat → Int32) (l5 : Int32) (f51 : Nat → Int32) (f52 : Nat → Int32) (f53 : Nat → Int32) (lK : Int32) (fK1 : Nat → Int32) (fK2 : Nat → Int32) (lL : Int32) (fL : Nat → Int32) (n : Int32) (g_lR : 0 ≤ lR.toInt ∧ lR.toInt ≤ 258) (g_l1 : 0 ≤ l1.toInt ∧ l1.toInt ≤ 300) (g_l2 : 0 ≤ l2.toInt ∧ l2.toInt ≤ 300) (g_l3 : 0 ≤ l3.toInt ∧ l3.toInt ≤ 300) (g_lH : 0 ≤ lH.toInt ∧ lH.toInt ≤ 6) (g_lB : 0 ≤ lB.toInt ∧ lB.toInt ≤ 2400) (g_lK : 0 ≤ lK.toInt ∧ lK.toInt ≤ 300) (g_lL : 0 ≤ lL.toInt ∧ lL.toInt ≤ 300) : kMi l yX11_rows wsX11_rows ({ frames := 7, cells := 0, slots := 0, locals := 175 } : Room) [.ref oX, .int n] sz (dC, dI) vwCl [(cI, .int), (cS, .short)] [(oX, .inr (11, [.ref nT, .ref nL, .ref nM, .ref oC, .ref oP, .ref oH, .ref oK, .ref oG, .ref oR, .ref oQ, .ref oW, .int fa])), (oR, .inr (9, [.ref oH, .ref oK, .ref n1, .ref n2, .ref n3, .ref r1, .ref r2, .ref r3, .ref r4, .ref r5, .ref r6, .int lR])), (r1, .inl (cI, 258, .inl fR1)), (r2, .inl (cI, 258, .inl fR2)), (r3, .inl (cI, 774, .inl fR3)), (r4, .inl (cI, 258, .inl fR4)), (r5, .inl (cI, 258, .inl fR5)), (r6, .inl (cI, 774, .inl fR6)), (n1, .inr (5, [.ref a1, .int l1])), (a1, .inl (cI, 300, .inl f1)), (n2, .inr (5, [.ref a2, .int l2])), (a2, .inl (cI, 300, .inl f2)), (n3, .inr (5, [.ref a3, .int l3])), (a3, .inl (cI, 300, .inl f3)), (oH, .inr (4, [.ref oP, .ref h1, .ref h2, .int lH])), (h1, .inl (cI, 6, .inl fH1)), (h2, .inl (cI, 6, .inl fH2)), (oP, .inr (7, [.ref oC, .ref nB, .int ft])), (nB, .inr (5, [.ref aB, .int lB])), (aB, .inl (cI, 2400, .inl fB)), (oC, .inr (2, [.ref o4, .ref o5])), (o4, .inr (10, [.ref a41, .ref a42, .ref a43, .int l4])), (a41, .inl (cI, 256, .inl f41)), (a42, .inl (cI, 512, .inl f42)), (a43, .inl (cI, 512, .inl f43)), (o5, .inr (10, [.ref a51, .ref a52, .ref a53, .int l5])), (a51, .inl (cI, 256, .inl f51)), (a52, .inl (cI, 512, .inl f52)), (a53, .inl (cI, 512, .inl f53)), (oK, .inr (3, [.ref k1, .ref k2, .int lK])), (k1, .inl (cI, 1024, .inl fK1)), (k2, .inl (cI, 1024, .inl fK2)), (nL, .inr (5, [.ref aL, .int lL])), (aL, .inl (cI, 300, .inl fL))] (va_Nw (.methodLinkNest RX2 52 yX11_isLetter "TextMender")) 0 0 (fun (A : Nat → Prop) (r : Int32) (hh9 : Heap) => ∃ (fa' : Int32) (ft' : Int32) (lB' : Int32) (fB' : Nat → Int32) (l1' : Int32) (f1' : Nat → Int32) (l2' : Int32) (f2' : Nat → Int32) (l3' : Int32) (f3' : Nat → Int32) (fR1' : Nat → Int32) (fR2' : Nat → Int32) (fR3' : Nat → Int32) (lR' : Int32) (fR4' : Nat → Int32) (fR5' : Nat → Int32) (fR6' : Nat → Int32), kPD (dC, dI) vwCl A [(oX, .inr (11, [.ref nT, .ref nL, .ref nM, .ref oC, .ref oP, .ref oH, .ref oK, .ref oG, .ref oR, .ref oQ, .ref oW, .int fa'])), (oR, .inr (9, [.ref oH, .ref oK, .ref n1, .ref n2, .ref n3, .ref r1, .ref r2, .ref r3, .ref r4, .ref r5, .ref r6, .int lR'])), (r1, .inl (cI, 258, .inl fR1')), (r2, .inl (cI, 258, .inl fR2')), (r3, .inl (cI, 774, .inl fR3')), (r4, .inl (cI, 258, .inl fR4')), (r5, .inl (cI, 258, .inl fR5')), (r6, .inl (cI, 774, .inl fR6')), (n1, .inr (5, [.ref a1, .int l1'])), (a1, .inl (cI, 300, .inl f1')), (n2, .inr (5, [.ref a2, .int l2'])), (a2, .inl (cI, 300, .inl f2')), (n3, .inr (5, [.ref a3, .int l3'])), (a3, .inl (cI, 300, .inl f3')), (oH, .inr (4, [.ref oP, .ref h1, .ref h2, .int lH])), (h1, .inl (cI, 6, .inl fH1)), (h2, .inl (cI, 6, .inl fH2)), (oP, .inr (7, [.ref oC, .ref nB, .int ft'])), (nB, .inr (5, [.ref aB, .int lB'])), (aB, .inl (cI, 2400, .inl fB')), (oC, .inr (2, [.ref o4, .ref o5])), (o4, .inr (10, [.ref a41, .ref a42, .ref a43, .int l4])), (a41, .inl (cI, 256, .inl f41)), (a42, .inl (cI, 512, .inl f42)), (a43, .inl (cI, 512, .inl f43)), (o5, .inr (10, [.ref a51, .ref a52, .ref a53, .int l5])), (a51, .inl (cI, 256, .inl f51)), (a52, .inl (cI, 512, .inl f52)), (a53, .inl (cI, 512, .inl f53)), (oK, .inr (3, [.ref k1, .ref k2, .int lK])), (k1, .inl (cI, 1024, .inl fK1)), (k2, .inl (cI, 1024, .inl fK2)), (nL, .inr (5, [.ref aL, .int lL])), (aL, .inl (cI, 300, .inl fL))] hh9 ∧ (0 ≤ lB'.toInt ∧ lB'.toInt ≤ 2400) ∧ (0 ≤ l1'.toInt ∧ l1'.toInt ≤ 300) ∧ (0 ≤ l2'.toInt ∧ l2'.toInt ≤ 300) ∧ (0 ≤ l3'.toInt ∧ l3'.toInt ≤ 300) ∧ (0 ≤ lR'.toInt ∧ lR'.toInt ≤ 258)) := by
  refine kMi_of (cc := cX11_rows) (maxL := 2) (ret := (some .int)) (lv := [(0, .ref oX), (1, .int n)]) (by decide +kernel) rfl rfl (Nat.le_of_ble_eq_true rfl) ?_
  intro p e s m below meth c A QQ ls hx hb hr hts hml hown hlocks hA hQQ hK hX hP hD hS hl
  have hown : s.vm.findClass RX11 = some m.cls := hown
  have hcf := k_cf hx hb hml hown hts
  have hN52 := hX
  have in_X11 : ∀ w ∈ wsX110, w ∈ wsX11_rows := fun _ h => List.mem_cons_of_mem _ (List.mem_append_left _ (List.mem_append_left _ (List.mem_append_left _ (List.mem_append_left _ (List.mem_append_left _ (List.mem_append_left _ (List.mem_append_left _ (List.mem_append_right _ (h)))))))))
  replace g_lR := hid g_lR
  replace g_l1 := hid g_l1
  replace g_l2 := hid g_l2
  replace g_l3 := hid g_l3
  replace g_lH := hid g_lH
  replace g_lB := hid g_lB
  replace g_lK := hid g_lK
  replace g_lL := hid g_lL
  refine lv_aload_n hx hb dX11_rows_0 rfl (lv_at hl 0 rfl) ?_
  refine lv_iconst (v := (-1)) hx hb dX11_rows_1 (by decide) ?_
  refine va_put (D := (dC, dI)) (ci := 11) (v := .int (-1)) (ty := .int) (C := RX11) (T := TX11) (N := 12) hx hb hts in_X11 tyX11 tyX11_ok nmX11 hown hK hP hD hS 0 rfl rfl 11 (by decide) (hts (.fieldLink RX11 90 "TextMender" "fault" "I") (List.mem_of_getElem? (i := 1) rfl)) (fun _ h9 => h9) rfl (by decide +kernel) rfl rfl (Nat.le_of_ble_eq_true rfl) dX11_rows_2 (kW (wn := [(oX, .inr (11, [.ref nT, .ref nL, .ref nM, .ref oC, .ref oP, .ref oH, .ref oK, .ref oG, .ref oR, .ref oQ, .ref oW, .int (-1)])), (oR, .inr (9, [.ref oH, .ref oK, .ref n1, .ref n2, .ref n3, .ref r1, .ref r2, .ref r3, .ref r4, .ref r5, .ref r6, .int lR])), (r1, .inl (cI, 258, .inl fR1)), (r2, .inl (cI, 258, .inl fR2)), (r3, .inl (cI, 774, .inl fR3)), (r4, .inl (cI, 258, .inl fR4)), (r5, .inl (cI, 258, .inl fR5)), (r6, .inl (cI, 774, .inl fR6)), (n1, .inr (5, [.ref a1, .int l1])), (a1, .inl (cI, 300, .inl f1)), (n2, .inr (5, [.ref a2, .int l2])), (a2, .inl (cI, 300, .inl f2)), (n3, .inr (5, [.ref a3, .int l3])), (a3, .inl (cI, 300, .inl f3)), (oH, .inr (4, [.ref oP, .ref h1, .ref h2, .int lH])), (h1, .inl (cI, 6, .inl fH1)), (h2, .inl (cI, 6, .inl fH2)), (oP, .inr (7, [.ref oC, .ref nB, .int ft])), (nB, .inr (5, [.ref aB, .int lB])), (aB, .inl (cI, 2400, .inl fB)), (oC, .inr (2, [.ref o4, .ref o5])), (o4, .inr (10, [.ref a41, .ref a42, .ref a43, .int l4])), (a41, .inl (cI, 256, .inl f41)), (a42, .inl (cI, 512, .inl f42)), (a43, .inl (cI, 512, .inl f43)), (o5, .inr (10, [.ref a51, .ref a52, .ref a53, .int l5])), (a51, .inl (cI, 256, .inl f51)), (a52, .inl (cI, 512, .inl f52)), (a53, .inl (cI, 512, .inl f53)), (oK, .inr (3, [.ref k1, .ref k2, .int lK])), (k1, .inl (cI, 1024, .inl fK1)), (k2, .inl (cI, 1024, .inl fK2)), (nL, .inr (5, [.ref aL, .int lL])), (aL, .inl (cI, 300, .inl fL))]) rfl (fun H locs hPn hDn hSn => ?_))
  clear hP hD hS
  have hP := hPn
  have hD := hDn
  have hS := hSn
  clear hPn hDn hSn
  refine lv_iload_n hx hb dX11_rows_5 rfl (lv_at hl 1 rfl) ?_
  refine lv_iconst (v := 1) hx hb dX11_rows_6 (by decide) ?_
  refine lv_icmp_lt (tgt := 15) hx hb dX11_rows_7 (by decide) (fun c_1 => ?_) (fun c_1 => ?_)
  · have tc_1 : n.toInt < 1 := v_lt c_1
    refine lv_iconst (v := (-1)) hx hb dX11_rows_15 (by decide) ?_
    exact kl_i (v := (-1)) hQQ hx hb hr hlocks hS dX11_rows_16 ⟨(-1), ft, lB, fB, l1, f1, l2, f2, l3, f3, fR1, fR2, fR3, lR, fR4, fR5, fR6, ⟨hP, hD⟩, g_lB, g_l1, g_l2, g_l3, g_lR⟩
  · have tc_1 : 1 ≤ n.toInt := v_nlt c_1
    refine lv_iload_n hx hb dX11_rows_10 rfl (lv_at hl 1 rfl) ?_
    refine lv_iconst (v := 3) hx hb dX11_rows_11 (by decide) ?_
    refine lv_icmp_le (tgt := 17) hx hb dX11_rows_12 (by decide) (fun c_2 => ?_) (fun c_2 => ?_)
    · have tc_2 : n.toInt ≤ 3 := v_le c_2
      refine lv_aload_n hx hb dX11_rows_17 rfl (lv_at hl 0 rfl) ?_
      refine va_get (D := (dC, dI)) (ci := 11) (v := .ref oR) (C := RX11) (T := TX11) (N := 12) hx hb hts in_X11 hown hK hP 0 rfl rfl 8 (by decide) (hts (.fieldLink RX11 68 "TextMender" "rowBook" "LTextMender$Rows;") (List.mem_of_getElem? (i := 2) rfl)) (fun _ h9 => h9) rfl dX11_rows_18 ?_
      refine lv_iload_n hx hb dX11_rows_21 rfl (lv_at hl 1 rfl) ?_
      refine lv_aload_n hx hb dX11_rows_22 rfl (lv_at hl 0 rfl) ?_
      refine va_get (D := (dC, dI)) (ci := 11) (v := .ref nL) (C := RX11) (T := TX11) (N := 12) hx hb hts in_X11 hown hK hP 0 rfl rfl 1 (by decide) (hts (.fieldLink RX11 34 "TextMender" "letters" "LTextMender$Numbers;") (List.mem_of_getElem? (i := 3) rfl)) (fun _ h9 => h9) rfl dX11_rows_23 ?_
      refine kV_v (rest := []) (q0 := 0) (ci := 9) hcf (m_X9_find l dC dI cI cS H.size oR nL oH oK n1 n2 n3 r1 r2 r3 r4 r5 r6 a1 a2 a3 oP h1 h2 oC nB aB o4 o5 a41 a42 a43 a51 a52 a53 k1 k2 aL lR fR1 fR2 fR3 l1 f1 l2 f2 l3 f3 lH fH1 fH2 ft lB fB l4 f41 f42 f43 l5 f51 f52 f53 lK fK1 fK2 lL fL n (g_lR) (g_l1) (g_l2) (g_l3) (g_lH) (g_lB) (g_lK) (g_lL)) kc_X9_find gX11_rows_X9_find rfl rfl rfl ⟨Nat.le_of_ble_eq_true rfl, Nat.le_of_ble_eq_true rfl⟩ (kX_1 hN52) hK hP hD hS hA [1, 2, 3, 4, 8, 9, 10, 11, 12, 13, 14, 15, 16, 17, 18, 19, 20, 21, 22, 23, 24, 25, 26, 27, 28, 29, 30, 31, 32, 33] [0, 5, 6, 7] rfl (by decide +kernel) rfl rfl rfl hl rfl (Nat.le_of_ble_eq_true rfl) dX11_rows_26 ⟨Nat.le_of_ble_eq_true rfl, Nat.le_of_ble_eq_true rfl⟩ (fun H locs hB hJ hSn => ?_)
      obtain ⟨ft_3, lB_3, fB_3, l1_3, f1_3, l2_3, f2_3, l3_3, f3_3, fR1_3, fR2_3, fR3_3, ⟨hP1, hD1⟩, hf3_0, hf3_1, hf3_2, hf3_3⟩ := hB
      obtain ⟨hPn, hDn⟩ := hJ _ hP1 hD1 [(oX, .inr (11, [.ref nT, .ref nL, .ref nM, .ref oC, .ref oP, .ref oH, .ref oK, .ref oG, .ref oR, .ref oQ, .ref oW, .int (-1)])), (r4, .inl (cI, 258, .inl fR4)), (r5, .inl (cI, 258, .inl fR5)), (r6, .inl (cI, 774, .inl fR6)), (oR, .inr (9, [.ref oH, .ref oK, .ref n1, .ref n2, .ref n3, .ref r1, .ref r2, .ref r3, .ref r4, .ref r5, .ref r6, .int lR])), (r1, .inl (cI, 258, .inl fR1_3)), (r2, .inl (cI, 258, .inl fR2_3)), (r3, .inl (cI, 774, .inl fR3_3)), (n1, .inr (5, [.ref a1, .int l1_3])), (a1, .inl (cI, 300, .inl f1_3)), (n2, .inr (5, [.ref a2, .int l2_3])), (a2, .inl (cI, 300, .inl f2_3)), (n3, .inr (5, [.ref a3, .int l3_3])), (a3, .inl (cI, 300, .inl f3_3)), (oH, .inr (4, [.ref oP, .ref h1, .ref h2, .int lH])), (h1, .inl (cI, 6, .inl fH1)), (h2, .inl (cI, 6, .inl fH2)), (oP, .inr (7, [.ref oC, .ref nB, .int ft_3])), (nB, .inr (5, [.ref aB, .int lB_3])), (aB, .inl (cI, 2400, .inl fB_3)), (oC, .inr (2, [.ref o4, .ref o5])), (o4, .inr (10, [.ref a41, .ref a42, .ref a43, .int l4])), (a41, .inl (cI, 256, .inl f41)), (a42, .inl (cI, 512, .inl f42)), (a43, .inl (cI, 512, .inl f43)), (o5, .inr (10, [.ref a51, .ref a52, .ref a53, .int l5])), (a51, .inl (cI, 256, .inl f51)), (a52, .inl (cI, 512, .inl f52)), (a53, .inl (cI, 512, .inl f53)), (oK, .inr (3, [.ref k1, .ref k2, .int lK])), (k1, .inl (cI, 1024, .inl fK1)), (k2, .inl (cI, 1024, .inl fK2)), (nL, .inr (5, [.ref aL, .int lL])), (aL, .inl (cI, 300, .inl fL))] rfl
      clear hP hD hS hJ hP1 hD1
      have hP := hPn
      have hD := hDn
      have hS := hSn
      clear hPn hDn hSn
      refine lv_aload_n hx hb dX11_rows_29 rfl (lv_at hl 0 rfl) ?_
      refine va_get (D := (dC, dI)) (ci := 11) (v := .ref oR) (C := RX11) (T := TX11) (N := 12) hx hb hts in_X11 hown hK hP 0 rfl rfl 8 (by decide) (hts (.fieldLink RX11 68 "TextMender" "rowBook" "LTextMender$Rows;") (List.mem_of_getElem? (i := 2) rfl)) (fun _ h9 => h9) rfl dX11_rows_30 ?_
      refine kV_i (rest := []) (q0 := 0) (ci := 9) hcf (m_X9_keepFound l dC dI cI cS H.size oR oH oK n1 n2 n3 r1 r2 r3 r4 r5 r6 lR fR1_3 fR2_3 fR3_3 fR4 fR5 fR6 (g_lR)) kc_X9_keepFound gX11_rows_X9_keepFound rfl rfl rfl ⟨Nat.le_of_ble_eq_true rfl, Nat.le_of_ble_eq_true rfl⟩ kX_t hK hP hD hS hA [4, 5, 6, 7, 1, 2, 3] [0, 8, 9, 10, 11, 12, 13, 14, 15, 16, 17, 18, 19, 20, 21, 22, 23, 24, 25, 26, 27, 28, 29, 30, 31, 32, 33] rfl (by decide +kernel) rfl rfl rfl hl rfl (Nat.le_of_ble_eq_true rfl) dX11_rows_33 ⟨Nat.le_of_ble_eq_true rfl, Nat.le_of_ble_eq_true rfl⟩ (fun r_4 H locs hB hJ hSn => ?_)
      obtain ⟨lR_4, fR4_4, fR5_4, fR6_4, ⟨hP1, hD1⟩, hf4_0⟩ := hB
      obtain ⟨hPn, hDn⟩ := hJ _ hP1 hD1 [(oX, .inr (11, [.ref nT, .ref nL, .ref nM, .ref oC, .ref oP, .ref oH, .ref oK, .ref oG, .ref oR, .ref oQ, .ref oW, .int (-1)])), (n1, .inr (5, [.ref a1, .int l1_3])), (a1, .inl (cI, 300, .inl f1_3)), (n2, .inr (5, [.ref a2, .int l2_3])), (a2, .inl (cI, 300, .inl f2_3)), (n3, .inr (5, [.ref a3, .int l3_3])), (a3, .inl (cI, 300, .inl f3_3)), (oH, .inr (4, [.ref oP, .ref h1, .ref h2, .int lH])), (h1, .inl (cI, 6, .inl fH1)), (h2, .inl (cI, 6, .inl fH2)), (oP, .inr (7, [.ref oC, .ref nB, .int ft_3])), (nB, .inr (5, [.ref aB, .int lB_3])), (aB, .inl (cI, 2400, .inl fB_3)), (oC, .inr (2, [.ref o4, .ref o5])), (o4, .inr (10, [.ref a41, .ref a42, .ref a43, .int l4])), (a41, .inl (cI, 256, .inl f41)), (a42, .inl (cI, 512, .inl f42)), (a43, .inl (cI, 512, .inl f43)), (o5, .inr (10, [.ref a51, .ref a52, .ref a53, .int l5])), (a51, .inl (cI, 256, .inl f51)), (a52, .inl (cI, 512, .inl f52)), (a53, .inl (cI, 512, .inl f53)), (oK, .inr (3, [.ref k1, .ref k2, .int lK])), (k1, .inl (cI, 1024, .inl fK1)), (k2, .inl (cI, 1024, .inl fK2)), (nL, .inr (5, [.ref aL, .int lL])), (aL, .inl (cI, 300, .inl fL)), (oR, .inr (9, [.ref oH, .ref oK, .ref n1, .ref n2, .ref n3, .ref r1, .ref r2, .ref r3, .ref r4, .ref r5, .ref r6, .int lR_4])), (r1, .inl (cI, 258, .inl fR1_3)), (r2, .inl (cI, 258, .inl fR2_3)), (r3, .inl (cI, 774, .inl fR3_3)), (r4, .inl (cI, 258, .inl fR4_4)), (r5, .inl (cI, 258, .inl fR5_4)), (r6, .inl (cI, 774, .inl fR6_4))] rfl
      clear hP hD hS hJ hP1 hD1
      have hP := hPn
      have hD := hDn
      have hS := hSn
      clear hPn hDn hSn
      exact kl_i (v := r_4) hQQ hx hb hr hlocks hS dX11_rows_36 ⟨(-1), ft_3, lB_3, fB_3, l1_3, f1_3, l2_3, f2_3, l3_3, f3_3, fR1_3, fR2_3, fR3_3, lR_4, fR4_4, fR5_4, fR6_4, kPD_sub hP hD [0, 27, 28, 29, 30, 31, 32, 33, 1, 2, 3, 4, 5, 6, 7, 8, 9, 10, 11, 12, 13, 14, 15, 16, 17, 18, 19, 20, 21, 22, 23, 24, 25, 26] (by decide +kernel) rfl, hf3_0, hf3_1, hf3_2, hf3_3, hf4_0⟩
    · have tc_2 : 3 < n.toInt := v_nle c_2
      refine lv_iconst (v := (-1)) hx hb dX11_rows_15 (by decide) ?_
      exact kl_i (v := (-1)) hQQ hx hb hr hlocks hS dX11_rows_16 ⟨(-1), ft, lB, fB, l1, f1, l2, f2, l3, f3, fR1, fR2, fR3, lR, fR4, fR5, fR6, ⟨hP, hD⟩, g_lB, g_l1, g_l2, g_l3, g_lR⟩

set_option maxHeartbeats 40000000 in
set_option maxRecDepth 100000 in
theorem x_row (l : Launch) (dC : Nat → ClassId) (dI : Nat → Nat → Nat) (cI cS : ClassId) (sz : Nat) (oX : Nat) (nT : Nat) (nL : Nat) (nM : Nat) (oC : Nat) (oP : Nat) (oH : Nat) (oK : Nat) (oG : Nat) (oR : Nat) (oQ : Nat) (oW : Nat) (n1 : Nat) (n2 : Nat) (n3 : Nat) (r1 : Nat) (r2 : Nat) (r3 : Nat) (r4 : Nat) (r5 : Nat) (r6 : Nat) (fa : Int32) (lR : Int32) (fR4 : Nat → Int32) (fR5 : Nat → Int32) (fR6 : Nat → Int32) (i : Int32) (wh : Int32) (g_lR : 0 ≤ lR.toInt ∧ lR.toInt ≤ 258) : kMi l yX11_row wsX11_row ({ frames := 1, cells := 0, slots := 0, locals := 23 } : Room) [.ref oX, .int i, .int wh] sz (dC, dI) vwCl [(cI, .int), (cS, .short)] [(oX, .inr (11, [.ref nT, .ref nL, .ref nM, .ref oC, .ref oP, .ref oH, .ref oK, .ref oG, .ref oR, .ref oQ, .ref oW, .int fa])), (oR, .inr (9, [.ref oH, .ref oK, .ref n1, .ref n2, .ref n3, .ref r1, .ref r2, .ref r3, .ref r4, .ref r5, .ref r6, .int lR])), (r4, .inl (cI, 258, .inl fR4)), (r5, .inl (cI, 258, .inl fR5)), (r6, .inl (cI, 774, .inl fR6))] (fun _ => True) 0 0 (fun (A : Nat → Prop) (r : Int32) (hh9 : Heap) => kPD (dC, dI) vwCl A [(oX, .inr (11, [.ref nT, .ref nL, .ref nM, .ref oC, .ref oP, .ref oH, .ref oK, .ref oG, .ref oR, .ref oQ, .ref oW, .int fa])), (oR, .inr (9, [.ref oH, .ref oK, .ref n1, .ref n2, .ref n3, .ref r1, .ref r2, .ref r3, .ref r4, .ref r5, .ref r6, .int lR])), (r4, .inl (cI, 258, .inl fR4)), (r5, .inl (cI, 258, .inl fR5)), (r6, .inl (cI, 774, .inl fR6))] hh9) := by
  refine kMi_of (cc := cX11_row) (maxL := 3) (ret := (some .int)) (lv := [(0, .ref oX), (1, .int i), (2, .int wh)]) (by decide +kernel) rfl rfl (Nat.le_of_ble_eq_true rfl) ?_
  intro p e s m below meth c A QQ ls hx hb hr hts hml hown hlocks hA hQQ hK hX hP hD hS hl
  have hown : s.vm.findClass RX11 = some m.cls := hown
  have hcf := k_cf hx hb hml hown hts
  have in_X11 : ∀ w ∈ wsX110, w ∈ wsX11_row := fun _ h => List.mem_cons_of_mem _ (List.mem_append_left _ (List.mem_append_right _ (h)))
  replace g_lR := hid g_lR
  refine lv_aload_n hx hb dX11_row_0 rfl (lv_at hl 0 rfl) ?_
  refine va_get (D := (dC, dI)) (ci := 11) (v := .ref oR) (C := RX11) (T := TX11) (N := 12) hx hb hts in_X11 hown hK hP 0 rfl rfl 8 (by decide) (hts (.fieldLink RX11 68 "TextMender" "rowBook" "LTextMender$Rows;") (List.mem_of_getElem? (i := 1) rfl)) (fun _ h9 => h9) rfl dX11_row_1 ?_
  refine lv_iload_n hx hb dX11_row_4 rfl (lv_at hl 1 rfl) ?_
  refine lv_iload_n hx hb dX11_row_5 rfl (lv_at hl 2 rfl) ?_
  refine kV_i (rest := []) (q0 := 0) (ci := 9) hcf (m_X9_told l dC dI cI cS s.heap.size oR oH oK n1 n2 n3 r1 r2 r3 r4 r5 r6 lR fR4 fR5 fR6 i wh (g_lR)) kc_X9_told gX11_row_X9_told rfl rfl rfl ⟨Nat.le_of_ble_eq_true rfl, Nat.le_of_ble_eq_true rfl⟩ kX_t hK hP hD hS hA [1, 2, 3, 4] [0] rfl (by decide +kernel) rfl rfl rfl hl rfl (Nat.le_of_ble_eq_true rfl) dX11_row_6 ⟨Nat.le_of_ble_eq_true rfl, Nat.le_of_ble_eq_true rfl⟩ (fun r_1 H locs hB hJ hSn => ?_)
  obtain ⟨hP1, hD1⟩ := hB
  obtain ⟨hPn, hDn⟩ := hJ _ hP1 hD1 [(oX, .inr (11, [.ref nT, .ref nL, .ref nM, .ref oC, .ref oP, .ref oH, .ref oK, .ref oG, .ref oR, .ref oQ, .ref oW, .int fa])), (oR, .inr (9, [.ref oH, .ref oK, .ref n1, .ref n2, .ref n3, .ref r1, .ref r2, .ref r3, .ref r4, .ref r5, .ref r6, .int lR])), (r4, .inl (cI, 258, .inl fR4)), (r5, .inl (cI, 258, .inl fR5)), (r6, .inl (cI, 774, .inl fR6))] rfl
  clear hP hD hS hJ hP1 hD1
  have hP := hPn
  have hD := hDn
  have hS := hSn
  clear hPn hDn hSn
  exact kl_i (v := r_1) hQQ hx hb hr hlocks hS dX11_row_9 ⟨hP, hD⟩

set_option maxHeartbeats 40000000 in
set_option maxRecDepth 100000 in
theorem x_worth (l : Launch) (dC : Nat → ClassId) (dI : Nat → Nat → Nat) (cI cS : ClassId) (sz : Nat) (oX : Nat) (nT : Nat) (nL : Nat) (nM : Nat) (oC : Nat) (oP : Nat) (oH : Nat) (oK : Nat) (oG : Nat) (oR : Nat) (oQ : Nat) (oW : Nat) (k1 : Nat) (k2 : Nat) (aL : Nat) (fa : Int32) (lK : Int32) (fK1 : Nat → Int32) (fK2 : Nat → Int32) (lL : Int32) (fL : Nat → Int32) (g_lK : 0 ≤ lK.toInt ∧ lK.toInt ≤ 300) (g_lL : 0 ≤ lL.toInt ∧ lL.toInt ≤ 300) : kMi l yX11_worth wsX11_worth ({ frames := 4, cells := 0, slots := 0, locals := 98 } : Room) [.ref oX] sz (dC, dI) vwCl [(cI, .int), (cS, .short)] [(oX, .inr (11, [.ref nT, .ref nL, .ref nM, .ref oC, .ref oP, .ref oH, .ref oK, .ref oG, .ref oR, .ref oQ, .ref oW, .int fa])), (oK, .inr (3, [.ref k1, .ref k2, .int lK])), (k1, .inl (cI, 1024, .inl fK1)), (k2, .inl (cI, 1024, .inl fK2)), (nL, .inr (5, [.ref aL, .int lL])), (aL, .inl (cI, 300, .inl fL))] (fun _ => True) 0 0 (fun (A : Nat → Prop) (r : Int32) (hh9 : Heap) => kPD (dC, dI) vwCl A [(oX, .inr (11, [.ref nT, .ref nL, .ref nM, .ref oC, .ref oP, .ref oH, .ref oK, .ref oG, .ref oR, .ref oQ, .ref oW, .int fa])), (oK, .inr (3, [.ref k1, .ref k2, .int lK])), (k1, .inl (cI, 1024, .inl fK1)), (k2, .inl (cI, 1024, .inl fK2)), (nL, .inr (5, [.ref aL, .int lL])), (aL, .inl (cI, 300, .inl fL))] hh9) := by
  refine kMi_of (cc := cX11_worth) (maxL := 1) (ret := (some .int)) (lv := [(0, .ref oX)]) (by decide +kernel) rfl rfl (Nat.le_of_ble_eq_true rfl) ?_
  intro p e s m below meth c A QQ ls hx hb hr hts hml hown hlocks hA hQQ hK hX hP hD hS hl
  have hown : s.vm.findClass RX11 = some m.cls := hown
  have hcf := k_cf hx hb hml hown hts
  have in_X11 : ∀ w ∈ wsX110, w ∈ wsX11_worth := fun _ h => List.mem_cons_of_mem _ (List.mem_append_left _ (List.mem_append_left _ (List.mem_append_right _ (h))))
  replace g_lK := hid g_lK
  replace g_lL := hid g_lL
  refine lv_aload_n hx hb dX11_worth_0 rfl (lv_at hl 0 rfl) ?_
  refine va_get (D := (dC, dI)) (ci := 11) (v := .ref oK) (C := RX11) (T := TX11) (N := 12) hx hb hts in_X11 hown hK hP 0 rfl rfl 6 (by decide) (hts (.fieldLink RX11 52 "TextMender" "costs" "LTextMender$Costs;") (List.mem_of_getElem? (i := 1) rfl)) (fun _ h9 => h9) rfl dX11_worth_1 ?_
  refine lv_aload_n hx hb dX11_worth_4 rfl (lv_at hl 0 rfl) ?_
  refine va_get (D := (dC, dI)) (ci := 11) (v := .ref nL) (C := RX11) (T := TX11) (N := 12) hx hb hts in_X11 hown hK hP 0 rfl rfl 1 (by decide) (hts (.fieldLink RX11 34 "TextMender" "letters" "LTextMender$Numbers;") (List.mem_of_getElem? (i := 2) rfl)) (fun _ h9 => h9) rfl dX11_worth_5 ?_
  refine kV_i (rest := []) (q0 := 0) (ci := 3) hcf (m_X3_ofText l dC dI cI cS s.heap.size oK nL k1 k2 aL lK fK1 fK2 lL fL (g_lK) (g_lL)) kc_X3_ofText gX11_worth_X3_ofText rfl rfl rfl ⟨Nat.le_of_ble_eq_true rfl, Nat.le_of_ble_eq_true rfl⟩ kX_t hK hP hD hS hA [1, 2, 3, 4, 5] [0] rfl (by decide +kernel) rfl rfl rfl hl rfl (Nat.le_of_ble_eq_true rfl) dX11_worth_8 ⟨Nat.le_of_ble_eq_true rfl, Nat.le_of_ble_eq_true rfl⟩ (fun r_1 H locs hB hJ hSn => ?_)
  obtain ⟨hP1, hD1⟩ := hB
  obtain ⟨hPn, hDn⟩ := hJ _ hP1 hD1 [(oX, .inr (11, [.ref nT, .ref nL, .ref nM, .ref oC, .ref oP, .ref oH, .ref oK, .ref oG, .ref oR, .ref oQ, .ref oW, .int fa])), (oK, .inr (3, [.ref k1, .ref k2, .int lK])), (k1, .inl (cI, 1024, .inl fK1)), (k2, .inl (cI, 1024, .inl fK2)), (nL, .inr (5, [.ref aL, .int lL])), (aL, .inl (cI, 300, .inl fL))] rfl
  clear hP hD hS hJ hP1 hD1
  have hP := hPn
  have hD := hDn
  have hS := hSn
  clear hPn hDn hSn
  exact kl_i (v := r_1) hQQ hx hb hr hlocks hS dX11_worth_11 ⟨hP, hD⟩

set_option maxHeartbeats 40000000 in
set_option maxRecDepth 100000 in
theorem x_choice (l : Launch) (dC : Nat → ClassId) (dI : Nat → Nat → Nat) (cI cS : ClassId) (sz : Nat) (oX : Nat) (nT : Nat) (nL : Nat) (nM : Nat) (oC : Nat) (oP : Nat) (oH : Nat) (oK : Nat) (oG : Nat) (oR : Nat) (oQ : Nat) (oW : Nat) (nw : Nat) (w1 : Nat) (w2 : Nat) (w3 : Nat) (o7 : Nat) (o8 : Nat) (o9 : Nat) (w4 : Nat) (w5 : Nat) (w6 : Nat) (w7 : Nat) (fa : Int32) (ke : Int32) (tl : Int32) (fsh : Int32) (wi : Int32) (ri : Int32) (fm : Int32) (lm : Int32) (fW4 : Nat → Int32) (fW5 : Nat → Int32) (fW6 : Nat → Int32) (fW7 : Nat → Int32) (i : Int32) (wh : Int32) (g_ke : 0 ≤ ke.toInt ∧ ke.toInt ≤ 200) (g_fsh : 0 ≤ fsh.toInt ∧ fsh.toInt ≤ 1) (g_fm : -1 ≤ fm.toInt ∧ fm.toInt ≤ 800) (g_lm : -1 ≤ lm.toInt ∧ lm.toInt ≤ 800) : kMi l yX11_choice wsX11_choice ({ frames := 1, cells := 0, slots := 0, locals := 22 } : Room) [.ref oX, .int i, .int wh] sz (dC, dI) vwCl [(cI, .int), (cS, .short)] [(oX, .inr (11, [.ref nT, .ref nL, .ref nM, .ref oC, .ref oP, .ref oH, .ref oK, .ref oG, .ref oR, .ref oQ, .ref oW, .int fa])), (oW, .inr (1, [.ref oC, .ref oK, .ref nw, .ref w1, .ref w2, .ref w3, .ref o7, .ref o8, .ref o9, .ref w4, .ref w5, .ref w6, .ref w7, .int ke, .int tl, .int fsh, .int wi, .int ri, .int fm, .int lm])), (w4, .inl (cI, 200, .inl fW4)), (w5, .inl (cI, 200, .inl fW5)), (w6, .inl (cI, 200, .inl fW6)), (w7, .inl (cI, 200, .inl fW7))] (fun _ => True) 0 0 (fun (A : Nat → Prop) (r : Int32) (hh9 : Heap) => kPD (dC, dI) vwCl A [(oX, .inr (11, [.ref nT, .ref nL, .ref nM, .ref oC, .ref oP, .ref oH, .ref oK, .ref oG, .ref oR, .ref oQ, .ref oW, .int fa])), (oW, .inr (1, [.ref oC, .ref oK, .ref nw, .ref w1, .ref w2, .ref w3, .ref o7, .ref o8, .ref o9, .ref w4, .ref w5, .ref w6, .ref w7, .int ke, .int tl, .int fsh, .int wi, .int ri, .int fm, .int lm])), (w4, .inl (cI, 200, .inl fW4)), (w5, .inl (cI, 200, .inl fW5)), (w6, .inl (cI, 200, .inl fW6)), (w7, .inl (cI, 200, .inl fW7))] hh9) := by
  refine kMi_of (cc := cX11_choice) (maxL := 3) (ret := (some .int)) (lv := [(0, .ref oX), (1, .int i), (2, .int wh)]) (by decide +kernel) rfl rfl (Nat.le_of_ble_eq_true rfl) ?_
  intro p e s m below meth c A QQ ls hx hb hr hts hml hown hlocks hA hQQ hK hX hP hD hS hl
  have hown : s.vm.findClass RX11 = some m.cls := hown
  have hcf := k_cf hx hb hml hown hts
  have in_X11 : ∀ w ∈ wsX110, w ∈ wsX11_choice := fun _ h => List.mem_cons_of_mem _ (List.mem_append_left _ (List.mem_append_right _ (h)))
  replace g_ke := hid g_ke
  replace g_fsh := hid g_fsh
  replace g_fm := hid g_fm
  replace g_lm := hid g_lm
  refine lv_aload_n hx hb dX11_choice_0 rfl (lv_at hl 0 rfl) ?_
  refine va_get (D := (dC, dI)) (ci := 11) (v := .ref oW) (C := RX11) (T := TX11) (N := 12) hx hb hts in_X11 hown hK hP 0 rfl rfl 10 (by decide) (hts (.fieldLink RX11 86 "TextMender" "choiceBook" "LTextMender$Choices;") (List.mem_of_getElem? (i := 1) rfl)) (fun _ h9 => h9) rfl dX11_choice_1 ?_
  refine lv_iload_n hx hb dX11_choice_4 rfl (lv_at hl 1 rfl) ?_
  refine lv_iload_n hx hb dX11_choice_5 rfl (lv_at hl 2 rfl) ?_
  refine kV_i (rest := []) (q0 := 0) (ci := 1) hcf (m_X1_told l dC dI cI cS s.heap.size oW oC oK nw w1 w2 w3 o7 o8 o9 w4 w5 w6 w7 ke tl fsh wi ri fm lm fW4 fW5 fW6 fW7 i wh (g_ke) (g_fsh) (g_fm) (g_lm)) kc_X1_told gX11_choice_X1_told rfl rfl rfl ⟨Nat.le_of_ble_eq_true rfl, Nat.le_of_ble_eq_true rfl⟩ kX_t hK hP hD hS hA [1, 2, 3, 4, 5] [0] rfl (by decide +kernel) rfl rfl rfl hl rfl (Nat.le_of_ble_eq_true rfl) dX11_choice_6 ⟨Nat.le_of_ble_eq_true rfl, Nat.le_of_ble_eq_true rfl⟩ (fun r_1 H locs hB hJ hSn => ?_)
  obtain ⟨hP1, hD1⟩ := hB
  obtain ⟨hPn, hDn⟩ := hJ _ hP1 hD1 [(oX, .inr (11, [.ref nT, .ref nL, .ref nM, .ref oC, .ref oP, .ref oH, .ref oK, .ref oG, .ref oR, .ref oQ, .ref oW, .int fa])), (oW, .inr (1, [.ref oC, .ref oK, .ref nw, .ref w1, .ref w2, .ref w3, .ref o7, .ref o8, .ref o9, .ref w4, .ref w5, .ref w6, .ref w7, .int ke, .int tl, .int fsh, .int wi, .int ri, .int fm, .int lm])), (w4, .inl (cI, 200, .inl fW4)), (w5, .inl (cI, 200, .inl fW5)), (w6, .inl (cI, 200, .inl fW6)), (w7, .inl (cI, 200, .inl fW7))] rfl
  clear hP hD hS hJ hP1 hD1
  have hP := hPn
  have hD := hDn
  have hS := hSn
  clear hPn hDn hSn
  exact kl_i (v := r_1) hQQ hx hb hr hlocks hS dX11_choice_9 ⟨hP, hD⟩

end

/-! 40.a.rows -/
section
set_option maxRecDepth 100000 in
theorem dA107_cX5_init : kDec cX5_init [(0, .aload_n 0, 1), (1, .invokespecial 3, 3), (4, .aload_n 0, 1), (5, .iconst 0, 1), (6, .iload_n 1, 1), (7, .invokestatic 9, 3), (10, .newarray .int, 2), (12, .putfield 15, 3), (15, .aload_n 0, 1), (16, .iconst 0, 1), (17, .putfield 21, 3), (20, .return_, 1)] = true := by decide +kernel
theorem dX5_init_0 : decode cX5_init 0 = .ok (.aload_n 0, 1) := kDec_at dA107_cX5_init 0 rfl
theorem dX5_init_1 : decode cX5_init 1 = .ok (.invokespecial 3, 3) := kDec_at dA107_cX5_init 1 rfl
theorem dX5_init_4 : decode cX5_init 4 = .ok (.aload_n 0, 1) := kDec_at dA107_cX5_init 2 rfl
theorem dX5_init_5 : decode cX5_init 5 = .ok (.iconst 0, 1) := kDec_at dA107_cX5_init 3 rfl
theorem dX5_init_6 : decode cX5_init 6 = .ok (.iload_n 1, 1) := kDec_at dA107_cX5_init 4 rfl
theorem dX5_init_7 : decode cX5_init 7 = .ok (.invokestatic 9, 3) := kDec_at dA107_cX5_init 5 rfl
theorem dX5_init_10 : decode cX5_init 10 = .ok (.newarray .int, 2) := kDec_at dA107_cX5_init 6 rfl
theorem dX5_init_12 : decode cX5_init 12 = .ok (.putfield 15, 3) := kDec_at dA107_cX5_init 7 rfl
theorem dX5_init_15 : decode cX5_init 15 = .ok (.aload_n 0, 1) := kDec_at dA107_cX5_init 8 rfl
theorem dX5_init_16 : decode cX5_init 16 = .ok (.iconst 0, 1) := kDec_at dA107_cX5_init 9 rfl
theorem dX5_init_17 : decode cX5_init 17 = .ok (.putfield 21, 3) := kDec_at dA107_cX5_init 10 rfl
theorem dX5_init_20 : decode cX5_init 20 = .ok (.return_, 1) := kDec_at dA107_cX5_init 11 rfl
set_option maxRecDepth 100000 in
theorem dA108_cX10_init : kDec cX10_init [(0, .aload_n 0, 1), (1, .invokespecial 3, 3), (4, .aload_n 0, 1), (5, .sipush 256, 3), (8, .newarray .int, 2), (10, .putfield 9, 3), (13, .aload_n 0, 1), (14, .sipush 512, 3), (17, .newarray .int, 2), (19, .putfield 15, 3), (22, .aload_n 0, 1), (23, .sipush 512, 3), (26, .newarray .int, 2), (28, .putfield 18, 3), (31, .aload_n 0, 1), (32, .getfield 9, 3), (35, .iconst (-1), 1), (36, .invokestatic 21, 3), (39, .aload_n 0, 1), (40, .getfield 18, 3), (43, .iconst (-1), 1), (44, .invokestatic 21, 3), (47, .aload_n 0, 1), (48, .iconst 0, 1)] = true := by decide +kernel
theorem dX10_init_0 : decode cX10_init 0 = .ok (.aload_n 0, 1) := kDec_at dA108_cX10_init 0 rfl
theorem dX10_init_1 : decode cX10_init 1 = .ok (.invokespecial 3, 3) := kDec_at dA108_cX10_init 1 rfl
theorem dX10_init_4 : decode cX10_init 4 = .ok (.aload_n 0, 1) := kDec_at dA108_cX10_init 2 rfl
theorem dX10_init_5 : decode cX10_init 5 = .ok (.sipush 256, 3) := kDec_at dA108_cX10_init 3 rfl
theorem dX10_init_8 : decode cX10_init 8 = .ok (.newarray .int, 2) := kDec_at dA108_cX10_init 4 rfl
theorem dX10_init_10 : decode cX10_init 10 = .ok (.putfield 9, 3) := kDec_at dA108_cX10_init 5 rfl
theorem dX10_init_13 : decode cX10_init 13 = .ok (.aload_n 0, 1) := kDec_at dA108_cX10_init 6 rfl
theorem dX10_init_14 : decode cX10_init 14 = .ok (.sipush 512, 3) := kDec_at dA108_cX10_init 7 rfl
theorem dX10_init_17 : decode cX10_init 17 = .ok (.newarray .int, 2) := kDec_at dA108_cX10_init 8 rfl
theorem dX10_init_19 : decode cX10_init 19 = .ok (.putfield 15, 3) := kDec_at dA108_cX10_init 9 rfl
theorem dX10_init_22 : decode cX10_init 22 = .ok (.aload_n 0, 1) := kDec_at dA108_cX10_init 10 rfl
theorem dX10_init_23 : decode cX10_init 23 = .ok (.sipush 512, 3) := kDec_at dA108_cX10_init 11 rfl
theorem dX10_init_26 : decode cX10_init 26 = .ok (.newarray .int, 2) := kDec_at dA108_cX10_init 12 rfl
theorem dX10_init_28 : decode cX10_init 28 = .ok (.putfield 18, 3) := kDec_at dA108_cX10_init 13 rfl
theorem dX10_init_31 : decode cX10_init 31 = .ok (.aload_n 0, 1) := kDec_at dA108_cX10_init 14 rfl
theorem dX10_init_32 : decode cX10_init 32 = .ok (.getfield 9, 3) := kDec_at dA108_cX10_init 15 rfl
theorem dX10_init_35 : decode cX10_init 35 = .ok (.iconst (-1), 1) := kDec_at dA108_cX10_init 16 rfl
theorem dX10_init_36 : decode cX10_init 36 = .ok (.invokestatic 21, 3) := kDec_at dA108_cX10_init 17 rfl
theorem dX10_init_39 : decode cX10_init 39 = .ok (.aload_n 0, 1) := kDec_at dA108_cX10_init 18 rfl
theorem dX10_init_40 : decode cX10_init 40 = .ok (.getfield 18, 3) := kDec_at dA108_cX10_init 19 rfl
theorem dX10_init_43 : decode cX10_init 43 = .ok (.iconst (-1), 1) := kDec_at dA108_cX10_init 20 rfl
theorem dX10_init_44 : decode cX10_init 44 = .ok (.invokestatic 21, 3) := kDec_at dA108_cX10_init 21 rfl
theorem dX10_init_47 : decode cX10_init 47 = .ok (.aload_n 0, 1) := kDec_at dA108_cX10_init 22 rfl
theorem dX10_init_48 : decode cX10_init 48 = .ok (.iconst 0, 1) := kDec_at dA108_cX10_init 23 rfl
set_option maxRecDepth 20000 in
theorem ggX10_init_J7_fill_53178 : GoodIn wsX10_init wsJ7_fill_53178 := goodIn_r _ [12] rfl (by decide +kernel)
set_option maxRecDepth 20000 in
theorem gX10_init_J7_fill_53178 : GoodIn wsX10_init (va_wsS RX10 21 yJ7_fill_53178 wsJ7_fill_53178) := goodIn_app (goodIn_r _ [9, 10, 11] rfl (by decide +kernel)) ggX10_init_J7_fill_53178
set_option maxRecDepth 100000 in
theorem dA109_cX10_init : kDec cX10_init [(49, .putfield 27, 3), (52, .return_, 1)] = true := by decide +kernel
theorem dX10_init_49 : decode cX10_init 49 = .ok (.putfield 27, 3) := kDec_at dA109_cX10_init 0 rfl
theorem dX10_init_52 : decode cX10_init 52 = .ok (.return_, 1) := kDec_at dA109_cX10_init 1 rfl
set_option maxRecDepth 100000 in
theorem dA110_cX2_init : kDec cX2_init [(0, .aload_n 0, 1), (1, .invokespecial 3, 3), (4, .aload_n 0, 1), (5, .new 9, 3), (8, .dup, 1), (9, .invokespecial 11, 3), (12, .putfield 12, 3), (15, .aload_n 0, 1), (16, .new 9, 3), (19, .dup, 1), (20, .invokespecial 11, 3), (23, .putfield 18, 3), (26, .return_, 1)] = true := by decide +kernel
theorem dX2_init_0 : decode cX2_init 0 = .ok (.aload_n 0, 1) := kDec_at dA110_cX2_init 0 rfl
theorem dX2_init_1 : decode cX2_init 1 = .ok (.invokespecial 3, 3) := kDec_at dA110_cX2_init 1 rfl
theorem dX2_init_4 : decode cX2_init 4 = .ok (.aload_n 0, 1) := kDec_at dA110_cX2_init 2 rfl
theorem dX2_init_5 : decode cX2_init 5 = .ok (.new 9, 3) := kDec_at dA110_cX2_init 3 rfl
theorem dX2_init_8 : decode cX2_init 8 = .ok (.dup, 1) := kDec_at dA110_cX2_init 4 rfl
theorem dX2_init_9 : decode cX2_init 9 = .ok (.invokespecial 11, 3) := kDec_at dA110_cX2_init 5 rfl
theorem dX2_init_12 : decode cX2_init 12 = .ok (.putfield 12, 3) := kDec_at dA110_cX2_init 6 rfl
theorem dX2_init_15 : decode cX2_init 15 = .ok (.aload_n 0, 1) := kDec_at dA110_cX2_init 7 rfl
theorem dX2_init_16 : decode cX2_init 16 = .ok (.new 9, 3) := kDec_at dA110_cX2_init 8 rfl
theorem dX2_init_19 : decode cX2_init 19 = .ok (.dup, 1) := kDec_at dA110_cX2_init 9 rfl
theorem dX2_init_20 : decode cX2_init 20 = .ok (.invokespecial 11, 3) := kDec_at dA110_cX2_init 10 rfl
theorem dX2_init_23 : decode cX2_init 23 = .ok (.putfield 18, 3) := kDec_at dA110_cX2_init 11 rfl
theorem dX2_init_26 : decode cX2_init 26 = .ok (.return_, 1) := kDec_at dA110_cX2_init 12 rfl
set_option maxRecDepth 20000 in
theorem ggX2_init_X10_init : GoodIn wsX2_init wsX10_init := goodIn_r _ [11, 12, 2, 3, 13, 14, 15, 16, 17, 18, 19, 20, 21, 22, 23, 24, 25] rfl (by decide +kernel)
set_option maxRecDepth 20000 in
theorem gX2_init_X10_init : GoodIn wsX2_init (wsX10_init) := ggX2_init_X10_init
set_option maxRecDepth 100000 in
theorem dA111_cX7_init : kDec cX7_init [(0, .aload_n 0, 1), (1, .invokespecial 3, 3), (4, .aload_n 0, 1), (5, .new 9, 3), (8, .dup, 1), (9, .sipush 2400, 3), (12, .invokespecial 11, 3), (15, .putfield 14, 3), (18, .aload_n 0, 1), (19, .aload_n 1, 1), (20, .putfield 20, 3), (23, .aload_n 0, 1), (24, .iconst (-1), 1), (25, .putfield 24, 3), (28, .return_, 1)] = true := by decide +kernel
theorem dX7_init_0 : decode cX7_init 0 = .ok (.aload_n 0, 1) := kDec_at dA111_cX7_init 0 rfl
theorem dX7_init_1 : decode cX7_init 1 = .ok (.invokespecial 3, 3) := kDec_at dA111_cX7_init 1 rfl
theorem dX7_init_4 : decode cX7_init 4 = .ok (.aload_n 0, 1) := kDec_at dA111_cX7_init 2 rfl
theorem dX7_init_5 : decode cX7_init 5 = .ok (.new 9, 3) := kDec_at dA111_cX7_init 3 rfl
theorem dX7_init_8 : decode cX7_init 8 = .ok (.dup, 1) := kDec_at dA111_cX7_init 4 rfl
theorem dX7_init_9 : decode cX7_init 9 = .ok (.sipush 2400, 3) := kDec_at dA111_cX7_init 5 rfl
theorem dX7_init_12 : decode cX7_init 12 = .ok (.invokespecial 11, 3) := kDec_at dA111_cX7_init 6 rfl
theorem dX7_init_15 : decode cX7_init 15 = .ok (.putfield 14, 3) := kDec_at dA111_cX7_init 7 rfl
theorem dX7_init_18 : decode cX7_init 18 = .ok (.aload_n 0, 1) := kDec_at dA111_cX7_init 8 rfl
theorem dX7_init_19 : decode cX7_init 19 = .ok (.aload_n 1, 1) := kDec_at dA111_cX7_init 9 rfl
theorem dX7_init_20 : decode cX7_init 20 = .ok (.putfield 20, 3) := kDec_at dA111_cX7_init 10 rfl
theorem dX7_init_23 : decode cX7_init 23 = .ok (.aload_n 0, 1) := kDec_at dA111_cX7_init 11 rfl
theorem dX7_init_24 : decode cX7_init 24 = .ok (.iconst (-1), 1) := kDec_at dA111_cX7_init 12 rfl
theorem dX7_init_25 : decode cX7_init 25 = .ok (.putfield 24, 3) := kDec_at dA111_cX7_init 13 rfl
theorem dX7_init_28 : decode cX7_init 28 = .ok (.return_, 1) := kDec_at dA111_cX7_init 14 rfl
set_option maxRecDepth 20000 in
theorem ggX7_init_X5_init : GoodIn wsX7_init wsX5_init := goodIn_r _ [12, 13, 2, 3, 14, 15, 16, 17, 18, 19, 20, 21, 22] rfl (by decide +kernel)
set_option maxRecDepth 20000 in
theorem gX7_init_X5_init : GoodIn wsX7_init (wsX5_init) := ggX7_init_X5_init
set_option maxRecDepth 100000 in
theorem dA112_cX4_init : kDec cX4_init [(0, .aload_n 0, 1), (1, .invokespecial 3, 3), (4, .aload_n 0, 1), (5, .bipush 6, 2), (7, .newarray .int, 2), (9, .putfield 9, 3), (12, .aload_n 0, 1), (13, .bipush 6, 2), (15, .newarray .int, 2), (17, .putfield 15, 3), (20, .aload_n 0, 1), (21, .aload_n 1, 1), (22, .putfield 18, 3), (25, .aload_n 0, 1), (26, .iconst 0, 1), (27, .putfield 22, 3), (30, .return_, 1)] = true := by decide +kernel
theorem dX4_init_0 : decode cX4_init 0 = .ok (.aload_n 0, 1) := kDec_at dA112_cX4_init 0 rfl
theorem dX4_init_1 : decode cX4_init 1 = .ok (.invokespecial 3, 3) := kDec_at dA112_cX4_init 1 rfl
theorem dX4_init_4 : decode cX4_init 4 = .ok (.aload_n 0, 1) := kDec_at dA112_cX4_init 2 rfl
theorem dX4_init_5 : decode cX4_init 5 = .ok (.bipush 6, 2) := kDec_at dA112_cX4_init 3 rfl
theorem dX4_init_7 : decode cX4_init 7 = .ok (.newarray .int, 2) := kDec_at dA112_cX4_init 4 rfl
theorem dX4_init_9 : decode cX4_init 9 = .ok (.putfield 9, 3) := kDec_at dA112_cX4_init 5 rfl
theorem dX4_init_12 : decode cX4_init 12 = .ok (.aload_n 0, 1) := kDec_at dA112_cX4_init 6 rfl
theorem dX4_init_13 : decode cX4_init 13 = .ok (.bipush 6, 2) := kDec_at dA112_cX4_init 7 rfl
theorem dX4_init_15 : decode cX4_init 15 = .ok (.newarray .int, 2) := kDec_at dA112_cX4_init 8 rfl
theorem dX4_init_17 : decode cX4_init 17 = .ok (.putfield 15, 3) := kDec_at dA112_cX4_init 9 rfl
theorem dX4_init_20 : decode cX4_init 20 = .ok (.aload_n 0, 1) := kDec_at dA112_cX4_init 10 rfl
theorem dX4_init_21 : decode cX4_init 21 = .ok (.aload_n 1, 1) := kDec_at dA112_cX4_init 11 rfl
theorem dX4_init_22 : decode cX4_init 22 = .ok (.putfield 18, 3) := kDec_at dA112_cX4_init 12 rfl
theorem dX4_init_25 : decode cX4_init 25 = .ok (.aload_n 0, 1) := kDec_at dA112_cX4_init 13 rfl
theorem dX4_init_26 : decode cX4_init 26 = .ok (.iconst 0, 1) := kDec_at dA112_cX4_init 14 rfl
theorem dX4_init_27 : decode cX4_init 27 = .ok (.putfield 22, 3) := kDec_at dA112_cX4_init 15 rfl
theorem dX4_init_30 : decode cX4_init 30 = .ok (.return_, 1) := kDec_at dA112_cX4_init 16 rfl
set_option maxRecDepth 100000 in
theorem dA113_cX3_init : kDec cX3_init [(0, .aload_n 0, 1), (1, .invokespecial 3, 3), (4, .aload_n 0, 1), (5, .sipush 1024, 3), (8, .newarray .int, 2), (10, .putfield 11, 3), (13, .aload_n 0, 1), (14, .sipush 1024, 3), (17, .newarray .int, 2), (19, .putfield 15, 3), (22, .aload_n 0, 1), (23, .getfield 15, 3), (26, .iconst (-1), 1), (27, .invokestatic 18, 3), (30, .aload_n 0, 1), (31, .iconst 0, 1), (32, .putfield 24, 3), (35, .return_, 1)] = true := by decide +kernel
theorem dX3_init_0 : decode cX3_init 0 = .ok (.aload_n 0, 1) := kDec_at dA113_cX3_init 0 rfl
theorem dX3_init_1 : decode cX3_init 1 = .ok (.invokespecial 3, 3) := kDec_at dA113_cX3_init 1 rfl
theorem dX3_init_4 : decode cX3_init 4 = .ok (.aload_n 0, 1) := kDec_at dA113_cX3_init 2 rfl
theorem dX3_init_5 : decode cX3_init 5 = .ok (.sipush 1024, 3) := kDec_at dA113_cX3_init 3 rfl
theorem dX3_init_8 : decode cX3_init 8 = .ok (.newarray .int, 2) := kDec_at dA113_cX3_init 4 rfl
theorem dX3_init_10 : decode cX3_init 10 = .ok (.putfield 11, 3) := kDec_at dA113_cX3_init 5 rfl
theorem dX3_init_13 : decode cX3_init 13 = .ok (.aload_n 0, 1) := kDec_at dA113_cX3_init 6 rfl
theorem dX3_init_14 : decode cX3_init 14 = .ok (.sipush 1024, 3) := kDec_at dA113_cX3_init 7 rfl
theorem dX3_init_17 : decode cX3_init 17 = .ok (.newarray .int, 2) := kDec_at dA113_cX3_init 8 rfl
theorem dX3_init_19 : decode cX3_init 19 = .ok (.putfield 15, 3) := kDec_at dA113_cX3_init 9 rfl
theorem dX3_init_22 : decode cX3_init 22 = .ok (.aload_n 0, 1) := kDec_at dA113_cX3_init 10 rfl
theorem dX3_init_23 : decode cX3_init 23 = .ok (.getfield 15, 3) := kDec_at dA113_cX3_init 11 rfl
theorem dX3_init_26 : decode cX3_init 26 = .ok (.iconst (-1), 1) := kDec_at dA113_cX3_init 12 rfl
theorem dX3_init_27 : decode cX3_init 27 = .ok (.invokestatic 18, 3) := kDec_at dA113_cX3_init 13 rfl
theorem dX3_init_30 : decode cX3_init 30 = .ok (.aload_n 0, 1) := kDec_at dA113_cX3_init 14 rfl
theorem dX3_init_31 : decode cX3_init 31 = .ok (.iconst 0, 1) := kDec_at dA113_cX3_init 15 rfl
theorem dX3_init_32 : decode cX3_init 32 = .ok (.putfield 24, 3) := kDec_at dA113_cX3_init 16 rfl
theorem dX3_init_35 : decode cX3_init 35 = .ok (.return_, 1) := kDec_at dA113_cX3_init 17 rfl
set_option maxRecDepth 20000 in
theorem ggX3_init_J7_fill_53178 : GoodIn wsX3_init wsJ7_fill_53178 := goodIn_r _ [11] rfl (by decide +kernel)
set_option maxRecDepth 20000 in
theorem gX3_init_J7_fill_53178 : GoodIn wsX3_init (va_wsS RX3 18 yJ7_fill_53178 wsJ7_fill_53178) := goodIn_app (goodIn_r _ [8, 9, 10] rfl (by decide +kernel)) ggX3_init_J7_fill_53178
set_option maxRecDepth 100000 in
theorem dA114_cX0_init : kDec cX0_init [(0, .aload_n 0, 1), (1, .invokespecial 3, 3), (4, .aload_n 0, 1), (5, .sipush 6000, 3), (8, .newarray .int, 2), (10, .putfield 11, 3), (13, .aload_n 0, 1), (14, .bipush 20, 2), (16, .newarray .int, 2), (18, .putfield 15, 3), (21, .aload_n 0, 1), (22, .iconst 0, 1), (23, .putfield 18, 3), (26, .aload_n 0, 1), (27, .iconst 0, 1), (28, .putfield 22, 3), (31, .return_, 1)] = true := by decide +kernel
theorem dX0_init_0 : decode cX0_init 0 = .ok (.aload_n 0, 1) := kDec_at dA114_cX0_init 0 rfl
theorem dX0_init_1 : decode cX0_init 1 = .ok (.invokespecial 3, 3) := kDec_at dA114_cX0_init 1 rfl
theorem dX0_init_4 : decode cX0_init 4 = .ok (.aload_n 0, 1) := kDec_at dA114_cX0_init 2 rfl
theorem dX0_init_5 : decode cX0_init 5 = .ok (.sipush 6000, 3) := kDec_at dA114_cX0_init 3 rfl
theorem dX0_init_8 : decode cX0_init 8 = .ok (.newarray .int, 2) := kDec_at dA114_cX0_init 4 rfl
theorem dX0_init_10 : decode cX0_init 10 = .ok (.putfield 11, 3) := kDec_at dA114_cX0_init 5 rfl
theorem dX0_init_13 : decode cX0_init 13 = .ok (.aload_n 0, 1) := kDec_at dA114_cX0_init 6 rfl
theorem dX0_init_14 : decode cX0_init 14 = .ok (.bipush 20, 2) := kDec_at dA114_cX0_init 7 rfl
theorem dX0_init_16 : decode cX0_init 16 = .ok (.newarray .int, 2) := kDec_at dA114_cX0_init 8 rfl
theorem dX0_init_18 : decode cX0_init 18 = .ok (.putfield 15, 3) := kDec_at dA114_cX0_init 9 rfl
theorem dX0_init_21 : decode cX0_init 21 = .ok (.aload_n 0, 1) := kDec_at dA114_cX0_init 10 rfl
theorem dX0_init_22 : decode cX0_init 22 = .ok (.iconst 0, 1) := kDec_at dA114_cX0_init 11 rfl
theorem dX0_init_23 : decode cX0_init 23 = .ok (.putfield 18, 3) := kDec_at dA114_cX0_init 12 rfl
theorem dX0_init_26 : decode cX0_init 26 = .ok (.aload_n 0, 1) := kDec_at dA114_cX0_init 13 rfl
theorem dX0_init_27 : decode cX0_init 27 = .ok (.iconst 0, 1) := kDec_at dA114_cX0_init 14 rfl
theorem dX0_init_28 : decode cX0_init 28 = .ok (.putfield 22, 3) := kDec_at dA114_cX0_init 15 rfl
theorem dX0_init_31 : decode cX0_init 31 = .ok (.return_, 1) := kDec_at dA114_cX0_init 16 rfl
set_option maxRecDepth 100000 in
theorem dA115_cX9_init : kDec cX9_init [(0, .aload_n 0, 1), (1, .invokespecial 3, 3), (4, .aload_n 0, 1), (5, .new 9, 3), (8, .dup, 1), (9, .sipush 300, 3), (12, .invokespecial 11, 3), (15, .putfield 14, 3), (18, .aload_n 0, 1), (19, .new 9, 3), (22, .dup, 1), (23, .sipush 300, 3), (26, .invokespecial 11, 3), (29, .putfield 20, 3), (32, .aload_n 0, 1), (33, .new 9, 3), (36, .dup, 1), (37, .sipush 300, 3), (40, .invokespecial 11, 3), (43, .putfield 23, 3), (46, .aload_n 0, 1), (47, .sipush 258, 3), (50, .newarray .int, 2), (52, .putfield 26, 3)] = true := by decide +kernel
theorem dX9_init_0 : decode cX9_init 0 = .ok (.aload_n 0, 1) := kDec_at dA115_cX9_init 0 rfl
theorem dX9_init_1 : decode cX9_init 1 = .ok (.invokespecial 3, 3) := kDec_at dA115_cX9_init 1 rfl
theorem dX9_init_4 : decode cX9_init 4 = .ok (.aload_n 0, 1) := kDec_at dA115_cX9_init 2 rfl
theorem dX9_init_5 : decode cX9_init 5 = .ok (.new 9, 3) := kDec_at dA115_cX9_init 3 rfl
theorem dX9_init_8 : decode cX9_init 8 = .ok (.dup, 1) := kDec_at dA115_cX9_init 4 rfl
theorem dX9_init_9 : decode cX9_init 9 = .ok (.sipush 300, 3) := kDec_at dA115_cX9_init 5 rfl
theorem dX9_init_12 : decode cX9_init 12 = .ok (.invokespecial 11, 3) := kDec_at dA115_cX9_init 6 rfl
theorem dX9_init_15 : decode cX9_init 15 = .ok (.putfield 14, 3) := kDec_at dA115_cX9_init 7 rfl
theorem dX9_init_18 : decode cX9_init 18 = .ok (.aload_n 0, 1) := kDec_at dA115_cX9_init 8 rfl
theorem dX9_init_19 : decode cX9_init 19 = .ok (.new 9, 3) := kDec_at dA115_cX9_init 9 rfl
theorem dX9_init_22 : decode cX9_init 22 = .ok (.dup, 1) := kDec_at dA115_cX9_init 10 rfl
theorem dX9_init_23 : decode cX9_init 23 = .ok (.sipush 300, 3) := kDec_at dA115_cX9_init 11 rfl
theorem dX9_init_26 : decode cX9_init 26 = .ok (.invokespecial 11, 3) := kDec_at dA115_cX9_init 12 rfl
theorem dX9_init_29 : decode cX9_init 29 = .ok (.putfield 20, 3) := kDec_at dA115_cX9_init 13 rfl
theorem dX9_init_32 : decode cX9_init 32 = .ok (.aload_n 0, 1) := kDec_at dA115_cX9_init 14 rfl
theorem dX9_init_33 : decode cX9_init 33 = .ok (.new 9, 3) := kDec_at dA115_cX9_init 15 rfl
theorem dX9_init_36 : decode cX9_init 36 = .ok (.dup, 1) := kDec_at dA115_cX9_init 16 rfl
theorem dX9_init_37 : decode cX9_init 37 = .ok (.sipush 300, 3) := kDec_at dA115_cX9_init 17 rfl
theorem dX9_init_40 : decode cX9_init 40 = .ok (.invokespecial 11, 3) := kDec_at dA115_cX9_init 18 rfl
theorem dX9_init_43 : decode cX9_init 43 = .ok (.putfield 23, 3) := kDec_at dA115_cX9_init 19 rfl
theorem dX9_init_46 : decode cX9_init 46 = .ok (.aload_n 0, 1) := kDec_at dA115_cX9_init 20 rfl
theorem dX9_init_47 : decode cX9_init 47 = .ok (.sipush 258, 3) := kDec_at dA115_cX9_init 21 rfl
theorem dX9_init_50 : decode cX9_init 50 = .ok (.newarray .int, 2) := kDec_at dA115_cX9_init 22 rfl
theorem dX9_init_52 : decode cX9_init 52 = .ok (.putfield 26, 3) := kDec_at dA115_cX9_init 23 rfl
set_option maxRecDepth 20000 in
theorem ggX9_init_X5_init : GoodIn wsX9_init wsX5_init := goodIn_r _ [22, 23, 2, 3, 24, 25, 26, 27, 10, 28, 29, 34, 35] rfl (by decide +kernel)
set_option maxRecDepth 20000 in
theorem gX9_init_X5_init : GoodIn wsX9_init (wsX5_init) := ggX9_init_X5_init
set_option maxRecDepth 100000 in
theorem dA116_cX9_init : kDec cX9_init [(55, .aload_n 0, 1), (56, .sipush 258, 3), (59, .newarray .int, 2), (61, .putfield 30, 3), (64, .aload_n 0, 1), (65, .sipush 774, 3), (68, .newarray .int, 2), (70, .putfield 33, 3), (73, .aload_n 0, 1), (74, .sipush 258, 3), (77, .newarray .int, 2), (79, .putfield 36, 3), (82, .aload_n 0, 1), (83, .sipush 258, 3), (86, .newarray .int, 2), (88, .putfield 39, 3), (91, .aload_n 0, 1), (92, .sipush 774, 3), (95, .newarray .int, 2), (97, .putfield 42, 3), (100, .aload_n 0, 1), (101, .aload_n 1, 1), (102, .putfield 45, 3), (105, .aload_n 0, 1)] = true := by decide +kernel
theorem dX9_init_55 : decode cX9_init 55 = .ok (.aload_n 0, 1) := kDec_at dA116_cX9_init 0 rfl
theorem dX9_init_56 : decode cX9_init 56 = .ok (.sipush 258, 3) := kDec_at dA116_cX9_init 1 rfl
theorem dX9_init_59 : decode cX9_init 59 = .ok (.newarray .int, 2) := kDec_at dA116_cX9_init 2 rfl
theorem dX9_init_61 : decode cX9_init 61 = .ok (.putfield 30, 3) := kDec_at dA116_cX9_init 3 rfl
theorem dX9_init_64 : decode cX9_init 64 = .ok (.aload_n 0, 1) := kDec_at dA116_cX9_init 4 rfl
theorem dX9_init_65 : decode cX9_init 65 = .ok (.sipush 774, 3) := kDec_at dA116_cX9_init 5 rfl
theorem dX9_init_68 : decode cX9_init 68 = .ok (.newarray .int, 2) := kDec_at dA116_cX9_init 6 rfl
theorem dX9_init_70 : decode cX9_init 70 = .ok (.putfield 33, 3) := kDec_at dA116_cX9_init 7 rfl
theorem dX9_init_73 : decode cX9_init 73 = .ok (.aload_n 0, 1) := kDec_at dA116_cX9_init 8 rfl
theorem dX9_init_74 : decode cX9_init 74 = .ok (.sipush 258, 3) := kDec_at dA116_cX9_init 9 rfl
theorem dX9_init_77 : decode cX9_init 77 = .ok (.newarray .int, 2) := kDec_at dA116_cX9_init 10 rfl
theorem dX9_init_79 : decode cX9_init 79 = .ok (.putfield 36, 3) := kDec_at dA116_cX9_init 11 rfl
theorem dX9_init_82 : decode cX9_init 82 = .ok (.aload_n 0, 1) := kDec_at dA116_cX9_init 12 rfl
theorem dX9_init_83 : decode cX9_init 83 = .ok (.sipush 258, 3) := kDec_at dA116_cX9_init 13 rfl
theorem dX9_init_86 : decode cX9_init 86 = .ok (.newarray .int, 2) := kDec_at dA116_cX9_init 14 rfl
theorem dX9_init_88 : decode cX9_init 88 = .ok (.putfield 39, 3) := kDec_at dA116_cX9_init 15 rfl
theorem dX9_init_91 : decode cX9_init 91 = .ok (.aload_n 0, 1) := kDec_at dA116_cX9_init 16 rfl
theorem dX9_init_92 : decode cX9_init 92 = .ok (.sipush 774, 3) := kDec_at dA116_cX9_init 17 rfl
theorem dX9_init_95 : decode cX9_init 95 = .ok (.newarray .int, 2) := kDec_at dA116_cX9_init 18 rfl
theorem dX9_init_97 : decode cX9_init 97 = .ok (.putfield 42, 3) := kDec_at dA116_cX9_init 19 rfl
theorem dX9_init_100 : decode cX9_init 100 = .ok (.aload_n 0, 1) := kDec_at dA116_cX9_init 20 rfl
theorem dX9_init_101 : decode cX9_init 101 = .ok (.aload_n 1, 1) := kDec_at dA116_cX9_init 21 rfl
theorem dX9_init_102 : decode cX9_init 102 = .ok (.putfield 45, 3) := kDec_at dA116_cX9_init 22 rfl
theorem dX9_init_105 : decode cX9_init 105 = .ok (.aload_n 0, 1) := kDec_at dA116_cX9_init 23 rfl
set_option maxRecDepth 100000 in
theorem dA117_cX9_init : kDec cX9_init [(106, .aload_n 2, 1), (107, .putfield 49, 3), (110, .aload_n 0, 1), (111, .getfield 26, 3), (114, .iconst (-1), 1), (115, .invokestatic 53, 3), (118, .aload_n 0, 1), (119, .iconst 0, 1), (120, .putfield 59, 3), (123, .return_, 1)] = true := by decide +kernel
theorem dX9_init_106 : decode cX9_init 106 = .ok (.aload_n 2, 1) := kDec_at dA117_cX9_init 0 rfl
theorem dX9_init_107 : decode cX9_init 107 = .ok (.putfield 49, 3) := kDec_at dA117_cX9_init 1 rfl
theorem dX9_init_110 : decode cX9_init 110 = .ok (.aload_n 0, 1) := kDec_at dA117_cX9_init 2 rfl
theorem dX9_init_111 : decode cX9_init 111 = .ok (.getfield 26, 3) := kDec_at dA117_cX9_init 3 rfl
theorem dX9_init_114 : decode cX9_init 114 = .ok (.iconst (-1), 1) := kDec_at dA117_cX9_init 4 rfl
theorem dX9_init_115 : decode cX9_init 115 = .ok (.invokestatic 53, 3) := kDec_at dA117_cX9_init 5 rfl
theorem dX9_init_118 : decode cX9_init 118 = .ok (.aload_n 0, 1) := kDec_at dA117_cX9_init 6 rfl
theorem dX9_init_119 : decode cX9_init 119 = .ok (.iconst 0, 1) := kDec_at dA117_cX9_init 7 rfl
theorem dX9_init_120 : decode cX9_init 120 = .ok (.putfield 59, 3) := kDec_at dA117_cX9_init 8 rfl
theorem dX9_init_123 : decode cX9_init 123 = .ok (.return_, 1) := kDec_at dA117_cX9_init 9 rfl
set_option maxRecDepth 20000 in
theorem ggX9_init_J7_fill_53178 : GoodIn wsX9_init wsJ7_fill_53178 := goodIn_r _ [33] rfl (by decide +kernel)
set_option maxRecDepth 20000 in
theorem gX9_init_J7_fill_53178 : GoodIn wsX9_init (va_wsS RX9 53 yJ7_fill_53178 wsJ7_fill_53178) := goodIn_app (goodIn_r _ [30, 31, 32] rfl (by decide +kernel)) ggX9_init_J7_fill_53178
set_option maxRecDepth 100000 in
theorem dA118_cX8_init : kDec cX8_init [(0, .aload_n 0, 1), (1, .invokespecial 3, 3), (4, .aload_n 0, 1), (5, .aload_n 1, 1), (6, .putfield 9, 3), (9, .aload_n 0, 1), (10, .aload_n 2, 1), (11, .putfield 15, 3), (14, .aload_n 0, 1), (15, .iconst 0, 1), (16, .putfield 19, 3), (19, .aload_n 0, 1), (20, .bipush 32, 2), (22, .putfield 23, 3), (25, .aload_n 0, 1), (26, .iconst 0, 1), (27, .putfield 26, 3), (30, .aload_n 0, 1), (31, .iconst 0, 1), (32, .putfield 29, 3), (35, .return_, 1)] = true := by decide +kernel
theorem dX8_init_0 : decode cX8_init 0 = .ok (.aload_n 0, 1) := kDec_at dA118_cX8_init 0 rfl
theorem dX8_init_1 : decode cX8_init 1 = .ok (.invokespecial 3, 3) := kDec_at dA118_cX8_init 1 rfl
theorem dX8_init_4 : decode cX8_init 4 = .ok (.aload_n 0, 1) := kDec_at dA118_cX8_init 2 rfl
theorem dX8_init_5 : decode cX8_init 5 = .ok (.aload_n 1, 1) := kDec_at dA118_cX8_init 3 rfl
theorem dX8_init_6 : decode cX8_init 6 = .ok (.putfield 9, 3) := kDec_at dA118_cX8_init 4 rfl
theorem dX8_init_9 : decode cX8_init 9 = .ok (.aload_n 0, 1) := kDec_at dA118_cX8_init 5 rfl
theorem dX8_init_10 : decode cX8_init 10 = .ok (.aload_n 2, 1) := kDec_at dA118_cX8_init 6 rfl
theorem dX8_init_11 : decode cX8_init 11 = .ok (.putfield 15, 3) := kDec_at dA118_cX8_init 7 rfl
theorem dX8_init_14 : decode cX8_init 14 = .ok (.aload_n 0, 1) := kDec_at dA118_cX8_init 8 rfl
theorem dX8_init_15 : decode cX8_init 15 = .ok (.iconst 0, 1) := kDec_at dA118_cX8_init 9 rfl
theorem dX8_init_16 : decode cX8_init 16 = .ok (.putfield 19, 3) := kDec_at dA118_cX8_init 10 rfl
theorem dX8_init_19 : decode cX8_init 19 = .ok (.aload_n 0, 1) := kDec_at dA118_cX8_init 11 rfl
theorem dX8_init_20 : decode cX8_init 20 = .ok (.bipush 32, 2) := kDec_at dA118_cX8_init 12 rfl
theorem dX8_init_22 : decode cX8_init 22 = .ok (.putfield 23, 3) := kDec_at dA118_cX8_init 13 rfl
theorem dX8_init_25 : decode cX8_init 25 = .ok (.aload_n 0, 1) := kDec_at dA118_cX8_init 14 rfl
theorem dX8_init_26 : decode cX8_init 26 = .ok (.iconst 0, 1) := kDec_at dA118_cX8_init 15 rfl
theorem dX8_init_27 : decode cX8_init 27 = .ok (.putfield 26, 3) := kDec_at dA118_cX8_init 16 rfl
theorem dX8_init_30 : decode cX8_init 30 = .ok (.aload_n 0, 1) := kDec_at dA118_cX8_init 17 rfl
theorem dX8_init_31 : decode cX8_init 31 = .ok (.iconst 0, 1) := kDec_at dA118_cX8_init 18 rfl
theorem dX8_init_32 : decode cX8_init 32 = .ok (.putfield 29, 3) := kDec_at dA118_cX8_init 19 rfl
theorem dX8_init_35 : decode cX8_init 35 = .ok (.return_, 1) := kDec_at dA118_cX8_init 20 rfl
set_option maxRecDepth 100000 in
theorem dA119_cX6_init : kDec cX6_init [(0, .aload_n 0, 1), (1, .invokespecial 3, 3), (4, .aload_n 0, 1), (5, .new 9, 3), (8, .dup, 1), (9, .sipush 480, 3), (12, .invokespecial 11, 3), (15, .putfield 14, 3), (18, .aload_n 0, 1), (19, .new 9, 3), (22, .dup, 1), (23, .sipush 300, 3), (26, .invokespecial 11, 3), (29, .putfield 20, 3), (32, .aload_n 0, 1), (33, .new 9, 3), (36, .dup, 1), (37, .sipush 300, 3), (40, .invokespecial 11, 3), (43, .putfield 23, 3), (46, .aload_n 0, 1), (47, .bipush 61, 2), (49, .newarray .int, 2), (51, .putfield 26, 3)] = true := by decide +kernel
theorem dX6_init_0 : decode cX6_init 0 = .ok (.aload_n 0, 1) := kDec_at dA119_cX6_init 0 rfl
theorem dX6_init_1 : decode cX6_init 1 = .ok (.invokespecial 3, 3) := kDec_at dA119_cX6_init 1 rfl
theorem dX6_init_4 : decode cX6_init 4 = .ok (.aload_n 0, 1) := kDec_at dA119_cX6_init 2 rfl
theorem dX6_init_5 : decode cX6_init 5 = .ok (.new 9, 3) := kDec_at dA119_cX6_init 3 rfl
theorem dX6_init_8 : decode cX6_init 8 = .ok (.dup, 1) := kDec_at dA119_cX6_init 4 rfl
theorem dX6_init_9 : decode cX6_init 9 = .ok (.sipush 480, 3) := kDec_at dA119_cX6_init 5 rfl
theorem dX6_init_12 : decode cX6_init 12 = .ok (.invokespecial 11, 3) := kDec_at dA119_cX6_init 6 rfl
theorem dX6_init_15 : decode cX6_init 15 = .ok (.putfield 14, 3) := kDec_at dA119_cX6_init 7 rfl
theorem dX6_init_18 : decode cX6_init 18 = .ok (.aload_n 0, 1) := kDec_at dA119_cX6_init 8 rfl
theorem dX6_init_19 : decode cX6_init 19 = .ok (.new 9, 3) := kDec_at dA119_cX6_init 9 rfl
theorem dX6_init_22 : decode cX6_init 22 = .ok (.dup, 1) := kDec_at dA119_cX6_init 10 rfl
theorem dX6_init_23 : decode cX6_init 23 = .ok (.sipush 300, 3) := kDec_at dA119_cX6_init 11 rfl
theorem dX6_init_26 : decode cX6_init 26 = .ok (.invokespecial 11, 3) := kDec_at dA119_cX6_init 12 rfl
theorem dX6_init_29 : decode cX6_init 29 = .ok (.putfield 20, 3) := kDec_at dA119_cX6_init 13 rfl
theorem dX6_init_32 : decode cX6_init 32 = .ok (.aload_n 0, 1) := kDec_at dA119_cX6_init 14 rfl
theorem dX6_init_33 : decode cX6_init 33 = .ok (.new 9, 3) := kDec_at dA119_cX6_init 15 rfl
theorem dX6_init_36 : decode cX6_init 36 = .ok (.dup, 1) := kDec_at dA119_cX6_init 16 rfl
theorem dX6_init_37 : decode cX6_init 37 = .ok (.sipush 300, 3) := kDec_at dA119_cX6_init 17 rfl
theorem dX6_init_40 : decode cX6_init 40 = .ok (.invokespecial 11, 3) := kDec_at dA119_cX6_init 18 rfl
theorem dX6_init_43 : decode cX6_init 43 = .ok (.putfield 23, 3) := kDec_at dA119_cX6_init 19 rfl
theorem dX6_init_46 : decode cX6_init 46 = .ok (.aload_n 0, 1) := kDec_at dA119_cX6_init 20 rfl
theorem dX6_init_47 : decode cX6_init 47 = .ok (.bipush 61, 2) := kDec_at dA119_cX6_init 21 rfl
theorem dX6_init_49 : decode cX6_init 49 = .ok (.newarray .int, 2) := kDec_at dA119_cX6_init 22 rfl
theorem dX6_init_51 : decode cX6_init 51 = .ok (.putfield 26, 3) := kDec_at dA119_cX6_init 23 rfl
set_option maxRecDepth 20000 in
theorem ggX6_init_X5_init : GoodIn wsX6_init wsX5_init := goodIn_r _ [25, 26, 2, 3, 27, 28, 29, 30, 10, 31, 32, 43, 44] rfl (by decide +kernel)
set_option maxRecDepth 20000 in
theorem gX6_init_X5_init : GoodIn wsX6_init (wsX5_init) := ggX6_init_X5_init
set_option maxRecDepth 100000 in
theorem dA120_cX6_init : kDec cX6_init [(54, .aload_n 0, 1), (55, .bipush 61, 2), (57, .newarray .int, 2), (59, .putfield 30, 3), (62, .aload_n 0, 1), (63, .bipush 61, 2), (65, .newarray .int, 2), (67, .putfield 33, 3), (70, .aload_n 0, 1), (71, .bipush 61, 2), (73, .newarray .int, 2), (75, .putfield 36, 3), (78, .aload_n 0, 1), (79, .aload_n 1, 1), (80, .putfield 39, 3), (83, .aload_n 0, 1), (84, .aload_n 2, 1), (85, .putfield 43, 3), (88, .aload_n 0, 1), (89, .aload_n 3, 1), (90, .putfield 47, 3), (93, .aload_n 0, 1), (94, .new 51, 3), (97, .dup, 1)] = true := by decide +kernel
theorem dX6_init_54 : decode cX6_init 54 = .ok (.aload_n 0, 1) := kDec_at dA120_cX6_init 0 rfl
theorem dX6_init_55 : decode cX6_init 55 = .ok (.bipush 61, 2) := kDec_at dA120_cX6_init 1 rfl
theorem dX6_init_57 : decode cX6_init 57 = .ok (.newarray .int, 2) := kDec_at dA120_cX6_init 2 rfl
theorem dX6_init_59 : decode cX6_init 59 = .ok (.putfield 30, 3) := kDec_at dA120_cX6_init 3 rfl
theorem dX6_init_62 : decode cX6_init 62 = .ok (.aload_n 0, 1) := kDec_at dA120_cX6_init 4 rfl
theorem dX6_init_63 : decode cX6_init 63 = .ok (.bipush 61, 2) := kDec_at dA120_cX6_init 5 rfl
theorem dX6_init_65 : decode cX6_init 65 = .ok (.newarray .int, 2) := kDec_at dA120_cX6_init 6 rfl
theorem dX6_init_67 : decode cX6_init 67 = .ok (.putfield 33, 3) := kDec_at dA120_cX6_init 7 rfl
theorem dX6_init_70 : decode cX6_init 70 = .ok (.aload_n 0, 1) := kDec_at dA120_cX6_init 8 rfl
theorem dX6_init_71 : decode cX6_init 71 = .ok (.bipush 61, 2) := kDec_at dA120_cX6_init 9 rfl
theorem dX6_init_73 : decode cX6_init 73 = .ok (.newarray .int, 2) := kDec_at dA120_cX6_init 10 rfl
theorem dX6_init_75 : decode cX6_init 75 = .ok (.putfield 36, 3) := kDec_at dA120_cX6_init 11 rfl
theorem dX6_init_78 : decode cX6_init 78 = .ok (.aload_n 0, 1) := kDec_at dA120_cX6_init 12 rfl
theorem dX6_init_79 : decode cX6_init 79 = .ok (.aload_n 1, 1) := kDec_at dA120_cX6_init 13 rfl
theorem dX6_init_80 : decode cX6_init 80 = .ok (.putfield 39, 3) := kDec_at dA120_cX6_init 14 rfl
theorem dX6_init_83 : decode cX6_init 83 = .ok (.aload_n 0, 1) := kDec_at dA120_cX6_init 15 rfl
theorem dX6_init_84 : decode cX6_init 84 = .ok (.aload_n 2, 1) := kDec_at dA120_cX6_init 16 rfl
theorem dX6_init_85 : decode cX6_init 85 = .ok (.putfield 43, 3) := kDec_at dA120_cX6_init 17 rfl
theorem dX6_init_88 : decode cX6_init 88 = .ok (.aload_n 0, 1) := kDec_at dA120_cX6_init 18 rfl
theorem dX6_init_89 : decode cX6_init 89 = .ok (.aload_n 3, 1) := kDec_at dA120_cX6_init 19 rfl
theorem dX6_init_90 : decode cX6_init 90 = .ok (.putfield 47, 3) := kDec_at dA120_cX6_init 20 rfl
theorem dX6_init_93 : decode cX6_init 93 = .ok (.aload_n 0, 1) := kDec_at dA120_cX6_init 21 rfl
theorem dX6_init_94 : decode cX6_init 94 = .ok (.new 51, 3) := kDec_at dA120_cX6_init 22 rfl
theorem dX6_init_97 : decode cX6_init 97 = .ok (.dup, 1) := kDec_at dA120_cX6_init 23 rfl
set_option maxRecDepth 100000 in
theorem dA121_cX6_init : kDec cX6_init [(98, .aload_n 1, 1), (99, .aload_n 3, 1), (100, .invokespecial 53, 3), (103, .putfield 56, 3), (106, .aload_n 0, 1), (107, .iconst 0, 1), (108, .putfield 60, 3), (111, .return_, 1)] = true := by decide +kernel
theorem dX6_init_98 : decode cX6_init 98 = .ok (.aload_n 1, 1) := kDec_at dA121_cX6_init 0 rfl
theorem dX6_init_99 : decode cX6_init 99 = .ok (.aload_n 3, 1) := kDec_at dA121_cX6_init 1 rfl
theorem dX6_init_100 : decode cX6_init 100 = .ok (.invokespecial 53, 3) := kDec_at dA121_cX6_init 2 rfl
theorem dX6_init_103 : decode cX6_init 103 = .ok (.putfield 56, 3) := kDec_at dA121_cX6_init 3 rfl
theorem dX6_init_106 : decode cX6_init 106 = .ok (.aload_n 0, 1) := kDec_at dA121_cX6_init 4 rfl
theorem dX6_init_107 : decode cX6_init 107 = .ok (.iconst 0, 1) := kDec_at dA121_cX6_init 5 rfl
theorem dX6_init_108 : decode cX6_init 108 = .ok (.putfield 60, 3) := kDec_at dA121_cX6_init 6 rfl
theorem dX6_init_111 : decode cX6_init 111 = .ok (.return_, 1) := kDec_at dA121_cX6_init 7 rfl
set_option maxRecDepth 20000 in
theorem ggX6_init_X8_init : GoodIn wsX6_init wsX8_init := goodIn_r _ [35, 36, 2, 3, 37, 38, 39, 40, 41, 42, 57, 58, 59, 60, 61, 62] rfl (by decide +kernel)
set_option maxRecDepth 20000 in
theorem gX6_init_X8_init : GoodIn wsX6_init (wsX8_init) := ggX6_init_X8_init
set_option maxRecDepth 100000 in
theorem dA122_cX1_init : kDec cX1_init [(0, .aload_n 0, 1), (1, .invokespecial 3, 3), (4, .aload_n 0, 1), (5, .new 9, 3), (8, .dup, 1), (9, .sipush 800, 3), (12, .invokespecial 13, 3), (15, .putfield 16, 3), (18, .aload_n 0, 1), (19, .sipush 801, 3), (22, .newarray .int, 2), (24, .putfield 20, 3), (27, .aload_n 0, 1), (28, .sipush 801, 3), (31, .newarray .int, 2), (33, .putfield 24, 3), (36, .aload_n 0, 1), (37, .sipush 801, 3), (40, .newarray .int, 2), (42, .putfield 27, 3), (45, .aload_n 0, 1), (46, .sipush 200, 3), (49, .newarray .int, 2), (51, .putfield 30, 3)] = true := by decide +kernel
theorem dX1_init_0 : decode cX1_init 0 = .ok (.aload_n 0, 1) := kDec_at dA122_cX1_init 0 rfl
theorem dX1_init_1 : decode cX1_init 1 = .ok (.invokespecial 3, 3) := kDec_at dA122_cX1_init 1 rfl
theorem dX1_init_4 : decode cX1_init 4 = .ok (.aload_n 0, 1) := kDec_at dA122_cX1_init 2 rfl
theorem dX1_init_5 : decode cX1_init 5 = .ok (.new 9, 3) := kDec_at dA122_cX1_init 3 rfl
theorem dX1_init_8 : decode cX1_init 8 = .ok (.dup, 1) := kDec_at dA122_cX1_init 4 rfl
theorem dX1_init_9 : decode cX1_init 9 = .ok (.sipush 800, 3) := kDec_at dA122_cX1_init 5 rfl
theorem dX1_init_12 : decode cX1_init 12 = .ok (.invokespecial 13, 3) := kDec_at dA122_cX1_init 6 rfl
theorem dX1_init_15 : decode cX1_init 15 = .ok (.putfield 16, 3) := kDec_at dA122_cX1_init 7 rfl
theorem dX1_init_18 : decode cX1_init 18 = .ok (.aload_n 0, 1) := kDec_at dA122_cX1_init 8 rfl
theorem dX1_init_19 : decode cX1_init 19 = .ok (.sipush 801, 3) := kDec_at dA122_cX1_init 9 rfl
theorem dX1_init_22 : decode cX1_init 22 = .ok (.newarray .int, 2) := kDec_at dA122_cX1_init 10 rfl
theorem dX1_init_24 : decode cX1_init 24 = .ok (.putfield 20, 3) := kDec_at dA122_cX1_init 11 rfl
theorem dX1_init_27 : decode cX1_init 27 = .ok (.aload_n 0, 1) := kDec_at dA122_cX1_init 12 rfl
theorem dX1_init_28 : decode cX1_init 28 = .ok (.sipush 801, 3) := kDec_at dA122_cX1_init 13 rfl
theorem dX1_init_31 : decode cX1_init 31 = .ok (.newarray .int, 2) := kDec_at dA122_cX1_init 14 rfl
theorem dX1_init_33 : decode cX1_init 33 = .ok (.putfield 24, 3) := kDec_at dA122_cX1_init 15 rfl
theorem dX1_init_36 : decode cX1_init 36 = .ok (.aload_n 0, 1) := kDec_at dA122_cX1_init 16 rfl
theorem dX1_init_37 : decode cX1_init 37 = .ok (.sipush 801, 3) := kDec_at dA122_cX1_init 17 rfl
theorem dX1_init_40 : decode cX1_init 40 = .ok (.newarray .int, 2) := kDec_at dA122_cX1_init 18 rfl
theorem dX1_init_42 : decode cX1_init 42 = .ok (.putfield 27, 3) := kDec_at dA122_cX1_init 19 rfl
theorem dX1_init_45 : decode cX1_init 45 = .ok (.aload_n 0, 1) := kDec_at dA122_cX1_init 20 rfl
theorem dX1_init_46 : decode cX1_init 46 = .ok (.sipush 200, 3) := kDec_at dA122_cX1_init 21 rfl
theorem dX1_init_49 : decode cX1_init 49 = .ok (.newarray .int, 2) := kDec_at dA122_cX1_init 22 rfl
theorem dX1_init_51 : decode cX1_init 51 = .ok (.putfield 30, 3) := kDec_at dA122_cX1_init 23 rfl
set_option maxRecDepth 20000 in
theorem ggX1_init_X5_init : GoodIn wsX1_init wsX5_init := goodIn_r _ [33, 34, 2, 3, 35, 36, 37, 38, 8, 39, 40, 51, 52] rfl (by decide +kernel)
set_option maxRecDepth 20000 in
theorem gX1_init_X5_init : GoodIn wsX1_init (wsX5_init) := ggX1_init_X5_init
set_option maxRecDepth 100000 in
theorem dA123_cX1_init : kDec cX1_init [(54, .aload_n 0, 1), (55, .sipush 200, 3), (58, .newarray .int, 2), (60, .putfield 33, 3), (63, .aload_n 0, 1), (64, .sipush 200, 3), (67, .newarray .int, 2), (69, .putfield 36, 3), (72, .aload_n 0, 1), (73, .sipush 200, 3), (76, .newarray .int, 2), (78, .putfield 39, 3), (81, .aload_n 0, 1), (82, .aload_n 1, 1), (83, .putfield 42, 3), (86, .aload_n 0, 1), (87, .aload_n 2, 1), (88, .putfield 46, 3), (91, .aload_n 0, 1), (92, .new 50, 3), (95, .dup, 1), (96, .aload_n 1, 1), (97, .aload_n 2, 1), (98, .invokespecial 52, 3)] = true := by decide +kernel
theorem dX1_init_54 : decode cX1_init 54 = .ok (.aload_n 0, 1) := kDec_at dA123_cX1_init 0 rfl
theorem dX1_init_55 : decode cX1_init 55 = .ok (.sipush 200, 3) := kDec_at dA123_cX1_init 1 rfl
theorem dX1_init_58 : decode cX1_init 58 = .ok (.newarray .int, 2) := kDec_at dA123_cX1_init 2 rfl
theorem dX1_init_60 : decode cX1_init 60 = .ok (.putfield 33, 3) := kDec_at dA123_cX1_init 3 rfl
theorem dX1_init_63 : decode cX1_init 63 = .ok (.aload_n 0, 1) := kDec_at dA123_cX1_init 4 rfl
theorem dX1_init_64 : decode cX1_init 64 = .ok (.sipush 200, 3) := kDec_at dA123_cX1_init 5 rfl
theorem dX1_init_67 : decode cX1_init 67 = .ok (.newarray .int, 2) := kDec_at dA123_cX1_init 6 rfl
theorem dX1_init_69 : decode cX1_init 69 = .ok (.putfield 36, 3) := kDec_at dA123_cX1_init 7 rfl
theorem dX1_init_72 : decode cX1_init 72 = .ok (.aload_n 0, 1) := kDec_at dA123_cX1_init 8 rfl
theorem dX1_init_73 : decode cX1_init 73 = .ok (.sipush 200, 3) := kDec_at dA123_cX1_init 9 rfl
theorem dX1_init_76 : decode cX1_init 76 = .ok (.newarray .int, 2) := kDec_at dA123_cX1_init 10 rfl
theorem dX1_init_78 : decode cX1_init 78 = .ok (.putfield 39, 3) := kDec_at dA123_cX1_init 11 rfl
theorem dX1_init_81 : decode cX1_init 81 = .ok (.aload_n 0, 1) := kDec_at dA123_cX1_init 12 rfl
theorem dX1_init_82 : decode cX1_init 82 = .ok (.aload_n 1, 1) := kDec_at dA123_cX1_init 13 rfl
theorem dX1_init_83 : decode cX1_init 83 = .ok (.putfield 42, 3) := kDec_at dA123_cX1_init 14 rfl
theorem dX1_init_86 : decode cX1_init 86 = .ok (.aload_n 0, 1) := kDec_at dA123_cX1_init 15 rfl
theorem dX1_init_87 : decode cX1_init 87 = .ok (.aload_n 2, 1) := kDec_at dA123_cX1_init 16 rfl
theorem dX1_init_88 : decode cX1_init 88 = .ok (.putfield 46, 3) := kDec_at dA123_cX1_init 17 rfl
theorem dX1_init_91 : decode cX1_init 91 = .ok (.aload_n 0, 1) := kDec_at dA123_cX1_init 18 rfl
theorem dX1_init_92 : decode cX1_init 92 = .ok (.new 50, 3) := kDec_at dA123_cX1_init 19 rfl
theorem dX1_init_95 : decode cX1_init 95 = .ok (.dup, 1) := kDec_at dA123_cX1_init 20 rfl
theorem dX1_init_96 : decode cX1_init 96 = .ok (.aload_n 1, 1) := kDec_at dA123_cX1_init 21 rfl
theorem dX1_init_97 : decode cX1_init 97 = .ok (.aload_n 2, 1) := kDec_at dA123_cX1_init 22 rfl
theorem dX1_init_98 : decode cX1_init 98 = .ok (.invokespecial 52, 3) := kDec_at dA123_cX1_init 23 rfl
set_option maxRecDepth 20000 in
theorem ggX1_init_X8_init : GoodIn wsX1_init wsX8_init := goodIn_r _ [43, 44, 2, 3, 45, 46, 47, 48, 49, 50, 73, 74, 75, 76, 77, 78] rfl (by decide +kernel)
set_option maxRecDepth 20000 in
theorem gX1_init_X8_init : GoodIn wsX1_init (wsX8_init) := ggX1_init_X8_init
set_option maxRecDepth 100000 in
theorem dA124_cX1_init : kDec cX1_init [(101, .putfield 55, 3), (104, .aload_n 0, 1), (105, .new 50, 3), (108, .dup, 1), (109, .aload_n 1, 1), (110, .aload_n 2, 1), (111, .invokespecial 52, 3), (114, .putfield 59, 3), (117, .aload_n 0, 1), (118, .new 50, 3), (121, .dup, 1), (122, .aload_n 1, 1), (123, .aload_n 2, 1), (124, .invokespecial 52, 3), (127, .putfield 62, 3), (130, .aload_n 0, 1), (131, .iconst 0, 1), (132, .putfield 65, 3), (135, .aload_n 0, 1), (136, .iconst 0, 1), (137, .putfield 69, 3), (140, .aload_n 0, 1), (141, .iconst 0, 1), (142, .putfield 72, 3)] = true := by decide +kernel
theorem dX1_init_101 : decode cX1_init 101 = .ok (.putfield 55, 3) := kDec_at dA124_cX1_init 0 rfl
theorem dX1_init_104 : decode cX1_init 104 = .ok (.aload_n 0, 1) := kDec_at dA124_cX1_init 1 rfl
theorem dX1_init_105 : decode cX1_init 105 = .ok (.new 50, 3) := kDec_at dA124_cX1_init 2 rfl
theorem dX1_init_108 : decode cX1_init 108 = .ok (.dup, 1) := kDec_at dA124_cX1_init 3 rfl
theorem dX1_init_109 : decode cX1_init 109 = .ok (.aload_n 1, 1) := kDec_at dA124_cX1_init 4 rfl
theorem dX1_init_110 : decode cX1_init 110 = .ok (.aload_n 2, 1) := kDec_at dA124_cX1_init 5 rfl
theorem dX1_init_111 : decode cX1_init 111 = .ok (.invokespecial 52, 3) := kDec_at dA124_cX1_init 6 rfl
theorem dX1_init_114 : decode cX1_init 114 = .ok (.putfield 59, 3) := kDec_at dA124_cX1_init 7 rfl
theorem dX1_init_117 : decode cX1_init 117 = .ok (.aload_n 0, 1) := kDec_at dA124_cX1_init 8 rfl
theorem dX1_init_118 : decode cX1_init 118 = .ok (.new 50, 3) := kDec_at dA124_cX1_init 9 rfl
theorem dX1_init_121 : decode cX1_init 121 = .ok (.dup, 1) := kDec_at dA124_cX1_init 10 rfl
theorem dX1_init_122 : decode cX1_init 122 = .ok (.aload_n 1, 1) := kDec_at dA124_cX1_init 11 rfl
theorem dX1_init_123 : decode cX1_init 123 = .ok (.aload_n 2, 1) := kDec_at dA124_cX1_init 12 rfl
theorem dX1_init_124 : decode cX1_init 124 = .ok (.invokespecial 52, 3) := kDec_at dA124_cX1_init 13 rfl
theorem dX1_init_127 : decode cX1_init 127 = .ok (.putfield 62, 3) := kDec_at dA124_cX1_init 14 rfl
theorem dX1_init_130 : decode cX1_init 130 = .ok (.aload_n 0, 1) := kDec_at dA124_cX1_init 15 rfl
theorem dX1_init_131 : decode cX1_init 131 = .ok (.iconst 0, 1) := kDec_at dA124_cX1_init 16 rfl
theorem dX1_init_132 : decode cX1_init 132 = .ok (.putfield 65, 3) := kDec_at dA124_cX1_init 17 rfl
theorem dX1_init_135 : decode cX1_init 135 = .ok (.aload_n 0, 1) := kDec_at dA124_cX1_init 18 rfl
theorem dX1_init_136 : decode cX1_init 136 = .ok (.iconst 0, 1) := kDec_at dA124_cX1_init 19 rfl
theorem dX1_init_137 : decode cX1_init 137 = .ok (.putfield 69, 3) := kDec_at dA124_cX1_init 20 rfl
theorem dX1_init_140 : decode cX1_init 140 = .ok (.aload_n 0, 1) := kDec_at dA124_cX1_init 21 rfl
theorem dX1_init_141 : decode cX1_init 141 = .ok (.iconst 0, 1) := kDec_at dA124_cX1_init 22 rfl
theorem dX1_init_142 : decode cX1_init 142 = .ok (.putfield 72, 3) := kDec_at dA124_cX1_init 23 rfl
set_option maxRecDepth 100000 in
theorem dA125_cX1_init : kDec cX1_init [(145, .aload_n 0, 1), (146, .iconst (-1), 1), (147, .putfield 76, 3), (150, .aload_n 0, 1), (151, .iconst (-1), 1), (152, .putfield 79, 3), (155, .aload_n 0, 1), (156, .iconst (-1), 1), (157, .putfield 82, 3), (160, .aload_n 0, 1), (161, .iconst (-1), 1), (162, .putfield 85, 3), (165, .return_, 1)] = true := by decide +kernel
theorem dX1_init_145 : decode cX1_init 145 = .ok (.aload_n 0, 1) := kDec_at dA125_cX1_init 0 rfl
theorem dX1_init_146 : decode cX1_init 146 = .ok (.iconst (-1), 1) := kDec_at dA125_cX1_init 1 rfl
theorem dX1_init_147 : decode cX1_init 147 = .ok (.putfield 76, 3) := kDec_at dA125_cX1_init 2 rfl
theorem dX1_init_150 : decode cX1_init 150 = .ok (.aload_n 0, 1) := kDec_at dA125_cX1_init 3 rfl
theorem dX1_init_151 : decode cX1_init 151 = .ok (.iconst (-1), 1) := kDec_at dA125_cX1_init 4 rfl
theorem dX1_init_152 : decode cX1_init 152 = .ok (.putfield 79, 3) := kDec_at dA125_cX1_init 5 rfl
theorem dX1_init_155 : decode cX1_init 155 = .ok (.aload_n 0, 1) := kDec_at dA125_cX1_init 6 rfl
theorem dX1_init_156 : decode cX1_init 156 = .ok (.iconst (-1), 1) := kDec_at dA125_cX1_init 7 rfl
theorem dX1_init_157 : decode cX1_init 157 = .ok (.putfield 82, 3) := kDec_at dA125_cX1_init 8 rfl
theorem dX1_init_160 : decode cX1_init 160 = .ok (.aload_n 0, 1) := kDec_at dA125_cX1_init 9 rfl
theorem dX1_init_161 : decode cX1_init 161 = .ok (.iconst (-1), 1) := kDec_at dA125_cX1_init 10 rfl
theorem dX1_init_162 : decode cX1_init 162 = .ok (.putfield 85, 3) := kDec_at dA125_cX1_init 11 rfl
theorem dX1_init_165 : decode cX1_init 165 = .ok (.return_, 1) := kDec_at dA125_cX1_init 12 rfl

end

/-! 40.makers -/
section
theorem p_pos {k : Int32} (h : 0 < k) : ¬ k < 0 := fun h2 => Int32.lt_irrefl (Int32.lt_trans h h2)

theorem p_fill {f : Nat → Int32} {v x : Int32} {i : Nat} (hx : x = nI i) (hi : i < 2 ^ 31) (h : ∀ j, j < i → f j = v) : ∀ j, j < i + 1 → upd f x.toNatClampNeg v j = v := by
  intro j hj
  rw [hx, nI_clamp hi]
  by_cases e : j = i
  · subst e; exact pk_us
  · rw [pk_un e]; exact h j (by omega)
theorem p_sfill {f : Nat → Int32} {v x : Int32} {i : Nat} (hx : x = nI i) (hi : i < 2 ^ 31) (hv : vp_nar .short v = v) (h : ∀ j, j < i → f j = v) : ∀ j, j < i + 1 → upd f x.toNatClampNeg (vp_nar .short v) j = v := by
  rw [hv]
  exact p_fill hx hi h

set_option maxHeartbeats 4000000 in
set_option maxRecDepth 100000 in
theorem k_X5_init (l : Launch) (dC : Nat → ClassId) (dI : Nat → Nat → Nat) (cI cS : ClassId) (sz : Nat) (nu : Nat) (n : Nat) (k : Int32) (hk0 : 0 < k) (hk1 : k.toNatClampNeg = n) (hn : n ≤ 2400) : Met l yX5_init wsX5_init ({ frames := 1, cells := 1, slots := n, locals := 21 } : Room) (va_Pc [.ref nu, .int k] (fun U => U.heap.size = sz ∧ va_P (dC, dI) vwCl [(nu, .inr (5, [.null, .int 0]))] U.heap ∧ va_K (dC, dI) vwCl [(cI, .int), (cS, .short)] U ∧ va_D (fun _ => True) [(nu, .inr (5, [.null, .int 0]))])) (va_Qv (fun (_ : Unit) => True) (fun _ t => ∃ (ar : Nat), va_P (dC, dI) vwCl [(nu, .inr (5, [.ref ar, .int 0])), (ar, .inl (cI, n, .inl (fun _ => 0)))] t.heap ∧ va_D (va_A [(nu, .inr (5, [.null, .int 0]))] sz) [(nu, .inr (5, [.ref ar, .int 0])), (ar, .inl (cI, n, .inl (fun _ => 0)))]) (va_A [(nu, .inr (5, [.null, .int 0]))] sz)) 1 n (va_A [(nu, .inr (5, [.null, .int 0]))] sz) := by
  refine Met.ofW (cc := cX5_init) (maxL := 2) (ret := none) (by decide) rfl ?_
  intro p e s m args below meth c s₁ B hml hv
  obtain ⟨rfl, hsz, hP, hK, hD0⟩ := hv
  have hx := B.exec
  have hb := B.bytes
  have hr := B.returns
  have hts := atoms_spec (ws := wsX5_init) B.pre
  have hown : s.vm.findClass RX5 = some m.cls := findClass_of_methodNamed B.named
  have hlocks := B.notSynchronized
  have hin : meth.name = "<init>" := (name_of_methodNamed B.named B.method).1
  have in_X5 : ∀ w ∈ wsX50, w ∈ wsX5_init := fun _ h => List.mem_cons_of_mem _ (List.mem_append_right _ (h))
  subst hsz
  have hD := hD0.self (sz := s.heap.size)
  generalize hAe : va_A [(nu, .inr (5, [.null, .int 0]))] s.heap.size = A at hD ⊢
  have hA : ∀ q : Nat, s.heap.size ≤ q → A q := fun q h => by rw [← hAe]; exact Or.inr h
  have hS : va_S A s.heap s.heap [] := va_S.rf
  have hP : va_P (dC, dI) vwCl [(nu, .inr (5, [.null, .int 0]))] s.heap := hP
  have hl := lv_entry ([.ref nu, .int k]) (n := 2) (Nat.le_of_ble_eq_true rfl)
  rw [lg_entry_eq]
  generalize (lg_sl ([.ref nu, .int k]) ++ List.replicate (2 - (lg_sl ([.ref nu, .int k])).length) Slot.unset).toArray = ls at hl ⊢
  have hl : lv_has ls 2 [(0, .ref nu), (1, .int k)] := hl
  refine lv_aload_n hx hb dX5_init_0 rfl (lv_at hl 0 rfl) ?_
  refine W.objInit hx hb hown (hts (.methodLink RX5 3 objectInit) (List.mem_of_getElem? (i := 1) rfl)) (hts (.instanceMethod objectInit) (List.mem_of_getElem? (i := 2) rfl)) (hts (.code objectInit ⟨#[0xb1]⟩ 1 none) (List.mem_of_getElem? (i := 3) rfl)) rfl (by rw [hml]; exact hl.1) rfl dX5_init_1 (Nat.le_of_ble_eq_true rfl) (Nat.le_of_ble_eq_true rfl) ?_
  refine W.eq (g2 := F0 m 4 ls []) rfl ?_
  refine lv_aload_n hx hb dX5_init_4 rfl (lv_at hl 0 rfl) ?_
  refine lv_iconst (v := 0) hx hb dX5_init_5 (by decide) ?_
  refine lv_iload_n hx hb dX5_init_6 rfl (lv_at hl 1 rfl) ?_
  refine va_mmax hx hb (by rw [hml]; exact hl.1.symm) hown (hts (.methodLink RX5 9 Lib.Math.max.name) (List.mem_of_getElem? (i := 4) rfl)) (hts (.static Lib.Math.max.name) (List.mem_of_getElem? (i := 5) rfl)) (hts (.initialized "java/lang/Math") (List.mem_of_getElem? (i := 6) rfl)) (hts (.code Lib.Math.max.name Lib.Math.max.code 2 (some .int)) (List.mem_of_getElem? (i := 7) rfl)) (Nat.le_of_ble_eq_true rfl) (Nat.le_of_ble_eq_true rfl) (Nat.zero_le _) (Nat.zero_le _) dX5_init_7 ?_
  refine k_i (y := k) (if_pos hk0) ?_
  refine p_newint hx hb (hts (.arrayClass .int) (List.mem_of_getElem? (i := 8) rfl)) hK hP hD hS hA (n := k) (N := n) (p_pos hk0) hk1 (by omega) (Nat.le_of_ble_eq_true rfl) (by show 0 + n ≤ n; omega) dX5_init_10 (fun q_1 H hPn hDn hSn => ?_)
  clear hP hD hS
  have hP : va_P (dC, dI) vwCl [(nu, .inr (5, [.null, .int 0])), (q_1, .inl (cI, n, .inl (fun _ => 0)))] H := hPn
  have hD : va_D A [(nu, .inr (5, [.null, .int 0])), (q_1, .inl (cI, n, .inl (fun _ => 0)))] := hDn
  have hS := hSn
  clear hPn hDn hSn
  refine W.widen (k := 1) (n := n) (by omega) (by omega) ?_
  refine va_putF (D := (dC, dI)) (ci := 5) (v := .ref q_1) (ty := .array .int) (C := RX5) (T := TX5) (N := 2) hx hb hts in_X5 tyX5 tyX5_ok nmX5 hown hK hP hD hS 0 rfl rfl 0 (by decide) (hts (.fieldLink RX5 15 "TextMender$Numbers" "numbers" "[I") (List.mem_of_getElem? (i := 9) rfl)) (fun _ h9 => h9) rfl hin rfl (by decide +kernel) rfl rfl (Nat.le_of_ble_eq_true rfl) dX5_init_12 (fun H locs hPn hDn hSn => ?_)
  clear hP hD hS
  have hP : va_P (dC, dI) vwCl [(nu, .inr (5, [.ref q_1, .int 0])), (q_1, .inl (cI, n, .inl (fun _ => 0)))] H := hPn
  have hD : va_D A [(nu, .inr (5, [.ref q_1, .int 0])), (q_1, .inl (cI, n, .inl (fun _ => 0)))] := hDn
  have hS := hSn
  clear hPn hDn hSn
  refine lv_aload_n hx hb dX5_init_15 rfl (lv_at hl 0 rfl) ?_
  refine lv_iconst (v := 0) hx hb dX5_init_16 (by decide) ?_
  refine va_put (D := (dC, dI)) (ci := 5) (v := .int 0) (ty := .int) (C := RX5) (T := TX5) (N := 2) hx hb hts in_X5 tyX5 tyX5_ok nmX5 hown hK hP hD hS 0 rfl rfl 1 (by decide) (hts (.fieldLink RX5 21 "TextMender$Numbers" "length" "I") (List.mem_of_getElem? (i := 10) rfl)) (fun _ h9 => h9) rfl (by decide +kernel) rfl rfl (Nat.le_of_ble_eq_true rfl) dX5_init_17 (fun H locs hPn hDn hSn => ?_)
  clear hP hD hS
  have hP : va_P (dC, dI) vwCl [(nu, .inr (5, [.ref q_1, .int 0])), (q_1, .inl (cI, n, .inl (fun _ => 0)))] H := hPn
  have hD : va_D A [(nu, .inr (5, [.ref q_1, .int 0])), (q_1, .inl (cI, n, .inl (fun _ => 0)))] := hDn
  have hS := hSn
  clear hPn hDn hSn
  have hP9 := hP.sub (ws' := [(nu, .inr (5, [.ref q_1, .int 0])), (q_1, .inl (cI, n, .inl (fun _ => 0)))]) [0, 1] rfl
  have hD9 := hD.sub (ws' := [(nu, .inr (5, [.ref q_1, .int 0])), (q_1, .inl (cI, n, .inl (fun _ => 0)))]) [0, 1] (by decide +kernel) rfl
  refine W.widen (k := 1) (n := n) (by omega) (by omega) ?_
  exact W.vret hx hb hr (fun t ht hW => ⟨⟨(), rfl, trivial, q_1, by rw [ht]; exact hP9, hD9⟩, hS.F ht⟩) (hS.2.2) dX5_init_20

set_option maxHeartbeats 4000000 in
set_option maxRecDepth 100000 in
theorem k_J7_fill_53178 (l : Launch) (dC : Nat → ClassId) (dI : Nat → Nat → Nat) (cI cS : ClassId) (sz : Nat) (ar : Nat) (n : Nat) (v : Int32) (f : Nat → Int32) (hn : n < 2 ^ 31) : Met l yJ7_fill_53178 wsJ7_fill_53178 ({ frames := 0, cells := 0, slots := 0, locals := 0 } : Room) (va_Pc [.ref ar, .int v] (fun U => U.heap.size = sz ∧ va_P (dC, dI) vwCl [(ar, .inl (cI, n, .inl f))] U.heap ∧ va_K (dC, dI) vwCl [(cI, .int), (cS, .short)] U ∧ va_D (fun _ => True) [(ar, .inl (cI, n, .inl f))])) (va_Qv (fun (_ : Unit) => True) (fun _ t => va_P (dC, dI) vwCl [(ar, .inl (cI, n, .inl (fun _ => v)))] t.heap ∧ va_D (va_A [(ar, .inl (cI, n, .inl f))] sz) [(ar, .inl (cI, n, .inl (fun _ => v)))]) (va_A [(ar, .inl (cI, n, .inl f))] sz)) 0 0 (va_A [(ar, .inl (cI, n, .inl f))] sz) := by
  refine Met.ofW (cc := cJ7_fill_53178) (maxL := 4) (ret := none) (by decide) rfl ?_
  intro p e s m args below meth c s₁ B hml hv
  obtain ⟨rfl, hsz, hP, hK, hD0⟩ := hv
  have hx := B.exec
  have hb := B.bytes
  have hr := B.returns
  have hts := atoms_spec (ws := wsJ7_fill_53178) B.pre
  have hown : s.vm.findClass RJ7 = some m.cls := findClass_of_methodNamed B.named
  have hlocks := B.notSynchronized
  subst hsz
  have hD := hD0.self (sz := s.heap.size)
  generalize hAe : va_A [(ar, .inl (cI, n, .inl f))] s.heap.size = A at hD ⊢
  have hA : ∀ q : Nat, s.heap.size ≤ q → A q := fun q h => by rw [← hAe]; exact Or.inr h
  have hS : va_S A s.heap s.heap [] := va_S.rf
  have hP : va_P (dC, dI) vwCl [(ar, .inl (cI, n, .inl f))] s.heap := hP
  have hl := lv_entry ([.ref ar, .int v]) (n := 4) (Nat.le_of_ble_eq_true rfl)
  rw [lg_entry_eq]
  generalize (lg_sl ([.ref ar, .int v]) ++ List.replicate (4 - (lg_sl ([.ref ar, .int v])).length) Slot.unset).toArray = ls at hl ⊢
  have hl : lv_has ls 4 [(0, .ref ar), (1, .int v)] := hl
  refine lv_iconst (v := 0) hx hb dJ7_fill_53178_0 (by decide) ?_
  refine lv_istore_n (lv' := [(2, .int 0), (0, .ref ar), (1, .int v)]) hx hb dJ7_fill_53178_1 rfl hl (by decide) rfl (fun ls hl => ?_)
  refine lv_aload_n hx hb dJ7_fill_53178_2 rfl (lv_at hl 1 rfl) ?_
  refine va_alen hx hb hK hP 0 0 rfl rfl (v := Int32.ofNat n) rfl dJ7_fill_53178_3 ?_
  refine lv_istore_n (lv' := [(3, .int (Int32.ofNat n)), (2, .int 0), (0, .ref ar), (1, .int v)]) hx hb dJ7_fill_53178_4 rfl hl (by decide) rfl (fun ls hl => ?_)
  have LOOP_5 : ∀ (k_5 i_5 : Nat) (xc_5 : Int32) (f2 : Nat → Int32) (H : Heap) (locs : List Loc) (ls : Array Slot), i_5 + k_5 = n → xc_5 = nI i_5 → (∀ j, j < i_5 → f2 j = v) → va_P (dC, dI) vwCl [(ar, .inl (cI, n, .inl f2))] H → va_D A [(ar, .inl (cI, n, .inl f2))] → va_S A s.heap H locs → lv_has ls 4 [(3, .int (Int32.ofNat n)), (2, .int xc_5), (0, .ref ar), (1, .int v)] → W p l e (headSpec wsJ7_fill_53178 ({ frames := 0, cells := 0, slots := 0, locals := 0 } : Room)).room s m ([.ref ar, .int v] : List Value).toArray below meth c H locs 0 0 (MQ below (va_Qv (fun (_ : Unit) => True) (fun _ t => va_P (dC, dI) vwCl [(ar, .inl (cI, n, .inl (fun _ => v)))] t.heap ∧ va_D A [(ar, .inl (cI, n, .inl (fun _ => v)))]) A) ([.ref ar, .int v] : List Value).toArray s 0 0 A) (F0 m 5 ls []) := by
    intro k_5
    induction k_5 with
    | zero =>
      intro i_5 xc_5 f2 H locs ls hi_5 hxc_5 hf2 hP hD hS hl
      have hi2_5 : i_5 = n := by omega
      have hP := p_Prow hP 0 (g := fun _ => v) rfl (fun j hj => hf2 j (by omega))
      have hD := p_Drow hD 0 (g := fun _ => v) rfl
      have hP : va_P (dC, dI) vwCl [(ar, .inl (cI, n, .inl (fun _ => v)))] H := hP
      have hD : va_D A [(ar, .inl (cI, n, .inl (fun _ => v)))] := hD
      refine lv_iload_n hx hb dJ7_fill_53178_5 rfl (lv_at hl 1 rfl) ?_
      refine lv_iload_n hx hb dJ7_fill_53178_6 rfl (lv_at hl 0 rfl) ?_
      refine lv_icmp_ge (tgt := 20) hx hb dJ7_fill_53178_7 (by decide) (fun c_1 => ?_) (fun c_1 => absurd (by rw [hxc_5]; exact nI_le (a := n) (b := i_5) (by omega) (by rw [hi2_5]; exact (hn))) c_1)
      have hP9 := hP.sub (ws' := [(ar, .inl (cI, n, .inl (fun _ => v)))]) [0] rfl
      have hD9 := hD.sub (ws' := [(ar, .inl (cI, n, .inl (fun _ => v)))]) [0] (by decide +kernel) rfl
      exact W.vret hx hb hr (fun t ht hW => ⟨⟨(), rfl, trivial, by rw [ht]; exact hP9, hD9⟩, hS.F ht⟩) (hS.2.2) dJ7_fill_53178_20
    | succ k_5 ih_5 =>
      intro i_5 xc_5 f2 H locs ls hi_5 hxc_5 hf2 hP hD hS hl
      refine lv_iload_n hx hb dJ7_fill_53178_5 rfl (lv_at hl 1 rfl) ?_
      refine lv_iload_n hx hb dJ7_fill_53178_6 rfl (lv_at hl 0 rfl) ?_
      refine lv_icmp_ge (tgt := 20) hx hb dJ7_fill_53178_7 (by decide) (fun c_2 => absurd c_2 (by rw [hxc_5]; exact nI_ge (a := i_5) (b := n) (by omega) (hn))) (fun c_2 => ?_)
      refine lv_aload_n hx hb dJ7_fill_53178_10 rfl (lv_at hl 2 rfl) ?_
      refine lv_iload_n hx hb dJ7_fill_53178_11 rfl (lv_at hl 1 rfl) ?_
      refine lv_iload_n hx hb dJ7_fill_53178_12 rfl (lv_at hl 3 rfl) ?_
      refine va_iast hx hb hK hP hD hS 0 0 rfl rfl (by rw [hxc_5]; exact vp_in_nI (by omega) (hn)) dJ7_fill_53178_13 (fun H locs hPn hDn hSn => ?_)
      clear hP hD hS
      have hP : va_P (dC, dI) vwCl [(ar, .inl (cI, n, .inl (upd f2 (xc_5 : Int32).toNatClampNeg v)))] H := hPn
      have hD : va_D A [(ar, .inl (cI, n, .inl (upd f2 (xc_5 : Int32).toNatClampNeg v)))] := hDn
      have hS := hSn
      clear hPn hDn hSn
      obtain ⟨x_3, ex_3⟩ : ∃ y : Int32, y = xc_5 + 1 := ⟨_, rfl⟩
      refine lv_iinc (v := x_3) (lv' := [(2, .int x_3), (3, .int (Int32.ofNat n)), (0, .ref ar), (1, .int v)]) hx hb dJ7_fill_53178_14 hl (k := 1) rfl (by rw [ex_3]; rfl) (by decide) rfl (fun ls hl => ?_)
      refine lv_goto (tgt := 5) hx hb dJ7_fill_53178_17 (by decide) ?_
      exact ih_5 (i_5 + 1) x_3 (upd f2 (xc_5 : Int32).toNatClampNeg v) _ _ _ (by omega) (by rw [ex_3, hxc_5]; exact nI_1 i_5) (p_fill hxc_5 (by omega) hf2) hP hD hS (lv_sub hl [1, 0, 2, 3] rfl)
  exact LOOP_5 n 0 0 f _ _ _ (by omega) nI_0.symm (fun j hj => absurd hj (Nat.not_lt_zero j)) hP hD hS (lv_sub hl [0, 1, 2, 3] rfl)

set_option maxHeartbeats 4000000 in
set_option maxRecDepth 100000 in
theorem k_X10_init (l : Launch) (dC : Nat → ClassId) (dI : Nat → Nat → Nat) (cI cS : ClassId) (sz : Nat) (o : Nat)  : Met l yX10_init wsX10_init ({ frames := 1, cells := 3, slots := 1280, locals := 23 } : Room) (va_Pc [.ref o] (fun U => U.heap.size = sz ∧ va_P (dC, dI) vwCl [(o, .inr (10, [.null, .null, .null, .int 0]))] U.heap ∧ va_K (dC, dI) vwCl [(cI, .int), (cS, .short)] U ∧ va_D (fun _ => True) [(o, .inr (10, [.null, .null, .null, .int 0]))])) (va_Qv (fun (_ : Unit) => True) (fun _ t => ∃ (a1 : Nat) (a2 : Nat) (a3 : Nat), va_P (dC, dI) vwCl [(o, .inr (10, [.ref a1, .ref a2, .ref a3, .int 0])), (a1, .inl (cI, 256, .inl (fun _ => (-1)))), (a2, .inl (cI, 512, .inl (fun _ => 0))), (a3, .inl (cI, 512, .inl (fun _ => (-1))))] t.heap ∧ va_D (va_A [(o, .inr (10, [.null, .null, .null, .int 0]))] sz) [(o, .inr (10, [.ref a1, .ref a2, .ref a3, .int 0])), (a1, .inl (cI, 256, .inl (fun _ => (-1)))), (a2, .inl (cI, 512, .inl (fun _ => 0))), (a3, .inl (cI, 512, .inl (fun _ => (-1))))]) (va_A [(o, .inr (10, [.null, .null, .null, .int 0]))] sz)) 3 1280 (va_A [(o, .inr (10, [.null, .null, .null, .int 0]))] sz) := by
  refine Met.ofW (cc := cX10_init) (maxL := 1) (ret := none) (by decide) rfl ?_
  intro p e s m args below meth c s₁ B hml hv
  obtain ⟨rfl, hsz, hP, hK, hD0⟩ := hv
  have hx := B.exec
  have hb := B.bytes
  have hr := B.returns
  have hts := atoms_spec (ws := wsX10_init) B.pre
  have hown : s.vm.findClass RX10 = some m.cls := findClass_of_methodNamed B.named
  have hlocks := B.notSynchronized
  have hin : meth.name = "<init>" := (name_of_methodNamed B.named B.method).1
  have in_X10 : ∀ w ∈ wsX100, w ∈ wsX10_init := fun _ h => List.mem_cons_of_mem _ (List.mem_append_right _ (h))
  subst hsz
  have hD := hD0.self (sz := s.heap.size)
  generalize hAe : va_A [(o, .inr (10, [.null, .null, .null, .int 0]))] s.heap.size = A at hD ⊢
  have hA : ∀ q : Nat, s.heap.size ≤ q → A q := fun q h => by rw [← hAe]; exact Or.inr h
  have hS : va_S A s.heap s.heap [] := va_S.rf
  have hP : va_P (dC, dI) vwCl [(o, .inr (10, [.null, .null, .null, .int 0]))] s.heap := hP
  have hl := lv_entry ([.ref o]) (n := 1) (Nat.le_of_ble_eq_true rfl)
  rw [lg_entry_eq]
  generalize (lg_sl ([.ref o]) ++ List.replicate (1 - (lg_sl ([.ref o])).length) Slot.unset).toArray = ls at hl ⊢
  have hl : lv_has ls 1 [(0, .ref o)] := hl
  refine lv_aload_n hx hb dX10_init_0 rfl (lv_at hl 0 rfl) ?_
  refine W.objInit hx hb hown (hts (.methodLink RX10 3 objectInit) (List.mem_of_getElem? (i := 1) rfl)) (hts (.instanceMethod objectInit) (List.mem_of_getElem? (i := 2) rfl)) (hts (.code objectInit ⟨#[0xb1]⟩ 1 none) (List.mem_of_getElem? (i := 3) rfl)) rfl (by rw [hml]; exact hl.1) rfl dX10_init_1 (Nat.le_of_ble_eq_true rfl) (Nat.le_of_ble_eq_true rfl) ?_
  refine W.eq (g2 := F0 m 4 ls []) rfl ?_
  refine lv_aload_n hx hb dX10_init_4 rfl (lv_at hl 0 rfl) ?_
  refine lv_sipush (v := 256) hx hb dX10_init_5 (by decide) ?_
  refine p_newint hx hb (hts (.arrayClass .int) (List.mem_of_getElem? (i := 4) rfl)) hK hP hD hS hA (n := 256) (N := 256) (by decide) (by decide) (by decide) (Nat.le_of_ble_eq_true rfl) (Nat.le_of_ble_eq_true rfl) dX10_init_8 (fun q_1 H hPn hDn hSn => ?_)
  clear hP hD hS
  have hP : va_P (dC, dI) vwCl [(o, .inr (10, [.null, .null, .null, .int 0])), (q_1, .inl (cI, 256, .inl (fun _ => 0)))] H := hPn
  have hD : va_D A [(o, .inr (10, [.null, .null, .null, .int 0])), (q_1, .inl (cI, 256, .inl (fun _ => 0)))] := hDn
  have hS := hSn
  clear hPn hDn hSn
  refine W.widen (k := 1) (n := 256) (Nat.le_of_ble_eq_true rfl) (Nat.le_of_ble_eq_true rfl) ?_
  refine va_putF (D := (dC, dI)) (ci := 10) (v := .ref q_1) (ty := .array .int) (C := RX10) (T := TX10) (N := 4) hx hb hts in_X10 tyX10 tyX10_ok nmX10 hown hK hP hD hS 0 rfl rfl 0 (by decide) (hts (.fieldLink RX10 9 "TextMender$ToldCode" "letterOf" "[I") (List.mem_of_getElem? (i := 5) rfl)) (fun _ h9 => h9) rfl hin rfl (by decide +kernel) rfl rfl (Nat.le_of_ble_eq_true rfl) dX10_init_10 (fun H locs hPn hDn hSn => ?_)
  clear hP hD hS
  have hP : va_P (dC, dI) vwCl [(o, .inr (10, [.ref q_1, .null, .null, .int 0])), (q_1, .inl (cI, 256, .inl (fun _ => 0)))] H := hPn
  have hD : va_D A [(o, .inr (10, [.ref q_1, .null, .null, .int 0])), (q_1, .inl (cI, 256, .inl (fun _ => 0)))] := hDn
  have hS := hSn
  clear hPn hDn hSn
  refine lv_aload_n hx hb dX10_init_13 rfl (lv_at hl 0 rfl) ?_
  refine lv_sipush (v := 512) hx hb dX10_init_14 (by decide) ?_
  refine p_newint hx hb (hts (.arrayClass .int) (List.mem_of_getElem? (i := 4) rfl)) hK hP hD hS hA (n := 512) (N := 512) (by decide) (by decide) (by decide) (Nat.le_of_ble_eq_true rfl) (Nat.le_of_ble_eq_true rfl) dX10_init_17 (fun q_2 H hPn hDn hSn => ?_)
  clear hP hD hS
  have hP : va_P (dC, dI) vwCl [(o, .inr (10, [.ref q_1, .null, .null, .int 0])), (q_1, .inl (cI, 256, .inl (fun _ => 0))), (q_2, .inl (cI, 512, .inl (fun _ => 0)))] H := hPn
  have hD : va_D A [(o, .inr (10, [.ref q_1, .null, .null, .int 0])), (q_1, .inl (cI, 256, .inl (fun _ => 0))), (q_2, .inl (cI, 512, .inl (fun _ => 0)))] := hDn
  have hS := hSn
  clear hPn hDn hSn
  refine W.widen (k := 2) (n := 768) (Nat.le_of_ble_eq_true rfl) (Nat.le_of_ble_eq_true rfl) ?_
  refine va_putF (D := (dC, dI)) (ci := 10) (v := .ref q_2) (ty := .array .int) (C := RX10) (T := TX10) (N := 4) hx hb hts in_X10 tyX10 tyX10_ok nmX10 hown hK hP hD hS 0 rfl rfl 1 (by decide) (hts (.fieldLink RX10 15 "TextMender$ToldCode" "placeLetter" "[I") (List.mem_of_getElem? (i := 6) rfl)) (fun _ h9 => h9) rfl hin rfl (by decide +kernel) rfl rfl (Nat.le_of_ble_eq_true rfl) dX10_init_19 (fun H locs hPn hDn hSn => ?_)
  clear hP hD hS
  have hP : va_P (dC, dI) vwCl [(o, .inr (10, [.ref q_1, .ref q_2, .null, .int 0])), (q_1, .inl (cI, 256, .inl (fun _ => 0))), (q_2, .inl (cI, 512, .inl (fun _ => 0)))] H := hPn
  have hD : va_D A [(o, .inr (10, [.ref q_1, .ref q_2, .null, .int 0])), (q_1, .inl (cI, 256, .inl (fun _ => 0))), (q_2, .inl (cI, 512, .inl (fun _ => 0)))] := hDn
  have hS := hSn
  clear hPn hDn hSn
  refine lv_aload_n hx hb dX10_init_22 rfl (lv_at hl 0 rfl) ?_
  refine lv_sipush (v := 512) hx hb dX10_init_23 (by decide) ?_
  refine p_newint hx hb (hts (.arrayClass .int) (List.mem_of_getElem? (i := 4) rfl)) hK hP hD hS hA (n := 512) (N := 512) (by decide) (by decide) (by decide) (Nat.le_of_ble_eq_true rfl) (Nat.le_of_ble_eq_true rfl) dX10_init_26 (fun q_3 H hPn hDn hSn => ?_)
  clear hP hD hS
  have hP : va_P (dC, dI) vwCl [(o, .inr (10, [.ref q_1, .ref q_2, .null, .int 0])), (q_1, .inl (cI, 256, .inl (fun _ => 0))), (q_2, .inl (cI, 512, .inl (fun _ => 0))), (q_3, .inl (cI, 512, .inl (fun _ => 0)))] H := hPn
  have hD : va_D A [(o, .inr (10, [.ref q_1, .ref q_2, .null, .int 0])), (q_1, .inl (cI, 256, .inl (fun _ => 0))), (q_2, .inl (cI, 512, .inl (fun _ => 0))), (q_3, .inl (cI, 512, .inl (fun _ => 0)))] := hDn
  have hS := hSn
  clear hPn hDn hSn
  refine W.widen (k := 3) (n := 1280) (Nat.le_of_ble_eq_true rfl) (Nat.le_of_ble_eq_true rfl) ?_
  refine va_putF (D := (dC, dI)) (ci := 10) (v := .ref q_3) (ty := .array .int) (C := RX10) (T := TX10) (N := 4) hx hb hts in_X10 tyX10 tyX10_ok nmX10 hown hK hP hD hS 0 rfl rfl 2 (by decide) (hts (.fieldLink RX10 18 "TextMender$ToldCode" "placeByte" "[I") (List.mem_of_getElem? (i := 7) rfl)) (fun _ h9 => h9) rfl hin rfl (by decide +kernel) rfl rfl (Nat.le_of_ble_eq_true rfl) dX10_init_28 (fun H locs hPn hDn hSn => ?_)
  clear hP hD hS
  have hP : va_P (dC, dI) vwCl [(o, .inr (10, [.ref q_1, .ref q_2, .ref q_3, .int 0])), (q_1, .inl (cI, 256, .inl (fun _ => 0))), (q_2, .inl (cI, 512, .inl (fun _ => 0))), (q_3, .inl (cI, 512, .inl (fun _ => 0)))] H := hPn
  have hD : va_D A [(o, .inr (10, [.ref q_1, .ref q_2, .ref q_3, .int 0])), (q_1, .inl (cI, 256, .inl (fun _ => 0))), (q_2, .inl (cI, 512, .inl (fun _ => 0))), (q_3, .inl (cI, 512, .inl (fun _ => 0)))] := hDn
  have hS := hSn
  clear hPn hDn hSn
  refine lv_aload_n hx hb dX10_init_31 rfl (lv_at hl 0 rfl) ?_
  refine va_get (D := (dC, dI)) (ci := 10) (v := .ref q_1) (C := RX10) (T := TX10) (N := 4) hx hb hts in_X10 hown hK hP 0 rfl rfl 0 (by decide) (hts (.fieldLink RX10 9 "TextMender$ToldCode" "letterOf" "[I") (List.mem_of_getElem? (i := 5) rfl)) (fun _ h9 => h9) rfl dX10_init_32 ?_
  refine lv_iconst (v := (-1)) hx hb dX10_init_35 (by decide) ?_
  have hPc := hP.sub (ws' := [(q_1, .inl (cI, 256, .inl (fun _ => 0)))]) [1] rfl
  have hDc := hD.sub (ws' := [(q_1, .inl (cI, 256, .inl (fun _ => 0)))]) [1] (by decide +kernel) rfl
  have hFc := va_free (wc := [(q_1, .inl (cI, 256, .inl (fun _ => 0)))]) hD hS hA [1] rfl
  refine va_callv (va_runS (As := [.ref q_1, .int (-1)]) (rest := []) ⟨hx, hb, hml, hown, hts⟩ (k_J7_fill_53178 l dC dI cI cS H.size q_1 256 (-1) (fun _ => 0) (by decide)) (va_cwS 2 hts gX10_init_J7_fill_53178 rfl rfl rfl (by decide +kernel) ⟨Nat.le_of_ble_eq_true rfl, Nat.le_of_ble_eq_true rfl⟩) ⟨fun a U g mk q => by obtain ⟨q0, q1, qP, qK, qD⟩ := q; exact ⟨q0, q1, qP, va_K.moved (u := U) (U := U.calling g mk a) (Vm.Alike.refl U.vm) qK, qD⟩, fun U hU hW => ⟨rfl, by rw [hU], by rw [hU]; exact hPc, va_K.moved hW.alike hK, hDc.weaken (fun _ _ _ _ => trivial)⟩⟩ rfl rfl hl.1 rfl (lv_room (Nat.le_of_ble_eq_true rfl)) dX10_init_36 ⟨Nat.le_of_ble_eq_true rfl, Nat.le_of_ble_eq_true rfl⟩) hS (fun q _ h => hFc q h) hFc (fun u t H1 locs ht hvm hw hB hz1 hk1 hSn => ?_)
  obtain ⟨hP1, hD1⟩ := hB
  rw [ht] at hP1
  obtain ⟨hPn, hDn⟩ := va_join (wr := [(o, .inr (10, [.ref q_1, .ref q_2, .ref q_3, .int 0])), (q_2, .inl (cI, 512, .inl (fun _ => 0))), (q_3, .inl (cI, 512, .inl (fun _ => 0)))]) (w1 := [(q_1, .inl (cI, 256, .inl (fun _ => (-1))))]) hP hD [1] [0, 2, 3] rfl rfl (by decide +kernel) (by decide +kernel) hk1 hFc hP1 hD1
  clear hP hD hS hPc hDc hFc hk1 hz1 hvm ht hP1 hD1
  generalize H1 = H at hPn hSn ⊢
  have hP : va_P (dC, dI) vwCl [(o, .inr (10, [.ref q_1, .ref q_2, .ref q_3, .int 0])), (q_2, .inl (cI, 512, .inl (fun _ => 0))), (q_3, .inl (cI, 512, .inl (fun _ => 0))), (q_1, .inl (cI, 256, .inl (fun _ => (-1))))] H := hPn
  have hD : va_D A [(o, .inr (10, [.ref q_1, .ref q_2, .ref q_3, .int 0])), (q_2, .inl (cI, 512, .inl (fun _ => 0))), (q_3, .inl (cI, 512, .inl (fun _ => 0))), (q_1, .inl (cI, 256, .inl (fun _ => (-1))))] := hDn
  have hS := hSn
  clear hPn hDn hSn
  refine lv_aload_n hx hb dX10_init_39 rfl (lv_at hl 0 rfl) ?_
  refine va_get (D := (dC, dI)) (ci := 10) (v := .ref q_3) (C := RX10) (T := TX10) (N := 4) hx hb hts in_X10 hown hK hP 0 rfl rfl 2 (by decide) (hts (.fieldLink RX10 18 "TextMender$ToldCode" "placeByte" "[I") (List.mem_of_getElem? (i := 7) rfl)) (fun _ h9 => h9) rfl dX10_init_40 ?_
  refine lv_iconst (v := (-1)) hx hb dX10_init_43 (by decide) ?_
  have hPc := hP.sub (ws' := [(q_3, .inl (cI, 512, .inl (fun _ => 0)))]) [2] rfl
  have hDc := hD.sub (ws' := [(q_3, .inl (cI, 512, .inl (fun _ => 0)))]) [2] (by decide +kernel) rfl
  have hFc := va_free (wc := [(q_3, .inl (cI, 512, .inl (fun _ => 0)))]) hD hS hA [2] rfl
  refine va_callv (va_runS (As := [.ref q_3, .int (-1)]) (rest := []) ⟨hx, hb, hml, hown, hts⟩ (k_J7_fill_53178 l dC dI cI cS H.size q_3 512 (-1) (fun _ => 0) (by decide)) (va_cwS 2 hts gX10_init_J7_fill_53178 rfl rfl rfl (by decide +kernel) ⟨Nat.le_of_ble_eq_true rfl, Nat.le_of_ble_eq_true rfl⟩) ⟨fun a U g mk q => by obtain ⟨q0, q1, qP, qK, qD⟩ := q; exact ⟨q0, q1, qP, va_K.moved (u := U) (U := U.calling g mk a) (Vm.Alike.refl U.vm) qK, qD⟩, fun U hU hW => ⟨rfl, by rw [hU], by rw [hU]; exact hPc, va_K.moved hW.alike hK, hDc.weaken (fun _ _ _ _ => trivial)⟩⟩ rfl rfl hl.1 rfl (lv_room (Nat.le_of_ble_eq_true rfl)) dX10_init_44 ⟨Nat.le_of_ble_eq_true rfl, Nat.le_of_ble_eq_true rfl⟩) hS (fun q _ h => hFc q h) hFc (fun u t H1 locs ht hvm hw hB hz1 hk1 hSn => ?_)
  obtain ⟨hP1, hD1⟩ := hB
  rw [ht] at hP1
  obtain ⟨hPn, hDn⟩ := va_join (wr := [(o, .inr (10, [.ref q_1, .ref q_2, .ref q_3, .int 0])), (q_2, .inl (cI, 512, .inl (fun _ => 0))), (q_1, .inl (cI, 256, .inl (fun _ => (-1))))]) (w1 := [(q_3, .inl (cI, 512, .inl (fun _ => (-1))))]) hP hD [2] [0, 1, 3] rfl rfl (by decide +kernel) (by decide +kernel) hk1 hFc hP1 hD1
  clear hP hD hS hPc hDc hFc hk1 hz1 hvm ht hP1 hD1
  generalize H1 = H at hPn hSn ⊢
  have hP : va_P (dC, dI) vwCl [(o, .inr (10, [.ref q_1, .ref q_2, .ref q_3, .int 0])), (q_2, .inl (cI, 512, .inl (fun _ => 0))), (q_1, .inl (cI, 256, .inl (fun _ => (-1)))), (q_3, .inl (cI, 512, .inl (fun _ => (-1))))] H := hPn
  have hD : va_D A [(o, .inr (10, [.ref q_1, .ref q_2, .ref q_3, .int 0])), (q_2, .inl (cI, 512, .inl (fun _ => 0))), (q_1, .inl (cI, 256, .inl (fun _ => (-1)))), (q_3, .inl (cI, 512, .inl (fun _ => (-1))))] := hDn
  have hS := hSn
  clear hPn hDn hSn
  refine lv_aload_n hx hb dX10_init_47 rfl (lv_at hl 0 rfl) ?_
  refine lv_iconst (v := 0) hx hb dX10_init_48 (by decide) ?_
  refine va_put (D := (dC, dI)) (ci := 10) (v := .int 0) (ty := .int) (C := RX10) (T := TX10) (N := 4) hx hb hts in_X10 tyX10 tyX10_ok nmX10 hown hK hP hD hS 0 rfl rfl 3 (by decide) (hts (.fieldLink RX10 27 "TextMender$ToldCode" "length" "I") (List.mem_of_getElem? (i := 8) rfl)) (fun _ h9 => h9) rfl (by decide +kernel) rfl rfl (Nat.le_of_ble_eq_true rfl) dX10_init_49 (fun H locs hPn hDn hSn => ?_)
  clear hP hD hS
  have hP : va_P (dC, dI) vwCl [(o, .inr (10, [.ref q_1, .ref q_2, .ref q_3, .int 0])), (q_2, .inl (cI, 512, .inl (fun _ => 0))), (q_1, .inl (cI, 256, .inl (fun _ => (-1)))), (q_3, .inl (cI, 512, .inl (fun _ => (-1))))] H := hPn
  have hD : va_D A [(o, .inr (10, [.ref q_1, .ref q_2, .ref q_3, .int 0])), (q_2, .inl (cI, 512, .inl (fun _ => 0))), (q_1, .inl (cI, 256, .inl (fun _ => (-1)))), (q_3, .inl (cI, 512, .inl (fun _ => (-1))))] := hDn
  have hS := hSn
  clear hPn hDn hSn
  have hP9 := hP.sub (ws' := [(o, .inr (10, [.ref q_1, .ref q_2, .ref q_3, .int 0])), (q_1, .inl (cI, 256, .inl (fun _ => (-1)))), (q_2, .inl (cI, 512, .inl (fun _ => 0))), (q_3, .inl (cI, 512, .inl (fun _ => (-1))))]) [0, 2, 1, 3] rfl
  have hD9 := hD.sub (ws' := [(o, .inr (10, [.ref q_1, .ref q_2, .ref q_3, .int 0])), (q_1, .inl (cI, 256, .inl (fun _ => (-1)))), (q_2, .inl (cI, 512, .inl (fun _ => 0))), (q_3, .inl (cI, 512, .inl (fun _ => (-1))))]) [0, 2, 1, 3] (by decide +kernel) rfl
  refine W.widen (k := 3) (n := 1280) (by omega) (by omega) ?_
  exact W.vret hx hb hr (fun t ht hW => ⟨⟨(), rfl, trivial, q_1, q_2, q_3, by rw [ht]; exact hP9, hD9⟩, hS.F ht⟩) (hS.2.2) dX10_init_52

set_option maxHeartbeats 4000000 in
set_option maxRecDepth 100000 in
theorem k_X2_init (l : Launch) (dC : Nat → ClassId) (dI : Nat → Nat → Nat) (cI cS : ClassId) (sz : Nat) (o : Nat)  : Met l yX2_init wsX2_init ({ frames := 2, cells := 8, slots := 2568, locals := 43 } : Room) (va_Pc [.ref o] (fun U => U.heap.size = sz ∧ va_P (dC, dI) vwCl [(o, .inr (2, [.null, .null]))] U.heap ∧ va_K (dC, dI) vwCl [(cI, .int), (cS, .short)] U ∧ va_D (fun _ => True) [(o, .inr (2, [.null, .null]))])) (va_Qv (fun (_ : Unit) => True) (fun _ t => ∃ (o4 : Nat) (a41 : Nat) (a42 : Nat) (a43 : Nat) (o5 : Nat) (a51 : Nat) (a52 : Nat) (a53 : Nat), va_P (dC, dI) vwCl [(o, .inr (2, [.ref o4, .ref o5])), (o4, .inr (10, [.ref a41, .ref a42, .ref a43, .int 0])), (a41, .inl (cI, 256, .inl (fun _ => (-1)))), (a42, .inl (cI, 512, .inl (fun _ => 0))), (a43, .inl (cI, 512, .inl (fun _ => (-1)))), (o5, .inr (10, [.ref a51, .ref a52, .ref a53, .int 0])), (a51, .inl (cI, 256, .inl (fun _ => (-1)))), (a52, .inl (cI, 512, .inl (fun _ => 0))), (a53, .inl (cI, 512, .inl (fun _ => (-1))))] t.heap ∧ va_D (va_A [(o, .inr (2, [.null, .null]))] sz) [(o, .inr (2, [.ref o4, .ref o5])), (o4, .inr (10, [.ref a41, .ref a42, .ref a43, .int 0])), (a41, .inl (cI, 256, .inl (fun _ => (-1)))), (a42, .inl (cI, 512, .inl (fun _ => 0))), (a43, .inl (cI, 512, .inl (fun _ => (-1)))), (o5, .inr (10, [.ref a51, .ref a52, .ref a53, .int 0])), (a51, .inl (cI, 256, .inl (fun _ => (-1)))), (a52, .inl (cI, 512, .inl (fun _ => 0))), (a53, .inl (cI, 512, .inl (fun _ => (-1))))]) (va_A [(o, .inr (2, [.null, .null]))] sz)) 8 2568 (va_A [(o, .inr (2, [.null, .null]))] sz) := by
  refine Met.ofW (cc := cX2_init) (maxL := 1) (ret := none) (by decide) rfl ?_
  intro p e s m args below meth c s₁ B hml hv
  obtain ⟨rfl, hsz, hP, hK, hD0⟩ := hv
  have hx := B.exec
  have hb := B.bytes
  have hr := B.returns
  have hts := atoms_spec (ws := wsX2_init) B.pre
  have hown : s.vm.findClass RX2 = some m.cls := findClass_of_methodNamed B.named
  have hlocks := B.notSynchronized
  have hin : meth.name = "<init>" := (name_of_methodNamed B.named B.method).1
  have in_X10 : ∀ w ∈ wsX100, w ∈ wsX2_init := fun _ h => List.mem_cons_of_mem _ (List.mem_append_left _ (List.mem_append_right _ (h)))
  have in_X2 : ∀ w ∈ wsX20, w ∈ wsX2_init := fun _ h => List.mem_cons_of_mem _ (List.mem_append_right _ (h))
  subst hsz
  have hD := hD0.self (sz := s.heap.size)
  generalize hAe : va_A [(o, .inr (2, [.null, .null]))] s.heap.size = A at hD ⊢
  have hA : ∀ q : Nat, s.heap.size ≤ q → A q := fun q h => by rw [← hAe]; exact Or.inr h
  have hS : va_S A s.heap s.heap [] := va_S.rf
  have hP : va_P (dC, dI) vwCl [(o, .inr (2, [.null, .null]))] s.heap := hP
  have hl := lv_entry ([.ref o]) (n := 1) (Nat.le_of_ble_eq_true rfl)
  rw [lg_entry_eq]
  generalize (lg_sl ([.ref o]) ++ List.replicate (1 - (lg_sl ([.ref o])).length) Slot.unset).toArray = ls at hl ⊢
  have hl : lv_has ls 1 [(0, .ref o)] := hl
  refine lv_aload_n hx hb dX2_init_0 rfl (lv_at hl 0 rfl) ?_
  refine W.objInit hx hb hown (hts (.methodLink RX2 3 objectInit) (List.mem_of_getElem? (i := 1) rfl)) (hts (.instanceMethod objectInit) (List.mem_of_getElem? (i := 2) rfl)) (hts (.code objectInit ⟨#[0xb1]⟩ 1 none) (List.mem_of_getElem? (i := 3) rfl)) rfl (by rw [hml]; exact hl.1) rfl dX2_init_1 (Nat.le_of_ble_eq_true rfl) (Nat.le_of_ble_eq_true rfl) ?_
  refine W.eq (g2 := F0 m 4 ls []) rfl ?_
  refine lv_aload_n hx hb dX2_init_4 rfl (lv_at hl 0 rfl) ?_
  refine va_new (ci := 10) (fs := [.null, .null, .null, .int 0]) (C := RX10) (T := TX10) (N := 4) hx hb hts in_X10 tyX10 tyX10_ok hown (hts (.classLink RX2 9 RX10) (List.mem_of_getElem? (i := 4) rfl)) (hts (.instantiable RX10 4) (List.mem_of_getElem? (i := 5) rfl)) (hts (.initialized RX10) (List.mem_of_getElem? (i := 6) rfl)) hK hP hD hS hA rfl (p_fsX10) (Nat.le_of_ble_eq_true rfl) (Nat.le_of_ble_eq_true rfl) dX2_init_5 (fun q_1 H hPn hDn hSn => ?_)
  clear hP hD hS
  have hP : va_P (dC, dI) vwCl [(o, .inr (2, [.null, .null])), (q_1, .inr (10, [.null, .null, .null, .int 0]))] H := hPn
  have hD : va_D A [(o, .inr (2, [.null, .null])), (q_1, .inr (10, [.null, .null, .null, .int 0]))] := hDn
  have hS := hSn
  clear hPn hDn hSn
  refine W.widen (k := 1) (n := 4) (Nat.le_of_ble_eq_true rfl) (Nat.le_of_ble_eq_true rfl) ?_
  refine lv_dup hx hb dX2_init_8 rfl ?_
  have hPc := hP.sub (ws' := [(q_1, .inr (10, [.null, .null, .null, .int 0]))]) [1] rfl
  have hDc := hD.sub (ws' := [(q_1, .inr (10, [.null, .null, .null, .int 0]))]) [1] (by decide +kernel) rfl
  have hFc := va_free (wc := [(q_1, .inr (10, [.null, .null, .null, .int 0]))]) hD hS hA [1] rfl
  refine va_callv (va_runI (As := []) (rest := [.ref q_1, .ref o]) ⟨hx, hb, hml, hown, hts⟩ (k_X10_init l dC dI cI cS H.size q_1 ) (cwI 0 hts gX2_init_X10_init rfl rfl rfl (hts (.initialized RX10) (List.mem_of_getElem? (i := 6) rfl)) (hts (.methodLink RX2 11 yX10_init) (List.mem_of_getElem? (i := 9) rfl)) (hts (.instanceMethod yX10_init) (List.mem_of_getElem? (i := 10) rfl)) rfl (by decide +kernel) ⟨Nat.le_of_ble_eq_true rfl, Nat.le_of_ble_eq_true rfl⟩) ⟨fun a U g mk q => by obtain ⟨q0, q1, qP, qK, qD⟩ := q; exact ⟨q0, q1, qP, va_K.moved (u := U) (U := U.calling g mk a) (Vm.Alike.refl U.vm) qK, qD⟩, fun U hU hW => ⟨rfl, by rw [hU], by rw [hU]; exact hPc, va_K.moved hW.alike hK, hDc.weaken (fun _ _ _ _ => trivial)⟩⟩ rfl rfl hl.1 rfl (lv_room (Nat.le_of_ble_eq_true rfl)) dX2_init_9 ⟨Nat.le_of_ble_eq_true rfl, Nat.le_of_ble_eq_true rfl⟩) hS (fun q _ h => hFc q h) hFc (fun u t H1 locs ht hvm hw hB hz1 hk1 hSn => ?_)
  obtain ⟨a1_2, a2_2, a3_2, hP1, hD1⟩ := hB
  rw [ht] at hP1
  obtain ⟨hPn, hDn⟩ := va_join (wr := [(o, .inr (2, [.null, .null]))]) (w1 := [(q_1, .inr (10, [.ref a1_2, .ref a2_2, .ref a3_2, .int 0])), (a1_2, .inl (cI, 256, .inl (fun _ => (-1)))), (a2_2, .inl (cI, 512, .inl (fun _ => 0))), (a3_2, .inl (cI, 512, .inl (fun _ => (-1))))]) hP hD [1] [0] rfl rfl (by decide +kernel) (by decide +kernel) hk1 hFc hP1 hD1
  clear hP hD hS hPc hDc hFc hk1 hz1 hvm ht hP1 hD1
  generalize H1 = H at hPn hSn ⊢
  have hP : va_P (dC, dI) vwCl [(o, .inr (2, [.null, .null])), (q_1, .inr (10, [.ref a1_2, .ref a2_2, .ref a3_2, .int 0])), (a1_2, .inl (cI, 256, .inl (fun _ => (-1)))), (a2_2, .inl (cI, 512, .inl (fun _ => 0))), (a3_2, .inl (cI, 512, .inl (fun _ => (-1))))] H := hPn
  have hD : va_D A [(o, .inr (2, [.null, .null])), (q_1, .inr (10, [.ref a1_2, .ref a2_2, .ref a3_2, .int 0])), (a1_2, .inl (cI, 256, .inl (fun _ => (-1)))), (a2_2, .inl (cI, 512, .inl (fun _ => 0))), (a3_2, .inl (cI, 512, .inl (fun _ => (-1))))] := hDn
  have hS := hSn
  clear hPn hDn hSn
  refine W.widen (k := 4) (n := 1284) (Nat.le_of_ble_eq_true rfl) (Nat.le_of_ble_eq_true rfl) ?_
  refine va_putF (D := (dC, dI)) (ci := 2) (v := .ref q_1) (ty := .object "TextMender$ToldCode") (C := RX2) (T := TX2) (N := 2) hx hb hts in_X2 tyX2 tyX2_ok nmX2 hown hK hP hD hS 0 rfl rfl 0 (by decide) (hts (.fieldLink RX2 12 "TextMender$Codes" "four" "LTextMender$ToldCode;") (List.mem_of_getElem? (i := 7) rfl)) (fun _ h9 => h9) rfl hin rfl (by decide +kernel) rfl rfl (Nat.le_of_ble_eq_true rfl) dX2_init_12 (fun H locs hPn hDn hSn => ?_)
  clear hP hD hS
  have hP : va_P (dC, dI) vwCl [(o, .inr (2, [.ref q_1, .null])), (q_1, .inr (10, [.ref a1_2, .ref a2_2, .ref a3_2, .int 0])), (a1_2, .inl (cI, 256, .inl (fun _ => (-1)))), (a2_2, .inl (cI, 512, .inl (fun _ => 0))), (a3_2, .inl (cI, 512, .inl (fun _ => (-1))))] H := hPn
  have hD : va_D A [(o, .inr (2, [.ref q_1, .null])), (q_1, .inr (10, [.ref a1_2, .ref a2_2, .ref a3_2, .int 0])), (a1_2, .inl (cI, 256, .inl (fun _ => (-1)))), (a2_2, .inl (cI, 512, .inl (fun _ => 0))), (a3_2, .inl (cI, 512, .inl (fun _ => (-1))))] := hDn
  have hS := hSn
  clear hPn hDn hSn
  refine lv_aload_n hx hb dX2_init_15 rfl (lv_at hl 0 rfl) ?_
  refine va_new (ci := 10) (fs := [.null, .null, .null, .int 0]) (C := RX10) (T := TX10) (N := 4) hx hb hts in_X10 tyX10 tyX10_ok hown (hts (.classLink RX2 9 RX10) (List.mem_of_getElem? (i := 4) rfl)) (hts (.instantiable RX10 4) (List.mem_of_getElem? (i := 5) rfl)) (hts (.initialized RX10) (List.mem_of_getElem? (i := 6) rfl)) hK hP hD hS hA rfl (p_fsX10) (Nat.le_of_ble_eq_true rfl) (Nat.le_of_ble_eq_true rfl) dX2_init_16 (fun q_3 H hPn hDn hSn => ?_)
  clear hP hD hS
  have hP : va_P (dC, dI) vwCl [(o, .inr (2, [.ref q_1, .null])), (q_1, .inr (10, [.ref a1_2, .ref a2_2, .ref a3_2, .int 0])), (a1_2, .inl (cI, 256, .inl (fun _ => (-1)))), (a2_2, .inl (cI, 512, .inl (fun _ => 0))), (a3_2, .inl (cI, 512, .inl (fun _ => (-1)))), (q_3, .inr (10, [.null, .null, .null, .int 0]))] H := hPn
  have hD : va_D A [(o, .inr (2, [.ref q_1, .null])), (q_1, .inr (10, [.ref a1_2, .ref a2_2, .ref a3_2, .int 0])), (a1_2, .inl (cI, 256, .inl (fun _ => (-1)))), (a2_2, .inl (cI, 512, .inl (fun _ => 0))), (a3_2, .inl (cI, 512, .inl (fun _ => (-1)))), (q_3, .inr (10, [.null, .null, .null, .int 0]))] := hDn
  have hS := hSn
  clear hPn hDn hSn
  refine W.widen (k := 5) (n := 1288) (Nat.le_of_ble_eq_true rfl) (Nat.le_of_ble_eq_true rfl) ?_
  refine lv_dup hx hb dX2_init_19 rfl ?_
  have hPc := hP.sub (ws' := [(q_3, .inr (10, [.null, .null, .null, .int 0]))]) [5] rfl
  have hDc := hD.sub (ws' := [(q_3, .inr (10, [.null, .null, .null, .int 0]))]) [5] (by decide +kernel) rfl
  have hFc := va_free (wc := [(q_3, .inr (10, [.null, .null, .null, .int 0]))]) hD hS hA [5] rfl
  refine va_callv (va_runI (As := []) (rest := [.ref q_3, .ref o]) ⟨hx, hb, hml, hown, hts⟩ (k_X10_init l dC dI cI cS H.size q_3 ) (cwI 0 hts gX2_init_X10_init rfl rfl rfl (hts (.initialized RX10) (List.mem_of_getElem? (i := 6) rfl)) (hts (.methodLink RX2 11 yX10_init) (List.mem_of_getElem? (i := 9) rfl)) (hts (.instanceMethod yX10_init) (List.mem_of_getElem? (i := 10) rfl)) rfl (by decide +kernel) ⟨Nat.le_of_ble_eq_true rfl, Nat.le_of_ble_eq_true rfl⟩) ⟨fun a U g mk q => by obtain ⟨q0, q1, qP, qK, qD⟩ := q; exact ⟨q0, q1, qP, va_K.moved (u := U) (U := U.calling g mk a) (Vm.Alike.refl U.vm) qK, qD⟩, fun U hU hW => ⟨rfl, by rw [hU], by rw [hU]; exact hPc, va_K.moved hW.alike hK, hDc.weaken (fun _ _ _ _ => trivial)⟩⟩ rfl rfl hl.1 rfl (lv_room (Nat.le_of_ble_eq_true rfl)) dX2_init_20 ⟨Nat.le_of_ble_eq_true rfl, Nat.le_of_ble_eq_true rfl⟩) hS (fun q _ h => hFc q h) hFc (fun u t H1 locs ht hvm hw hB hz1 hk1 hSn => ?_)
  obtain ⟨a1_4, a2_4, a3_4, hP1, hD1⟩ := hB
  rw [ht] at hP1
  obtain ⟨hPn, hDn⟩ := va_join (wr := [(o, .inr (2, [.ref q_1, .null])), (q_1, .inr (10, [.ref a1_2, .ref a2_2, .ref a3_2, .int 0])), (a1_2, .inl (cI, 256, .inl (fun _ => (-1)))), (a2_2, .inl (cI, 512, .inl (fun _ => 0))), (a3_2, .inl (cI, 512, .inl (fun _ => (-1))))]) (w1 := [(q_3, .inr (10, [.ref a1_4, .ref a2_4, .ref a3_4, .int 0])), (a1_4, .inl (cI, 256, .inl (fun _ => (-1)))), (a2_4, .inl (cI, 512, .inl (fun _ => 0))), (a3_4, .inl (cI, 512, .inl (fun _ => (-1))))]) hP hD [5] [0, 1, 2, 3, 4] rfl rfl (by decide +kernel) (by decide +kernel) hk1 hFc hP1 hD1
  clear hP hD hS hPc hDc hFc hk1 hz1 hvm ht hP1 hD1
  generalize H1 = H at hPn hSn ⊢
  have hP : va_P (dC, dI) vwCl [(o, .inr (2, [.ref q_1, .null])), (q_1, .inr (10, [.ref a1_2, .ref a2_2, .ref a3_2, .int 0])), (a1_2, .inl (cI, 256, .inl (fun _ => (-1)))), (a2_2, .inl (cI, 512, .inl (fun _ => 0))), (a3_2, .inl (cI, 512, .inl (fun _ => (-1)))), (q_3, .inr (10, [.ref a1_4, .ref a2_4, .ref a3_4, .int 0])), (a1_4, .inl (cI, 256, .inl (fun _ => (-1)))), (a2_4, .inl (cI, 512, .inl (fun _ => 0))), (a3_4, .inl (cI, 512, .inl (fun _ => (-1))))] H := hPn
  have hD : va_D A [(o, .inr (2, [.ref q_1, .null])), (q_1, .inr (10, [.ref a1_2, .ref a2_2, .ref a3_2, .int 0])), (a1_2, .inl (cI, 256, .inl (fun _ => (-1)))), (a2_2, .inl (cI, 512, .inl (fun _ => 0))), (a3_2, .inl (cI, 512, .inl (fun _ => (-1)))), (q_3, .inr (10, [.ref a1_4, .ref a2_4, .ref a3_4, .int 0])), (a1_4, .inl (cI, 256, .inl (fun _ => (-1)))), (a2_4, .inl (cI, 512, .inl (fun _ => 0))), (a3_4, .inl (cI, 512, .inl (fun _ => (-1))))] := hDn
  have hS := hSn
  clear hPn hDn hSn
  refine W.widen (k := 8) (n := 2568) (Nat.le_of_ble_eq_true rfl) (Nat.le_of_ble_eq_true rfl) ?_
  refine va_putF (D := (dC, dI)) (ci := 2) (v := .ref q_3) (ty := .object "TextMender$ToldCode") (C := RX2) (T := TX2) (N := 2) hx hb hts in_X2 tyX2 tyX2_ok nmX2 hown hK hP hD hS 0 rfl rfl 1 (by decide) (hts (.fieldLink RX2 18 "TextMender$Codes" "five" "LTextMender$ToldCode;") (List.mem_of_getElem? (i := 8) rfl)) (fun _ h9 => h9) rfl hin rfl (by decide +kernel) rfl rfl (Nat.le_of_ble_eq_true rfl) dX2_init_23 (fun H locs hPn hDn hSn => ?_)
  clear hP hD hS
  have hP : va_P (dC, dI) vwCl [(o, .inr (2, [.ref q_1, .ref q_3])), (q_1, .inr (10, [.ref a1_2, .ref a2_2, .ref a3_2, .int 0])), (a1_2, .inl (cI, 256, .inl (fun _ => (-1)))), (a2_2, .inl (cI, 512, .inl (fun _ => 0))), (a3_2, .inl (cI, 512, .inl (fun _ => (-1)))), (q_3, .inr (10, [.ref a1_4, .ref a2_4, .ref a3_4, .int 0])), (a1_4, .inl (cI, 256, .inl (fun _ => (-1)))), (a2_4, .inl (cI, 512, .inl (fun _ => 0))), (a3_4, .inl (cI, 512, .inl (fun _ => (-1))))] H := hPn
  have hD : va_D A [(o, .inr (2, [.ref q_1, .ref q_3])), (q_1, .inr (10, [.ref a1_2, .ref a2_2, .ref a3_2, .int 0])), (a1_2, .inl (cI, 256, .inl (fun _ => (-1)))), (a2_2, .inl (cI, 512, .inl (fun _ => 0))), (a3_2, .inl (cI, 512, .inl (fun _ => (-1)))), (q_3, .inr (10, [.ref a1_4, .ref a2_4, .ref a3_4, .int 0])), (a1_4, .inl (cI, 256, .inl (fun _ => (-1)))), (a2_4, .inl (cI, 512, .inl (fun _ => 0))), (a3_4, .inl (cI, 512, .inl (fun _ => (-1))))] := hDn
  have hS := hSn
  clear hPn hDn hSn
  have hP9 := hP.sub (ws' := [(o, .inr (2, [.ref q_1, .ref q_3])), (q_1, .inr (10, [.ref a1_2, .ref a2_2, .ref a3_2, .int 0])), (a1_2, .inl (cI, 256, .inl (fun _ => (-1)))), (a2_2, .inl (cI, 512, .inl (fun _ => 0))), (a3_2, .inl (cI, 512, .inl (fun _ => (-1)))), (q_3, .inr (10, [.ref a1_4, .ref a2_4, .ref a3_4, .int 0])), (a1_4, .inl (cI, 256, .inl (fun _ => (-1)))), (a2_4, .inl (cI, 512, .inl (fun _ => 0))), (a3_4, .inl (cI, 512, .inl (fun _ => (-1))))]) [0, 1, 2, 3, 4, 5, 6, 7, 8] rfl
  have hD9 := hD.sub (ws' := [(o, .inr (2, [.ref q_1, .ref q_3])), (q_1, .inr (10, [.ref a1_2, .ref a2_2, .ref a3_2, .int 0])), (a1_2, .inl (cI, 256, .inl (fun _ => (-1)))), (a2_2, .inl (cI, 512, .inl (fun _ => 0))), (a3_2, .inl (cI, 512, .inl (fun _ => (-1)))), (q_3, .inr (10, [.ref a1_4, .ref a2_4, .ref a3_4, .int 0])), (a1_4, .inl (cI, 256, .inl (fun _ => (-1)))), (a2_4, .inl (cI, 512, .inl (fun _ => 0))), (a3_4, .inl (cI, 512, .inl (fun _ => (-1))))]) [0, 1, 2, 3, 4, 5, 6, 7, 8] (by decide +kernel) rfl
  refine W.widen (k := 8) (n := 2568) (by omega) (by omega) ?_
  exact W.vret hx hb hr (fun t ht hW => ⟨⟨(), rfl, trivial, q_1, a1_2, a2_2, a3_2, q_3, a1_4, a2_4, a3_4, by rw [ht]; exact hP9, hD9⟩, hS.F ht⟩) (hS.2.2) dX2_init_26

set_option maxHeartbeats 4000000 in
set_option maxRecDepth 100000 in
theorem k_X7_init (l : Launch) (dC : Nat → ClassId) (dI : Nat → Nat → Nat) (cI cS : ClassId) (sz : Nat) (o : Nat) (oC : Nat)  : Met l yX7_init wsX7_init ({ frames := 2, cells := 2, slots := 2402, locals := 42 } : Room) (va_Pc [.ref o, .ref oC] (fun U => U.heap.size = sz ∧ va_P (dC, dI) vwCl [(o, .inr (7, [.null, .null, .int 0]))] U.heap ∧ va_K (dC, dI) vwCl [(cI, .int), (cS, .short)] U ∧ va_D (fun _ => True) [(o, .inr (7, [.null, .null, .int 0]))])) (va_Qv (fun (_ : Unit) => True) (fun _ t => ∃ (nB : Nat) (aB : Nat), va_P (dC, dI) vwCl [(o, .inr (7, [.ref oC, .ref nB, .int (-1)])), (nB, .inr (5, [.ref aB, .int 0])), (aB, .inl (cI, 2400, .inl (fun _ => 0)))] t.heap ∧ va_D (va_A [(o, .inr (7, [.null, .null, .int 0]))] sz) [(o, .inr (7, [.ref oC, .ref nB, .int (-1)])), (nB, .inr (5, [.ref aB, .int 0])), (aB, .inl (cI, 2400, .inl (fun _ => 0)))]) (va_A [(o, .inr (7, [.null, .null, .int 0]))] sz)) 2 2402 (va_A [(o, .inr (7, [.null, .null, .int 0]))] sz) := by
  refine Met.ofW (cc := cX7_init) (maxL := 2) (ret := none) (by decide) rfl ?_
  intro p e s m args below meth c s₁ B hml hv
  obtain ⟨rfl, hsz, hP, hK, hD0⟩ := hv
  have hx := B.exec
  have hb := B.bytes
  have hr := B.returns
  have hts := atoms_spec (ws := wsX7_init) B.pre
  have hown : s.vm.findClass RX7 = some m.cls := findClass_of_methodNamed B.named
  have hlocks := B.notSynchronized
  have hin : meth.name = "<init>" := (name_of_methodNamed B.named B.method).1
  have in_X5 : ∀ w ∈ wsX50, w ∈ wsX7_init := fun _ h => List.mem_cons_of_mem _ (List.mem_append_left _ (List.mem_append_right _ (h)))
  have in_X7 : ∀ w ∈ wsX70, w ∈ wsX7_init := fun _ h => List.mem_cons_of_mem _ (List.mem_append_right _ (h))
  subst hsz
  have hD := hD0.self (sz := s.heap.size)
  generalize hAe : va_A [(o, .inr (7, [.null, .null, .int 0]))] s.heap.size = A at hD ⊢
  have hA : ∀ q : Nat, s.heap.size ≤ q → A q := fun q h => by rw [← hAe]; exact Or.inr h
  have hS : va_S A s.heap s.heap [] := va_S.rf
  have hP : va_P (dC, dI) vwCl [(o, .inr (7, [.null, .null, .int 0]))] s.heap := hP
  have hl := lv_entry ([.ref o, .ref oC]) (n := 2) (Nat.le_of_ble_eq_true rfl)
  rw [lg_entry_eq]
  generalize (lg_sl ([.ref o, .ref oC]) ++ List.replicate (2 - (lg_sl ([.ref o, .ref oC])).length) Slot.unset).toArray = ls at hl ⊢
  have hl : lv_has ls 2 [(0, .ref o), (1, .ref oC)] := hl
  refine lv_aload_n hx hb dX7_init_0 rfl (lv_at hl 0 rfl) ?_
  refine W.objInit hx hb hown (hts (.methodLink RX7 3 objectInit) (List.mem_of_getElem? (i := 1) rfl)) (hts (.instanceMethod objectInit) (List.mem_of_getElem? (i := 2) rfl)) (hts (.code objectInit ⟨#[0xb1]⟩ 1 none) (List.mem_of_getElem? (i := 3) rfl)) rfl (by rw [hml]; exact hl.1) rfl dX7_init_1 (Nat.le_of_ble_eq_true rfl) (Nat.le_of_ble_eq_true rfl) ?_
  refine W.eq (g2 := F0 m 4 ls []) rfl ?_
  refine lv_aload_n hx hb dX7_init_4 rfl (lv_at hl 0 rfl) ?_
  refine va_new (ci := 5) (fs := [.null, .int 0]) (C := RX5) (T := TX5) (N := 2) hx hb hts in_X5 tyX5 tyX5_ok hown (hts (.classLink RX7 9 RX5) (List.mem_of_getElem? (i := 4) rfl)) (hts (.instantiable RX5 2) (List.mem_of_getElem? (i := 5) rfl)) (hts (.initialized RX5) (List.mem_of_getElem? (i := 6) rfl)) hK hP hD hS hA rfl (p_fsX5) (Nat.le_of_ble_eq_true rfl) (Nat.le_of_ble_eq_true rfl) dX7_init_5 (fun q_1 H hPn hDn hSn => ?_)
  clear hP hD hS
  have hP : va_P (dC, dI) vwCl [(o, .inr (7, [.null, .null, .int 0])), (q_1, .inr (5, [.null, .int 0]))] H := hPn
  have hD : va_D A [(o, .inr (7, [.null, .null, .int 0])), (q_1, .inr (5, [.null, .int 0]))] := hDn
  have hS := hSn
  clear hPn hDn hSn
  refine W.widen (k := 1) (n := 2) (Nat.le_of_ble_eq_true rfl) (Nat.le_of_ble_eq_true rfl) ?_
  refine lv_dup hx hb dX7_init_8 rfl ?_
  refine lv_sipush (v := 2400) hx hb dX7_init_9 (by decide) ?_
  have hPc := hP.sub (ws' := [(q_1, .inr (5, [.null, .int 0]))]) [1] rfl
  have hDc := hD.sub (ws' := [(q_1, .inr (5, [.null, .int 0]))]) [1] (by decide +kernel) rfl
  have hFc := va_free (wc := [(q_1, .inr (5, [.null, .int 0]))]) hD hS hA [1] rfl
  refine va_callv (va_runI (As := [.int 2400]) (rest := [.ref q_1, .ref o]) ⟨hx, hb, hml, hown, hts⟩ (k_X5_init l dC dI cI cS H.size q_1 2400 2400 (by decide) (by decide) (by decide)) (cwI 1 hts gX7_init_X5_init rfl rfl rfl (hts (.initialized RX5) (List.mem_of_getElem? (i := 6) rfl)) (hts (.methodLink RX7 11 yX5_init) (List.mem_of_getElem? (i := 10) rfl)) (hts (.instanceMethod yX5_init) (List.mem_of_getElem? (i := 11) rfl)) rfl (by decide +kernel) ⟨Nat.le_of_ble_eq_true rfl, Nat.le_of_ble_eq_true rfl⟩) ⟨fun a U g mk q => by obtain ⟨q0, q1, qP, qK, qD⟩ := q; exact ⟨q0, q1, qP, va_K.moved (u := U) (U := U.calling g mk a) (Vm.Alike.refl U.vm) qK, qD⟩, fun U hU hW => ⟨rfl, by rw [hU], by rw [hU]; exact hPc, va_K.moved hW.alike hK, hDc.weaken (fun _ _ _ _ => trivial)⟩⟩ rfl rfl hl.1 rfl (lv_room (Nat.le_of_ble_eq_true rfl)) dX7_init_12 ⟨Nat.le_of_ble_eq_true rfl, Nat.le_of_ble_eq_true rfl⟩) hS (fun q _ h => hFc q h) hFc (fun u t H1 locs ht hvm hw hB hz1 hk1 hSn => ?_)
  obtain ⟨ar_2, hP1, hD1⟩ := hB
  rw [ht] at hP1
  obtain ⟨hPn, hDn⟩ := va_join (wr := [(o, .inr (7, [.null, .null, .int 0]))]) (w1 := [(q_1, .inr (5, [.ref ar_2, .int 0])), (ar_2, .inl (cI, 2400, .inl (fun _ => 0)))]) hP hD [1] [0] rfl rfl (by decide +kernel) (by decide +kernel) hk1 hFc hP1 hD1
  clear hP hD hS hPc hDc hFc hk1 hz1 hvm ht hP1 hD1
  generalize H1 = H at hPn hSn ⊢
  have hP : va_P (dC, dI) vwCl [(o, .inr (7, [.null, .null, .int 0])), (q_1, .inr (5, [.ref ar_2, .int 0])), (ar_2, .inl (cI, 2400, .inl (fun _ => 0)))] H := hPn
  have hD : va_D A [(o, .inr (7, [.null, .null, .int 0])), (q_1, .inr (5, [.ref ar_2, .int 0])), (ar_2, .inl (cI, 2400, .inl (fun _ => 0)))] := hDn
  have hS := hSn
  clear hPn hDn hSn
  refine W.widen (k := 2) (n := 2402) (Nat.le_of_ble_eq_true rfl) (Nat.le_of_ble_eq_true rfl) ?_
  refine va_putF (D := (dC, dI)) (ci := 7) (v := .ref q_1) (ty := .object "TextMender$Numbers") (C := RX7) (T := TX7) (N := 3) hx hb hts in_X7 tyX7 tyX7_ok nmX7 hown hK hP hD hS 0 rfl rfl 1 (by decide) (hts (.fieldLink RX7 14 "TextMender$Passage" "bytes" "LTextMender$Numbers;") (List.mem_of_getElem? (i := 7) rfl)) (fun _ h9 => h9) rfl hin rfl (by decide +kernel) rfl rfl (Nat.le_of_ble_eq_true rfl) dX7_init_15 (fun H locs hPn hDn hSn => ?_)
  clear hP hD hS
  have hP : va_P (dC, dI) vwCl [(o, .inr (7, [.null, .ref q_1, .int 0])), (q_1, .inr (5, [.ref ar_2, .int 0])), (ar_2, .inl (cI, 2400, .inl (fun _ => 0)))] H := hPn
  have hD : va_D A [(o, .inr (7, [.null, .ref q_1, .int 0])), (q_1, .inr (5, [.ref ar_2, .int 0])), (ar_2, .inl (cI, 2400, .inl (fun _ => 0)))] := hDn
  have hS := hSn
  clear hPn hDn hSn
  refine lv_aload_n hx hb dX7_init_18 rfl (lv_at hl 0 rfl) ?_
  refine lv_aload_n hx hb dX7_init_19 rfl (lv_at hl 1 rfl) ?_
  refine va_putF (D := (dC, dI)) (ci := 7) (v := .ref oC) (ty := .object "TextMender$Codes") (C := RX7) (T := TX7) (N := 3) hx hb hts in_X7 tyX7 tyX7_ok nmX7 hown hK hP hD hS 0 rfl rfl 0 (by decide) (hts (.fieldLink RX7 20 "TextMender$Passage" "codes" "LTextMender$Codes;") (List.mem_of_getElem? (i := 8) rfl)) (fun _ h9 => h9) rfl hin rfl (by decide +kernel) rfl rfl (Nat.le_of_ble_eq_true rfl) dX7_init_20 (fun H locs hPn hDn hSn => ?_)
  clear hP hD hS
  have hP : va_P (dC, dI) vwCl [(o, .inr (7, [.ref oC, .ref q_1, .int 0])), (q_1, .inr (5, [.ref ar_2, .int 0])), (ar_2, .inl (cI, 2400, .inl (fun _ => 0)))] H := hPn
  have hD : va_D A [(o, .inr (7, [.ref oC, .ref q_1, .int 0])), (q_1, .inr (5, [.ref ar_2, .int 0])), (ar_2, .inl (cI, 2400, .inl (fun _ => 0)))] := hDn
  have hS := hSn
  clear hPn hDn hSn
  refine lv_aload_n hx hb dX7_init_23 rfl (lv_at hl 0 rfl) ?_
  refine lv_iconst (v := (-1)) hx hb dX7_init_24 (by decide) ?_
  refine va_put (D := (dC, dI)) (ci := 7) (v := .int (-1)) (ty := .int) (C := RX7) (T := TX7) (N := 3) hx hb hts in_X7 tyX7 tyX7_ok nmX7 hown hK hP hD hS 0 rfl rfl 2 (by decide) (hts (.fieldLink RX7 24 "TextMender$Passage" "fault" "I") (List.mem_of_getElem? (i := 9) rfl)) (fun _ h9 => h9) rfl (by decide +kernel) rfl rfl (Nat.le_of_ble_eq_true rfl) dX7_init_25 (fun H locs hPn hDn hSn => ?_)
  clear hP hD hS
  have hP : va_P (dC, dI) vwCl [(o, .inr (7, [.ref oC, .ref q_1, .int (-1)])), (q_1, .inr (5, [.ref ar_2, .int 0])), (ar_2, .inl (cI, 2400, .inl (fun _ => 0)))] H := hPn
  have hD : va_D A [(o, .inr (7, [.ref oC, .ref q_1, .int (-1)])), (q_1, .inr (5, [.ref ar_2, .int 0])), (ar_2, .inl (cI, 2400, .inl (fun _ => 0)))] := hDn
  have hS := hSn
  clear hPn hDn hSn
  have hP9 := hP.sub (ws' := [(o, .inr (7, [.ref oC, .ref q_1, .int (-1)])), (q_1, .inr (5, [.ref ar_2, .int 0])), (ar_2, .inl (cI, 2400, .inl (fun _ => 0)))]) [0, 1, 2] rfl
  have hD9 := hD.sub (ws' := [(o, .inr (7, [.ref oC, .ref q_1, .int (-1)])), (q_1, .inr (5, [.ref ar_2, .int 0])), (ar_2, .inl (cI, 2400, .inl (fun _ => 0)))]) [0, 1, 2] (by decide +kernel) rfl
  refine W.widen (k := 2) (n := 2402) (by omega) (by omega) ?_
  exact W.vret hx hb hr (fun t ht hW => ⟨⟨(), rfl, trivial, q_1, ar_2, by rw [ht]; exact hP9, hD9⟩, hS.F ht⟩) (hS.2.2) dX7_init_28

set_option maxHeartbeats 4000000 in
set_option maxRecDepth 100000 in
theorem k_X4_init (l : Launch) (dC : Nat → ClassId) (dI : Nat → Nat → Nat) (cI cS : ClassId) (sz : Nat) (o : Nat) (oP : Nat)  : Met l yX4_init wsX4_init ({ frames := 1, cells := 2, slots := 12, locals := 20 } : Room) (va_Pc [.ref o, .ref oP] (fun U => U.heap.size = sz ∧ va_P (dC, dI) vwCl [(o, .inr (4, [.null, .null, .null, .int 0]))] U.heap ∧ va_K (dC, dI) vwCl [(cI, .int), (cS, .short)] U ∧ va_D (fun _ => True) [(o, .inr (4, [.null, .null, .null, .int 0]))])) (va_Qv (fun (_ : Unit) => True) (fun _ t => ∃ (a1 : Nat) (a2 : Nat), va_P (dC, dI) vwCl [(o, .inr (4, [.ref oP, .ref a1, .ref a2, .int 0])), (a1, .inl (cI, 6, .inl (fun _ => 0))), (a2, .inl (cI, 6, .inl (fun _ => 0)))] t.heap ∧ va_D (va_A [(o, .inr (4, [.null, .null, .null, .int 0]))] sz) [(o, .inr (4, [.ref oP, .ref a1, .ref a2, .int 0])), (a1, .inl (cI, 6, .inl (fun _ => 0))), (a2, .inl (cI, 6, .inl (fun _ => 0)))]) (va_A [(o, .inr (4, [.null, .null, .null, .int 0]))] sz)) 2 12 (va_A [(o, .inr (4, [.null, .null, .null, .int 0]))] sz) := by
  refine Met.ofW (cc := cX4_init) (maxL := 2) (ret := none) (by decide) rfl ?_
  intro p e s m args below meth c s₁ B hml hv
  obtain ⟨rfl, hsz, hP, hK, hD0⟩ := hv
  have hx := B.exec
  have hb := B.bytes
  have hr := B.returns
  have hts := atoms_spec (ws := wsX4_init) B.pre
  have hown : s.vm.findClass RX4 = some m.cls := findClass_of_methodNamed B.named
  have hlocks := B.notSynchronized
  have hin : meth.name = "<init>" := (name_of_methodNamed B.named B.method).1
  have in_X4 : ∀ w ∈ wsX40, w ∈ wsX4_init := fun _ h => List.mem_cons_of_mem _ (List.mem_append_right _ (h))
  subst hsz
  have hD := hD0.self (sz := s.heap.size)
  generalize hAe : va_A [(o, .inr (4, [.null, .null, .null, .int 0]))] s.heap.size = A at hD ⊢
  have hA : ∀ q : Nat, s.heap.size ≤ q → A q := fun q h => by rw [← hAe]; exact Or.inr h
  have hS : va_S A s.heap s.heap [] := va_S.rf
  have hP : va_P (dC, dI) vwCl [(o, .inr (4, [.null, .null, .null, .int 0]))] s.heap := hP
  have hl := lv_entry ([.ref o, .ref oP]) (n := 2) (Nat.le_of_ble_eq_true rfl)
  rw [lg_entry_eq]
  generalize (lg_sl ([.ref o, .ref oP]) ++ List.replicate (2 - (lg_sl ([.ref o, .ref oP])).length) Slot.unset).toArray = ls at hl ⊢
  have hl : lv_has ls 2 [(0, .ref o), (1, .ref oP)] := hl
  refine lv_aload_n hx hb dX4_init_0 rfl (lv_at hl 0 rfl) ?_
  refine W.objInit hx hb hown (hts (.methodLink RX4 3 objectInit) (List.mem_of_getElem? (i := 1) rfl)) (hts (.instanceMethod objectInit) (List.mem_of_getElem? (i := 2) rfl)) (hts (.code objectInit ⟨#[0xb1]⟩ 1 none) (List.mem_of_getElem? (i := 3) rfl)) rfl (by rw [hml]; exact hl.1) rfl dX4_init_1 (Nat.le_of_ble_eq_true rfl) (Nat.le_of_ble_eq_true rfl) ?_
  refine W.eq (g2 := F0 m 4 ls []) rfl ?_
  refine lv_aload_n hx hb dX4_init_4 rfl (lv_at hl 0 rfl) ?_
  refine lv_bipush (v := 6) hx hb dX4_init_5 (by decide) ?_
  refine p_newint hx hb (hts (.arrayClass .int) (List.mem_of_getElem? (i := 4) rfl)) hK hP hD hS hA (n := 6) (N := 6) (by decide) (by decide) (by decide) (Nat.le_of_ble_eq_true rfl) (Nat.le_of_ble_eq_true rfl) dX4_init_7 (fun q_1 H hPn hDn hSn => ?_)
  clear hP hD hS
  have hP : va_P (dC, dI) vwCl [(o, .inr (4, [.null, .null, .null, .int 0])), (q_1, .inl (cI, 6, .inl (fun _ => 0)))] H := hPn
  have hD : va_D A [(o, .inr (4, [.null, .null, .null, .int 0])), (q_1, .inl (cI, 6, .inl (fun _ => 0)))] := hDn
  have hS := hSn
  clear hPn hDn hSn
  refine W.widen (k := 1) (n := 6) (Nat.le_of_ble_eq_true rfl) (Nat.le_of_ble_eq_true rfl) ?_
  refine va_putF (D := (dC, dI)) (ci := 4) (v := .ref q_1) (ty := .array .int) (C := RX4) (T := TX4) (N := 4) hx hb hts in_X4 tyX4 tyX4_ok nmX4 hown hK hP hD hS 0 rfl rfl 1 (by decide) (hts (.fieldLink RX4 9 "TextMender$Harms" "writtenIn" "[I") (List.mem_of_getElem? (i := 5) rfl)) (fun _ h9 => h9) rfl hin rfl (by decide +kernel) rfl rfl (Nat.le_of_ble_eq_true rfl) dX4_init_9 (fun H locs hPn hDn hSn => ?_)
  clear hP hD hS
  have hP : va_P (dC, dI) vwCl [(o, .inr (4, [.null, .ref q_1, .null, .int 0])), (q_1, .inl (cI, 6, .inl (fun _ => 0)))] H := hPn
  have hD : va_D A [(o, .inr (4, [.null, .ref q_1, .null, .int 0])), (q_1, .inl (cI, 6, .inl (fun _ => 0)))] := hDn
  have hS := hSn
  clear hPn hDn hSn
  refine lv_aload_n hx hb dX4_init_12 rfl (lv_at hl 0 rfl) ?_
  refine lv_bipush (v := 6) hx hb dX4_init_13 (by decide) ?_
  refine p_newint hx hb (hts (.arrayClass .int) (List.mem_of_getElem? (i := 4) rfl)) hK hP hD hS hA (n := 6) (N := 6) (by decide) (by decide) (by decide) (Nat.le_of_ble_eq_true rfl) (Nat.le_of_ble_eq_true rfl) dX4_init_15 (fun q_2 H hPn hDn hSn => ?_)
  clear hP hD hS
  have hP : va_P (dC, dI) vwCl [(o, .inr (4, [.null, .ref q_1, .null, .int 0])), (q_1, .inl (cI, 6, .inl (fun _ => 0))), (q_2, .inl (cI, 6, .inl (fun _ => 0)))] H := hPn
  have hD : va_D A [(o, .inr (4, [.null, .ref q_1, .null, .int 0])), (q_1, .inl (cI, 6, .inl (fun _ => 0))), (q_2, .inl (cI, 6, .inl (fun _ => 0)))] := hDn
  have hS := hSn
  clear hPn hDn hSn
  refine W.widen (k := 2) (n := 12) (Nat.le_of_ble_eq_true rfl) (Nat.le_of_ble_eq_true rfl) ?_
  refine va_putF (D := (dC, dI)) (ci := 4) (v := .ref q_2) (ty := .array .int) (C := RX4) (T := TX4) (N := 4) hx hb hts in_X4 tyX4 tyX4_ok nmX4 hown hK hP hD hS 0 rfl rfl 2 (by decide) (hts (.fieldLink RX4 15 "TextMender$Harms" "readIn" "[I") (List.mem_of_getElem? (i := 6) rfl)) (fun _ h9 => h9) rfl hin rfl (by decide +kernel) rfl rfl (Nat.le_of_ble_eq_true rfl) dX4_init_17 (fun H locs hPn hDn hSn => ?_)
  clear hP hD hS
  have hP : va_P (dC, dI) vwCl [(o, .inr (4, [.null, .ref q_1, .ref q_2, .int 0])), (q_1, .inl (cI, 6, .inl (fun _ => 0))), (q_2, .inl (cI, 6, .inl (fun _ => 0)))] H := hPn
  have hD : va_D A [(o, .inr (4, [.null, .ref q_1, .ref q_2, .int 0])), (q_1, .inl (cI, 6, .inl (fun _ => 0))), (q_2, .inl (cI, 6, .inl (fun _ => 0)))] := hDn
  have hS := hSn
  clear hPn hDn hSn
  refine lv_aload_n hx hb dX4_init_20 rfl (lv_at hl 0 rfl) ?_
  refine lv_aload_n hx hb dX4_init_21 rfl (lv_at hl 1 rfl) ?_
  refine va_putF (D := (dC, dI)) (ci := 4) (v := .ref oP) (ty := .object "TextMender$Passage") (C := RX4) (T := TX4) (N := 4) hx hb hts in_X4 tyX4 tyX4_ok nmX4 hown hK hP hD hS 0 rfl rfl 0 (by decide) (hts (.fieldLink RX4 18 "TextMender$Harms" "passage" "LTextMender$Passage;") (List.mem_of_getElem? (i := 7) rfl)) (fun _ h9 => h9) rfl hin rfl (by decide +kernel) rfl rfl (Nat.le_of_ble_eq_true rfl) dX4_init_22 (fun H locs hPn hDn hSn => ?_)
  clear hP hD hS
  have hP : va_P (dC, dI) vwCl [(o, .inr (4, [.ref oP, .ref q_1, .ref q_2, .int 0])), (q_1, .inl (cI, 6, .inl (fun _ => 0))), (q_2, .inl (cI, 6, .inl (fun _ => 0)))] H := hPn
  have hD : va_D A [(o, .inr (4, [.ref oP, .ref q_1, .ref q_2, .int 0])), (q_1, .inl (cI, 6, .inl (fun _ => 0))), (q_2, .inl (cI, 6, .inl (fun _ => 0)))] := hDn
  have hS := hSn
  clear hPn hDn hSn
  refine lv_aload_n hx hb dX4_init_25 rfl (lv_at hl 0 rfl) ?_
  refine lv_iconst (v := 0) hx hb dX4_init_26 (by decide) ?_
  refine va_put (D := (dC, dI)) (ci := 4) (v := .int 0) (ty := .int) (C := RX4) (T := TX4) (N := 4) hx hb hts in_X4 tyX4 tyX4_ok nmX4 hown hK hP hD hS 0 rfl rfl 3 (by decide) (hts (.fieldLink RX4 22 "TextMender$Harms" "length" "I") (List.mem_of_getElem? (i := 8) rfl)) (fun _ h9 => h9) rfl (by decide +kernel) rfl rfl (Nat.le_of_ble_eq_true rfl) dX4_init_27 (fun H locs hPn hDn hSn => ?_)
  clear hP hD hS
  have hP : va_P (dC, dI) vwCl [(o, .inr (4, [.ref oP, .ref q_1, .ref q_2, .int 0])), (q_1, .inl (cI, 6, .inl (fun _ => 0))), (q_2, .inl (cI, 6, .inl (fun _ => 0)))] H := hPn
  have hD : va_D A [(o, .inr (4, [.ref oP, .ref q_1, .ref q_2, .int 0])), (q_1, .inl (cI, 6, .inl (fun _ => 0))), (q_2, .inl (cI, 6, .inl (fun _ => 0)))] := hDn
  have hS := hSn
  clear hPn hDn hSn
  have hP9 := hP.sub (ws' := [(o, .inr (4, [.ref oP, .ref q_1, .ref q_2, .int 0])), (q_1, .inl (cI, 6, .inl (fun _ => 0))), (q_2, .inl (cI, 6, .inl (fun _ => 0)))]) [0, 1, 2] rfl
  have hD9 := hD.sub (ws' := [(o, .inr (4, [.ref oP, .ref q_1, .ref q_2, .int 0])), (q_1, .inl (cI, 6, .inl (fun _ => 0))), (q_2, .inl (cI, 6, .inl (fun _ => 0)))]) [0, 1, 2] (by decide +kernel) rfl
  refine W.widen (k := 2) (n := 12) (by omega) (by omega) ?_
  exact W.vret hx hb hr (fun t ht hW => ⟨⟨(), rfl, trivial, q_1, q_2, by rw [ht]; exact hP9, hD9⟩, hS.F ht⟩) (hS.2.2) dX4_init_30

set_option maxHeartbeats 4000000 in
set_option maxRecDepth 100000 in
theorem k_X3_init (l : Launch) (dC : Nat → ClassId) (dI : Nat → Nat → Nat) (cI cS : ClassId) (sz : Nat) (o : Nat)  : Met l yX3_init wsX3_init ({ frames := 1, cells := 2, slots := 2048, locals := 23 } : Room) (va_Pc [.ref o] (fun U => U.heap.size = sz ∧ va_P (dC, dI) vwCl [(o, .inr (3, [.null, .null, .int 0]))] U.heap ∧ va_K (dC, dI) vwCl [(cI, .int), (cS, .short)] U ∧ va_D (fun _ => True) [(o, .inr (3, [.null, .null, .int 0]))])) (va_Qv (fun (_ : Unit) => True) (fun _ t => ∃ (a1 : Nat) (a2 : Nat), va_P (dC, dI) vwCl [(o, .inr (3, [.ref a1, .ref a2, .int 0])), (a1, .inl (cI, 1024, .inl (fun _ => 0))), (a2, .inl (cI, 1024, .inl (fun _ => (-1))))] t.heap ∧ va_D (va_A [(o, .inr (3, [.null, .null, .int 0]))] sz) [(o, .inr (3, [.ref a1, .ref a2, .int 0])), (a1, .inl (cI, 1024, .inl (fun _ => 0))), (a2, .inl (cI, 1024, .inl (fun _ => (-1))))]) (va_A [(o, .inr (3, [.null, .null, .int 0]))] sz)) 2 2048 (va_A [(o, .inr (3, [.null, .null, .int 0]))] sz) := by
  refine Met.ofW (cc := cX3_init) (maxL := 1) (ret := none) (by decide) rfl ?_
  intro p e s m args below meth c s₁ B hml hv
  obtain ⟨rfl, hsz, hP, hK, hD0⟩ := hv
  have hx := B.exec
  have hb := B.bytes
  have hr := B.returns
  have hts := atoms_spec (ws := wsX3_init) B.pre
  have hown : s.vm.findClass RX3 = some m.cls := findClass_of_methodNamed B.named
  have hlocks := B.notSynchronized
  have hin : meth.name = "<init>" := (name_of_methodNamed B.named B.method).1
  have in_X3 : ∀ w ∈ wsX30, w ∈ wsX3_init := fun _ h => List.mem_cons_of_mem _ (List.mem_append_right _ (h))
  subst hsz
  have hD := hD0.self (sz := s.heap.size)
  generalize hAe : va_A [(o, .inr (3, [.null, .null, .int 0]))] s.heap.size = A at hD ⊢
  have hA : ∀ q : Nat, s.heap.size ≤ q → A q := fun q h => by rw [← hAe]; exact Or.inr h
  have hS : va_S A s.heap s.heap [] := va_S.rf
  have hP : va_P (dC, dI) vwCl [(o, .inr (3, [.null, .null, .int 0]))] s.heap := hP
  have hl := lv_entry ([.ref o]) (n := 1) (Nat.le_of_ble_eq_true rfl)
  rw [lg_entry_eq]
  generalize (lg_sl ([.ref o]) ++ List.replicate (1 - (lg_sl ([.ref o])).length) Slot.unset).toArray = ls at hl ⊢
  have hl : lv_has ls 1 [(0, .ref o)] := hl
  refine lv_aload_n hx hb dX3_init_0 rfl (lv_at hl 0 rfl) ?_
  refine W.objInit hx hb hown (hts (.methodLink RX3 3 objectInit) (List.mem_of_getElem? (i := 1) rfl)) (hts (.instanceMethod objectInit) (List.mem_of_getElem? (i := 2) rfl)) (hts (.code objectInit ⟨#[0xb1]⟩ 1 none) (List.mem_of_getElem? (i := 3) rfl)) rfl (by rw [hml]; exact hl.1) rfl dX3_init_1 (Nat.le_of_ble_eq_true rfl) (Nat.le_of_ble_eq_true rfl) ?_
  refine W.eq (g2 := F0 m 4 ls []) rfl ?_
  refine lv_aload_n hx hb dX3_init_4 rfl (lv_at hl 0 rfl) ?_
  refine lv_sipush (v := 1024) hx hb dX3_init_5 (by decide) ?_
  refine p_newint hx hb (hts (.arrayClass .int) (List.mem_of_getElem? (i := 4) rfl)) hK hP hD hS hA (n := 1024) (N := 1024) (by decide) (by decide) (by decide) (Nat.le_of_ble_eq_true rfl) (Nat.le_of_ble_eq_true rfl) dX3_init_8 (fun q_1 H hPn hDn hSn => ?_)
  clear hP hD hS
  have hP : va_P (dC, dI) vwCl [(o, .inr (3, [.null, .null, .int 0])), (q_1, .inl (cI, 1024, .inl (fun _ => 0)))] H := hPn
  have hD : va_D A [(o, .inr (3, [.null, .null, .int 0])), (q_1, .inl (cI, 1024, .inl (fun _ => 0)))] := hDn
  have hS := hSn
  clear hPn hDn hSn
  refine W.widen (k := 1) (n := 1024) (Nat.le_of_ble_eq_true rfl) (Nat.le_of_ble_eq_true rfl) ?_
  refine va_putF (D := (dC, dI)) (ci := 3) (v := .ref q_1) (ty := .array .int) (C := RX3) (T := TX3) (N := 3) hx hb hts in_X3 tyX3 tyX3_ok nmX3 hown hK hP hD hS 0 rfl rfl 0 (by decide) (hts (.fieldLink RX3 11 "TextMender$Costs" "pair" "[I") (List.mem_of_getElem? (i := 5) rfl)) (fun _ h9 => h9) rfl hin rfl (by decide +kernel) rfl rfl (Nat.le_of_ble_eq_true rfl) dX3_init_10 (fun H locs hPn hDn hSn => ?_)
  clear hP hD hS
  have hP : va_P (dC, dI) vwCl [(o, .inr (3, [.ref q_1, .null, .int 0])), (q_1, .inl (cI, 1024, .inl (fun _ => 0)))] H := hPn
  have hD : va_D A [(o, .inr (3, [.ref q_1, .null, .int 0])), (q_1, .inl (cI, 1024, .inl (fun _ => 0)))] := hDn
  have hS := hSn
  clear hPn hDn hSn
  refine lv_aload_n hx hb dX3_init_13 rfl (lv_at hl 0 rfl) ?_
  refine lv_sipush (v := 1024) hx hb dX3_init_14 (by decide) ?_
  refine p_newint hx hb (hts (.arrayClass .int) (List.mem_of_getElem? (i := 4) rfl)) hK hP hD hS hA (n := 1024) (N := 1024) (by decide) (by decide) (by decide) (Nat.le_of_ble_eq_true rfl) (Nat.le_of_ble_eq_true rfl) dX3_init_17 (fun q_2 H hPn hDn hSn => ?_)
  clear hP hD hS
  have hP : va_P (dC, dI) vwCl [(o, .inr (3, [.ref q_1, .null, .int 0])), (q_1, .inl (cI, 1024, .inl (fun _ => 0))), (q_2, .inl (cI, 1024, .inl (fun _ => 0)))] H := hPn
  have hD : va_D A [(o, .inr (3, [.ref q_1, .null, .int 0])), (q_1, .inl (cI, 1024, .inl (fun _ => 0))), (q_2, .inl (cI, 1024, .inl (fun _ => 0)))] := hDn
  have hS := hSn
  clear hPn hDn hSn
  refine W.widen (k := 2) (n := 2048) (Nat.le_of_ble_eq_true rfl) (Nat.le_of_ble_eq_true rfl) ?_
  refine va_putF (D := (dC, dI)) (ci := 3) (v := .ref q_2) (ty := .array .int) (C := RX3) (T := TX3) (N := 3) hx hb hts in_X3 tyX3 tyX3_ok nmX3 hown hK hP hD hS 0 rfl rfl 1 (by decide) (hts (.fieldLink RX3 15 "TextMender$Costs" "value" "[I") (List.mem_of_getElem? (i := 6) rfl)) (fun _ h9 => h9) rfl hin rfl (by decide +kernel) rfl rfl (Nat.le_of_ble_eq_true rfl) dX3_init_19 (fun H locs hPn hDn hSn => ?_)
  clear hP hD hS
  have hP : va_P (dC, dI) vwCl [(o, .inr (3, [.ref q_1, .ref q_2, .int 0])), (q_1, .inl (cI, 1024, .inl (fun _ => 0))), (q_2, .inl (cI, 1024, .inl (fun _ => 0)))] H := hPn
  have hD : va_D A [(o, .inr (3, [.ref q_1, .ref q_2, .int 0])), (q_1, .inl (cI, 1024, .inl (fun _ => 0))), (q_2, .inl (cI, 1024, .inl (fun _ => 0)))] := hDn
  have hS := hSn
  clear hPn hDn hSn
  refine lv_aload_n hx hb dX3_init_22 rfl (lv_at hl 0 rfl) ?_
  refine va_get (D := (dC, dI)) (ci := 3) (v := .ref q_2) (C := RX3) (T := TX3) (N := 3) hx hb hts in_X3 hown hK hP 0 rfl rfl 1 (by decide) (hts (.fieldLink RX3 15 "TextMender$Costs" "value" "[I") (List.mem_of_getElem? (i := 6) rfl)) (fun _ h9 => h9) rfl dX3_init_23 ?_
  refine lv_iconst (v := (-1)) hx hb dX3_init_26 (by decide) ?_
  have hPc := hP.sub (ws' := [(q_2, .inl (cI, 1024, .inl (fun _ => 0)))]) [2] rfl
  have hDc := hD.sub (ws' := [(q_2, .inl (cI, 1024, .inl (fun _ => 0)))]) [2] (by decide +kernel) rfl
  have hFc := va_free (wc := [(q_2, .inl (cI, 1024, .inl (fun _ => 0)))]) hD hS hA [2] rfl
  refine va_callv (va_runS (As := [.ref q_2, .int (-1)]) (rest := []) ⟨hx, hb, hml, hown, hts⟩ (k_J7_fill_53178 l dC dI cI cS H.size q_2 1024 (-1) (fun _ => 0) (by decide)) (va_cwS 2 hts gX3_init_J7_fill_53178 rfl rfl rfl (by decide +kernel) ⟨Nat.le_of_ble_eq_true rfl, Nat.le_of_ble_eq_true rfl⟩) ⟨fun a U g mk q => by obtain ⟨q0, q1, qP, qK, qD⟩ := q; exact ⟨q0, q1, qP, va_K.moved (u := U) (U := U.calling g mk a) (Vm.Alike.refl U.vm) qK, qD⟩, fun U hU hW => ⟨rfl, by rw [hU], by rw [hU]; exact hPc, va_K.moved hW.alike hK, hDc.weaken (fun _ _ _ _ => trivial)⟩⟩ rfl rfl hl.1 rfl (lv_room (Nat.le_of_ble_eq_true rfl)) dX3_init_27 ⟨Nat.le_of_ble_eq_true rfl, Nat.le_of_ble_eq_true rfl⟩) hS (fun q _ h => hFc q h) hFc (fun u t H1 locs ht hvm hw hB hz1 hk1 hSn => ?_)
  obtain ⟨hP1, hD1⟩ := hB
  rw [ht] at hP1
  obtain ⟨hPn, hDn⟩ := va_join (wr := [(o, .inr (3, [.ref q_1, .ref q_2, .int 0])), (q_1, .inl (cI, 1024, .inl (fun _ => 0)))]) (w1 := [(q_2, .inl (cI, 1024, .inl (fun _ => (-1))))]) hP hD [2] [0, 1] rfl rfl (by decide +kernel) (by decide +kernel) hk1 hFc hP1 hD1
  clear hP hD hS hPc hDc hFc hk1 hz1 hvm ht hP1 hD1
  generalize H1 = H at hPn hSn ⊢
  have hP : va_P (dC, dI) vwCl [(o, .inr (3, [.ref q_1, .ref q_2, .int 0])), (q_1, .inl (cI, 1024, .inl (fun _ => 0))), (q_2, .inl (cI, 1024, .inl (fun _ => (-1))))] H := hPn
  have hD : va_D A [(o, .inr (3, [.ref q_1, .ref q_2, .int 0])), (q_1, .inl (cI, 1024, .inl (fun _ => 0))), (q_2, .inl (cI, 1024, .inl (fun _ => (-1))))] := hDn
  have hS := hSn
  clear hPn hDn hSn
  refine lv_aload_n hx hb dX3_init_30 rfl (lv_at hl 0 rfl) ?_
  refine lv_iconst (v := 0) hx hb dX3_init_31 (by decide) ?_
  refine va_put (D := (dC, dI)) (ci := 3) (v := .int 0) (ty := .int) (C := RX3) (T := TX3) (N := 3) hx hb hts in_X3 tyX3 tyX3_ok nmX3 hown hK hP hD hS 0 rfl rfl 2 (by decide) (hts (.fieldLink RX3 24 "TextMender$Costs" "length" "I") (List.mem_of_getElem? (i := 7) rfl)) (fun _ h9 => h9) rfl (by decide +kernel) rfl rfl (Nat.le_of_ble_eq_true rfl) dX3_init_32 (fun H locs hPn hDn hSn => ?_)
  clear hP hD hS
  have hP : va_P (dC, dI) vwCl [(o, .inr (3, [.ref q_1, .ref q_2, .int 0])), (q_1, .inl (cI, 1024, .inl (fun _ => 0))), (q_2, .inl (cI, 1024, .inl (fun _ => (-1))))] H := hPn
  have hD : va_D A [(o, .inr (3, [.ref q_1, .ref q_2, .int 0])), (q_1, .inl (cI, 1024, .inl (fun _ => 0))), (q_2, .inl (cI, 1024, .inl (fun _ => (-1))))] := hDn
  have hS := hSn
  clear hPn hDn hSn
  have hP9 := hP.sub (ws' := [(o, .inr (3, [.ref q_1, .ref q_2, .int 0])), (q_1, .inl (cI, 1024, .inl (fun _ => 0))), (q_2, .inl (cI, 1024, .inl (fun _ => (-1))))]) [0, 1, 2] rfl
  have hD9 := hD.sub (ws' := [(o, .inr (3, [.ref q_1, .ref q_2, .int 0])), (q_1, .inl (cI, 1024, .inl (fun _ => 0))), (q_2, .inl (cI, 1024, .inl (fun _ => (-1))))]) [0, 1, 2] (by decide +kernel) rfl
  refine W.widen (k := 2) (n := 2048) (by omega) (by omega) ?_
  exact W.vret hx hb hr (fun t ht hW => ⟨⟨(), rfl, trivial, q_1, q_2, by rw [ht]; exact hP9, hD9⟩, hS.F ht⟩) (hS.2.2) dX3_init_35

set_option maxHeartbeats 4000000 in
set_option maxRecDepth 100000 in
theorem k_X0_init (l : Launch) (dC : Nat → ClassId) (dI : Nat → Nat → Nat) (cI cS : ClassId) (sz : Nat) (o : Nat)  : Met l yX0_init wsX0_init ({ frames := 1, cells := 2, slots := 6020, locals := 20 } : Room) (va_Pc [.ref o] (fun U => U.heap.size = sz ∧ va_P (dC, dI) vwCl [(o, .inr (0, [.null, .null, .int 0, .int 0]))] U.heap ∧ va_K (dC, dI) vwCl [(cI, .int), (cS, .short)] U ∧ va_D (fun _ => True) [(o, .inr (0, [.null, .null, .int 0, .int 0]))])) (va_Qv (fun (_ : Unit) => True) (fun _ t => ∃ (a1 : Nat) (a2 : Nat), va_P (dC, dI) vwCl [(o, .inr (0, [.ref a1, .ref a2, .int 0, .int 0])), (a1, .inl (cI, 6000, .inl (fun _ => 0))), (a2, .inl (cI, 20, .inl (fun _ => 0)))] t.heap ∧ va_D (va_A [(o, .inr (0, [.null, .null, .int 0, .int 0]))] sz) [(o, .inr (0, [.ref a1, .ref a2, .int 0, .int 0])), (a1, .inl (cI, 6000, .inl (fun _ => 0))), (a2, .inl (cI, 20, .inl (fun _ => 0)))]) (va_A [(o, .inr (0, [.null, .null, .int 0, .int 0]))] sz)) 2 6020 (va_A [(o, .inr (0, [.null, .null, .int 0, .int 0]))] sz) := by
  refine Met.ofW (cc := cX0_init) (maxL := 1) (ret := none) (by decide) rfl ?_
  intro p e s m args below meth c s₁ B hml hv
  obtain ⟨rfl, hsz, hP, hK, hD0⟩ := hv
  have hx := B.exec
  have hb := B.bytes
  have hr := B.returns
  have hts := atoms_spec (ws := wsX0_init) B.pre
  have hown : s.vm.findClass RX0 = some m.cls := findClass_of_methodNamed B.named
  have hlocks := B.notSynchronized
  have hin : meth.name = "<init>" := (name_of_methodNamed B.named B.method).1
  have in_X0 : ∀ w ∈ wsX00, w ∈ wsX0_init := fun _ h => List.mem_cons_of_mem _ (List.mem_append_right _ (h))
  subst hsz
  have hD := hD0.self (sz := s.heap.size)
  generalize hAe : va_A [(o, .inr (0, [.null, .null, .int 0, .int 0]))] s.heap.size = A at hD ⊢
  have hA : ∀ q : Nat, s.heap.size ≤ q → A q := fun q h => by rw [← hAe]; exact Or.inr h
  have hS : va_S A s.heap s.heap [] := va_S.rf
  have hP : va_P (dC, dI) vwCl [(o, .inr (0, [.null, .null, .int 0, .int 0]))] s.heap := hP
  have hl := lv_entry ([.ref o]) (n := 1) (Nat.le_of_ble_eq_true rfl)
  rw [lg_entry_eq]
  generalize (lg_sl ([.ref o]) ++ List.replicate (1 - (lg_sl ([.ref o])).length) Slot.unset).toArray = ls at hl ⊢
  have hl : lv_has ls 1 [(0, .ref o)] := hl
  refine lv_aload_n hx hb dX0_init_0 rfl (lv_at hl 0 rfl) ?_
  refine W.objInit hx hb hown (hts (.methodLink RX0 3 objectInit) (List.mem_of_getElem? (i := 1) rfl)) (hts (.instanceMethod objectInit) (List.mem_of_getElem? (i := 2) rfl)) (hts (.code objectInit ⟨#[0xb1]⟩ 1 none) (List.mem_of_getElem? (i := 3) rfl)) rfl (by rw [hml]; exact hl.1) rfl dX0_init_1 (Nat.le_of_ble_eq_true rfl) (Nat.le_of_ble_eq_true rfl) ?_
  refine W.eq (g2 := F0 m 4 ls []) rfl ?_
  refine lv_aload_n hx hb dX0_init_4 rfl (lv_at hl 0 rfl) ?_
  refine lv_sipush (v := 6000) hx hb dX0_init_5 (by decide) ?_
  refine p_newint hx hb (hts (.arrayClass .int) (List.mem_of_getElem? (i := 4) rfl)) hK hP hD hS hA (n := 6000) (N := 6000) (by decide) (by decide) (by decide) (Nat.le_of_ble_eq_true rfl) (Nat.le_of_ble_eq_true rfl) dX0_init_8 (fun q_1 H hPn hDn hSn => ?_)
  clear hP hD hS
  have hP : va_P (dC, dI) vwCl [(o, .inr (0, [.null, .null, .int 0, .int 0])), (q_1, .inl (cI, 6000, .inl (fun _ => 0)))] H := hPn
  have hD : va_D A [(o, .inr (0, [.null, .null, .int 0, .int 0])), (q_1, .inl (cI, 6000, .inl (fun _ => 0)))] := hDn
  have hS := hSn
  clear hPn hDn hSn
  refine W.widen (k := 1) (n := 6000) (Nat.le_of_ble_eq_true rfl) (Nat.le_of_ble_eq_true rfl) ?_
  refine va_putF (D := (dC, dI)) (ci := 0) (v := .ref q_1) (ty := .array .int) (C := RX0) (T := TX0) (N := 4) hx hb hts in_X0 tyX0 tyX0_ok nmX0 hown hK hP hD hS 0 rfl rfl 0 (by decide) (hts (.fieldLink RX0 11 "TextMender$Changes" "kept" "[I") (List.mem_of_getElem? (i := 5) rfl)) (fun _ h9 => h9) rfl hin rfl (by decide +kernel) rfl rfl (Nat.le_of_ble_eq_true rfl) dX0_init_10 (fun H locs hPn hDn hSn => ?_)
  clear hP hD hS
  have hP : va_P (dC, dI) vwCl [(o, .inr (0, [.ref q_1, .null, .int 0, .int 0])), (q_1, .inl (cI, 6000, .inl (fun _ => 0)))] H := hPn
  have hD : va_D A [(o, .inr (0, [.ref q_1, .null, .int 0, .int 0])), (q_1, .inl (cI, 6000, .inl (fun _ => 0)))] := hDn
  have hS := hSn
  clear hPn hDn hSn
  refine lv_aload_n hx hb dX0_init_13 rfl (lv_at hl 0 rfl) ?_
  refine lv_bipush (v := 20) hx hb dX0_init_14 (by decide) ?_
  refine p_newint hx hb (hts (.arrayClass .int) (List.mem_of_getElem? (i := 4) rfl)) hK hP hD hS hA (n := 20) (N := 20) (by decide) (by decide) (by decide) (Nat.le_of_ble_eq_true rfl) (Nat.le_of_ble_eq_true rfl) dX0_init_16 (fun q_2 H hPn hDn hSn => ?_)
  clear hP hD hS
  have hP : va_P (dC, dI) vwCl [(o, .inr (0, [.ref q_1, .null, .int 0, .int 0])), (q_1, .inl (cI, 6000, .inl (fun _ => 0))), (q_2, .inl (cI, 20, .inl (fun _ => 0)))] H := hPn
  have hD : va_D A [(o, .inr (0, [.ref q_1, .null, .int 0, .int 0])), (q_1, .inl (cI, 6000, .inl (fun _ => 0))), (q_2, .inl (cI, 20, .inl (fun _ => 0)))] := hDn
  have hS := hSn
  clear hPn hDn hSn
  refine W.widen (k := 2) (n := 6020) (Nat.le_of_ble_eq_true rfl) (Nat.le_of_ble_eq_true rfl) ?_
  refine va_putF (D := (dC, dI)) (ci := 0) (v := .ref q_2) (ty := .array .int) (C := RX0) (T := TX0) (N := 4) hx hb hts in_X0 tyX0 tyX0_ok nmX0 hown hK hP hD hS 0 rfl rfl 1 (by decide) (hts (.fieldLink RX0 15 "TextMender$Changes" "keptLength" "[I") (List.mem_of_getElem? (i := 6) rfl)) (fun _ h9 => h9) rfl hin rfl (by decide +kernel) rfl rfl (Nat.le_of_ble_eq_true rfl) dX0_init_18 (fun H locs hPn hDn hSn => ?_)
  clear hP hD hS
  have hP : va_P (dC, dI) vwCl [(o, .inr (0, [.ref q_1, .ref q_2, .int 0, .int 0])), (q_1, .inl (cI, 6000, .inl (fun _ => 0))), (q_2, .inl (cI, 20, .inl (fun _ => 0)))] H := hPn
  have hD : va_D A [(o, .inr (0, [.ref q_1, .ref q_2, .int 0, .int 0])), (q_1, .inl (cI, 6000, .inl (fun _ => 0))), (q_2, .inl (cI, 20, .inl (fun _ => 0)))] := hDn
  have hS := hSn
  clear hPn hDn hSn
  refine lv_aload_n hx hb dX0_init_21 rfl (lv_at hl 0 rfl) ?_
  refine lv_iconst (v := 0) hx hb dX0_init_22 (by decide) ?_
  refine va_put (D := (dC, dI)) (ci := 0) (v := .int 0) (ty := .int) (C := RX0) (T := TX0) (N := 4) hx hb hts in_X0 tyX0 tyX0_ok nmX0 hown hK hP hD hS 0 rfl rfl 2 (by decide) (hts (.fieldLink RX0 18 "TextMender$Changes" "next" "I") (List.mem_of_getElem? (i := 7) rfl)) (fun _ h9 => h9) rfl (by decide +kernel) rfl rfl (Nat.le_of_ble_eq_true rfl) dX0_init_23 (fun H locs hPn hDn hSn => ?_)
  clear hP hD hS
  have hP : va_P (dC, dI) vwCl [(o, .inr (0, [.ref q_1, .ref q_2, .int 0, .int 0])), (q_1, .inl (cI, 6000, .inl (fun _ => 0))), (q_2, .inl (cI, 20, .inl (fun _ => 0)))] H := hPn
  have hD : va_D A [(o, .inr (0, [.ref q_1, .ref q_2, .int 0, .int 0])), (q_1, .inl (cI, 6000, .inl (fun _ => 0))), (q_2, .inl (cI, 20, .inl (fun _ => 0)))] := hDn
  have hS := hSn
  clear hPn hDn hSn
  refine lv_aload_n hx hb dX0_init_26 rfl (lv_at hl 0 rfl) ?_
  refine lv_iconst (v := 0) hx hb dX0_init_27 (by decide) ?_
  refine va_put (D := (dC, dI)) (ci := 0) (v := .int 0) (ty := .int) (C := RX0) (T := TX0) (N := 4) hx hb hts in_X0 tyX0 tyX0_ok nmX0 hown hK hP hD hS 0 rfl rfl 3 (by decide) (hts (.fieldLink RX0 22 "TextMender$Changes" "length" "I") (List.mem_of_getElem? (i := 8) rfl)) (fun _ h9 => h9) rfl (by decide +kernel) rfl rfl (Nat.le_of_ble_eq_true rfl) dX0_init_28 (fun H locs hPn hDn hSn => ?_)
  clear hP hD hS
  have hP : va_P (dC, dI) vwCl [(o, .inr (0, [.ref q_1, .ref q_2, .int 0, .int 0])), (q_1, .inl (cI, 6000, .inl (fun _ => 0))), (q_2, .inl (cI, 20, .inl (fun _ => 0)))] H := hPn
  have hD : va_D A [(o, .inr (0, [.ref q_1, .ref q_2, .int 0, .int 0])), (q_1, .inl (cI, 6000, .inl (fun _ => 0))), (q_2, .inl (cI, 20, .inl (fun _ => 0)))] := hDn
  have hS := hSn
  clear hPn hDn hSn
  have hP9 := hP.sub (ws' := [(o, .inr (0, [.ref q_1, .ref q_2, .int 0, .int 0])), (q_1, .inl (cI, 6000, .inl (fun _ => 0))), (q_2, .inl (cI, 20, .inl (fun _ => 0)))]) [0, 1, 2] rfl
  have hD9 := hD.sub (ws' := [(o, .inr (0, [.ref q_1, .ref q_2, .int 0, .int 0])), (q_1, .inl (cI, 6000, .inl (fun _ => 0))), (q_2, .inl (cI, 20, .inl (fun _ => 0)))]) [0, 1, 2] (by decide +kernel) rfl
  refine W.widen (k := 2) (n := 6020) (by omega) (by omega) ?_
  exact W.vret hx hb hr (fun t ht hW => ⟨⟨(), rfl, trivial, q_1, q_2, by rw [ht]; exact hP9, hD9⟩, hS.F ht⟩) (hS.2.2) dX0_init_31

set_option maxHeartbeats 4000000 in
set_option maxRecDepth 100000 in
theorem k_X9_init (l : Launch) (dC : Nat → ClassId) (dI : Nat → Nat → Nat) (cI cS : ClassId) (sz : Nat) (o : Nat) (oH : Nat) (oK : Nat)  : Met l yX9_init wsX9_init ({ frames := 2, cells := 12, slots := 3486, locals := 42 } : Room) (va_Pc [.ref o, .ref oH, .ref oK] (fun U => U.heap.size = sz ∧ va_P (dC, dI) vwCl [(o, .inr (9, [.null, .null, .null, .null, .null, .null, .null, .null, .null, .null, .null, .int 0]))] U.heap ∧ va_K (dC, dI) vwCl [(cI, .int), (cS, .short)] U ∧ va_D (fun _ => True) [(o, .inr (9, [.null, .null, .null, .null, .null, .null, .null, .null, .null, .null, .null, .int 0]))])) (va_Qv (fun (_ : Unit) => True) (fun _ t => ∃ (n1 : Nat) (n2 : Nat) (n3 : Nat) (b1 : Nat) (b2 : Nat) (b3 : Nat) (f1 : Nat) (f2 : Nat) (f3 : Nat) (f4 : Nat) (f5 : Nat) (f6 : Nat), va_P (dC, dI) vwCl [(o, .inr (9, [.ref oH, .ref oK, .ref n1, .ref n2, .ref n3, .ref f1, .ref f2, .ref f3, .ref f4, .ref f5, .ref f6, .int 0])), (n1, .inr (5, [.ref b1, .int 0])), (b1, .inl (cI, 300, .inl (fun _ => 0))), (n2, .inr (5, [.ref b2, .int 0])), (b2, .inl (cI, 300, .inl (fun _ => 0))), (n3, .inr (5, [.ref b3, .int 0])), (b3, .inl (cI, 300, .inl (fun _ => 0))), (f1, .inl (cI, 258, .inl (fun _ => (-1)))), (f2, .inl (cI, 258, .inl (fun _ => 0))), (f3, .inl (cI, 774, .inl (fun _ => 0))), (f4, .inl (cI, 258, .inl (fun _ => 0))), (f5, .inl (cI, 258, .inl (fun _ => 0))), (f6, .inl (cI, 774, .inl (fun _ => 0)))] t.heap ∧ va_D (va_A [(o, .inr (9, [.null, .null, .null, .null, .null, .null, .null, .null, .null, .null, .null, .int 0]))] sz) [(o, .inr (9, [.ref oH, .ref oK, .ref n1, .ref n2, .ref n3, .ref f1, .ref f2, .ref f3, .ref f4, .ref f5, .ref f6, .int 0])), (n1, .inr (5, [.ref b1, .int 0])), (b1, .inl (cI, 300, .inl (fun _ => 0))), (n2, .inr (5, [.ref b2, .int 0])), (b2, .inl (cI, 300, .inl (fun _ => 0))), (n3, .inr (5, [.ref b3, .int 0])), (b3, .inl (cI, 300, .inl (fun _ => 0))), (f1, .inl (cI, 258, .inl (fun _ => (-1)))), (f2, .inl (cI, 258, .inl (fun _ => 0))), (f3, .inl (cI, 774, .inl (fun _ => 0))), (f4, .inl (cI, 258, .inl (fun _ => 0))), (f5, .inl (cI, 258, .inl (fun _ => 0))), (f6, .inl (cI, 774, .inl (fun _ => 0)))]) (va_A [(o, .inr (9, [.null, .null, .null, .null, .null, .null, .null, .null, .null, .null, .null, .int 0]))] sz)) 12 3486 (va_A [(o, .inr (9, [.null, .null, .null, .null, .null, .null, .null, .null, .null, .null, .null, .int 0]))] sz) := by
  refine Met.ofW (cc := cX9_init) (maxL := 3) (ret := none) (by decide) rfl ?_
  intro p e s m args below meth c s₁ B hml hv
  obtain ⟨rfl, hsz, hP, hK, hD0⟩ := hv
  have hx := B.exec
  have hb := B.bytes
  have hr := B.returns
  have hts := atoms_spec (ws := wsX9_init) B.pre
  have hown : s.vm.findClass RX9 = some m.cls := findClass_of_methodNamed B.named
  have hlocks := B.notSynchronized
  have hin : meth.name = "<init>" := (name_of_methodNamed B.named B.method).1
  have in_X5 : ∀ w ∈ wsX50, w ∈ wsX9_init := fun _ h => List.mem_cons_of_mem _ (List.mem_append_left _ (List.mem_append_right _ (h)))
  have in_X9 : ∀ w ∈ wsX90, w ∈ wsX9_init := fun _ h => List.mem_cons_of_mem _ (List.mem_append_right _ (h))
  subst hsz
  have hD := hD0.self (sz := s.heap.size)
  generalize hAe : va_A [(o, .inr (9, [.null, .null, .null, .null, .null, .null, .null, .null, .null, .null, .null, .int 0]))] s.heap.size = A at hD ⊢
  have hA : ∀ q : Nat, s.heap.size ≤ q → A q := fun q h => by rw [← hAe]; exact Or.inr h
  have hS : va_S A s.heap s.heap [] := va_S.rf
  have hP : va_P (dC, dI) vwCl [(o, .inr (9, [.null, .null, .null, .null, .null, .null, .null, .null, .null, .null, .null, .int 0]))] s.heap := hP
  have hl := lv_entry ([.ref o, .ref oH, .ref oK]) (n := 3) (Nat.le_of_ble_eq_true rfl)
  rw [lg_entry_eq]
  generalize (lg_sl ([.ref o, .ref oH, .ref oK]) ++ List.replicate (3 - (lg_sl ([.ref o, .ref oH, .ref oK])).length) Slot.unset).toArray = ls at hl ⊢
  have hl : lv_has ls 3 [(0, .ref o), (1, .ref oH), (2, .ref oK)] := hl
  refine lv_aload_n hx hb dX9_init_0 rfl (lv_at hl 0 rfl) ?_
  refine W.objInit hx hb hown (hts (.methodLink RX9 3 objectInit) (List.mem_of_getElem? (i := 1) rfl)) (hts (.instanceMethod objectInit) (List.mem_of_getElem? (i := 2) rfl)) (hts (.code objectInit ⟨#[0xb1]⟩ 1 none) (List.mem_of_getElem? (i := 3) rfl)) rfl (by rw [hml]; exact hl.1) rfl dX9_init_1 (Nat.le_of_ble_eq_true rfl) (Nat.le_of_ble_eq_true rfl) ?_
  refine W.eq (g2 := F0 m 4 ls []) rfl ?_
  refine lv_aload_n hx hb dX9_init_4 rfl (lv_at hl 0 rfl) ?_
  refine va_new (ci := 5) (fs := [.null, .int 0]) (C := RX5) (T := TX5) (N := 2) hx hb hts in_X5 tyX5 tyX5_ok hown (hts (.classLink RX9 9 RX5) (List.mem_of_getElem? (i := 4) rfl)) (hts (.instantiable RX5 2) (List.mem_of_getElem? (i := 5) rfl)) (hts (.initialized RX5) (List.mem_of_getElem? (i := 6) rfl)) hK hP hD hS hA rfl (p_fsX5) (Nat.le_of_ble_eq_true rfl) (Nat.le_of_ble_eq_true rfl) dX9_init_5 (fun q_1 H hPn hDn hSn => ?_)
  clear hP hD hS
  have hP : va_P (dC, dI) vwCl [(o, .inr (9, [.null, .null, .null, .null, .null, .null, .null, .null, .null, .null, .null, .int 0])), (q_1, .inr (5, [.null, .int 0]))] H := hPn
  have hD : va_D A [(o, .inr (9, [.null, .null, .null, .null, .null, .null, .null, .null, .null, .null, .null, .int 0])), (q_1, .inr (5, [.null, .int 0]))] := hDn
  have hS := hSn
  clear hPn hDn hSn
  refine W.widen (k := 1) (n := 2) (Nat.le_of_ble_eq_true rfl) (Nat.le_of_ble_eq_true rfl) ?_
  refine lv_dup hx hb dX9_init_8 rfl ?_
  refine lv_sipush (v := 300) hx hb dX9_init_9 (by decide) ?_
  have hPc := hP.sub (ws' := [(q_1, .inr (5, [.null, .int 0]))]) [1] rfl
  have hDc := hD.sub (ws' := [(q_1, .inr (5, [.null, .int 0]))]) [1] (by decide +kernel) rfl
  have hFc := va_free (wc := [(q_1, .inr (5, [.null, .int 0]))]) hD hS hA [1] rfl
  refine va_callv (va_runI (As := [.int 300]) (rest := [.ref q_1, .ref o]) ⟨hx, hb, hml, hown, hts⟩ (k_X5_init l dC dI cI cS H.size q_1 300 300 (by decide) (by decide) (by decide)) (cwI 1 hts gX9_init_X5_init rfl rfl rfl (hts (.initialized RX5) (List.mem_of_getElem? (i := 6) rfl)) (hts (.methodLink RX9 11 yX5_init) (List.mem_of_getElem? (i := 20) rfl)) (hts (.instanceMethod yX5_init) (List.mem_of_getElem? (i := 21) rfl)) rfl (by decide +kernel) ⟨Nat.le_of_ble_eq_true rfl, Nat.le_of_ble_eq_true rfl⟩) ⟨fun a U g mk q => by obtain ⟨q0, q1, qP, qK, qD⟩ := q; exact ⟨q0, q1, qP, va_K.moved (u := U) (U := U.calling g mk a) (Vm.Alike.refl U.vm) qK, qD⟩, fun U hU hW => ⟨rfl, by rw [hU], by rw [hU]; exact hPc, va_K.moved hW.alike hK, hDc.weaken (fun _ _ _ _ => trivial)⟩⟩ rfl rfl hl.1 rfl (lv_room (Nat.le_of_ble_eq_true rfl)) dX9_init_12 ⟨Nat.le_of_ble_eq_true rfl, Nat.le_of_ble_eq_true rfl⟩) hS (fun q _ h => hFc q h) hFc (fun u t H1 locs ht hvm hw hB hz1 hk1 hSn => ?_)
  obtain ⟨ar_2, hP1, hD1⟩ := hB
  rw [ht] at hP1
  obtain ⟨hPn, hDn⟩ := va_join (wr := [(o, .inr (9, [.null, .null, .null, .null, .null, .null, .null, .null, .null, .null, .null, .int 0]))]) (w1 := [(q_1, .inr (5, [.ref ar_2, .int 0])), (ar_2, .inl (cI, 300, .inl (fun _ => 0)))]) hP hD [1] [0] rfl rfl (by decide +kernel) (by decide +kernel) hk1 hFc hP1 hD1
  clear hP hD hS hPc hDc hFc hk1 hz1 hvm ht hP1 hD1
  generalize H1 = H at hPn hSn ⊢
  have hP : va_P (dC, dI) vwCl [(o, .inr (9, [.null, .null, .null, .null, .null, .null, .null, .null, .null, .null, .null, .int 0])), (q_1, .inr (5, [.ref ar_2, .int 0])), (ar_2, .inl (cI, 300, .inl (fun _ => 0)))] H := hPn
  have hD : va_D A [(o, .inr (9, [.null, .null, .null, .null, .null, .null, .null, .null, .null, .null, .null, .int 0])), (q_1, .inr (5, [.ref ar_2, .int 0])), (ar_2, .inl (cI, 300, .inl (fun _ => 0)))] := hDn
  have hS := hSn
  clear hPn hDn hSn
  refine W.widen (k := 2) (n := 302) (Nat.le_of_ble_eq_true rfl) (Nat.le_of_ble_eq_true rfl) ?_
  refine va_putF (D := (dC, dI)) (ci := 9) (v := .ref q_1) (ty := .object "TextMender$Numbers") (C := RX9) (T := TX9) (N := 12) hx hb hts in_X9 tyX9 tyX9_ok nmX9 hown hK hP hD hS 0 rfl rfl 2 (by decide) (hts (.fieldLink RX9 14 "TextMender$Rows" "one" "LTextMender$Numbers;") (List.mem_of_getElem? (i := 7) rfl)) (fun _ h9 => h9) rfl hin rfl (by decide +kernel) rfl rfl (Nat.le_of_ble_eq_true rfl) dX9_init_15 (fun H locs hPn hDn hSn => ?_)
  clear hP hD hS
  have hP : va_P (dC, dI) vwCl [(o, .inr (9, [.null, .null, .ref q_1, .null, .null, .null, .null, .null, .null, .null, .null, .int 0])), (q_1, .inr (5, [.ref ar_2, .int 0])), (ar_2, .inl (cI, 300, .inl (fun _ => 0)))] H := hPn
  have hD : va_D A [(o, .inr (9, [.null, .null, .ref q_1, .null, .null, .null, .null, .null, .null, .null, .null, .int 0])), (q_1, .inr (5, [.ref ar_2, .int 0])), (ar_2, .inl (cI, 300, .inl (fun _ => 0)))] := hDn
  have hS := hSn
  clear hPn hDn hSn
  refine lv_aload_n hx hb dX9_init_18 rfl (lv_at hl 0 rfl) ?_
  refine va_new (ci := 5) (fs := [.null, .int 0]) (C := RX5) (T := TX5) (N := 2) hx hb hts in_X5 tyX5 tyX5_ok hown (hts (.classLink RX9 9 RX5) (List.mem_of_getElem? (i := 4) rfl)) (hts (.instantiable RX5 2) (List.mem_of_getElem? (i := 5) rfl)) (hts (.initialized RX5) (List.mem_of_getElem? (i := 6) rfl)) hK hP hD hS hA rfl (p_fsX5) (Nat.le_of_ble_eq_true rfl) (Nat.le_of_ble_eq_true rfl) dX9_init_19 (fun q_3 H hPn hDn hSn => ?_)
  clear hP hD hS
  have hP : va_P (dC, dI) vwCl [(o, .inr (9, [.null, .null, .ref q_1, .null, .null, .null, .null, .null, .null, .null, .null, .int 0])), (q_1, .inr (5, [.ref ar_2, .int 0])), (ar_2, .inl (cI, 300, .inl (fun _ => 0))), (q_3, .inr (5, [.null, .int 0]))] H := hPn
  have hD : va_D A [(o, .inr (9, [.null, .null, .ref q_1, .null, .null, .null, .null, .null, .null, .null, .null, .int 0])), (q_1, .inr (5, [.ref ar_2, .int 0])), (ar_2, .inl (cI, 300, .inl (fun _ => 0))), (q_3, .inr (5, [.null, .int 0]))] := hDn
  have hS := hSn
  clear hPn hDn hSn
  refine W.widen (k := 3) (n := 304) (Nat.le_of_ble_eq_true rfl) (Nat.le_of_ble_eq_true rfl) ?_
  refine lv_dup hx hb dX9_init_22 rfl ?_
  refine lv_sipush (v := 300) hx hb dX9_init_23 (by decide) ?_
  have hPc := hP.sub (ws' := [(q_3, .inr (5, [.null, .int 0]))]) [3] rfl
  have hDc := hD.sub (ws' := [(q_3, .inr (5, [.null, .int 0]))]) [3] (by decide +kernel) rfl
  have hFc := va_free (wc := [(q_3, .inr (5, [.null, .int 0]))]) hD hS hA [3] rfl
  refine va_callv (va_runI (As := [.int 300]) (rest := [.ref q_3, .ref o]) ⟨hx, hb, hml, hown, hts⟩ (k_X5_init l dC dI cI cS H.size q_3 300 300 (by decide) (by decide) (by decide)) (cwI 1 hts gX9_init_X5_init rfl rfl rfl (hts (.initialized RX5) (List.mem_of_getElem? (i := 6) rfl)) (hts (.methodLink RX9 11 yX5_init) (List.mem_of_getElem? (i := 20) rfl)) (hts (.instanceMethod yX5_init) (List.mem_of_getElem? (i := 21) rfl)) rfl (by decide +kernel) ⟨Nat.le_of_ble_eq_true rfl, Nat.le_of_ble_eq_true rfl⟩) ⟨fun a U g mk q => by obtain ⟨q0, q1, qP, qK, qD⟩ := q; exact ⟨q0, q1, qP, va_K.moved (u := U) (U := U.calling g mk a) (Vm.Alike.refl U.vm) qK, qD⟩, fun U hU hW => ⟨rfl, by rw [hU], by rw [hU]; exact hPc, va_K.moved hW.alike hK, hDc.weaken (fun _ _ _ _ => trivial)⟩⟩ rfl rfl hl.1 rfl (lv_room (Nat.le_of_ble_eq_true rfl)) dX9_init_26 ⟨Nat.le_of_ble_eq_true rfl, Nat.le_of_ble_eq_true rfl⟩) hS (fun q _ h => hFc q h) hFc (fun u t H1 locs ht hvm hw hB hz1 hk1 hSn => ?_)
  obtain ⟨ar_4, hP1, hD1⟩ := hB
  rw [ht] at hP1
  obtain ⟨hPn, hDn⟩ := va_join (wr := [(o, .inr (9, [.null, .null, .ref q_1, .null, .null, .null, .null, .null, .null, .null, .null, .int 0])), (q_1, .inr (5, [.ref ar_2, .int 0])), (ar_2, .inl (cI, 300, .inl (fun _ => 0)))]) (w1 := [(q_3, .inr (5, [.ref ar_4, .int 0])), (ar_4, .inl (cI, 300, .inl (fun _ => 0)))]) hP hD [3] [0, 1, 2] rfl rfl (by decide +kernel) (by decide +kernel) hk1 hFc hP1 hD1
  clear hP hD hS hPc hDc hFc hk1 hz1 hvm ht hP1 hD1
  generalize H1 = H at hPn hSn ⊢
  have hP : va_P (dC, dI) vwCl [(o, .inr (9, [.null, .null, .ref q_1, .null, .null, .null, .null, .null, .null, .null, .null, .int 0])), (q_1, .inr (5, [.ref ar_2, .int 0])), (ar_2, .inl (cI, 300, .inl (fun _ => 0))), (q_3, .inr (5, [.ref ar_4, .int 0])), (ar_4, .inl (cI, 300, .inl (fun _ => 0)))] H := hPn
  have hD : va_D A [(o, .inr (9, [.null, .null, .ref q_1, .null, .null, .null, .null, .null, .null, .null, .null, .int 0])), (q_1, .inr (5, [.ref ar_2, .int 0])), (ar_2, .inl (cI, 300, .inl (fun _ => 0))), (q_3, .inr (5, [.ref ar_4, .int 0])), (ar_4, .inl (cI, 300, .inl (fun _ => 0)))] := hDn
  have hS := hSn
  clear hPn hDn hSn
  refine W.widen (k := 4) (n := 604) (Nat.le_of_ble_eq_true rfl) (Nat.le_of_ble_eq_true rfl) ?_
  refine va_putF (D := (dC, dI)) (ci := 9) (v := .ref q_3) (ty := .object "TextMender$Numbers") (C := RX9) (T := TX9) (N := 12) hx hb hts in_X9 tyX9 tyX9_ok nmX9 hown hK hP hD hS 0 rfl rfl 3 (by decide) (hts (.fieldLink RX9 20 "TextMender$Rows" "two" "LTextMender$Numbers;") (List.mem_of_getElem? (i := 8) rfl)) (fun _ h9 => h9) rfl hin rfl (by decide +kernel) rfl rfl (Nat.le_of_ble_eq_true rfl) dX9_init_29 (fun H locs hPn hDn hSn => ?_)
  clear hP hD hS
  have hP : va_P (dC, dI) vwCl [(o, .inr (9, [.null, .null, .ref q_1, .ref q_3, .null, .null, .null, .null, .null, .null, .null, .int 0])), (q_1, .inr (5, [.ref ar_2, .int 0])), (ar_2, .inl (cI, 300, .inl (fun _ => 0))), (q_3, .inr (5, [.ref ar_4, .int 0])), (ar_4, .inl (cI, 300, .inl (fun _ => 0)))] H := hPn
  have hD : va_D A [(o, .inr (9, [.null, .null, .ref q_1, .ref q_3, .null, .null, .null, .null, .null, .null, .null, .int 0])), (q_1, .inr (5, [.ref ar_2, .int 0])), (ar_2, .inl (cI, 300, .inl (fun _ => 0))), (q_3, .inr (5, [.ref ar_4, .int 0])), (ar_4, .inl (cI, 300, .inl (fun _ => 0)))] := hDn
  have hS := hSn
  clear hPn hDn hSn
  refine lv_aload_n hx hb dX9_init_32 rfl (lv_at hl 0 rfl) ?_
  refine va_new (ci := 5) (fs := [.null, .int 0]) (C := RX5) (T := TX5) (N := 2) hx hb hts in_X5 tyX5 tyX5_ok hown (hts (.classLink RX9 9 RX5) (List.mem_of_getElem? (i := 4) rfl)) (hts (.instantiable RX5 2) (List.mem_of_getElem? (i := 5) rfl)) (hts (.initialized RX5) (List.mem_of_getElem? (i := 6) rfl)) hK hP hD hS hA rfl (p_fsX5) (Nat.le_of_ble_eq_true rfl) (Nat.le_of_ble_eq_true rfl) dX9_init_33 (fun q_5 H hPn hDn hSn => ?_)
  clear hP hD hS
  have hP : va_P (dC, dI) vwCl [(o, .inr (9, [.null, .null, .ref q_1, .ref q_3, .null, .null, .null, .null, .null, .null, .null, .int 0])), (q_1, .inr (5, [.ref ar_2, .int 0])), (ar_2, .inl (cI, 300, .inl (fun _ => 0))), (q_3, .inr (5, [.ref ar_4, .int 0])), (ar_4, .inl (cI, 300, .inl (fun _ => 0))), (q_5, .inr (5, [.null, .int 0]))] H := hPn
  have hD : va_D A [(o, .inr (9, [.null, .null, .ref q_1, .ref q_3, .null, .null, .null, .null, .null, .null, .null, .int 0])), (q_1, .inr (5, [.ref ar_2, .int 0])), (ar_2, .inl (cI, 300, .inl (fun _ => 0))), (q_3, .inr (5, [.ref ar_4, .int 0])), (ar_4, .inl (cI, 300, .inl (fun _ => 0))), (q_5, .inr (5, [.null, .int 0]))] := hDn
  have hS := hSn
  clear hPn hDn hSn
  refine W.widen (k := 5) (n := 606) (Nat.le_of_ble_eq_true rfl) (Nat.le_of_ble_eq_true rfl) ?_
  refine lv_dup hx hb dX9_init_36 rfl ?_
  refine lv_sipush (v := 300) hx hb dX9_init_37 (by decide) ?_
  have hPc := hP.sub (ws' := [(q_5, .inr (5, [.null, .int 0]))]) [5] rfl
  have hDc := hD.sub (ws' := [(q_5, .inr (5, [.null, .int 0]))]) [5] (by decide +kernel) rfl
  have hFc := va_free (wc := [(q_5, .inr (5, [.null, .int 0]))]) hD hS hA [5] rfl
  refine va_callv (va_runI (As := [.int 300]) (rest := [.ref q_5, .ref o]) ⟨hx, hb, hml, hown, hts⟩ (k_X5_init l dC dI cI cS H.size q_5 300 300 (by decide) (by decide) (by decide)) (cwI 1 hts gX9_init_X5_init rfl rfl rfl (hts (.initialized RX5) (List.mem_of_getElem? (i := 6) rfl)) (hts (.methodLink RX9 11 yX5_init) (List.mem_of_getElem? (i := 20) rfl)) (hts (.instanceMethod yX5_init) (List.mem_of_getElem? (i := 21) rfl)) rfl (by decide +kernel) ⟨Nat.le_of_ble_eq_true rfl, Nat.le_of_ble_eq_true rfl⟩) ⟨fun a U g mk q => by obtain ⟨q0, q1, qP, qK, qD⟩ := q; exact ⟨q0, q1, qP, va_K.moved (u := U) (U := U.calling g mk a) (Vm.Alike.refl U.vm) qK, qD⟩, fun U hU hW => ⟨rfl, by rw [hU], by rw [hU]; exact hPc, va_K.moved hW.alike hK, hDc.weaken (fun _ _ _ _ => trivial)⟩⟩ rfl rfl hl.1 rfl (lv_room (Nat.le_of_ble_eq_true rfl)) dX9_init_40 ⟨Nat.le_of_ble_eq_true rfl, Nat.le_of_ble_eq_true rfl⟩) hS (fun q _ h => hFc q h) hFc (fun u t H1 locs ht hvm hw hB hz1 hk1 hSn => ?_)
  obtain ⟨ar_6, hP1, hD1⟩ := hB
  rw [ht] at hP1
  obtain ⟨hPn, hDn⟩ := va_join (wr := [(o, .inr (9, [.null, .null, .ref q_1, .ref q_3, .null, .null, .null, .null, .null, .null, .null, .int 0])), (q_1, .inr (5, [.ref ar_2, .int 0])), (ar_2, .inl (cI, 300, .inl (fun _ => 0))), (q_3, .inr (5, [.ref ar_4, .int 0])), (ar_4, .inl (cI, 300, .inl (fun _ => 0)))]) (w1 := [(q_5, .inr (5, [.ref ar_6, .int 0])), (ar_6, .inl (cI, 300, .inl (fun _ => 0)))]) hP hD [5] [0, 1, 2, 3, 4] rfl rfl (by decide +kernel) (by decide +kernel) hk1 hFc hP1 hD1
  clear hP hD hS hPc hDc hFc hk1 hz1 hvm ht hP1 hD1
  generalize H1 = H at hPn hSn ⊢
  have hP : va_P (dC, dI) vwCl [(o, .inr (9, [.null, .null, .ref q_1, .ref q_3, .null, .null, .null, .null, .null, .null, .null, .int 0])), (q_1, .inr (5, [.ref ar_2, .int 0])), (ar_2, .inl (cI, 300, .inl (fun _ => 0))), (q_3, .inr (5, [.ref ar_4, .int 0])), (ar_4, .inl (cI, 300, .inl (fun _ => 0))), (q_5, .inr (5, [.ref ar_6, .int 0])), (ar_6, .inl (cI, 300, .inl (fun _ => 0)))] H := hPn
  have hD : va_D A [(o, .inr (9, [.null, .null, .ref q_1, .ref q_3, .null, .null, .null, .null, .null, .null, .null, .int 0])), (q_1, .inr (5, [.ref ar_2, .int 0])), (ar_2, .inl (cI, 300, .inl (fun _ => 0))), (q_3, .inr (5, [.ref ar_4, .int 0])), (ar_4, .inl (cI, 300, .inl (fun _ => 0))), (q_5, .inr (5, [.ref ar_6, .int 0])), (ar_6, .inl (cI, 300, .inl (fun _ => 0)))] := hDn
  have hS := hSn
  clear hPn hDn hSn
  refine W.widen (k := 6) (n := 906) (Nat.le_of_ble_eq_true rfl) (Nat.le_of_ble_eq_true rfl) ?_
  refine va_putF (D := (dC, dI)) (ci := 9) (v := .ref q_5) (ty := .object "TextMender$Numbers") (C := RX9) (T := TX9) (N := 12) hx hb hts in_X9 tyX9 tyX9_ok nmX9 hown hK hP hD hS 0 rfl rfl 4 (by decide) (hts (.fieldLink RX9 23 "TextMender$Rows" "three" "LTextMender$Numbers;") (List.mem_of_getElem? (i := 9) rfl)) (fun _ h9 => h9) rfl hin rfl (by decide +kernel) rfl rfl (Nat.le_of_ble_eq_true rfl) dX9_init_43 (fun H locs hPn hDn hSn => ?_)
  clear hP hD hS
  have hP : va_P (dC, dI) vwCl [(o, .inr (9, [.null, .null, .ref q_1, .ref q_3, .ref q_5, .null, .null, .null, .null, .null, .null, .int 0])), (q_1, .inr (5, [.ref ar_2, .int 0])), (ar_2, .inl (cI, 300, .inl (fun _ => 0))), (q_3, .inr (5, [.ref ar_4, .int 0])), (ar_4, .inl (cI, 300, .inl (fun _ => 0))), (q_5, .inr (5, [.ref ar_6, .int 0])), (ar_6, .inl (cI, 300, .inl (fun _ => 0)))] H := hPn
  have hD : va_D A [(o, .inr (9, [.null, .null, .ref q_1, .ref q_3, .ref q_5, .null, .null, .null, .null, .null, .null, .int 0])), (q_1, .inr (5, [.ref ar_2, .int 0])), (ar_2, .inl (cI, 300, .inl (fun _ => 0))), (q_3, .inr (5, [.ref ar_4, .int 0])), (ar_4, .inl (cI, 300, .inl (fun _ => 0))), (q_5, .inr (5, [.ref ar_6, .int 0])), (ar_6, .inl (cI, 300, .inl (fun _ => 0)))] := hDn
  have hS := hSn
  clear hPn hDn hSn
  refine lv_aload_n hx hb dX9_init_46 rfl (lv_at hl 0 rfl) ?_
  refine lv_sipush (v := 258) hx hb dX9_init_47 (by decide) ?_
  refine p_newint hx hb (hts (.arrayClass .int) (List.mem_of_getElem? (i := 10) rfl)) hK hP hD hS hA (n := 258) (N := 258) (by decide) (by decide) (by decide) (Nat.le_of_ble_eq_true rfl) (Nat.le_of_ble_eq_true rfl) dX9_init_50 (fun q_7 H hPn hDn hSn => ?_)
  clear hP hD hS
  have hP : va_P (dC, dI) vwCl [(o, .inr (9, [.null, .null, .ref q_1, .ref q_3, .ref q_5, .null, .null, .null, .null, .null, .null, .int 0])), (q_1, .inr (5, [.ref ar_2, .int 0])), (ar_2, .inl (cI, 300, .inl (fun _ => 0))), (q_3, .inr (5, [.ref ar_4, .int 0])), (ar_4, .inl (cI, 300, .inl (fun _ => 0))), (q_5, .inr (5, [.ref ar_6, .int 0])), (ar_6, .inl (cI, 300, .inl (fun _ => 0))), (q_7, .inl (cI, 258, .inl (fun _ => 0)))] H := hPn
  have hD : va_D A [(o, .inr (9, [.null, .null, .ref q_1, .ref q_3, .ref q_5, .null, .null, .null, .null, .null, .null, .int 0])), (q_1, .inr (5, [.ref ar_2, .int 0])), (ar_2, .inl (cI, 300, .inl (fun _ => 0))), (q_3, .inr (5, [.ref ar_4, .int 0])), (ar_4, .inl (cI, 300, .inl (fun _ => 0))), (q_5, .inr (5, [.ref ar_6, .int 0])), (ar_6, .inl (cI, 300, .inl (fun _ => 0))), (q_7, .inl (cI, 258, .inl (fun _ => 0)))] := hDn
  have hS := hSn
  clear hPn hDn hSn
  refine W.widen (k := 7) (n := 1164) (Nat.le_of_ble_eq_true rfl) (Nat.le_of_ble_eq_true rfl) ?_
  refine va_putF (D := (dC, dI)) (ci := 9) (v := .ref q_7) (ty := .array .int) (C := RX9) (T := TX9) (N := 12) hx hb hts in_X9 tyX9 tyX9_ok nmX9 hown hK hP hD hS 0 rfl rfl 5 (by decide) (hts (.fieldLink RX9 26 "TextMender$Rows" "foundCost" "[I") (List.mem_of_getElem? (i := 11) rfl)) (fun _ h9 => h9) rfl hin rfl (by decide +kernel) rfl rfl (Nat.le_of_ble_eq_true rfl) dX9_init_52 (fun H locs hPn hDn hSn => ?_)
  clear hP hD hS
  have hP : va_P (dC, dI) vwCl [(o, .inr (9, [.null, .null, .ref q_1, .ref q_3, .ref q_5, .ref q_7, .null, .null, .null, .null, .null, .int 0])), (q_1, .inr (5, [.ref ar_2, .int 0])), (ar_2, .inl (cI, 300, .inl (fun _ => 0))), (q_3, .inr (5, [.ref ar_4, .int 0])), (ar_4, .inl (cI, 300, .inl (fun _ => 0))), (q_5, .inr (5, [.ref ar_6, .int 0])), (ar_6, .inl (cI, 300, .inl (fun _ => 0))), (q_7, .inl (cI, 258, .inl (fun _ => 0)))] H := hPn
  have hD : va_D A [(o, .inr (9, [.null, .null, .ref q_1, .ref q_3, .ref q_5, .ref q_7, .null, .null, .null, .null, .null, .int 0])), (q_1, .inr (5, [.ref ar_2, .int 0])), (ar_2, .inl (cI, 300, .inl (fun _ => 0))), (q_3, .inr (5, [.ref ar_4, .int 0])), (ar_4, .inl (cI, 300, .inl (fun _ => 0))), (q_5, .inr (5, [.ref ar_6, .int 0])), (ar_6, .inl (cI, 300, .inl (fun _ => 0))), (q_7, .inl (cI, 258, .inl (fun _ => 0)))] := hDn
  have hS := hSn
  clear hPn hDn hSn
  refine lv_aload_n hx hb dX9_init_55 rfl (lv_at hl 0 rfl) ?_
  refine lv_sipush (v := 258) hx hb dX9_init_56 (by decide) ?_
  refine p_newint hx hb (hts (.arrayClass .int) (List.mem_of_getElem? (i := 10) rfl)) hK hP hD hS hA (n := 258) (N := 258) (by decide) (by decide) (by decide) (Nat.le_of_ble_eq_true rfl) (Nat.le_of_ble_eq_true rfl) dX9_init_59 (fun q_8 H hPn hDn hSn => ?_)
  clear hP hD hS
  have hP : va_P (dC, dI) vwCl [(o, .inr (9, [.null, .null, .ref q_1, .ref q_3, .ref q_5, .ref q_7, .null, .null, .null, .null, .null, .int 0])), (q_1, .inr (5, [.ref ar_2, .int 0])), (ar_2, .inl (cI, 300, .inl (fun _ => 0))), (q_3, .inr (5, [.ref ar_4, .int 0])), (ar_4, .inl (cI, 300, .inl (fun _ => 0))), (q_5, .inr (5, [.ref ar_6, .int 0])), (ar_6, .inl (cI, 300, .inl (fun _ => 0))), (q_7, .inl (cI, 258, .inl (fun _ => 0))), (q_8, .inl (cI, 258, .inl (fun _ => 0)))] H := hPn
  have hD : va_D A [(o, .inr (9, [.null, .null, .ref q_1, .ref q_3, .ref q_5, .ref q_7, .null, .null, .null, .null, .null, .int 0])), (q_1, .inr (5, [.ref ar_2, .int 0])), (ar_2, .inl (cI, 300, .inl (fun _ => 0))), (q_3, .inr (5, [.ref ar_4, .int 0])), (ar_4, .inl (cI, 300, .inl (fun _ => 0))), (q_5, .inr (5, [.ref ar_6, .int 0])), (ar_6, .inl (cI, 300, .inl (fun _ => 0))), (q_7, .inl (cI, 258, .inl (fun _ => 0))), (q_8, .inl (cI, 258, .inl (fun _ => 0)))] := hDn
  have hS := hSn
  clear hPn hDn hSn
  refine W.widen (k := 8) (n := 1422) (Nat.le_of_ble_eq_true rfl) (Nat.le_of_ble_eq_true rfl) ?_
  refine va_putF (D := (dC, dI)) (ci := 9) (v := .ref q_8) (ty := .array .int) (C := RX9) (T := TX9) (N := 12) hx hb hts in_X9 tyX9 tyX9_ok nmX9 hown hK hP hD hS 0 rfl rfl 6 (by decide) (hts (.fieldLink RX9 30 "TextMender$Rows" "foundLength" "[I") (List.mem_of_getElem? (i := 12) rfl)) (fun _ h9 => h9) rfl hin rfl (by decide +kernel) rfl rfl (Nat.le_of_ble_eq_true rfl) dX9_init_61 (fun H locs hPn hDn hSn => ?_)
  clear hP hD hS
  have hP : va_P (dC, dI) vwCl [(o, .inr (9, [.null, .null, .ref q_1, .ref q_3, .ref q_5, .ref q_7, .ref q_8, .null, .null, .null, .null, .int 0])), (q_1, .inr (5, [.ref ar_2, .int 0])), (ar_2, .inl (cI, 300, .inl (fun _ => 0))), (q_3, .inr (5, [.ref ar_4, .int 0])), (ar_4, .inl (cI, 300, .inl (fun _ => 0))), (q_5, .inr (5, [.ref ar_6, .int 0])), (ar_6, .inl (cI, 300, .inl (fun _ => 0))), (q_7, .inl (cI, 258, .inl (fun _ => 0))), (q_8, .inl (cI, 258, .inl (fun _ => 0)))] H := hPn
  have hD : va_D A [(o, .inr (9, [.null, .null, .ref q_1, .ref q_3, .ref q_5, .ref q_7, .ref q_8, .null, .null, .null, .null, .int 0])), (q_1, .inr (5, [.ref ar_2, .int 0])), (ar_2, .inl (cI, 300, .inl (fun _ => 0))), (q_3, .inr (5, [.ref ar_4, .int 0])), (ar_4, .inl (cI, 300, .inl (fun _ => 0))), (q_5, .inr (5, [.ref ar_6, .int 0])), (ar_6, .inl (cI, 300, .inl (fun _ => 0))), (q_7, .inl (cI, 258, .inl (fun _ => 0))), (q_8, .inl (cI, 258, .inl (fun _ => 0)))] := hDn
  have hS := hSn
  clear hPn hDn hSn
  refine lv_aload_n hx hb dX9_init_64 rfl (lv_at hl 0 rfl) ?_
  refine lv_sipush (v := 774) hx hb dX9_init_65 (by decide) ?_
  refine p_newint hx hb (hts (.arrayClass .int) (List.mem_of_getElem? (i := 10) rfl)) hK hP hD hS hA (n := 774) (N := 774) (by decide) (by decide) (by decide) (Nat.le_of_ble_eq_true rfl) (Nat.le_of_ble_eq_true rfl) dX9_init_68 (fun q_9 H hPn hDn hSn => ?_)
  clear hP hD hS
  have hP : va_P (dC, dI) vwCl [(o, .inr (9, [.null, .null, .ref q_1, .ref q_3, .ref q_5, .ref q_7, .ref q_8, .null, .null, .null, .null, .int 0])), (q_1, .inr (5, [.ref ar_2, .int 0])), (ar_2, .inl (cI, 300, .inl (fun _ => 0))), (q_3, .inr (5, [.ref ar_4, .int 0])), (ar_4, .inl (cI, 300, .inl (fun _ => 0))), (q_5, .inr (5, [.ref ar_6, .int 0])), (ar_6, .inl (cI, 300, .inl (fun _ => 0))), (q_7, .inl (cI, 258, .inl (fun _ => 0))), (q_8, .inl (cI, 258, .inl (fun _ => 0))), (q_9, .inl (cI, 774, .inl (fun _ => 0)))] H := hPn
  have hD : va_D A [(o, .inr (9, [.null, .null, .ref q_1, .ref q_3, .ref q_5, .ref q_7, .ref q_8, .null, .null, .null, .null, .int 0])), (q_1, .inr (5, [.ref ar_2, .int 0])), (ar_2, .inl (cI, 300, .inl (fun _ => 0))), (q_3, .inr (5, [.ref ar_4, .int 0])), (ar_4, .inl (cI, 300, .inl (fun _ => 0))), (q_5, .inr (5, [.ref ar_6, .int 0])), (ar_6, .inl (cI, 300, .inl (fun _ => 0))), (q_7, .inl (cI, 258, .inl (fun _ => 0))), (q_8, .inl (cI, 258, .inl (fun _ => 0))), (q_9, .inl (cI, 774, .inl (fun _ => 0)))] := hDn
  have hS := hSn
  clear hPn hDn hSn
  refine W.widen (k := 9) (n := 2196) (Nat.le_of_ble_eq_true rfl) (Nat.le_of_ble_eq_true rfl) ?_
  refine va_putF (D := (dC, dI)) (ci := 9) (v := .ref q_9) (ty := .array .int) (C := RX9) (T := TX9) (N := 12) hx hb hts in_X9 tyX9 tyX9_ok nmX9 hown hK hP hD hS 0 rfl rfl 7 (by decide) (hts (.fieldLink RX9 33 "TextMender$Rows" "foundHarms" "[I") (List.mem_of_getElem? (i := 13) rfl)) (fun _ h9 => h9) rfl hin rfl (by decide +kernel) rfl rfl (Nat.le_of_ble_eq_true rfl) dX9_init_70 (fun H locs hPn hDn hSn => ?_)
  clear hP hD hS
  have hP : va_P (dC, dI) vwCl [(o, .inr (9, [.null, .null, .ref q_1, .ref q_3, .ref q_5, .ref q_7, .ref q_8, .ref q_9, .null, .null, .null, .int 0])), (q_1, .inr (5, [.ref ar_2, .int 0])), (ar_2, .inl (cI, 300, .inl (fun _ => 0))), (q_3, .inr (5, [.ref ar_4, .int 0])), (ar_4, .inl (cI, 300, .inl (fun _ => 0))), (q_5, .inr (5, [.ref ar_6, .int 0])), (ar_6, .inl (cI, 300, .inl (fun _ => 0))), (q_7, .inl (cI, 258, .inl (fun _ => 0))), (q_8, .inl (cI, 258, .inl (fun _ => 0))), (q_9, .inl (cI, 774, .inl (fun _ => 0)))] H := hPn
  have hD : va_D A [(o, .inr (9, [.null, .null, .ref q_1, .ref q_3, .ref q_5, .ref q_7, .ref q_8, .ref q_9, .null, .null, .null, .int 0])), (q_1, .inr (5, [.ref ar_2, .int 0])), (ar_2, .inl (cI, 300, .inl (fun _ => 0))), (q_3, .inr (5, [.ref ar_4, .int 0])), (ar_4, .inl (cI, 300, .inl (fun _ => 0))), (q_5, .inr (5, [.ref ar_6, .int 0])), (ar_6, .inl (cI, 300, .inl (fun _ => 0))), (q_7, .inl (cI, 258, .inl (fun _ => 0))), (q_8, .inl (cI, 258, .inl (fun _ => 0))), (q_9, .inl (cI, 774, .inl (fun _ => 0)))] := hDn
  have hS := hSn
  clear hPn hDn hSn
  refine lv_aload_n hx hb dX9_init_73 rfl (lv_at hl 0 rfl) ?_
  refine lv_sipush (v := 258) hx hb dX9_init_74 (by decide) ?_
  refine p_newint hx hb (hts (.arrayClass .int) (List.mem_of_getElem? (i := 10) rfl)) hK hP hD hS hA (n := 258) (N := 258) (by decide) (by decide) (by decide) (Nat.le_of_ble_eq_true rfl) (Nat.le_of_ble_eq_true rfl) dX9_init_77 (fun q_10 H hPn hDn hSn => ?_)
  clear hP hD hS
  have hP : va_P (dC, dI) vwCl [(o, .inr (9, [.null, .null, .ref q_1, .ref q_3, .ref q_5, .ref q_7, .ref q_8, .ref q_9, .null, .null, .null, .int 0])), (q_1, .inr (5, [.ref ar_2, .int 0])), (ar_2, .inl (cI, 300, .inl (fun _ => 0))), (q_3, .inr (5, [.ref ar_4, .int 0])), (ar_4, .inl (cI, 300, .inl (fun _ => 0))), (q_5, .inr (5, [.ref ar_6, .int 0])), (ar_6, .inl (cI, 300, .inl (fun _ => 0))), (q_7, .inl (cI, 258, .inl (fun _ => 0))), (q_8, .inl (cI, 258, .inl (fun _ => 0))), (q_9, .inl (cI, 774, .inl (fun _ => 0))), (q_10, .inl (cI, 258, .inl (fun _ => 0)))] H := hPn
  have hD : va_D A [(o, .inr (9, [.null, .null, .ref q_1, .ref q_3, .ref q_5, .ref q_7, .ref q_8, .ref q_9, .null, .null, .null, .int 0])), (q_1, .inr (5, [.ref ar_2, .int 0])), (ar_2, .inl (cI, 300, .inl (fun _ => 0))), (q_3, .inr (5, [.ref ar_4, .int 0])), (ar_4, .inl (cI, 300, .inl (fun _ => 0))), (q_5, .inr (5, [.ref ar_6, .int 0])), (ar_6, .inl (cI, 300, .inl (fun _ => 0))), (q_7, .inl (cI, 258, .inl (fun _ => 0))), (q_8, .inl (cI, 258, .inl (fun _ => 0))), (q_9, .inl (cI, 774, .inl (fun _ => 0))), (q_10, .inl (cI, 258, .inl (fun _ => 0)))] := hDn
  have hS := hSn
  clear hPn hDn hSn
  refine W.widen (k := 10) (n := 2454) (Nat.le_of_ble_eq_true rfl) (Nat.le_of_ble_eq_true rfl) ?_
  refine va_putF (D := (dC, dI)) (ci := 9) (v := .ref q_10) (ty := .array .int) (C := RX9) (T := TX9) (N := 12) hx hb hts in_X9 tyX9 tyX9_ok nmX9 hown hK hP hD hS 0 rfl rfl 8 (by decide) (hts (.fieldLink RX9 36 "TextMender$Rows" "toldCost" "[I") (List.mem_of_getElem? (i := 14) rfl)) (fun _ h9 => h9) rfl hin rfl (by decide +kernel) rfl rfl (Nat.le_of_ble_eq_true rfl) dX9_init_79 (fun H locs hPn hDn hSn => ?_)
  clear hP hD hS
  have hP : va_P (dC, dI) vwCl [(o, .inr (9, [.null, .null, .ref q_1, .ref q_3, .ref q_5, .ref q_7, .ref q_8, .ref q_9, .ref q_10, .null, .null, .int 0])), (q_1, .inr (5, [.ref ar_2, .int 0])), (ar_2, .inl (cI, 300, .inl (fun _ => 0))), (q_3, .inr (5, [.ref ar_4, .int 0])), (ar_4, .inl (cI, 300, .inl (fun _ => 0))), (q_5, .inr (5, [.ref ar_6, .int 0])), (ar_6, .inl (cI, 300, .inl (fun _ => 0))), (q_7, .inl (cI, 258, .inl (fun _ => 0))), (q_8, .inl (cI, 258, .inl (fun _ => 0))), (q_9, .inl (cI, 774, .inl (fun _ => 0))), (q_10, .inl (cI, 258, .inl (fun _ => 0)))] H := hPn
  have hD : va_D A [(o, .inr (9, [.null, .null, .ref q_1, .ref q_3, .ref q_5, .ref q_7, .ref q_8, .ref q_9, .ref q_10, .null, .null, .int 0])), (q_1, .inr (5, [.ref ar_2, .int 0])), (ar_2, .inl (cI, 300, .inl (fun _ => 0))), (q_3, .inr (5, [.ref ar_4, .int 0])), (ar_4, .inl (cI, 300, .inl (fun _ => 0))), (q_5, .inr (5, [.ref ar_6, .int 0])), (ar_6, .inl (cI, 300, .inl (fun _ => 0))), (q_7, .inl (cI, 258, .inl (fun _ => 0))), (q_8, .inl (cI, 258, .inl (fun _ => 0))), (q_9, .inl (cI, 774, .inl (fun _ => 0))), (q_10, .inl (cI, 258, .inl (fun _ => 0)))] := hDn
  have hS := hSn
  clear hPn hDn hSn
  refine lv_aload_n hx hb dX9_init_82 rfl (lv_at hl 0 rfl) ?_
  refine lv_sipush (v := 258) hx hb dX9_init_83 (by decide) ?_
  refine p_newint hx hb (hts (.arrayClass .int) (List.mem_of_getElem? (i := 10) rfl)) hK hP hD hS hA (n := 258) (N := 258) (by decide) (by decide) (by decide) (Nat.le_of_ble_eq_true rfl) (Nat.le_of_ble_eq_true rfl) dX9_init_86 (fun q_11 H hPn hDn hSn => ?_)
  clear hP hD hS
  have hP : va_P (dC, dI) vwCl [(o, .inr (9, [.null, .null, .ref q_1, .ref q_3, .ref q_5, .ref q_7, .ref q_8, .ref q_9, .ref q_10, .null, .null, .int 0])), (q_1, .inr (5, [.ref ar_2, .int 0])), (ar_2, .inl (cI, 300, .inl (fun _ => 0))), (q_3, .inr (5, [.ref ar_4, .int 0])), (ar_4, .inl (cI, 300, .inl (fun _ => 0))), (q_5, .inr (5, [.ref ar_6, .int 0])), (ar_6, .inl (cI, 300, .inl (fun _ => 0))), (q_7, .inl (cI, 258, .inl (fun _ => 0))), (q_8, .inl (cI, 258, .inl (fun _ => 0))), (q_9, .inl (cI, 774, .inl (fun _ => 0))), (q_10, .inl (cI, 258, .inl (fun _ => 0))), (q_11, .inl (cI, 258, .inl (fun _ => 0)))] H := hPn
  have hD : va_D A [(o, .inr (9, [.null, .null, .ref q_1, .ref q_3, .ref q_5, .ref q_7, .ref q_8, .ref q_9, .ref q_10, .null, .null, .int 0])), (q_1, .inr (5, [.ref ar_2, .int 0])), (ar_2, .inl (cI, 300, .inl (fun _ => 0))), (q_3, .inr (5, [.ref ar_4, .int 0])), (ar_4, .inl (cI, 300, .inl (fun _ => 0))), (q_5, .inr (5, [.ref ar_6, .int 0])), (ar_6, .inl (cI, 300, .inl (fun _ => 0))), (q_7, .inl (cI, 258, .inl (fun _ => 0))), (q_8, .inl (cI, 258, .inl (fun _ => 0))), (q_9, .inl (cI, 774, .inl (fun _ => 0))), (q_10, .inl (cI, 258, .inl (fun _ => 0))), (q_11, .inl (cI, 258, .inl (fun _ => 0)))] := hDn
  have hS := hSn
  clear hPn hDn hSn
  refine W.widen (k := 11) (n := 2712) (Nat.le_of_ble_eq_true rfl) (Nat.le_of_ble_eq_true rfl) ?_
  refine va_putF (D := (dC, dI)) (ci := 9) (v := .ref q_11) (ty := .array .int) (C := RX9) (T := TX9) (N := 12) hx hb hts in_X9 tyX9 tyX9_ok nmX9 hown hK hP hD hS 0 rfl rfl 9 (by decide) (hts (.fieldLink RX9 39 "TextMender$Rows" "toldLength" "[I") (List.mem_of_getElem? (i := 15) rfl)) (fun _ h9 => h9) rfl hin rfl (by decide +kernel) rfl rfl (Nat.le_of_ble_eq_true rfl) dX9_init_88 (fun H locs hPn hDn hSn => ?_)
  clear hP hD hS
  have hP : va_P (dC, dI) vwCl [(o, .inr (9, [.null, .null, .ref q_1, .ref q_3, .ref q_5, .ref q_7, .ref q_8, .ref q_9, .ref q_10, .ref q_11, .null, .int 0])), (q_1, .inr (5, [.ref ar_2, .int 0])), (ar_2, .inl (cI, 300, .inl (fun _ => 0))), (q_3, .inr (5, [.ref ar_4, .int 0])), (ar_4, .inl (cI, 300, .inl (fun _ => 0))), (q_5, .inr (5, [.ref ar_6, .int 0])), (ar_6, .inl (cI, 300, .inl (fun _ => 0))), (q_7, .inl (cI, 258, .inl (fun _ => 0))), (q_8, .inl (cI, 258, .inl (fun _ => 0))), (q_9, .inl (cI, 774, .inl (fun _ => 0))), (q_10, .inl (cI, 258, .inl (fun _ => 0))), (q_11, .inl (cI, 258, .inl (fun _ => 0)))] H := hPn
  have hD : va_D A [(o, .inr (9, [.null, .null, .ref q_1, .ref q_3, .ref q_5, .ref q_7, .ref q_8, .ref q_9, .ref q_10, .ref q_11, .null, .int 0])), (q_1, .inr (5, [.ref ar_2, .int 0])), (ar_2, .inl (cI, 300, .inl (fun _ => 0))), (q_3, .inr (5, [.ref ar_4, .int 0])), (ar_4, .inl (cI, 300, .inl (fun _ => 0))), (q_5, .inr (5, [.ref ar_6, .int 0])), (ar_6, .inl (cI, 300, .inl (fun _ => 0))), (q_7, .inl (cI, 258, .inl (fun _ => 0))), (q_8, .inl (cI, 258, .inl (fun _ => 0))), (q_9, .inl (cI, 774, .inl (fun _ => 0))), (q_10, .inl (cI, 258, .inl (fun _ => 0))), (q_11, .inl (cI, 258, .inl (fun _ => 0)))] := hDn
  have hS := hSn
  clear hPn hDn hSn
  refine lv_aload_n hx hb dX9_init_91 rfl (lv_at hl 0 rfl) ?_
  refine lv_sipush (v := 774) hx hb dX9_init_92 (by decide) ?_
  refine p_newint hx hb (hts (.arrayClass .int) (List.mem_of_getElem? (i := 10) rfl)) hK hP hD hS hA (n := 774) (N := 774) (by decide) (by decide) (by decide) (Nat.le_of_ble_eq_true rfl) (Nat.le_of_ble_eq_true rfl) dX9_init_95 (fun q_12 H hPn hDn hSn => ?_)
  clear hP hD hS
  have hP : va_P (dC, dI) vwCl [(o, .inr (9, [.null, .null, .ref q_1, .ref q_3, .ref q_5, .ref q_7, .ref q_8, .ref q_9, .ref q_10, .ref q_11, .null, .int 0])), (q_1, .inr (5, [.ref ar_2, .int 0])), (ar_2, .inl (cI, 300, .inl (fun _ => 0))), (q_3, .inr (5, [.ref ar_4, .int 0])), (ar_4, .inl (cI, 300, .inl (fun _ => 0))), (q_5, .inr (5, [.ref ar_6, .int 0])), (ar_6, .inl (cI, 300, .inl (fun _ => 0))), (q_7, .inl (cI, 258, .inl (fun _ => 0))), (q_8, .inl (cI, 258, .inl (fun _ => 0))), (q_9, .inl (cI, 774, .inl (fun _ => 0))), (q_10, .inl (cI, 258, .inl (fun _ => 0))), (q_11, .inl (cI, 258, .inl (fun _ => 0))), (q_12, .inl (cI, 774, .inl (fun _ => 0)))] H := hPn
  have hD : va_D A [(o, .inr (9, [.null, .null, .ref q_1, .ref q_3, .ref q_5, .ref q_7, .ref q_8, .ref q_9, .ref q_10, .ref q_11, .null, .int 0])), (q_1, .inr (5, [.ref ar_2, .int 0])), (ar_2, .inl (cI, 300, .inl (fun _ => 0))), (q_3, .inr (5, [.ref ar_4, .int 0])), (ar_4, .inl (cI, 300, .inl (fun _ => 0))), (q_5, .inr (5, [.ref ar_6, .int 0])), (ar_6, .inl (cI, 300, .inl (fun _ => 0))), (q_7, .inl (cI, 258, .inl (fun _ => 0))), (q_8, .inl (cI, 258, .inl (fun _ => 0))), (q_9, .inl (cI, 774, .inl (fun _ => 0))), (q_10, .inl (cI, 258, .inl (fun _ => 0))), (q_11, .inl (cI, 258, .inl (fun _ => 0))), (q_12, .inl (cI, 774, .inl (fun _ => 0)))] := hDn
  have hS := hSn
  clear hPn hDn hSn
  refine W.widen (k := 12) (n := 3486) (Nat.le_of_ble_eq_true rfl) (Nat.le_of_ble_eq_true rfl) ?_
  refine va_putF (D := (dC, dI)) (ci := 9) (v := .ref q_12) (ty := .array .int) (C := RX9) (T := TX9) (N := 12) hx hb hts in_X9 tyX9 tyX9_ok nmX9 hown hK hP hD hS 0 rfl rfl 10 (by decide) (hts (.fieldLink RX9 42 "TextMender$Rows" "toldHarms" "[I") (List.mem_of_getElem? (i := 16) rfl)) (fun _ h9 => h9) rfl hin rfl (by decide +kernel) rfl rfl (Nat.le_of_ble_eq_true rfl) dX9_init_97 (fun H locs hPn hDn hSn => ?_)
  clear hP hD hS
  have hP : va_P (dC, dI) vwCl [(o, .inr (9, [.null, .null, .ref q_1, .ref q_3, .ref q_5, .ref q_7, .ref q_8, .ref q_9, .ref q_10, .ref q_11, .ref q_12, .int 0])), (q_1, .inr (5, [.ref ar_2, .int 0])), (ar_2, .inl (cI, 300, .inl (fun _ => 0))), (q_3, .inr (5, [.ref ar_4, .int 0])), (ar_4, .inl (cI, 300, .inl (fun _ => 0))), (q_5, .inr (5, [.ref ar_6, .int 0])), (ar_6, .inl (cI, 300, .inl (fun _ => 0))), (q_7, .inl (cI, 258, .inl (fun _ => 0))), (q_8, .inl (cI, 258, .inl (fun _ => 0))), (q_9, .inl (cI, 774, .inl (fun _ => 0))), (q_10, .inl (cI, 258, .inl (fun _ => 0))), (q_11, .inl (cI, 258, .inl (fun _ => 0))), (q_12, .inl (cI, 774, .inl (fun _ => 0)))] H := hPn
  have hD : va_D A [(o, .inr (9, [.null, .null, .ref q_1, .ref q_3, .ref q_5, .ref q_7, .ref q_8, .ref q_9, .ref q_10, .ref q_11, .ref q_12, .int 0])), (q_1, .inr (5, [.ref ar_2, .int 0])), (ar_2, .inl (cI, 300, .inl (fun _ => 0))), (q_3, .inr (5, [.ref ar_4, .int 0])), (ar_4, .inl (cI, 300, .inl (fun _ => 0))), (q_5, .inr (5, [.ref ar_6, .int 0])), (ar_6, .inl (cI, 300, .inl (fun _ => 0))), (q_7, .inl (cI, 258, .inl (fun _ => 0))), (q_8, .inl (cI, 258, .inl (fun _ => 0))), (q_9, .inl (cI, 774, .inl (fun _ => 0))), (q_10, .inl (cI, 258, .inl (fun _ => 0))), (q_11, .inl (cI, 258, .inl (fun _ => 0))), (q_12, .inl (cI, 774, .inl (fun _ => 0)))] := hDn
  have hS := hSn
  clear hPn hDn hSn
  refine lv_aload_n hx hb dX9_init_100 rfl (lv_at hl 0 rfl) ?_
  refine lv_aload_n hx hb dX9_init_101 rfl (lv_at hl 1 rfl) ?_
  refine va_putF (D := (dC, dI)) (ci := 9) (v := .ref oH) (ty := .object "TextMender$Harms") (C := RX9) (T := TX9) (N := 12) hx hb hts in_X9 tyX9 tyX9_ok nmX9 hown hK hP hD hS 0 rfl rfl 0 (by decide) (hts (.fieldLink RX9 45 "TextMender$Rows" "harms" "LTextMender$Harms;") (List.mem_of_getElem? (i := 17) rfl)) (fun _ h9 => h9) rfl hin rfl (by decide +kernel) rfl rfl (Nat.le_of_ble_eq_true rfl) dX9_init_102 (fun H locs hPn hDn hSn => ?_)
  clear hP hD hS
  have hP : va_P (dC, dI) vwCl [(o, .inr (9, [.ref oH, .null, .ref q_1, .ref q_3, .ref q_5, .ref q_7, .ref q_8, .ref q_9, .ref q_10, .ref q_11, .ref q_12, .int 0])), (q_1, .inr (5, [.ref ar_2, .int 0])), (ar_2, .inl (cI, 300, .inl (fun _ => 0))), (q_3, .inr (5, [.ref ar_4, .int 0])), (ar_4, .inl (cI, 300, .inl (fun _ => 0))), (q_5, .inr (5, [.ref ar_6, .int 0])), (ar_6, .inl (cI, 300, .inl (fun _ => 0))), (q_7, .inl (cI, 258, .inl (fun _ => 0))), (q_8, .inl (cI, 258, .inl (fun _ => 0))), (q_9, .inl (cI, 774, .inl (fun _ => 0))), (q_10, .inl (cI, 258, .inl (fun _ => 0))), (q_11, .inl (cI, 258, .inl (fun _ => 0))), (q_12, .inl (cI, 774, .inl (fun _ => 0)))] H := hPn
  have hD : va_D A [(o, .inr (9, [.ref oH, .null, .ref q_1, .ref q_3, .ref q_5, .ref q_7, .ref q_8, .ref q_9, .ref q_10, .ref q_11, .ref q_12, .int 0])), (q_1, .inr (5, [.ref ar_2, .int 0])), (ar_2, .inl (cI, 300, .inl (fun _ => 0))), (q_3, .inr (5, [.ref ar_4, .int 0])), (ar_4, .inl (cI, 300, .inl (fun _ => 0))), (q_5, .inr (5, [.ref ar_6, .int 0])), (ar_6, .inl (cI, 300, .inl (fun _ => 0))), (q_7, .inl (cI, 258, .inl (fun _ => 0))), (q_8, .inl (cI, 258, .inl (fun _ => 0))), (q_9, .inl (cI, 774, .inl (fun _ => 0))), (q_10, .inl (cI, 258, .inl (fun _ => 0))), (q_11, .inl (cI, 258, .inl (fun _ => 0))), (q_12, .inl (cI, 774, .inl (fun _ => 0)))] := hDn
  have hS := hSn
  clear hPn hDn hSn
  refine lv_aload_n hx hb dX9_init_105 rfl (lv_at hl 0 rfl) ?_
  refine lv_aload_n hx hb dX9_init_106 rfl (lv_at hl 2 rfl) ?_
  refine va_putF (D := (dC, dI)) (ci := 9) (v := .ref oK) (ty := .object "TextMender$Costs") (C := RX9) (T := TX9) (N := 12) hx hb hts in_X9 tyX9 tyX9_ok nmX9 hown hK hP hD hS 0 rfl rfl 1 (by decide) (hts (.fieldLink RX9 49 "TextMender$Rows" "costs" "LTextMender$Costs;") (List.mem_of_getElem? (i := 18) rfl)) (fun _ h9 => h9) rfl hin rfl (by decide +kernel) rfl rfl (Nat.le_of_ble_eq_true rfl) dX9_init_107 (fun H locs hPn hDn hSn => ?_)
  clear hP hD hS
  have hP : va_P (dC, dI) vwCl [(o, .inr (9, [.ref oH, .ref oK, .ref q_1, .ref q_3, .ref q_5, .ref q_7, .ref q_8, .ref q_9, .ref q_10, .ref q_11, .ref q_12, .int 0])), (q_1, .inr (5, [.ref ar_2, .int 0])), (ar_2, .inl (cI, 300, .inl (fun _ => 0))), (q_3, .inr (5, [.ref ar_4, .int 0])), (ar_4, .inl (cI, 300, .inl (fun _ => 0))), (q_5, .inr (5, [.ref ar_6, .int 0])), (ar_6, .inl (cI, 300, .inl (fun _ => 0))), (q_7, .inl (cI, 258, .inl (fun _ => 0))), (q_8, .inl (cI, 258, .inl (fun _ => 0))), (q_9, .inl (cI, 774, .inl (fun _ => 0))), (q_10, .inl (cI, 258, .inl (fun _ => 0))), (q_11, .inl (cI, 258, .inl (fun _ => 0))), (q_12, .inl (cI, 774, .inl (fun _ => 0)))] H := hPn
  have hD : va_D A [(o, .inr (9, [.ref oH, .ref oK, .ref q_1, .ref q_3, .ref q_5, .ref q_7, .ref q_8, .ref q_9, .ref q_10, .ref q_11, .ref q_12, .int 0])), (q_1, .inr (5, [.ref ar_2, .int 0])), (ar_2, .inl (cI, 300, .inl (fun _ => 0))), (q_3, .inr (5, [.ref ar_4, .int 0])), (ar_4, .inl (cI, 300, .inl (fun _ => 0))), (q_5, .inr (5, [.ref ar_6, .int 0])), (ar_6, .inl (cI, 300, .inl (fun _ => 0))), (q_7, .inl (cI, 258, .inl (fun _ => 0))), (q_8, .inl (cI, 258, .inl (fun _ => 0))), (q_9, .inl (cI, 774, .inl (fun _ => 0))), (q_10, .inl (cI, 258, .inl (fun _ => 0))), (q_11, .inl (cI, 258, .inl (fun _ => 0))), (q_12, .inl (cI, 774, .inl (fun _ => 0)))] := hDn
  have hS := hSn
  clear hPn hDn hSn
  refine lv_aload_n hx hb dX9_init_110 rfl (lv_at hl 0 rfl) ?_
  refine va_get (D := (dC, dI)) (ci := 9) (v := .ref q_7) (C := RX9) (T := TX9) (N := 12) hx hb hts in_X9 hown hK hP 0 rfl rfl 5 (by decide) (hts (.fieldLink RX9 26 "TextMender$Rows" "foundCost" "[I") (List.mem_of_getElem? (i := 11) rfl)) (fun _ h9 => h9) rfl dX9_init_111 ?_
  refine lv_iconst (v := (-1)) hx hb dX9_init_114 (by decide) ?_
  have hPc := hP.sub (ws' := [(q_7, .inl (cI, 258, .inl (fun _ => 0)))]) [7] rfl
  have hDc := hD.sub (ws' := [(q_7, .inl (cI, 258, .inl (fun _ => 0)))]) [7] (by decide +kernel) rfl
  have hFc := va_free (wc := [(q_7, .inl (cI, 258, .inl (fun _ => 0)))]) hD hS hA [7] rfl
  refine va_callv (va_runS (As := [.ref q_7, .int (-1)]) (rest := []) ⟨hx, hb, hml, hown, hts⟩ (k_J7_fill_53178 l dC dI cI cS H.size q_7 258 (-1) (fun _ => 0) (by decide)) (va_cwS 2 hts gX9_init_J7_fill_53178 rfl rfl rfl (by decide +kernel) ⟨Nat.le_of_ble_eq_true rfl, Nat.le_of_ble_eq_true rfl⟩) ⟨fun a U g mk q => by obtain ⟨q0, q1, qP, qK, qD⟩ := q; exact ⟨q0, q1, qP, va_K.moved (u := U) (U := U.calling g mk a) (Vm.Alike.refl U.vm) qK, qD⟩, fun U hU hW => ⟨rfl, by rw [hU], by rw [hU]; exact hPc, va_K.moved hW.alike hK, hDc.weaken (fun _ _ _ _ => trivial)⟩⟩ rfl rfl hl.1 rfl (lv_room (Nat.le_of_ble_eq_true rfl)) dX9_init_115 ⟨Nat.le_of_ble_eq_true rfl, Nat.le_of_ble_eq_true rfl⟩) hS (fun q _ h => hFc q h) hFc (fun u t H1 locs ht hvm hw hB hz1 hk1 hSn => ?_)
  obtain ⟨hP1, hD1⟩ := hB
  rw [ht] at hP1
  obtain ⟨hPn, hDn⟩ := va_join (wr := [(o, .inr (9, [.ref oH, .ref oK, .ref q_1, .ref q_3, .ref q_5, .ref q_7, .ref q_8, .ref q_9, .ref q_10, .ref q_11, .ref q_12, .int 0])), (q_1, .inr (5, [.ref ar_2, .int 0])), (ar_2, .inl (cI, 300, .inl (fun _ => 0))), (q_3, .inr (5, [.ref ar_4, .int 0])), (ar_4, .inl (cI, 300, .inl (fun _ => 0))), (q_5, .inr (5, [.ref ar_6, .int 0])), (ar_6, .inl (cI, 300, .inl (fun _ => 0))), (q_8, .inl (cI, 258, .inl (fun _ => 0))), (q_9, .inl (cI, 774, .inl (fun _ => 0))), (q_10, .inl (cI, 258, .inl (fun _ => 0))), (q_11, .inl (cI, 258, .inl (fun _ => 0))), (q_12, .inl (cI, 774, .inl (fun _ => 0)))]) (w1 := [(q_7, .inl (cI, 258, .inl (fun _ => (-1))))]) hP hD [7] [0, 1, 2, 3, 4, 5, 6, 8, 9, 10, 11, 12] rfl rfl (by decide +kernel) (by decide +kernel) hk1 hFc hP1 hD1
  clear hP hD hS hPc hDc hFc hk1 hz1 hvm ht hP1 hD1
  generalize H1 = H at hPn hSn ⊢
  have hP : va_P (dC, dI) vwCl [(o, .inr (9, [.ref oH, .ref oK, .ref q_1, .ref q_3, .ref q_5, .ref q_7, .ref q_8, .ref q_9, .ref q_10, .ref q_11, .ref q_12, .int 0])), (q_1, .inr (5, [.ref ar_2, .int 0])), (ar_2, .inl (cI, 300, .inl (fun _ => 0))), (q_3, .inr (5, [.ref ar_4, .int 0])), (ar_4, .inl (cI, 300, .inl (fun _ => 0))), (q_5, .inr (5, [.ref ar_6, .int 0])), (ar_6, .inl (cI, 300, .inl (fun _ => 0))), (q_8, .inl (cI, 258, .inl (fun _ => 0))), (q_9, .inl (cI, 774, .inl (fun _ => 0))), (q_10, .inl (cI, 258, .inl (fun _ => 0))), (q_11, .inl (cI, 258, .inl (fun _ => 0))), (q_12, .inl (cI, 774, .inl (fun _ => 0))), (q_7, .inl (cI, 258, .inl (fun _ => (-1))))] H := hPn
  have hD : va_D A [(o, .inr (9, [.ref oH, .ref oK, .ref q_1, .ref q_3, .ref q_5, .ref q_7, .ref q_8, .ref q_9, .ref q_10, .ref q_11, .ref q_12, .int 0])), (q_1, .inr (5, [.ref ar_2, .int 0])), (ar_2, .inl (cI, 300, .inl (fun _ => 0))), (q_3, .inr (5, [.ref ar_4, .int 0])), (ar_4, .inl (cI, 300, .inl (fun _ => 0))), (q_5, .inr (5, [.ref ar_6, .int 0])), (ar_6, .inl (cI, 300, .inl (fun _ => 0))), (q_8, .inl (cI, 258, .inl (fun _ => 0))), (q_9, .inl (cI, 774, .inl (fun _ => 0))), (q_10, .inl (cI, 258, .inl (fun _ => 0))), (q_11, .inl (cI, 258, .inl (fun _ => 0))), (q_12, .inl (cI, 774, .inl (fun _ => 0))), (q_7, .inl (cI, 258, .inl (fun _ => (-1))))] := hDn
  have hS := hSn
  clear hPn hDn hSn
  refine lv_aload_n hx hb dX9_init_118 rfl (lv_at hl 0 rfl) ?_
  refine lv_iconst (v := 0) hx hb dX9_init_119 (by decide) ?_
  refine va_put (D := (dC, dI)) (ci := 9) (v := .int 0) (ty := .int) (C := RX9) (T := TX9) (N := 12) hx hb hts in_X9 tyX9 tyX9_ok nmX9 hown hK hP hD hS 0 rfl rfl 11 (by decide) (hts (.fieldLink RX9 59 "TextMender$Rows" "told" "I") (List.mem_of_getElem? (i := 19) rfl)) (fun _ h9 => h9) rfl (by decide +kernel) rfl rfl (Nat.le_of_ble_eq_true rfl) dX9_init_120 (fun H locs hPn hDn hSn => ?_)
  clear hP hD hS
  have hP : va_P (dC, dI) vwCl [(o, .inr (9, [.ref oH, .ref oK, .ref q_1, .ref q_3, .ref q_5, .ref q_7, .ref q_8, .ref q_9, .ref q_10, .ref q_11, .ref q_12, .int 0])), (q_1, .inr (5, [.ref ar_2, .int 0])), (ar_2, .inl (cI, 300, .inl (fun _ => 0))), (q_3, .inr (5, [.ref ar_4, .int 0])), (ar_4, .inl (cI, 300, .inl (fun _ => 0))), (q_5, .inr (5, [.ref ar_6, .int 0])), (ar_6, .inl (cI, 300, .inl (fun _ => 0))), (q_8, .inl (cI, 258, .inl (fun _ => 0))), (q_9, .inl (cI, 774, .inl (fun _ => 0))), (q_10, .inl (cI, 258, .inl (fun _ => 0))), (q_11, .inl (cI, 258, .inl (fun _ => 0))), (q_12, .inl (cI, 774, .inl (fun _ => 0))), (q_7, .inl (cI, 258, .inl (fun _ => (-1))))] H := hPn
  have hD : va_D A [(o, .inr (9, [.ref oH, .ref oK, .ref q_1, .ref q_3, .ref q_5, .ref q_7, .ref q_8, .ref q_9, .ref q_10, .ref q_11, .ref q_12, .int 0])), (q_1, .inr (5, [.ref ar_2, .int 0])), (ar_2, .inl (cI, 300, .inl (fun _ => 0))), (q_3, .inr (5, [.ref ar_4, .int 0])), (ar_4, .inl (cI, 300, .inl (fun _ => 0))), (q_5, .inr (5, [.ref ar_6, .int 0])), (ar_6, .inl (cI, 300, .inl (fun _ => 0))), (q_8, .inl (cI, 258, .inl (fun _ => 0))), (q_9, .inl (cI, 774, .inl (fun _ => 0))), (q_10, .inl (cI, 258, .inl (fun _ => 0))), (q_11, .inl (cI, 258, .inl (fun _ => 0))), (q_12, .inl (cI, 774, .inl (fun _ => 0))), (q_7, .inl (cI, 258, .inl (fun _ => (-1))))] := hDn
  have hS := hSn
  clear hPn hDn hSn
  have hP9 := hP.sub (ws' := [(o, .inr (9, [.ref oH, .ref oK, .ref q_1, .ref q_3, .ref q_5, .ref q_7, .ref q_8, .ref q_9, .ref q_10, .ref q_11, .ref q_12, .int 0])), (q_1, .inr (5, [.ref ar_2, .int 0])), (ar_2, .inl (cI, 300, .inl (fun _ => 0))), (q_3, .inr (5, [.ref ar_4, .int 0])), (ar_4, .inl (cI, 300, .inl (fun _ => 0))), (q_5, .inr (5, [.ref ar_6, .int 0])), (ar_6, .inl (cI, 300, .inl (fun _ => 0))), (q_7, .inl (cI, 258, .inl (fun _ => (-1)))), (q_8, .inl (cI, 258, .inl (fun _ => 0))), (q_9, .inl (cI, 774, .inl (fun _ => 0))), (q_10, .inl (cI, 258, .inl (fun _ => 0))), (q_11, .inl (cI, 258, .inl (fun _ => 0))), (q_12, .inl (cI, 774, .inl (fun _ => 0)))]) [0, 1, 2, 3, 4, 5, 6, 12, 7, 8, 9, 10, 11] rfl
  have hD9 := hD.sub (ws' := [(o, .inr (9, [.ref oH, .ref oK, .ref q_1, .ref q_3, .ref q_5, .ref q_7, .ref q_8, .ref q_9, .ref q_10, .ref q_11, .ref q_12, .int 0])), (q_1, .inr (5, [.ref ar_2, .int 0])), (ar_2, .inl (cI, 300, .inl (fun _ => 0))), (q_3, .inr (5, [.ref ar_4, .int 0])), (ar_4, .inl (cI, 300, .inl (fun _ => 0))), (q_5, .inr (5, [.ref ar_6, .int 0])), (ar_6, .inl (cI, 300, .inl (fun _ => 0))), (q_7, .inl (cI, 258, .inl (fun _ => (-1)))), (q_8, .inl (cI, 258, .inl (fun _ => 0))), (q_9, .inl (cI, 774, .inl (fun _ => 0))), (q_10, .inl (cI, 258, .inl (fun _ => 0))), (q_11, .inl (cI, 258, .inl (fun _ => 0))), (q_12, .inl (cI, 774, .inl (fun _ => 0)))]) [0, 1, 2, 3, 4, 5, 6, 12, 7, 8, 9, 10, 11] (by decide +kernel) rfl
  refine W.widen (k := 12) (n := 3486) (by omega) (by omega) ?_
  exact W.vret hx hb hr (fun t ht hW => ⟨⟨(), rfl, trivial, q_1, q_3, q_5, ar_2, ar_4, ar_6, q_7, q_8, q_9, q_10, q_11, q_12, by rw [ht]; exact hP9, hD9⟩, hS.F ht⟩) (hS.2.2) dX9_init_123

set_option maxHeartbeats 4000000 in
set_option maxRecDepth 100000 in
theorem k_X8_init (l : Launch) (dC : Nat → ClassId) (dI : Nat → Nat → Nat) (cI cS : ClassId) (sz : Nat) (o : Nat) (oC : Nat) (oK : Nat)  : Met l yX8_init wsX8_init ({ frames := 1, cells := 0, slots := 0, locals := 20 } : Room) (va_Pc [.ref o, .ref oC, .ref oK] (fun U => U.heap.size = sz ∧ va_P (dC, dI) vwCl [(o, .inr (8, [.null, .null, .int 0, .int 0, .int 0, .int 0]))] U.heap ∧ va_K (dC, dI) vwCl [(cI, .int), (cS, .short)] U ∧ va_D (fun _ => True) [(o, .inr (8, [.null, .null, .int 0, .int 0, .int 0, .int 0]))])) (va_Qv (fun (_ : Unit) => True) (fun _ t => va_P (dC, dI) vwCl [(o, .inr (8, [.ref oC, .ref oK, .int 0, .int 32, .int 0, .int 0]))] t.heap ∧ va_D (va_A [(o, .inr (8, [.null, .null, .int 0, .int 0, .int 0, .int 0]))] sz) [(o, .inr (8, [.ref oC, .ref oK, .int 0, .int 32, .int 0, .int 0]))]) (va_A [(o, .inr (8, [.null, .null, .int 0, .int 0, .int 0, .int 0]))] sz)) 0 0 (va_A [(o, .inr (8, [.null, .null, .int 0, .int 0, .int 0, .int 0]))] sz) := by
  refine Met.ofW (cc := cX8_init) (maxL := 3) (ret := none) (by decide) rfl ?_
  intro p e s m args below meth c s₁ B hml hv
  obtain ⟨rfl, hsz, hP, hK, hD0⟩ := hv
  have hx := B.exec
  have hb := B.bytes
  have hr := B.returns
  have hts := atoms_spec (ws := wsX8_init) B.pre
  have hown : s.vm.findClass RX8 = some m.cls := findClass_of_methodNamed B.named
  have hlocks := B.notSynchronized
  have hin : meth.name = "<init>" := (name_of_methodNamed B.named B.method).1
  have in_X8 : ∀ w ∈ wsX80, w ∈ wsX8_init := fun _ h => List.mem_cons_of_mem _ (List.mem_append_right _ (h))
  subst hsz
  have hD := hD0.self (sz := s.heap.size)
  generalize hAe : va_A [(o, .inr (8, [.null, .null, .int 0, .int 0, .int 0, .int 0]))] s.heap.size = A at hD ⊢
  have hA : ∀ q : Nat, s.heap.size ≤ q → A q := fun q h => by rw [← hAe]; exact Or.inr h
  have hS : va_S A s.heap s.heap [] := va_S.rf
  have hP : va_P (dC, dI) vwCl [(o, .inr (8, [.null, .null, .int 0, .int 0, .int 0, .int 0]))] s.heap := hP
  have hl := lv_entry ([.ref o, .ref oC, .ref oK]) (n := 3) (Nat.le_of_ble_eq_true rfl)
  rw [lg_entry_eq]
  generalize (lg_sl ([.ref o, .ref oC, .ref oK]) ++ List.replicate (3 - (lg_sl ([.ref o, .ref oC, .ref oK])).length) Slot.unset).toArray = ls at hl ⊢
  have hl : lv_has ls 3 [(0, .ref o), (1, .ref oC), (2, .ref oK)] := hl
  refine lv_aload_n hx hb dX8_init_0 rfl (lv_at hl 0 rfl) ?_
  refine W.objInit hx hb hown (hts (.methodLink RX8 3 objectInit) (List.mem_of_getElem? (i := 1) rfl)) (hts (.instanceMethod objectInit) (List.mem_of_getElem? (i := 2) rfl)) (hts (.code objectInit ⟨#[0xb1]⟩ 1 none) (List.mem_of_getElem? (i := 3) rfl)) rfl (by rw [hml]; exact hl.1) rfl dX8_init_1 (Nat.le_of_ble_eq_true rfl) (Nat.le_of_ble_eq_true rfl) ?_
  refine W.eq (g2 := F0 m 4 ls []) rfl ?_
  refine lv_aload_n hx hb dX8_init_4 rfl (lv_at hl 0 rfl) ?_
  refine lv_aload_n hx hb dX8_init_5 rfl (lv_at hl 1 rfl) ?_
  refine va_putF (D := (dC, dI)) (ci := 8) (v := .ref oC) (ty := .object "TextMender$Codes") (C := RX8) (T := TX8) (N := 6) hx hb hts in_X8 tyX8 tyX8_ok nmX8 hown hK hP hD hS 0 rfl rfl 0 (by decide) (hts (.fieldLink RX8 9 "TextMender$Reading" "codes" "LTextMender$Codes;") (List.mem_of_getElem? (i := 4) rfl)) (fun _ h9 => h9) rfl hin rfl (by decide +kernel) rfl rfl (Nat.le_of_ble_eq_true rfl) dX8_init_6 (fun H locs hPn hDn hSn => ?_)
  clear hP hD hS
  have hP : va_P (dC, dI) vwCl [(o, .inr (8, [.ref oC, .null, .int 0, .int 0, .int 0, .int 0]))] H := hPn
  have hD : va_D A [(o, .inr (8, [.ref oC, .null, .int 0, .int 0, .int 0, .int 0]))] := hDn
  have hS := hSn
  clear hPn hDn hSn
  refine lv_aload_n hx hb dX8_init_9 rfl (lv_at hl 0 rfl) ?_
  refine lv_aload_n hx hb dX8_init_10 rfl (lv_at hl 2 rfl) ?_
  refine va_putF (D := (dC, dI)) (ci := 8) (v := .ref oK) (ty := .object "TextMender$Costs") (C := RX8) (T := TX8) (N := 6) hx hb hts in_X8 tyX8 tyX8_ok nmX8 hown hK hP hD hS 0 rfl rfl 1 (by decide) (hts (.fieldLink RX8 15 "TextMender$Reading" "costs" "LTextMender$Costs;") (List.mem_of_getElem? (i := 5) rfl)) (fun _ h9 => h9) rfl hin rfl (by decide +kernel) rfl rfl (Nat.le_of_ble_eq_true rfl) dX8_init_11 (fun H locs hPn hDn hSn => ?_)
  clear hP hD hS
  have hP : va_P (dC, dI) vwCl [(o, .inr (8, [.ref oC, .ref oK, .int 0, .int 0, .int 0, .int 0]))] H := hPn
  have hD : va_D A [(o, .inr (8, [.ref oC, .ref oK, .int 0, .int 0, .int 0, .int 0]))] := hDn
  have hS := hSn
  clear hPn hDn hSn
  refine lv_aload_n hx hb dX8_init_14 rfl (lv_at hl 0 rfl) ?_
  refine lv_iconst (v := 0) hx hb dX8_init_15 (by decide) ?_
  refine va_put (D := (dC, dI)) (ci := 8) (v := .int 0) (ty := .int) (C := RX8) (T := TX8) (N := 6) hx hb hts in_X8 tyX8 tyX8_ok nmX8 hown hK hP hD hS 0 rfl rfl 2 (by decide) (hts (.fieldLink RX8 19 "TextMender$Reading" "reached" "I") (List.mem_of_getElem? (i := 6) rfl)) (fun _ h9 => h9) rfl (by decide +kernel) rfl rfl (Nat.le_of_ble_eq_true rfl) dX8_init_16 (fun H locs hPn hDn hSn => ?_)
  clear hP hD hS
  have hP : va_P (dC, dI) vwCl [(o, .inr (8, [.ref oC, .ref oK, .int 0, .int 0, .int 0, .int 0]))] H := hPn
  have hD : va_D A [(o, .inr (8, [.ref oC, .ref oK, .int 0, .int 0, .int 0, .int 0]))] := hDn
  have hS := hSn
  clear hPn hDn hSn
  refine lv_aload_n hx hb dX8_init_19 rfl (lv_at hl 0 rfl) ?_
  refine lv_bipush (v := 32) hx hb dX8_init_20 (by decide) ?_
  refine va_put (D := (dC, dI)) (ci := 8) (v := .int 32) (ty := .int) (C := RX8) (T := TX8) (N := 6) hx hb hts in_X8 tyX8 tyX8_ok nmX8 hown hK hP hD hS 0 rfl rfl 3 (by decide) (hts (.fieldLink RX8 23 "TextMender$Reading" "latest" "I") (List.mem_of_getElem? (i := 7) rfl)) (fun _ h9 => h9) rfl (by decide +kernel) rfl rfl (Nat.le_of_ble_eq_true rfl) dX8_init_22 (fun H locs hPn hDn hSn => ?_)
  clear hP hD hS
  have hP : va_P (dC, dI) vwCl [(o, .inr (8, [.ref oC, .ref oK, .int 0, .int 32, .int 0, .int 0]))] H := hPn
  have hD : va_D A [(o, .inr (8, [.ref oC, .ref oK, .int 0, .int 32, .int 0, .int 0]))] := hDn
  have hS := hSn
  clear hPn hDn hSn
  refine lv_aload_n hx hb dX8_init_25 rfl (lv_at hl 0 rfl) ?_
  refine lv_iconst (v := 0) hx hb dX8_init_26 (by decide) ?_
  refine va_put (D := (dC, dI)) (ci := 8) (v := .int 0) (ty := .int) (C := RX8) (T := TX8) (N := 6) hx hb hts in_X8 tyX8 tyX8_ok nmX8 hown hK hP hD hS 0 rfl rfl 4 (by decide) (hts (.fieldLink RX8 26 "TextMender$Reading" "sum" "I") (List.mem_of_getElem? (i := 8) rfl)) (fun _ h9 => h9) rfl (by decide +kernel) rfl rfl (Nat.le_of_ble_eq_true rfl) dX8_init_27 (fun H locs hPn hDn hSn => ?_)
  clear hP hD hS
  have hP : va_P (dC, dI) vwCl [(o, .inr (8, [.ref oC, .ref oK, .int 0, .int 32, .int 0, .int 0]))] H := hPn
  have hD : va_D A [(o, .inr (8, [.ref oC, .ref oK, .int 0, .int 32, .int 0, .int 0]))] := hDn
  have hS := hSn
  clear hPn hDn hSn
  refine lv_aload_n hx hb dX8_init_30 rfl (lv_at hl 0 rfl) ?_
  refine lv_iconst (v := 0) hx hb dX8_init_31 (by decide) ?_
  refine va_put (D := (dC, dI)) (ci := 8) (v := .int 0) (ty := .int) (C := RX8) (T := TX8) (N := 6) hx hb hts in_X8 tyX8 tyX8_ok nmX8 hown hK hP hD hS 0 rfl rfl 5 (by decide) (hts (.fieldLink RX8 29 "TextMender$Reading" "letters" "I") (List.mem_of_getElem? (i := 9) rfl)) (fun _ h9 => h9) rfl (by decide +kernel) rfl rfl (Nat.le_of_ble_eq_true rfl) dX8_init_32 (fun H locs hPn hDn hSn => ?_)
  clear hP hD hS
  have hP : va_P (dC, dI) vwCl [(o, .inr (8, [.ref oC, .ref oK, .int 0, .int 32, .int 0, .int 0]))] H := hPn
  have hD : va_D A [(o, .inr (8, [.ref oC, .ref oK, .int 0, .int 32, .int 0, .int 0]))] := hDn
  have hS := hSn
  clear hPn hDn hSn
  have hP9 := hP.sub (ws' := [(o, .inr (8, [.ref oC, .ref oK, .int 0, .int 32, .int 0, .int 0]))]) [0] rfl
  have hD9 := hD.sub (ws' := [(o, .inr (8, [.ref oC, .ref oK, .int 0, .int 32, .int 0, .int 0]))]) [0] (by decide +kernel) rfl
  exact W.vret hx hb hr (fun t ht hW => ⟨⟨(), rfl, trivial, by rw [ht]; exact hP9, hD9⟩, hS.F ht⟩) (hS.2.2) dX8_init_35

set_option maxHeartbeats 4000000 in
set_option maxRecDepth 100000 in
theorem k_X6_init (l : Launch) (dC : Nat → ClassId) (dI : Nat → Nat → Nat) (cI cS : ClassId) (sz : Nat) (o : Nat) (oC : Nat) (oH : Nat) (oK : Nat)  : Met l yX6_init wsX6_init ({ frames := 2, cells := 11, slots := 1336, locals := 42 } : Room) (va_Pc [.ref o, .ref oC, .ref oH, .ref oK] (fun U => U.heap.size = sz ∧ va_P (dC, dI) vwCl [(o, .inr (6, [.null, .null, .null, .null, .null, .null, .null, .null, .null, .null, .null, .int 0]))] U.heap ∧ va_K (dC, dI) vwCl [(cI, .int), (cS, .short)] U ∧ va_D (fun _ => True) [(o, .inr (6, [.null, .null, .null, .null, .null, .null, .null, .null, .null, .null, .null, .int 0]))])) (va_Qv (fun (_ : Unit) => True) (fun _ t => ∃ (oE : Nat) (nq : Nat) (aq : Nat) (np : Nat) (ap : Nat) (nv : Nat) (av : Nat) (q1 : Nat) (q2 : Nat) (q3 : Nat) (q4 : Nat), va_P (dC, dI) vwCl [(o, .inr (6, [.ref oC, .ref oH, .ref oK, .ref oE, .ref nq, .ref np, .ref nv, .ref q1, .ref q2, .ref q3, .ref q4, .int 0])), (oE, .inr (8, [.ref oC, .ref oK, .int 0, .int 32, .int 0, .int 0])), (nq, .inr (5, [.ref aq, .int 0])), (aq, .inl (cI, 480, .inl (fun _ => 0))), (np, .inr (5, [.ref ap, .int 0])), (ap, .inl (cI, 300, .inl (fun _ => 0))), (nv, .inr (5, [.ref av, .int 0])), (av, .inl (cI, 300, .inl (fun _ => 0))), (q1, .inl (cI, 61, .inl (fun _ => 0))), (q2, .inl (cI, 61, .inl (fun _ => 0))), (q3, .inl (cI, 61, .inl (fun _ => 0))), (q4, .inl (cI, 61, .inl (fun _ => 0)))] t.heap ∧ va_D (va_A [(o, .inr (6, [.null, .null, .null, .null, .null, .null, .null, .null, .null, .null, .null, .int 0]))] sz) [(o, .inr (6, [.ref oC, .ref oH, .ref oK, .ref oE, .ref nq, .ref np, .ref nv, .ref q1, .ref q2, .ref q3, .ref q4, .int 0])), (oE, .inr (8, [.ref oC, .ref oK, .int 0, .int 32, .int 0, .int 0])), (nq, .inr (5, [.ref aq, .int 0])), (aq, .inl (cI, 480, .inl (fun _ => 0))), (np, .inr (5, [.ref ap, .int 0])), (ap, .inl (cI, 300, .inl (fun _ => 0))), (nv, .inr (5, [.ref av, .int 0])), (av, .inl (cI, 300, .inl (fun _ => 0))), (q1, .inl (cI, 61, .inl (fun _ => 0))), (q2, .inl (cI, 61, .inl (fun _ => 0))), (q3, .inl (cI, 61, .inl (fun _ => 0))), (q4, .inl (cI, 61, .inl (fun _ => 0)))]) (va_A [(o, .inr (6, [.null, .null, .null, .null, .null, .null, .null, .null, .null, .null, .null, .int 0]))] sz)) 11 1336 (va_A [(o, .inr (6, [.null, .null, .null, .null, .null, .null, .null, .null, .null, .null, .null, .int 0]))] sz) := by
  refine Met.ofW (cc := cX6_init) (maxL := 4) (ret := none) (by decide) rfl ?_
  intro p e s m args below meth c s₁ B hml hv
  obtain ⟨rfl, hsz, hP, hK, hD0⟩ := hv
  have hx := B.exec
  have hb := B.bytes
  have hr := B.returns
  have hts := atoms_spec (ws := wsX6_init) B.pre
  have hown : s.vm.findClass RX6 = some m.cls := findClass_of_methodNamed B.named
  have hlocks := B.notSynchronized
  have hin : meth.name = "<init>" := (name_of_methodNamed B.named B.method).1
  have in_X5 : ∀ w ∈ wsX50, w ∈ wsX6_init := fun _ h => List.mem_cons_of_mem _ (List.mem_append_left _ (List.mem_append_left _ (List.mem_append_right _ (h))))
  have in_X6 : ∀ w ∈ wsX60, w ∈ wsX6_init := fun _ h => List.mem_cons_of_mem _ (List.mem_append_left _ (List.mem_append_right _ (h)))
  have in_X8 : ∀ w ∈ wsX80, w ∈ wsX6_init := fun _ h => List.mem_cons_of_mem _ (List.mem_append_right _ (h))
  subst hsz
  have hD := hD0.self (sz := s.heap.size)
  generalize hAe : va_A [(o, .inr (6, [.null, .null, .null, .null, .null, .null, .null, .null, .null, .null, .null, .int 0]))] s.heap.size = A at hD ⊢
  have hA : ∀ q : Nat, s.heap.size ≤ q → A q := fun q h => by rw [← hAe]; exact Or.inr h
  have hS : va_S A s.heap s.heap [] := va_S.rf
  have hP : va_P (dC, dI) vwCl [(o, .inr (6, [.null, .null, .null, .null, .null, .null, .null, .null, .null, .null, .null, .int 0]))] s.heap := hP
  have hl := lv_entry ([.ref o, .ref oC, .ref oH, .ref oK]) (n := 4) (Nat.le_of_ble_eq_true rfl)
  rw [lg_entry_eq]
  generalize (lg_sl ([.ref o, .ref oC, .ref oH, .ref oK]) ++ List.replicate (4 - (lg_sl ([.ref o, .ref oC, .ref oH, .ref oK])).length) Slot.unset).toArray = ls at hl ⊢
  have hl : lv_has ls 4 [(0, .ref o), (1, .ref oC), (2, .ref oH), (3, .ref oK)] := hl
  refine lv_aload_n hx hb dX6_init_0 rfl (lv_at hl 0 rfl) ?_
  refine W.objInit hx hb hown (hts (.methodLink RX6 3 objectInit) (List.mem_of_getElem? (i := 1) rfl)) (hts (.instanceMethod objectInit) (List.mem_of_getElem? (i := 2) rfl)) (hts (.code objectInit ⟨#[0xb1]⟩ 1 none) (List.mem_of_getElem? (i := 3) rfl)) rfl (by rw [hml]; exact hl.1) rfl dX6_init_1 (Nat.le_of_ble_eq_true rfl) (Nat.le_of_ble_eq_true rfl) ?_
  refine W.eq (g2 := F0 m 4 ls []) rfl ?_
  refine lv_aload_n hx hb dX6_init_4 rfl (lv_at hl 0 rfl) ?_
  refine va_new (ci := 5) (fs := [.null, .int 0]) (C := RX5) (T := TX5) (N := 2) hx hb hts in_X5 tyX5 tyX5_ok hown (hts (.classLink RX6 9 RX5) (List.mem_of_getElem? (i := 4) rfl)) (hts (.instantiable RX5 2) (List.mem_of_getElem? (i := 5) rfl)) (hts (.initialized RX5) (List.mem_of_getElem? (i := 6) rfl)) hK hP hD hS hA rfl (p_fsX5) (Nat.le_of_ble_eq_true rfl) (Nat.le_of_ble_eq_true rfl) dX6_init_5 (fun q_1 H hPn hDn hSn => ?_)
  clear hP hD hS
  have hP : va_P (dC, dI) vwCl [(o, .inr (6, [.null, .null, .null, .null, .null, .null, .null, .null, .null, .null, .null, .int 0])), (q_1, .inr (5, [.null, .int 0]))] H := hPn
  have hD : va_D A [(o, .inr (6, [.null, .null, .null, .null, .null, .null, .null, .null, .null, .null, .null, .int 0])), (q_1, .inr (5, [.null, .int 0]))] := hDn
  have hS := hSn
  clear hPn hDn hSn
  refine W.widen (k := 1) (n := 2) (Nat.le_of_ble_eq_true rfl) (Nat.le_of_ble_eq_true rfl) ?_
  refine lv_dup hx hb dX6_init_8 rfl ?_
  refine lv_sipush (v := 480) hx hb dX6_init_9 (by decide) ?_
  have hPc := hP.sub (ws' := [(q_1, .inr (5, [.null, .int 0]))]) [1] rfl
  have hDc := hD.sub (ws' := [(q_1, .inr (5, [.null, .int 0]))]) [1] (by decide +kernel) rfl
  have hFc := va_free (wc := [(q_1, .inr (5, [.null, .int 0]))]) hD hS hA [1] rfl
  refine va_callv (va_runI (As := [.int 480]) (rest := [.ref q_1, .ref o]) ⟨hx, hb, hml, hown, hts⟩ (k_X5_init l dC dI cI cS H.size q_1 480 480 (by decide) (by decide) (by decide)) (cwI 1 hts gX6_init_X5_init rfl rfl rfl (hts (.initialized RX5) (List.mem_of_getElem? (i := 6) rfl)) (hts (.methodLink RX6 11 yX5_init) (List.mem_of_getElem? (i := 23) rfl)) (hts (.instanceMethod yX5_init) (List.mem_of_getElem? (i := 24) rfl)) rfl (by decide +kernel) ⟨Nat.le_of_ble_eq_true rfl, Nat.le_of_ble_eq_true rfl⟩) ⟨fun a U g mk q => by obtain ⟨q0, q1, qP, qK, qD⟩ := q; exact ⟨q0, q1, qP, va_K.moved (u := U) (U := U.calling g mk a) (Vm.Alike.refl U.vm) qK, qD⟩, fun U hU hW => ⟨rfl, by rw [hU], by rw [hU]; exact hPc, va_K.moved hW.alike hK, hDc.weaken (fun _ _ _ _ => trivial)⟩⟩ rfl rfl hl.1 rfl (lv_room (Nat.le_of_ble_eq_true rfl)) dX6_init_12 ⟨Nat.le_of_ble_eq_true rfl, Nat.le_of_ble_eq_true rfl⟩) hS (fun q _ h => hFc q h) hFc (fun u t H1 locs ht hvm hw hB hz1 hk1 hSn => ?_)
  obtain ⟨ar_2, hP1, hD1⟩ := hB
  rw [ht] at hP1
  obtain ⟨hPn, hDn⟩ := va_join (wr := [(o, .inr (6, [.null, .null, .null, .null, .null, .null, .null, .null, .null, .null, .null, .int 0]))]) (w1 := [(q_1, .inr (5, [.ref ar_2, .int 0])), (ar_2, .inl (cI, 480, .inl (fun _ => 0)))]) hP hD [1] [0] rfl rfl (by decide +kernel) (by decide +kernel) hk1 hFc hP1 hD1
  clear hP hD hS hPc hDc hFc hk1 hz1 hvm ht hP1 hD1
  generalize H1 = H at hPn hSn ⊢
  have hP : va_P (dC, dI) vwCl [(o, .inr (6, [.null, .null, .null, .null, .null, .null, .null, .null, .null, .null, .null, .int 0])), (q_1, .inr (5, [.ref ar_2, .int 0])), (ar_2, .inl (cI, 480, .inl (fun _ => 0)))] H := hPn
  have hD : va_D A [(o, .inr (6, [.null, .null, .null, .null, .null, .null, .null, .null, .null, .null, .null, .int 0])), (q_1, .inr (5, [.ref ar_2, .int 0])), (ar_2, .inl (cI, 480, .inl (fun _ => 0)))] := hDn
  have hS := hSn
  clear hPn hDn hSn
  refine W.widen (k := 2) (n := 482) (Nat.le_of_ble_eq_true rfl) (Nat.le_of_ble_eq_true rfl) ?_
  refine va_putF (D := (dC, dI)) (ci := 6) (v := .ref q_1) (ty := .object "TextMender$Numbers") (C := RX6) (T := TX6) (N := 12) hx hb hts in_X6 tyX6 tyX6_ok nmX6 hown hK hP hD hS 0 rfl rfl 4 (by decide) (hts (.fieldLink RX6 14 "TextMender$Parting" "bytes" "LTextMender$Numbers;") (List.mem_of_getElem? (i := 7) rfl)) (fun _ h9 => h9) rfl hin rfl (by decide +kernel) rfl rfl (Nat.le_of_ble_eq_true rfl) dX6_init_15 (fun H locs hPn hDn hSn => ?_)
  clear hP hD hS
  have hP : va_P (dC, dI) vwCl [(o, .inr (6, [.null, .null, .null, .null, .ref q_1, .null, .null, .null, .null, .null, .null, .int 0])), (q_1, .inr (5, [.ref ar_2, .int 0])), (ar_2, .inl (cI, 480, .inl (fun _ => 0)))] H := hPn
  have hD : va_D A [(o, .inr (6, [.null, .null, .null, .null, .ref q_1, .null, .null, .null, .null, .null, .null, .int 0])), (q_1, .inr (5, [.ref ar_2, .int 0])), (ar_2, .inl (cI, 480, .inl (fun _ => 0)))] := hDn
  have hS := hSn
  clear hPn hDn hSn
  refine lv_aload_n hx hb dX6_init_18 rfl (lv_at hl 0 rfl) ?_
  refine va_new (ci := 5) (fs := [.null, .int 0]) (C := RX5) (T := TX5) (N := 2) hx hb hts in_X5 tyX5 tyX5_ok hown (hts (.classLink RX6 9 RX5) (List.mem_of_getElem? (i := 4) rfl)) (hts (.instantiable RX5 2) (List.mem_of_getElem? (i := 5) rfl)) (hts (.initialized RX5) (List.mem_of_getElem? (i := 6) rfl)) hK hP hD hS hA rfl (p_fsX5) (Nat.le_of_ble_eq_true rfl) (Nat.le_of_ble_eq_true rfl) dX6_init_19 (fun q_3 H hPn hDn hSn => ?_)
  clear hP hD hS
  have hP : va_P (dC, dI) vwCl [(o, .inr (6, [.null, .null, .null, .null, .ref q_1, .null, .null, .null, .null, .null, .null, .int 0])), (q_1, .inr (5, [.ref ar_2, .int 0])), (ar_2, .inl (cI, 480, .inl (fun _ => 0))), (q_3, .inr (5, [.null, .int 0]))] H := hPn
  have hD : va_D A [(o, .inr (6, [.null, .null, .null, .null, .ref q_1, .null, .null, .null, .null, .null, .null, .int 0])), (q_1, .inr (5, [.ref ar_2, .int 0])), (ar_2, .inl (cI, 480, .inl (fun _ => 0))), (q_3, .inr (5, [.null, .int 0]))] := hDn
  have hS := hSn
  clear hPn hDn hSn
  refine W.widen (k := 3) (n := 484) (Nat.le_of_ble_eq_true rfl) (Nat.le_of_ble_eq_true rfl) ?_
  refine lv_dup hx hb dX6_init_22 rfl ?_
  refine lv_sipush (v := 300) hx hb dX6_init_23 (by decide) ?_
  have hPc := hP.sub (ws' := [(q_3, .inr (5, [.null, .int 0]))]) [3] rfl
  have hDc := hD.sub (ws' := [(q_3, .inr (5, [.null, .int 0]))]) [3] (by decide +kernel) rfl
  have hFc := va_free (wc := [(q_3, .inr (5, [.null, .int 0]))]) hD hS hA [3] rfl
  refine va_callv (va_runI (As := [.int 300]) (rest := [.ref q_3, .ref o]) ⟨hx, hb, hml, hown, hts⟩ (k_X5_init l dC dI cI cS H.size q_3 300 300 (by decide) (by decide) (by decide)) (cwI 1 hts gX6_init_X5_init rfl rfl rfl (hts (.initialized RX5) (List.mem_of_getElem? (i := 6) rfl)) (hts (.methodLink RX6 11 yX5_init) (List.mem_of_getElem? (i := 23) rfl)) (hts (.instanceMethod yX5_init) (List.mem_of_getElem? (i := 24) rfl)) rfl (by decide +kernel) ⟨Nat.le_of_ble_eq_true rfl, Nat.le_of_ble_eq_true rfl⟩) ⟨fun a U g mk q => by obtain ⟨q0, q1, qP, qK, qD⟩ := q; exact ⟨q0, q1, qP, va_K.moved (u := U) (U := U.calling g mk a) (Vm.Alike.refl U.vm) qK, qD⟩, fun U hU hW => ⟨rfl, by rw [hU], by rw [hU]; exact hPc, va_K.moved hW.alike hK, hDc.weaken (fun _ _ _ _ => trivial)⟩⟩ rfl rfl hl.1 rfl (lv_room (Nat.le_of_ble_eq_true rfl)) dX6_init_26 ⟨Nat.le_of_ble_eq_true rfl, Nat.le_of_ble_eq_true rfl⟩) hS (fun q _ h => hFc q h) hFc (fun u t H1 locs ht hvm hw hB hz1 hk1 hSn => ?_)
  obtain ⟨ar_4, hP1, hD1⟩ := hB
  rw [ht] at hP1
  obtain ⟨hPn, hDn⟩ := va_join (wr := [(o, .inr (6, [.null, .null, .null, .null, .ref q_1, .null, .null, .null, .null, .null, .null, .int 0])), (q_1, .inr (5, [.ref ar_2, .int 0])), (ar_2, .inl (cI, 480, .inl (fun _ => 0)))]) (w1 := [(q_3, .inr (5, [.ref ar_4, .int 0])), (ar_4, .inl (cI, 300, .inl (fun _ => 0)))]) hP hD [3] [0, 1, 2] rfl rfl (by decide +kernel) (by decide +kernel) hk1 hFc hP1 hD1
  clear hP hD hS hPc hDc hFc hk1 hz1 hvm ht hP1 hD1
  generalize H1 = H at hPn hSn ⊢
  have hP : va_P (dC, dI) vwCl [(o, .inr (6, [.null, .null, .null, .null, .ref q_1, .null, .null, .null, .null, .null, .null, .int 0])), (q_1, .inr (5, [.ref ar_2, .int 0])), (ar_2, .inl (cI, 480, .inl (fun _ => 0))), (q_3, .inr (5, [.ref ar_4, .int 0])), (ar_4, .inl (cI, 300, .inl (fun _ => 0)))] H := hPn
  have hD : va_D A [(o, .inr (6, [.null, .null, .null, .null, .ref q_1, .null, .null, .null, .null, .null, .null, .int 0])), (q_1, .inr (5, [.ref ar_2, .int 0])), (ar_2, .inl (cI, 480, .inl (fun _ => 0))), (q_3, .inr (5, [.ref ar_4, .int 0])), (ar_4, .inl (cI, 300, .inl (fun _ => 0)))] := hDn
  have hS := hSn
  clear hPn hDn hSn
  refine W.widen (k := 4) (n := 784) (Nat.le_of_ble_eq_true rfl) (Nat.le_of_ble_eq_true rfl) ?_
  refine va_putF (D := (dC, dI)) (ci := 6) (v := .ref q_3) (ty := .object "TextMender$Numbers") (C := RX6) (T := TX6) (N := 12) hx hb hts in_X6 tyX6 tyX6_ok nmX6 hown hK hP hD hS 0 rfl rfl 5 (by decide) (hts (.fieldLink RX6 20 "TextMender$Parting" "part" "LTextMender$Numbers;") (List.mem_of_getElem? (i := 8) rfl)) (fun _ h9 => h9) rfl hin rfl (by decide +kernel) rfl rfl (Nat.le_of_ble_eq_true rfl) dX6_init_29 (fun H locs hPn hDn hSn => ?_)
  clear hP hD hS
  have hP : va_P (dC, dI) vwCl [(o, .inr (6, [.null, .null, .null, .null, .ref q_1, .ref q_3, .null, .null, .null, .null, .null, .int 0])), (q_1, .inr (5, [.ref ar_2, .int 0])), (ar_2, .inl (cI, 480, .inl (fun _ => 0))), (q_3, .inr (5, [.ref ar_4, .int 0])), (ar_4, .inl (cI, 300, .inl (fun _ => 0)))] H := hPn
  have hD : va_D A [(o, .inr (6, [.null, .null, .null, .null, .ref q_1, .ref q_3, .null, .null, .null, .null, .null, .int 0])), (q_1, .inr (5, [.ref ar_2, .int 0])), (ar_2, .inl (cI, 480, .inl (fun _ => 0))), (q_3, .inr (5, [.ref ar_4, .int 0])), (ar_4, .inl (cI, 300, .inl (fun _ => 0)))] := hDn
  have hS := hSn
  clear hPn hDn hSn
  refine lv_aload_n hx hb dX6_init_32 rfl (lv_at hl 0 rfl) ?_
  refine va_new (ci := 5) (fs := [.null, .int 0]) (C := RX5) (T := TX5) (N := 2) hx hb hts in_X5 tyX5 tyX5_ok hown (hts (.classLink RX6 9 RX5) (List.mem_of_getElem? (i := 4) rfl)) (hts (.instantiable RX5 2) (List.mem_of_getElem? (i := 5) rfl)) (hts (.initialized RX5) (List.mem_of_getElem? (i := 6) rfl)) hK hP hD hS hA rfl (p_fsX5) (Nat.le_of_ble_eq_true rfl) (Nat.le_of_ble_eq_true rfl) dX6_init_33 (fun q_5 H hPn hDn hSn => ?_)
  clear hP hD hS
  have hP : va_P (dC, dI) vwCl [(o, .inr (6, [.null, .null, .null, .null, .ref q_1, .ref q_3, .null, .null, .null, .null, .null, .int 0])), (q_1, .inr (5, [.ref ar_2, .int 0])), (ar_2, .inl (cI, 480, .inl (fun _ => 0))), (q_3, .inr (5, [.ref ar_4, .int 0])), (ar_4, .inl (cI, 300, .inl (fun _ => 0))), (q_5, .inr (5, [.null, .int 0]))] H := hPn
  have hD : va_D A [(o, .inr (6, [.null, .null, .null, .null, .ref q_1, .ref q_3, .null, .null, .null, .null, .null, .int 0])), (q_1, .inr (5, [.ref ar_2, .int 0])), (ar_2, .inl (cI, 480, .inl (fun _ => 0))), (q_3, .inr (5, [.ref ar_4, .int 0])), (ar_4, .inl (cI, 300, .inl (fun _ => 0))), (q_5, .inr (5, [.null, .int 0]))] := hDn
  have hS := hSn
  clear hPn hDn hSn
  refine W.widen (k := 5) (n := 786) (Nat.le_of_ble_eq_true rfl) (Nat.le_of_ble_eq_true rfl) ?_
  refine lv_dup hx hb dX6_init_36 rfl ?_
  refine lv_sipush (v := 300) hx hb dX6_init_37 (by decide) ?_
  have hPc := hP.sub (ws' := [(q_5, .inr (5, [.null, .int 0]))]) [5] rfl
  have hDc := hD.sub (ws' := [(q_5, .inr (5, [.null, .int 0]))]) [5] (by decide +kernel) rfl
  have hFc := va_free (wc := [(q_5, .inr (5, [.null, .int 0]))]) hD hS hA [5] rfl
  refine va_callv (va_runI (As := [.int 300]) (rest := [.ref q_5, .ref o]) ⟨hx, hb, hml, hown, hts⟩ (k_X5_init l dC dI cI cS H.size q_5 300 300 (by decide) (by decide) (by decide)) (cwI 1 hts gX6_init_X5_init rfl rfl rfl (hts (.initialized RX5) (List.mem_of_getElem? (i := 6) rfl)) (hts (.methodLink RX6 11 yX5_init) (List.mem_of_getElem? (i := 23) rfl)) (hts (.instanceMethod yX5_init) (List.mem_of_getElem? (i := 24) rfl)) rfl (by decide +kernel) ⟨Nat.le_of_ble_eq_true rfl, Nat.le_of_ble_eq_true rfl⟩) ⟨fun a U g mk q => by obtain ⟨q0, q1, qP, qK, qD⟩ := q; exact ⟨q0, q1, qP, va_K.moved (u := U) (U := U.calling g mk a) (Vm.Alike.refl U.vm) qK, qD⟩, fun U hU hW => ⟨rfl, by rw [hU], by rw [hU]; exact hPc, va_K.moved hW.alike hK, hDc.weaken (fun _ _ _ _ => trivial)⟩⟩ rfl rfl hl.1 rfl (lv_room (Nat.le_of_ble_eq_true rfl)) dX6_init_40 ⟨Nat.le_of_ble_eq_true rfl, Nat.le_of_ble_eq_true rfl⟩) hS (fun q _ h => hFc q h) hFc (fun u t H1 locs ht hvm hw hB hz1 hk1 hSn => ?_)
  obtain ⟨ar_6, hP1, hD1⟩ := hB
  rw [ht] at hP1
  obtain ⟨hPn, hDn⟩ := va_join (wr := [(o, .inr (6, [.null, .null, .null, .null, .ref q_1, .ref q_3, .null, .null, .null, .null, .null, .int 0])), (q_1, .inr (5, [.ref ar_2, .int 0])), (ar_2, .inl (cI, 480, .inl (fun _ => 0))), (q_3, .inr (5, [.ref ar_4, .int 0])), (ar_4, .inl (cI, 300, .inl (fun _ => 0)))]) (w1 := [(q_5, .inr (5, [.ref ar_6, .int 0])), (ar_6, .inl (cI, 300, .inl (fun _ => 0)))]) hP hD [5] [0, 1, 2, 3, 4] rfl rfl (by decide +kernel) (by decide +kernel) hk1 hFc hP1 hD1
  clear hP hD hS hPc hDc hFc hk1 hz1 hvm ht hP1 hD1
  generalize H1 = H at hPn hSn ⊢
  have hP : va_P (dC, dI) vwCl [(o, .inr (6, [.null, .null, .null, .null, .ref q_1, .ref q_3, .null, .null, .null, .null, .null, .int 0])), (q_1, .inr (5, [.ref ar_2, .int 0])), (ar_2, .inl (cI, 480, .inl (fun _ => 0))), (q_3, .inr (5, [.ref ar_4, .int 0])), (ar_4, .inl (cI, 300, .inl (fun _ => 0))), (q_5, .inr (5, [.ref ar_6, .int 0])), (ar_6, .inl (cI, 300, .inl (fun _ => 0)))] H := hPn
  have hD : va_D A [(o, .inr (6, [.null, .null, .null, .null, .ref q_1, .ref q_3, .null, .null, .null, .null, .null, .int 0])), (q_1, .inr (5, [.ref ar_2, .int 0])), (ar_2, .inl (cI, 480, .inl (fun _ => 0))), (q_3, .inr (5, [.ref ar_4, .int 0])), (ar_4, .inl (cI, 300, .inl (fun _ => 0))), (q_5, .inr (5, [.ref ar_6, .int 0])), (ar_6, .inl (cI, 300, .inl (fun _ => 0)))] := hDn
  have hS := hSn
  clear hPn hDn hSn
  refine W.widen (k := 6) (n := 1086) (Nat.le_of_ble_eq_true rfl) (Nat.le_of_ble_eq_true rfl) ?_
  refine va_putF (D := (dC, dI)) (ci := 6) (v := .ref q_5) (ty := .object "TextMender$Numbers") (C := RX6) (T := TX6) (N := 12) hx hb hts in_X6 tyX6 tyX6_ok nmX6 hown hK hP hD hS 0 rfl rfl 6 (by decide) (hts (.fieldLink RX6 23 "TextMender$Parting" "undone" "LTextMender$Numbers;") (List.mem_of_getElem? (i := 9) rfl)) (fun _ h9 => h9) rfl hin rfl (by decide +kernel) rfl rfl (Nat.le_of_ble_eq_true rfl) dX6_init_43 (fun H locs hPn hDn hSn => ?_)
  clear hP hD hS
  have hP : va_P (dC, dI) vwCl [(o, .inr (6, [.null, .null, .null, .null, .ref q_1, .ref q_3, .ref q_5, .null, .null, .null, .null, .int 0])), (q_1, .inr (5, [.ref ar_2, .int 0])), (ar_2, .inl (cI, 480, .inl (fun _ => 0))), (q_3, .inr (5, [.ref ar_4, .int 0])), (ar_4, .inl (cI, 300, .inl (fun _ => 0))), (q_5, .inr (5, [.ref ar_6, .int 0])), (ar_6, .inl (cI, 300, .inl (fun _ => 0)))] H := hPn
  have hD : va_D A [(o, .inr (6, [.null, .null, .null, .null, .ref q_1, .ref q_3, .ref q_5, .null, .null, .null, .null, .int 0])), (q_1, .inr (5, [.ref ar_2, .int 0])), (ar_2, .inl (cI, 480, .inl (fun _ => 0))), (q_3, .inr (5, [.ref ar_4, .int 0])), (ar_4, .inl (cI, 300, .inl (fun _ => 0))), (q_5, .inr (5, [.ref ar_6, .int 0])), (ar_6, .inl (cI, 300, .inl (fun _ => 0)))] := hDn
  have hS := hSn
  clear hPn hDn hSn
  refine lv_aload_n hx hb dX6_init_46 rfl (lv_at hl 0 rfl) ?_
  refine lv_bipush (v := 61) hx hb dX6_init_47 (by decide) ?_
  refine p_newint hx hb (hts (.arrayClass .int) (List.mem_of_getElem? (i := 10) rfl)) hK hP hD hS hA (n := 61) (N := 61) (by decide) (by decide) (by decide) (Nat.le_of_ble_eq_true rfl) (Nat.le_of_ble_eq_true rfl) dX6_init_49 (fun q_7 H hPn hDn hSn => ?_)
  clear hP hD hS
  have hP : va_P (dC, dI) vwCl [(o, .inr (6, [.null, .null, .null, .null, .ref q_1, .ref q_3, .ref q_5, .null, .null, .null, .null, .int 0])), (q_1, .inr (5, [.ref ar_2, .int 0])), (ar_2, .inl (cI, 480, .inl (fun _ => 0))), (q_3, .inr (5, [.ref ar_4, .int 0])), (ar_4, .inl (cI, 300, .inl (fun _ => 0))), (q_5, .inr (5, [.ref ar_6, .int 0])), (ar_6, .inl (cI, 300, .inl (fun _ => 0))), (q_7, .inl (cI, 61, .inl (fun _ => 0)))] H := hPn
  have hD : va_D A [(o, .inr (6, [.null, .null, .null, .null, .ref q_1, .ref q_3, .ref q_5, .null, .null, .null, .null, .int 0])), (q_1, .inr (5, [.ref ar_2, .int 0])), (ar_2, .inl (cI, 480, .inl (fun _ => 0))), (q_3, .inr (5, [.ref ar_4, .int 0])), (ar_4, .inl (cI, 300, .inl (fun _ => 0))), (q_5, .inr (5, [.ref ar_6, .int 0])), (ar_6, .inl (cI, 300, .inl (fun _ => 0))), (q_7, .inl (cI, 61, .inl (fun _ => 0)))] := hDn
  have hS := hSn
  clear hPn hDn hSn
  refine W.widen (k := 7) (n := 1147) (Nat.le_of_ble_eq_true rfl) (Nat.le_of_ble_eq_true rfl) ?_
  refine va_putF (D := (dC, dI)) (ci := 6) (v := .ref q_7) (ty := .array .int) (C := RX6) (T := TX6) (N := 12) hx hb hts in_X6 tyX6 tyX6_ok nmX6 hown hK hP hD hS 0 rfl rfl 7 (by decide) (hts (.fieldLink RX6 26 "TextMender$Parting" "leastCost" "[I") (List.mem_of_getElem? (i := 11) rfl)) (fun _ h9 => h9) rfl hin rfl (by decide +kernel) rfl rfl (Nat.le_of_ble_eq_true rfl) dX6_init_51 (fun H locs hPn hDn hSn => ?_)
  clear hP hD hS
  have hP : va_P (dC, dI) vwCl [(o, .inr (6, [.null, .null, .null, .null, .ref q_1, .ref q_3, .ref q_5, .ref q_7, .null, .null, .null, .int 0])), (q_1, .inr (5, [.ref ar_2, .int 0])), (ar_2, .inl (cI, 480, .inl (fun _ => 0))), (q_3, .inr (5, [.ref ar_4, .int 0])), (ar_4, .inl (cI, 300, .inl (fun _ => 0))), (q_5, .inr (5, [.ref ar_6, .int 0])), (ar_6, .inl (cI, 300, .inl (fun _ => 0))), (q_7, .inl (cI, 61, .inl (fun _ => 0)))] H := hPn
  have hD : va_D A [(o, .inr (6, [.null, .null, .null, .null, .ref q_1, .ref q_3, .ref q_5, .ref q_7, .null, .null, .null, .int 0])), (q_1, .inr (5, [.ref ar_2, .int 0])), (ar_2, .inl (cI, 480, .inl (fun _ => 0))), (q_3, .inr (5, [.ref ar_4, .int 0])), (ar_4, .inl (cI, 300, .inl (fun _ => 0))), (q_5, .inr (5, [.ref ar_6, .int 0])), (ar_6, .inl (cI, 300, .inl (fun _ => 0))), (q_7, .inl (cI, 61, .inl (fun _ => 0)))] := hDn
  have hS := hSn
  clear hPn hDn hSn
  refine lv_aload_n hx hb dX6_init_54 rfl (lv_at hl 0 rfl) ?_
  refine lv_bipush (v := 61) hx hb dX6_init_55 (by decide) ?_
  refine p_newint hx hb (hts (.arrayClass .int) (List.mem_of_getElem? (i := 10) rfl)) hK hP hD hS hA (n := 61) (N := 61) (by decide) (by decide) (by decide) (Nat.le_of_ble_eq_true rfl) (Nat.le_of_ble_eq_true rfl) dX6_init_57 (fun q_8 H hPn hDn hSn => ?_)
  clear hP hD hS
  have hP : va_P (dC, dI) vwCl [(o, .inr (6, [.null, .null, .null, .null, .ref q_1, .ref q_3, .ref q_5, .ref q_7, .null, .null, .null, .int 0])), (q_1, .inr (5, [.ref ar_2, .int 0])), (ar_2, .inl (cI, 480, .inl (fun _ => 0))), (q_3, .inr (5, [.ref ar_4, .int 0])), (ar_4, .inl (cI, 300, .inl (fun _ => 0))), (q_5, .inr (5, [.ref ar_6, .int 0])), (ar_6, .inl (cI, 300, .inl (fun _ => 0))), (q_7, .inl (cI, 61, .inl (fun _ => 0))), (q_8, .inl (cI, 61, .inl (fun _ => 0)))] H := hPn
  have hD : va_D A [(o, .inr (6, [.null, .null, .null, .null, .ref q_1, .ref q_3, .ref q_5, .ref q_7, .null, .null, .null, .int 0])), (q_1, .inr (5, [.ref ar_2, .int 0])), (ar_2, .inl (cI, 480, .inl (fun _ => 0))), (q_3, .inr (5, [.ref ar_4, .int 0])), (ar_4, .inl (cI, 300, .inl (fun _ => 0))), (q_5, .inr (5, [.ref ar_6, .int 0])), (ar_6, .inl (cI, 300, .inl (fun _ => 0))), (q_7, .inl (cI, 61, .inl (fun _ => 0))), (q_8, .inl (cI, 61, .inl (fun _ => 0)))] := hDn
  have hS := hSn
  clear hPn hDn hSn
  refine W.widen (k := 8) (n := 1208) (Nat.le_of_ble_eq_true rfl) (Nat.le_of_ble_eq_true rfl) ?_
  refine va_putF (D := (dC, dI)) (ci := 6) (v := .ref q_8) (ty := .array .int) (C := RX6) (T := TX6) (N := 12) hx hb hts in_X6 tyX6 tyX6_ok nmX6 hown hK hP hD hS 0 rfl rfl 8 (by decide) (hts (.fieldLink RX6 30 "TextMender$Parting" "spansFrom" "[I") (List.mem_of_getElem? (i := 12) rfl)) (fun _ h9 => h9) rfl hin rfl (by decide +kernel) rfl rfl (Nat.le_of_ble_eq_true rfl) dX6_init_59 (fun H locs hPn hDn hSn => ?_)
  clear hP hD hS
  have hP : va_P (dC, dI) vwCl [(o, .inr (6, [.null, .null, .null, .null, .ref q_1, .ref q_3, .ref q_5, .ref q_7, .ref q_8, .null, .null, .int 0])), (q_1, .inr (5, [.ref ar_2, .int 0])), (ar_2, .inl (cI, 480, .inl (fun _ => 0))), (q_3, .inr (5, [.ref ar_4, .int 0])), (ar_4, .inl (cI, 300, .inl (fun _ => 0))), (q_5, .inr (5, [.ref ar_6, .int 0])), (ar_6, .inl (cI, 300, .inl (fun _ => 0))), (q_7, .inl (cI, 61, .inl (fun _ => 0))), (q_8, .inl (cI, 61, .inl (fun _ => 0)))] H := hPn
  have hD : va_D A [(o, .inr (6, [.null, .null, .null, .null, .ref q_1, .ref q_3, .ref q_5, .ref q_7, .ref q_8, .null, .null, .int 0])), (q_1, .inr (5, [.ref ar_2, .int 0])), (ar_2, .inl (cI, 480, .inl (fun _ => 0))), (q_3, .inr (5, [.ref ar_4, .int 0])), (ar_4, .inl (cI, 300, .inl (fun _ => 0))), (q_5, .inr (5, [.ref ar_6, .int 0])), (ar_6, .inl (cI, 300, .inl (fun _ => 0))), (q_7, .inl (cI, 61, .inl (fun _ => 0))), (q_8, .inl (cI, 61, .inl (fun _ => 0)))] := hDn
  have hS := hSn
  clear hPn hDn hSn
  refine lv_aload_n hx hb dX6_init_62 rfl (lv_at hl 0 rfl) ?_
  refine lv_bipush (v := 61) hx hb dX6_init_63 (by decide) ?_
  refine p_newint hx hb (hts (.arrayClass .int) (List.mem_of_getElem? (i := 10) rfl)) hK hP hD hS hA (n := 61) (N := 61) (by decide) (by decide) (by decide) (Nat.le_of_ble_eq_true rfl) (Nat.le_of_ble_eq_true rfl) dX6_init_65 (fun q_9 H hPn hDn hSn => ?_)
  clear hP hD hS
  have hP : va_P (dC, dI) vwCl [(o, .inr (6, [.null, .null, .null, .null, .ref q_1, .ref q_3, .ref q_5, .ref q_7, .ref q_8, .null, .null, .int 0])), (q_1, .inr (5, [.ref ar_2, .int 0])), (ar_2, .inl (cI, 480, .inl (fun _ => 0))), (q_3, .inr (5, [.ref ar_4, .int 0])), (ar_4, .inl (cI, 300, .inl (fun _ => 0))), (q_5, .inr (5, [.ref ar_6, .int 0])), (ar_6, .inl (cI, 300, .inl (fun _ => 0))), (q_7, .inl (cI, 61, .inl (fun _ => 0))), (q_8, .inl (cI, 61, .inl (fun _ => 0))), (q_9, .inl (cI, 61, .inl (fun _ => 0)))] H := hPn
  have hD : va_D A [(o, .inr (6, [.null, .null, .null, .null, .ref q_1, .ref q_3, .ref q_5, .ref q_7, .ref q_8, .null, .null, .int 0])), (q_1, .inr (5, [.ref ar_2, .int 0])), (ar_2, .inl (cI, 480, .inl (fun _ => 0))), (q_3, .inr (5, [.ref ar_4, .int 0])), (ar_4, .inl (cI, 300, .inl (fun _ => 0))), (q_5, .inr (5, [.ref ar_6, .int 0])), (ar_6, .inl (cI, 300, .inl (fun _ => 0))), (q_7, .inl (cI, 61, .inl (fun _ => 0))), (q_8, .inl (cI, 61, .inl (fun _ => 0))), (q_9, .inl (cI, 61, .inl (fun _ => 0)))] := hDn
  have hS := hSn
  clear hPn hDn hSn
  refine W.widen (k := 9) (n := 1269) (Nat.le_of_ble_eq_true rfl) (Nat.le_of_ble_eq_true rfl) ?_
  refine va_putF (D := (dC, dI)) (ci := 6) (v := .ref q_9) (ty := .array .int) (C := RX6) (T := TX6) (N := 12) hx hb hts in_X6 tyX6 tyX6_ok nmX6 hown hK hP hD hS 0 rfl rfl 9 (by decide) (hts (.fieldLink RX6 33 "TextMender$Parting" "endOf" "[I") (List.mem_of_getElem? (i := 13) rfl)) (fun _ h9 => h9) rfl hin rfl (by decide +kernel) rfl rfl (Nat.le_of_ble_eq_true rfl) dX6_init_67 (fun H locs hPn hDn hSn => ?_)
  clear hP hD hS
  have hP : va_P (dC, dI) vwCl [(o, .inr (6, [.null, .null, .null, .null, .ref q_1, .ref q_3, .ref q_5, .ref q_7, .ref q_8, .ref q_9, .null, .int 0])), (q_1, .inr (5, [.ref ar_2, .int 0])), (ar_2, .inl (cI, 480, .inl (fun _ => 0))), (q_3, .inr (5, [.ref ar_4, .int 0])), (ar_4, .inl (cI, 300, .inl (fun _ => 0))), (q_5, .inr (5, [.ref ar_6, .int 0])), (ar_6, .inl (cI, 300, .inl (fun _ => 0))), (q_7, .inl (cI, 61, .inl (fun _ => 0))), (q_8, .inl (cI, 61, .inl (fun _ => 0))), (q_9, .inl (cI, 61, .inl (fun _ => 0)))] H := hPn
  have hD : va_D A [(o, .inr (6, [.null, .null, .null, .null, .ref q_1, .ref q_3, .ref q_5, .ref q_7, .ref q_8, .ref q_9, .null, .int 0])), (q_1, .inr (5, [.ref ar_2, .int 0])), (ar_2, .inl (cI, 480, .inl (fun _ => 0))), (q_3, .inr (5, [.ref ar_4, .int 0])), (ar_4, .inl (cI, 300, .inl (fun _ => 0))), (q_5, .inr (5, [.ref ar_6, .int 0])), (ar_6, .inl (cI, 300, .inl (fun _ => 0))), (q_7, .inl (cI, 61, .inl (fun _ => 0))), (q_8, .inl (cI, 61, .inl (fun _ => 0))), (q_9, .inl (cI, 61, .inl (fun _ => 0)))] := hDn
  have hS := hSn
  clear hPn hDn hSn
  refine lv_aload_n hx hb dX6_init_70 rfl (lv_at hl 0 rfl) ?_
  refine lv_bipush (v := 61) hx hb dX6_init_71 (by decide) ?_
  refine p_newint hx hb (hts (.arrayClass .int) (List.mem_of_getElem? (i := 10) rfl)) hK hP hD hS hA (n := 61) (N := 61) (by decide) (by decide) (by decide) (Nat.le_of_ble_eq_true rfl) (Nat.le_of_ble_eq_true rfl) dX6_init_73 (fun q_10 H hPn hDn hSn => ?_)
  clear hP hD hS
  have hP : va_P (dC, dI) vwCl [(o, .inr (6, [.null, .null, .null, .null, .ref q_1, .ref q_3, .ref q_5, .ref q_7, .ref q_8, .ref q_9, .null, .int 0])), (q_1, .inr (5, [.ref ar_2, .int 0])), (ar_2, .inl (cI, 480, .inl (fun _ => 0))), (q_3, .inr (5, [.ref ar_4, .int 0])), (ar_4, .inl (cI, 300, .inl (fun _ => 0))), (q_5, .inr (5, [.ref ar_6, .int 0])), (ar_6, .inl (cI, 300, .inl (fun _ => 0))), (q_7, .inl (cI, 61, .inl (fun _ => 0))), (q_8, .inl (cI, 61, .inl (fun _ => 0))), (q_9, .inl (cI, 61, .inl (fun _ => 0))), (q_10, .inl (cI, 61, .inl (fun _ => 0)))] H := hPn
  have hD : va_D A [(o, .inr (6, [.null, .null, .null, .null, .ref q_1, .ref q_3, .ref q_5, .ref q_7, .ref q_8, .ref q_9, .null, .int 0])), (q_1, .inr (5, [.ref ar_2, .int 0])), (ar_2, .inl (cI, 480, .inl (fun _ => 0))), (q_3, .inr (5, [.ref ar_4, .int 0])), (ar_4, .inl (cI, 300, .inl (fun _ => 0))), (q_5, .inr (5, [.ref ar_6, .int 0])), (ar_6, .inl (cI, 300, .inl (fun _ => 0))), (q_7, .inl (cI, 61, .inl (fun _ => 0))), (q_8, .inl (cI, 61, .inl (fun _ => 0))), (q_9, .inl (cI, 61, .inl (fun _ => 0))), (q_10, .inl (cI, 61, .inl (fun _ => 0)))] := hDn
  have hS := hSn
  clear hPn hDn hSn
  refine W.widen (k := 10) (n := 1330) (Nat.le_of_ble_eq_true rfl) (Nat.le_of_ble_eq_true rfl) ?_
  refine va_putF (D := (dC, dI)) (ci := 6) (v := .ref q_10) (ty := .array .int) (C := RX6) (T := TX6) (N := 12) hx hb hts in_X6 tyX6 tyX6_ok nmX6 hown hK hP hD hS 0 rfl rfl 10 (by decide) (hts (.fieldLink RX6 36 "TextMender$Parting" "harmOf" "[I") (List.mem_of_getElem? (i := 14) rfl)) (fun _ h9 => h9) rfl hin rfl (by decide +kernel) rfl rfl (Nat.le_of_ble_eq_true rfl) dX6_init_75 (fun H locs hPn hDn hSn => ?_)
  clear hP hD hS
  have hP : va_P (dC, dI) vwCl [(o, .inr (6, [.null, .null, .null, .null, .ref q_1, .ref q_3, .ref q_5, .ref q_7, .ref q_8, .ref q_9, .ref q_10, .int 0])), (q_1, .inr (5, [.ref ar_2, .int 0])), (ar_2, .inl (cI, 480, .inl (fun _ => 0))), (q_3, .inr (5, [.ref ar_4, .int 0])), (ar_4, .inl (cI, 300, .inl (fun _ => 0))), (q_5, .inr (5, [.ref ar_6, .int 0])), (ar_6, .inl (cI, 300, .inl (fun _ => 0))), (q_7, .inl (cI, 61, .inl (fun _ => 0))), (q_8, .inl (cI, 61, .inl (fun _ => 0))), (q_9, .inl (cI, 61, .inl (fun _ => 0))), (q_10, .inl (cI, 61, .inl (fun _ => 0)))] H := hPn
  have hD : va_D A [(o, .inr (6, [.null, .null, .null, .null, .ref q_1, .ref q_3, .ref q_5, .ref q_7, .ref q_8, .ref q_9, .ref q_10, .int 0])), (q_1, .inr (5, [.ref ar_2, .int 0])), (ar_2, .inl (cI, 480, .inl (fun _ => 0))), (q_3, .inr (5, [.ref ar_4, .int 0])), (ar_4, .inl (cI, 300, .inl (fun _ => 0))), (q_5, .inr (5, [.ref ar_6, .int 0])), (ar_6, .inl (cI, 300, .inl (fun _ => 0))), (q_7, .inl (cI, 61, .inl (fun _ => 0))), (q_8, .inl (cI, 61, .inl (fun _ => 0))), (q_9, .inl (cI, 61, .inl (fun _ => 0))), (q_10, .inl (cI, 61, .inl (fun _ => 0)))] := hDn
  have hS := hSn
  clear hPn hDn hSn
  refine lv_aload_n hx hb dX6_init_78 rfl (lv_at hl 0 rfl) ?_
  refine lv_aload_n hx hb dX6_init_79 rfl (lv_at hl 1 rfl) ?_
  refine va_putF (D := (dC, dI)) (ci := 6) (v := .ref oC) (ty := .object "TextMender$Codes") (C := RX6) (T := TX6) (N := 12) hx hb hts in_X6 tyX6 tyX6_ok nmX6 hown hK hP hD hS 0 rfl rfl 0 (by decide) (hts (.fieldLink RX6 39 "TextMender$Parting" "codes" "LTextMender$Codes;") (List.mem_of_getElem? (i := 15) rfl)) (fun _ h9 => h9) rfl hin rfl (by decide +kernel) rfl rfl (Nat.le_of_ble_eq_true rfl) dX6_init_80 (fun H locs hPn hDn hSn => ?_)
  clear hP hD hS
  have hP : va_P (dC, dI) vwCl [(o, .inr (6, [.ref oC, .null, .null, .null, .ref q_1, .ref q_3, .ref q_5, .ref q_7, .ref q_8, .ref q_9, .ref q_10, .int 0])), (q_1, .inr (5, [.ref ar_2, .int 0])), (ar_2, .inl (cI, 480, .inl (fun _ => 0))), (q_3, .inr (5, [.ref ar_4, .int 0])), (ar_4, .inl (cI, 300, .inl (fun _ => 0))), (q_5, .inr (5, [.ref ar_6, .int 0])), (ar_6, .inl (cI, 300, .inl (fun _ => 0))), (q_7, .inl (cI, 61, .inl (fun _ => 0))), (q_8, .inl (cI, 61, .inl (fun _ => 0))), (q_9, .inl (cI, 61, .inl (fun _ => 0))), (q_10, .inl (cI, 61, .inl (fun _ => 0)))] H := hPn
  have hD : va_D A [(o, .inr (6, [.ref oC, .null, .null, .null, .ref q_1, .ref q_3, .ref q_5, .ref q_7, .ref q_8, .ref q_9, .ref q_10, .int 0])), (q_1, .inr (5, [.ref ar_2, .int 0])), (ar_2, .inl (cI, 480, .inl (fun _ => 0))), (q_3, .inr (5, [.ref ar_4, .int 0])), (ar_4, .inl (cI, 300, .inl (fun _ => 0))), (q_5, .inr (5, [.ref ar_6, .int 0])), (ar_6, .inl (cI, 300, .inl (fun _ => 0))), (q_7, .inl (cI, 61, .inl (fun _ => 0))), (q_8, .inl (cI, 61, .inl (fun _ => 0))), (q_9, .inl (cI, 61, .inl (fun _ => 0))), (q_10, .inl (cI, 61, .inl (fun _ => 0)))] := hDn
  have hS := hSn
  clear hPn hDn hSn
  refine lv_aload_n hx hb dX6_init_83 rfl (lv_at hl 0 rfl) ?_
  refine lv_aload_n hx hb dX6_init_84 rfl (lv_at hl 2 rfl) ?_
  refine va_putF (D := (dC, dI)) (ci := 6) (v := .ref oH) (ty := .object "TextMender$Harms") (C := RX6) (T := TX6) (N := 12) hx hb hts in_X6 tyX6 tyX6_ok nmX6 hown hK hP hD hS 0 rfl rfl 1 (by decide) (hts (.fieldLink RX6 43 "TextMender$Parting" "harms" "LTextMender$Harms;") (List.mem_of_getElem? (i := 16) rfl)) (fun _ h9 => h9) rfl hin rfl (by decide +kernel) rfl rfl (Nat.le_of_ble_eq_true rfl) dX6_init_85 (fun H locs hPn hDn hSn => ?_)
  clear hP hD hS
  have hP : va_P (dC, dI) vwCl [(o, .inr (6, [.ref oC, .ref oH, .null, .null, .ref q_1, .ref q_3, .ref q_5, .ref q_7, .ref q_8, .ref q_9, .ref q_10, .int 0])), (q_1, .inr (5, [.ref ar_2, .int 0])), (ar_2, .inl (cI, 480, .inl (fun _ => 0))), (q_3, .inr (5, [.ref ar_4, .int 0])), (ar_4, .inl (cI, 300, .inl (fun _ => 0))), (q_5, .inr (5, [.ref ar_6, .int 0])), (ar_6, .inl (cI, 300, .inl (fun _ => 0))), (q_7, .inl (cI, 61, .inl (fun _ => 0))), (q_8, .inl (cI, 61, .inl (fun _ => 0))), (q_9, .inl (cI, 61, .inl (fun _ => 0))), (q_10, .inl (cI, 61, .inl (fun _ => 0)))] H := hPn
  have hD : va_D A [(o, .inr (6, [.ref oC, .ref oH, .null, .null, .ref q_1, .ref q_3, .ref q_5, .ref q_7, .ref q_8, .ref q_9, .ref q_10, .int 0])), (q_1, .inr (5, [.ref ar_2, .int 0])), (ar_2, .inl (cI, 480, .inl (fun _ => 0))), (q_3, .inr (5, [.ref ar_4, .int 0])), (ar_4, .inl (cI, 300, .inl (fun _ => 0))), (q_5, .inr (5, [.ref ar_6, .int 0])), (ar_6, .inl (cI, 300, .inl (fun _ => 0))), (q_7, .inl (cI, 61, .inl (fun _ => 0))), (q_8, .inl (cI, 61, .inl (fun _ => 0))), (q_9, .inl (cI, 61, .inl (fun _ => 0))), (q_10, .inl (cI, 61, .inl (fun _ => 0)))] := hDn
  have hS := hSn
  clear hPn hDn hSn
  refine lv_aload_n hx hb dX6_init_88 rfl (lv_at hl 0 rfl) ?_
  refine lv_aload_n hx hb dX6_init_89 rfl (lv_at hl 3 rfl) ?_
  refine va_putF (D := (dC, dI)) (ci := 6) (v := .ref oK) (ty := .object "TextMender$Costs") (C := RX6) (T := TX6) (N := 12) hx hb hts in_X6 tyX6 tyX6_ok nmX6 hown hK hP hD hS 0 rfl rfl 2 (by decide) (hts (.fieldLink RX6 47 "TextMender$Parting" "costs" "LTextMender$Costs;") (List.mem_of_getElem? (i := 17) rfl)) (fun _ h9 => h9) rfl hin rfl (by decide +kernel) rfl rfl (Nat.le_of_ble_eq_true rfl) dX6_init_90 (fun H locs hPn hDn hSn => ?_)
  clear hP hD hS
  have hP : va_P (dC, dI) vwCl [(o, .inr (6, [.ref oC, .ref oH, .ref oK, .null, .ref q_1, .ref q_3, .ref q_5, .ref q_7, .ref q_8, .ref q_9, .ref q_10, .int 0])), (q_1, .inr (5, [.ref ar_2, .int 0])), (ar_2, .inl (cI, 480, .inl (fun _ => 0))), (q_3, .inr (5, [.ref ar_4, .int 0])), (ar_4, .inl (cI, 300, .inl (fun _ => 0))), (q_5, .inr (5, [.ref ar_6, .int 0])), (ar_6, .inl (cI, 300, .inl (fun _ => 0))), (q_7, .inl (cI, 61, .inl (fun _ => 0))), (q_8, .inl (cI, 61, .inl (fun _ => 0))), (q_9, .inl (cI, 61, .inl (fun _ => 0))), (q_10, .inl (cI, 61, .inl (fun _ => 0)))] H := hPn
  have hD : va_D A [(o, .inr (6, [.ref oC, .ref oH, .ref oK, .null, .ref q_1, .ref q_3, .ref q_5, .ref q_7, .ref q_8, .ref q_9, .ref q_10, .int 0])), (q_1, .inr (5, [.ref ar_2, .int 0])), (ar_2, .inl (cI, 480, .inl (fun _ => 0))), (q_3, .inr (5, [.ref ar_4, .int 0])), (ar_4, .inl (cI, 300, .inl (fun _ => 0))), (q_5, .inr (5, [.ref ar_6, .int 0])), (ar_6, .inl (cI, 300, .inl (fun _ => 0))), (q_7, .inl (cI, 61, .inl (fun _ => 0))), (q_8, .inl (cI, 61, .inl (fun _ => 0))), (q_9, .inl (cI, 61, .inl (fun _ => 0))), (q_10, .inl (cI, 61, .inl (fun _ => 0)))] := hDn
  have hS := hSn
  clear hPn hDn hSn
  refine lv_aload_n hx hb dX6_init_93 rfl (lv_at hl 0 rfl) ?_
  refine va_new (ci := 8) (fs := [.null, .null, .int 0, .int 0, .int 0, .int 0]) (C := RX8) (T := TX8) (N := 6) hx hb hts in_X8 tyX8 tyX8_ok hown (hts (.classLink RX6 51 RX8) (List.mem_of_getElem? (i := 18) rfl)) (hts (.instantiable RX8 6) (List.mem_of_getElem? (i := 19) rfl)) (hts (.initialized RX8) (List.mem_of_getElem? (i := 20) rfl)) hK hP hD hS hA rfl (p_fsX8) (Nat.le_of_ble_eq_true rfl) (Nat.le_of_ble_eq_true rfl) dX6_init_94 (fun q_11 H hPn hDn hSn => ?_)
  clear hP hD hS
  have hP : va_P (dC, dI) vwCl [(o, .inr (6, [.ref oC, .ref oH, .ref oK, .null, .ref q_1, .ref q_3, .ref q_5, .ref q_7, .ref q_8, .ref q_9, .ref q_10, .int 0])), (q_1, .inr (5, [.ref ar_2, .int 0])), (ar_2, .inl (cI, 480, .inl (fun _ => 0))), (q_3, .inr (5, [.ref ar_4, .int 0])), (ar_4, .inl (cI, 300, .inl (fun _ => 0))), (q_5, .inr (5, [.ref ar_6, .int 0])), (ar_6, .inl (cI, 300, .inl (fun _ => 0))), (q_7, .inl (cI, 61, .inl (fun _ => 0))), (q_8, .inl (cI, 61, .inl (fun _ => 0))), (q_9, .inl (cI, 61, .inl (fun _ => 0))), (q_10, .inl (cI, 61, .inl (fun _ => 0))), (q_11, .inr (8, [.null, .null, .int 0, .int 0, .int 0, .int 0]))] H := hPn
  have hD : va_D A [(o, .inr (6, [.ref oC, .ref oH, .ref oK, .null, .ref q_1, .ref q_3, .ref q_5, .ref q_7, .ref q_8, .ref q_9, .ref q_10, .int 0])), (q_1, .inr (5, [.ref ar_2, .int 0])), (ar_2, .inl (cI, 480, .inl (fun _ => 0))), (q_3, .inr (5, [.ref ar_4, .int 0])), (ar_4, .inl (cI, 300, .inl (fun _ => 0))), (q_5, .inr (5, [.ref ar_6, .int 0])), (ar_6, .inl (cI, 300, .inl (fun _ => 0))), (q_7, .inl (cI, 61, .inl (fun _ => 0))), (q_8, .inl (cI, 61, .inl (fun _ => 0))), (q_9, .inl (cI, 61, .inl (fun _ => 0))), (q_10, .inl (cI, 61, .inl (fun _ => 0))), (q_11, .inr (8, [.null, .null, .int 0, .int 0, .int 0, .int 0]))] := hDn
  have hS := hSn
  clear hPn hDn hSn
  refine W.widen (k := 11) (n := 1336) (Nat.le_of_ble_eq_true rfl) (Nat.le_of_ble_eq_true rfl) ?_
  refine lv_dup hx hb dX6_init_97 rfl ?_
  refine lv_aload_n hx hb dX6_init_98 rfl (lv_at hl 1 rfl) ?_
  refine lv_aload_n hx hb dX6_init_99 rfl (lv_at hl 3 rfl) ?_
  have hPc := hP.sub (ws' := [(q_11, .inr (8, [.null, .null, .int 0, .int 0, .int 0, .int 0]))]) [11] rfl
  have hDc := hD.sub (ws' := [(q_11, .inr (8, [.null, .null, .int 0, .int 0, .int 0, .int 0]))]) [11] (by decide +kernel) rfl
  have hFc := va_free (wc := [(q_11, .inr (8, [.null, .null, .int 0, .int 0, .int 0, .int 0]))]) hD hS hA [11] rfl
  refine va_callv (va_runI (As := [.ref oC, .ref oK]) (rest := [.ref q_11, .ref o]) ⟨hx, hb, hml, hown, hts⟩ (k_X8_init l dC dI cI cS H.size q_11 oC oK ) (cwI 2 hts gX6_init_X8_init rfl rfl rfl (hts (.initialized RX8) (List.mem_of_getElem? (i := 20) rfl)) (hts (.methodLink RX6 53 yX8_init) (List.mem_of_getElem? (i := 33) rfl)) (hts (.instanceMethod yX8_init) (List.mem_of_getElem? (i := 34) rfl)) rfl (by decide +kernel) ⟨Nat.le_of_ble_eq_true rfl, Nat.le_of_ble_eq_true rfl⟩) ⟨fun a U g mk q => by obtain ⟨q0, q1, qP, qK, qD⟩ := q; exact ⟨q0, q1, qP, va_K.moved (u := U) (U := U.calling g mk a) (Vm.Alike.refl U.vm) qK, qD⟩, fun U hU hW => ⟨rfl, by rw [hU], by rw [hU]; exact hPc, va_K.moved hW.alike hK, hDc.weaken (fun _ _ _ _ => trivial)⟩⟩ rfl rfl hl.1 rfl (lv_room (Nat.le_of_ble_eq_true rfl)) dX6_init_100 ⟨Nat.le_of_ble_eq_true rfl, Nat.le_of_ble_eq_true rfl⟩) hS (fun q _ h => hFc q h) hFc (fun u t H1 locs ht hvm hw hB hz1 hk1 hSn => ?_)
  obtain ⟨hP1, hD1⟩ := hB
  rw [ht] at hP1
  obtain ⟨hPn, hDn⟩ := va_join (wr := [(o, .inr (6, [.ref oC, .ref oH, .ref oK, .null, .ref q_1, .ref q_3, .ref q_5, .ref q_7, .ref q_8, .ref q_9, .ref q_10, .int 0])), (q_1, .inr (5, [.ref ar_2, .int 0])), (ar_2, .inl (cI, 480, .inl (fun _ => 0))), (q_3, .inr (5, [.ref ar_4, .int 0])), (ar_4, .inl (cI, 300, .inl (fun _ => 0))), (q_5, .inr (5, [.ref ar_6, .int 0])), (ar_6, .inl (cI, 300, .inl (fun _ => 0))), (q_7, .inl (cI, 61, .inl (fun _ => 0))), (q_8, .inl (cI, 61, .inl (fun _ => 0))), (q_9, .inl (cI, 61, .inl (fun _ => 0))), (q_10, .inl (cI, 61, .inl (fun _ => 0)))]) (w1 := [(q_11, .inr (8, [.ref oC, .ref oK, .int 0, .int 32, .int 0, .int 0]))]) hP hD [11] [0, 1, 2, 3, 4, 5, 6, 7, 8, 9, 10] rfl rfl (by decide +kernel) (by decide +kernel) hk1 hFc hP1 hD1
  clear hP hD hS hPc hDc hFc hk1 hz1 hvm ht hP1 hD1
  generalize H1 = H at hPn hSn ⊢
  have hP : va_P (dC, dI) vwCl [(o, .inr (6, [.ref oC, .ref oH, .ref oK, .null, .ref q_1, .ref q_3, .ref q_5, .ref q_7, .ref q_8, .ref q_9, .ref q_10, .int 0])), (q_1, .inr (5, [.ref ar_2, .int 0])), (ar_2, .inl (cI, 480, .inl (fun _ => 0))), (q_3, .inr (5, [.ref ar_4, .int 0])), (ar_4, .inl (cI, 300, .inl (fun _ => 0))), (q_5, .inr (5, [.ref ar_6, .int 0])), (ar_6, .inl (cI, 300, .inl (fun _ => 0))), (q_7, .inl (cI, 61, .inl (fun _ => 0))), (q_8, .inl (cI, 61, .inl (fun _ => 0))), (q_9, .inl (cI, 61, .inl (fun _ => 0))), (q_10, .inl (cI, 61, .inl (fun _ => 0))), (q_11, .inr (8, [.ref oC, .ref oK, .int 0, .int 32, .int 0, .int 0]))] H := hPn
  have hD : va_D A [(o, .inr (6, [.ref oC, .ref oH, .ref oK, .null, .ref q_1, .ref q_3, .ref q_5, .ref q_7, .ref q_8, .ref q_9, .ref q_10, .int 0])), (q_1, .inr (5, [.ref ar_2, .int 0])), (ar_2, .inl (cI, 480, .inl (fun _ => 0))), (q_3, .inr (5, [.ref ar_4, .int 0])), (ar_4, .inl (cI, 300, .inl (fun _ => 0))), (q_5, .inr (5, [.ref ar_6, .int 0])), (ar_6, .inl (cI, 300, .inl (fun _ => 0))), (q_7, .inl (cI, 61, .inl (fun _ => 0))), (q_8, .inl (cI, 61, .inl (fun _ => 0))), (q_9, .inl (cI, 61, .inl (fun _ => 0))), (q_10, .inl (cI, 61, .inl (fun _ => 0))), (q_11, .inr (8, [.ref oC, .ref oK, .int 0, .int 32, .int 0, .int 0]))] := hDn
  have hS := hSn
  clear hPn hDn hSn
  refine va_putF (D := (dC, dI)) (ci := 6) (v := .ref q_11) (ty := .object "TextMender$Reading") (C := RX6) (T := TX6) (N := 12) hx hb hts in_X6 tyX6 tyX6_ok nmX6 hown hK hP hD hS 0 rfl rfl 3 (by decide) (hts (.fieldLink RX6 56 "TextMender$Parting" "reading" "LTextMender$Reading;") (List.mem_of_getElem? (i := 21) rfl)) (fun _ h9 => h9) rfl hin rfl (by decide +kernel) rfl rfl (Nat.le_of_ble_eq_true rfl) dX6_init_103 (fun H locs hPn hDn hSn => ?_)
  clear hP hD hS
  have hP : va_P (dC, dI) vwCl [(o, .inr (6, [.ref oC, .ref oH, .ref oK, .ref q_11, .ref q_1, .ref q_3, .ref q_5, .ref q_7, .ref q_8, .ref q_9, .ref q_10, .int 0])), (q_1, .inr (5, [.ref ar_2, .int 0])), (ar_2, .inl (cI, 480, .inl (fun _ => 0))), (q_3, .inr (5, [.ref ar_4, .int 0])), (ar_4, .inl (cI, 300, .inl (fun _ => 0))), (q_5, .inr (5, [.ref ar_6, .int 0])), (ar_6, .inl (cI, 300, .inl (fun _ => 0))), (q_7, .inl (cI, 61, .inl (fun _ => 0))), (q_8, .inl (cI, 61, .inl (fun _ => 0))), (q_9, .inl (cI, 61, .inl (fun _ => 0))), (q_10, .inl (cI, 61, .inl (fun _ => 0))), (q_11, .inr (8, [.ref oC, .ref oK, .int 0, .int 32, .int 0, .int 0]))] H := hPn
  have hD : va_D A [(o, .inr (6, [.ref oC, .ref oH, .ref oK, .ref q_11, .ref q_1, .ref q_3, .ref q_5, .ref q_7, .ref q_8, .ref q_9, .ref q_10, .int 0])), (q_1, .inr (5, [.ref ar_2, .int 0])), (ar_2, .inl (cI, 480, .inl (fun _ => 0))), (q_3, .inr (5, [.ref ar_4, .int 0])), (ar_4, .inl (cI, 300, .inl (fun _ => 0))), (q_5, .inr (5, [.ref ar_6, .int 0])), (ar_6, .inl (cI, 300, .inl (fun _ => 0))), (q_7, .inl (cI, 61, .inl (fun _ => 0))), (q_8, .inl (cI, 61, .inl (fun _ => 0))), (q_9, .inl (cI, 61, .inl (fun _ => 0))), (q_10, .inl (cI, 61, .inl (fun _ => 0))), (q_11, .inr (8, [.ref oC, .ref oK, .int 0, .int 32, .int 0, .int 0]))] := hDn
  have hS := hSn
  clear hPn hDn hSn
  refine lv_aload_n hx hb dX6_init_106 rfl (lv_at hl 0 rfl) ?_
  refine lv_iconst (v := 0) hx hb dX6_init_107 (by decide) ?_
  refine va_put (D := (dC, dI)) (ci := 6) (v := .int 0) (ty := .int) (C := RX6) (T := TX6) (N := 12) hx hb hts in_X6 tyX6 tyX6_ok nmX6 hown hK hP hD hS 0 rfl rfl 11 (by decide) (hts (.fieldLink RX6 60 "TextMender$Parting" "price" "I") (List.mem_of_getElem? (i := 22) rfl)) (fun _ h9 => h9) rfl (by decide +kernel) rfl rfl (Nat.le_of_ble_eq_true rfl) dX6_init_108 (fun H locs hPn hDn hSn => ?_)
  clear hP hD hS
  have hP : va_P (dC, dI) vwCl [(o, .inr (6, [.ref oC, .ref oH, .ref oK, .ref q_11, .ref q_1, .ref q_3, .ref q_5, .ref q_7, .ref q_8, .ref q_9, .ref q_10, .int 0])), (q_1, .inr (5, [.ref ar_2, .int 0])), (ar_2, .inl (cI, 480, .inl (fun _ => 0))), (q_3, .inr (5, [.ref ar_4, .int 0])), (ar_4, .inl (cI, 300, .inl (fun _ => 0))), (q_5, .inr (5, [.ref ar_6, .int 0])), (ar_6, .inl (cI, 300, .inl (fun _ => 0))), (q_7, .inl (cI, 61, .inl (fun _ => 0))), (q_8, .inl (cI, 61, .inl (fun _ => 0))), (q_9, .inl (cI, 61, .inl (fun _ => 0))), (q_10, .inl (cI, 61, .inl (fun _ => 0))), (q_11, .inr (8, [.ref oC, .ref oK, .int 0, .int 32, .int 0, .int 0]))] H := hPn
  have hD : va_D A [(o, .inr (6, [.ref oC, .ref oH, .ref oK, .ref q_11, .ref q_1, .ref q_3, .ref q_5, .ref q_7, .ref q_8, .ref q_9, .ref q_10, .int 0])), (q_1, .inr (5, [.ref ar_2, .int 0])), (ar_2, .inl (cI, 480, .inl (fun _ => 0))), (q_3, .inr (5, [.ref ar_4, .int 0])), (ar_4, .inl (cI, 300, .inl (fun _ => 0))), (q_5, .inr (5, [.ref ar_6, .int 0])), (ar_6, .inl (cI, 300, .inl (fun _ => 0))), (q_7, .inl (cI, 61, .inl (fun _ => 0))), (q_8, .inl (cI, 61, .inl (fun _ => 0))), (q_9, .inl (cI, 61, .inl (fun _ => 0))), (q_10, .inl (cI, 61, .inl (fun _ => 0))), (q_11, .inr (8, [.ref oC, .ref oK, .int 0, .int 32, .int 0, .int 0]))] := hDn
  have hS := hSn
  clear hPn hDn hSn
  have hP9 := hP.sub (ws' := [(o, .inr (6, [.ref oC, .ref oH, .ref oK, .ref q_11, .ref q_1, .ref q_3, .ref q_5, .ref q_7, .ref q_8, .ref q_9, .ref q_10, .int 0])), (q_11, .inr (8, [.ref oC, .ref oK, .int 0, .int 32, .int 0, .int 0])), (q_1, .inr (5, [.ref ar_2, .int 0])), (ar_2, .inl (cI, 480, .inl (fun _ => 0))), (q_3, .inr (5, [.ref ar_4, .int 0])), (ar_4, .inl (cI, 300, .inl (fun _ => 0))), (q_5, .inr (5, [.ref ar_6, .int 0])), (ar_6, .inl (cI, 300, .inl (fun _ => 0))), (q_7, .inl (cI, 61, .inl (fun _ => 0))), (q_8, .inl (cI, 61, .inl (fun _ => 0))), (q_9, .inl (cI, 61, .inl (fun _ => 0))), (q_10, .inl (cI, 61, .inl (fun _ => 0)))]) [0, 11, 1, 2, 3, 4, 5, 6, 7, 8, 9, 10] rfl
  have hD9 := hD.sub (ws' := [(o, .inr (6, [.ref oC, .ref oH, .ref oK, .ref q_11, .ref q_1, .ref q_3, .ref q_5, .ref q_7, .ref q_8, .ref q_9, .ref q_10, .int 0])), (q_11, .inr (8, [.ref oC, .ref oK, .int 0, .int 32, .int 0, .int 0])), (q_1, .inr (5, [.ref ar_2, .int 0])), (ar_2, .inl (cI, 480, .inl (fun _ => 0))), (q_3, .inr (5, [.ref ar_4, .int 0])), (ar_4, .inl (cI, 300, .inl (fun _ => 0))), (q_5, .inr (5, [.ref ar_6, .int 0])), (ar_6, .inl (cI, 300, .inl (fun _ => 0))), (q_7, .inl (cI, 61, .inl (fun _ => 0))), (q_8, .inl (cI, 61, .inl (fun _ => 0))), (q_9, .inl (cI, 61, .inl (fun _ => 0))), (q_10, .inl (cI, 61, .inl (fun _ => 0)))]) [0, 11, 1, 2, 3, 4, 5, 6, 7, 8, 9, 10] (by decide +kernel) rfl
  refine W.widen (k := 11) (n := 1336) (by omega) (by omega) ?_
  exact W.vret hx hb hr (fun t ht hW => ⟨⟨(), rfl, trivial, q_11, q_1, ar_2, q_3, ar_4, q_5, ar_6, q_7, q_8, q_9, q_10, by rw [ht]; exact hP9, hD9⟩, hS.F ht⟩) (hS.2.2) dX6_init_111

set_option maxHeartbeats 4000000 in
set_option maxRecDepth 100000 in
theorem k_X1_init (l : Launch) (dC : Nat → ClassId) (dI : Nat → Nat → Nat) (cI cS : ClassId) (sz : Nat) (o : Nat) (oC : Nat) (oK : Nat)  : Met l yX1_init wsX1_init ({ frames := 2, cells := 12, slots := 4023, locals := 42 } : Room) (va_Pc [.ref o, .ref oC, .ref oK] (fun U => U.heap.size = sz ∧ va_P (dC, dI) vwCl [(o, .inr (1, [.null, .null, .null, .null, .null, .null, .null, .null, .null, .null, .null, .null, .null, .int 0, .int 0, .int 0, .int 0, .int 0, .int 0, .int 0]))] U.heap ∧ va_K (dC, dI) vwCl [(cI, .int), (cS, .short)] U ∧ va_D (fun _ => True) [(o, .inr (1, [.null, .null, .null, .null, .null, .null, .null, .null, .null, .null, .null, .null, .null, .int 0, .int 0, .int 0, .int 0, .int 0, .int 0, .int 0]))])) (va_Qv (fun (_ : Unit) => True) (fun _ t => ∃ (nw : Nat) (aw : Nat) (o7 : Nat) (o8 : Nat) (o9 : Nat) (w1 : Nat) (w2 : Nat) (w3 : Nat) (w4 : Nat) (w5 : Nat) (w6 : Nat) (w7 : Nat), va_P (dC, dI) vwCl [(o, .inr (1, [.ref oC, .ref oK, .ref nw, .ref w1, .ref w2, .ref w3, .ref o7, .ref o8, .ref o9, .ref w4, .ref w5, .ref w6, .ref w7, .int 0, .int 0, .int 0, .int (-1), .int (-1), .int (-1), .int (-1)])), (nw, .inr (5, [.ref aw, .int 0])), (aw, .inl (cI, 800, .inl (fun _ => 0))), (o7, .inr (8, [.ref oC, .ref oK, .int 0, .int 32, .int 0, .int 0])), (o8, .inr (8, [.ref oC, .ref oK, .int 0, .int 32, .int 0, .int 0])), (o9, .inr (8, [.ref oC, .ref oK, .int 0, .int 32, .int 0, .int 0])), (w1, .inl (cI, 801, .inl (fun _ => 0))), (w2, .inl (cI, 801, .inl (fun _ => 0))), (w3, .inl (cI, 801, .inl (fun _ => 0))), (w4, .inl (cI, 200, .inl (fun _ => 0))), (w5, .inl (cI, 200, .inl (fun _ => 0))), (w6, .inl (cI, 200, .inl (fun _ => 0))), (w7, .inl (cI, 200, .inl (fun _ => 0)))] t.heap ∧ va_D (va_A [(o, .inr (1, [.null, .null, .null, .null, .null, .null, .null, .null, .null, .null, .null, .null, .null, .int 0, .int 0, .int 0, .int 0, .int 0, .int 0, .int 0]))] sz) [(o, .inr (1, [.ref oC, .ref oK, .ref nw, .ref w1, .ref w2, .ref w3, .ref o7, .ref o8, .ref o9, .ref w4, .ref w5, .ref w6, .ref w7, .int 0, .int 0, .int 0, .int (-1), .int (-1), .int (-1), .int (-1)])), (nw, .inr (5, [.ref aw, .int 0])), (aw, .inl (cI, 800, .inl (fun _ => 0))), (o7, .inr (8, [.ref oC, .ref oK, .int 0, .int 32, .int 0, .int 0])), (o8, .inr (8, [.ref oC, .ref oK, .int 0, .int 32, .int 0, .int 0])), (o9, .inr (8, [.ref oC, .ref oK, .int 0, .int 32, .int 0, .int 0])), (w1, .inl (cI, 801, .inl (fun _ => 0))), (w2, .inl (cI, 801, .inl (fun _ => 0))), (w3, .inl (cI, 801, .inl (fun _ => 0))), (w4, .inl (cI, 200, .inl (fun _ => 0))), (w5, .inl (cI, 200, .inl (fun _ => 0))), (w6, .inl (cI, 200, .inl (fun _ => 0))), (w7, .inl (cI, 200, .inl (fun _ => 0)))]) (va_A [(o, .inr (1, [.null, .null, .null, .null, .null, .null, .null, .null, .null, .null, .null, .null, .null, .int 0, .int 0, .int 0, .int 0, .int 0, .int 0, .int 0]))] sz)) 12 4023 (va_A [(o, .inr (1, [.null, .null, .null, .null, .null, .null, .null, .null, .null, .null, .null, .null, .null, .int 0, .int 0, .int 0, .int 0, .int 0, .int 0, .int 0]))] sz) := by
  refine Met.ofW (cc := cX1_init) (maxL := 3) (ret := none) (by decide) rfl ?_
  intro p e s m args below meth c s₁ B hml hv
  obtain ⟨rfl, hsz, hP, hK, hD0⟩ := hv
  have hx := B.exec
  have hb := B.bytes
  have hr := B.returns
  have hts := atoms_spec (ws := wsX1_init) B.pre
  have hown : s.vm.findClass RX1 = some m.cls := findClass_of_methodNamed B.named
  have hlocks := B.notSynchronized
  have hin : meth.name = "<init>" := (name_of_methodNamed B.named B.method).1
  have in_X1 : ∀ w ∈ wsX10, w ∈ wsX1_init := fun _ h => List.mem_cons_of_mem _ (List.mem_append_left _ (List.mem_append_right _ (h)))
  have in_X5 : ∀ w ∈ wsX50, w ∈ wsX1_init := fun _ h => List.mem_cons_of_mem _ (List.mem_append_left _ (List.mem_append_left _ (List.mem_append_right _ (h))))
  have in_X8 : ∀ w ∈ wsX80, w ∈ wsX1_init := fun _ h => List.mem_cons_of_mem _ (List.mem_append_right _ (h))
  subst hsz
  have hD := hD0.self (sz := s.heap.size)
  generalize hAe : va_A [(o, .inr (1, [.null, .null, .null, .null, .null, .null, .null, .null, .null, .null, .null, .null, .null, .int 0, .int 0, .int 0, .int 0, .int 0, .int 0, .int 0]))] s.heap.size = A at hD ⊢
  have hA : ∀ q : Nat, s.heap.size ≤ q → A q := fun q h => by rw [← hAe]; exact Or.inr h
  have hS : va_S A s.heap s.heap [] := va_S.rf
  have hP : va_P (dC, dI) vwCl [(o, .inr (1, [.null, .null, .null, .null, .null, .null, .null, .null, .null, .null, .null, .null, .null, .int 0, .int 0, .int 0, .int 0, .int 0, .int 0, .int 0]))] s.heap := hP
  have hl := lv_entry ([.ref o, .ref oC, .ref oK]) (n := 3) (Nat.le_of_ble_eq_true rfl)
  rw [lg_entry_eq]
  generalize (lg_sl ([.ref o, .ref oC, .ref oK]) ++ List.replicate (3 - (lg_sl ([.ref o, .ref oC, .ref oK])).length) Slot.unset).toArray = ls at hl ⊢
  have hl : lv_has ls 3 [(0, .ref o), (1, .ref oC), (2, .ref oK)] := hl
  refine lv_aload_n hx hb dX1_init_0 rfl (lv_at hl 0 rfl) ?_
  refine W.objInit hx hb hown (hts (.methodLink RX1 3 objectInit) (List.mem_of_getElem? (i := 1) rfl)) (hts (.instanceMethod objectInit) (List.mem_of_getElem? (i := 2) rfl)) (hts (.code objectInit ⟨#[0xb1]⟩ 1 none) (List.mem_of_getElem? (i := 3) rfl)) rfl (by rw [hml]; exact hl.1) rfl dX1_init_1 (Nat.le_of_ble_eq_true rfl) (Nat.le_of_ble_eq_true rfl) ?_
  refine W.eq (g2 := F0 m 4 ls []) rfl ?_
  refine lv_aload_n hx hb dX1_init_4 rfl (lv_at hl 0 rfl) ?_
  refine va_new (ci := 5) (fs := [.null, .int 0]) (C := RX5) (T := TX5) (N := 2) hx hb hts in_X5 tyX5 tyX5_ok hown (hts (.classLink RX1 9 RX5) (List.mem_of_getElem? (i := 4) rfl)) (hts (.instantiable RX5 2) (List.mem_of_getElem? (i := 5) rfl)) (hts (.initialized RX5) (List.mem_of_getElem? (i := 6) rfl)) hK hP hD hS hA rfl (p_fsX5) (Nat.le_of_ble_eq_true rfl) (Nat.le_of_ble_eq_true rfl) dX1_init_5 (fun q_1 H hPn hDn hSn => ?_)
  clear hP hD hS
  have hP : va_P (dC, dI) vwCl [(o, .inr (1, [.null, .null, .null, .null, .null, .null, .null, .null, .null, .null, .null, .null, .null, .int 0, .int 0, .int 0, .int 0, .int 0, .int 0, .int 0])), (q_1, .inr (5, [.null, .int 0]))] H := hPn
  have hD : va_D A [(o, .inr (1, [.null, .null, .null, .null, .null, .null, .null, .null, .null, .null, .null, .null, .null, .int 0, .int 0, .int 0, .int 0, .int 0, .int 0, .int 0])), (q_1, .inr (5, [.null, .int 0]))] := hDn
  have hS := hSn
  clear hPn hDn hSn
  refine W.widen (k := 1) (n := 2) (Nat.le_of_ble_eq_true rfl) (Nat.le_of_ble_eq_true rfl) ?_
  refine lv_dup hx hb dX1_init_8 rfl ?_
  refine lv_sipush (v := 800) hx hb dX1_init_9 (by decide) ?_
  have hPc := hP.sub (ws' := [(q_1, .inr (5, [.null, .int 0]))]) [1] rfl
  have hDc := hD.sub (ws' := [(q_1, .inr (5, [.null, .int 0]))]) [1] (by decide +kernel) rfl
  have hFc := va_free (wc := [(q_1, .inr (5, [.null, .int 0]))]) hD hS hA [1] rfl
  refine va_callv (va_runI (As := [.int 800]) (rest := [.ref q_1, .ref o]) ⟨hx, hb, hml, hown, hts⟩ (k_X5_init l dC dI cI cS H.size q_1 800 800 (by decide) (by decide) (by decide)) (cwI 1 hts gX1_init_X5_init rfl rfl rfl (hts (.initialized RX5) (List.mem_of_getElem? (i := 6) rfl)) (hts (.methodLink RX1 13 yX5_init) (List.mem_of_getElem? (i := 31) rfl)) (hts (.instanceMethod yX5_init) (List.mem_of_getElem? (i := 32) rfl)) rfl (by decide +kernel) ⟨Nat.le_of_ble_eq_true rfl, Nat.le_of_ble_eq_true rfl⟩) ⟨fun a U g mk q => by obtain ⟨q0, q1, qP, qK, qD⟩ := q; exact ⟨q0, q1, qP, va_K.moved (u := U) (U := U.calling g mk a) (Vm.Alike.refl U.vm) qK, qD⟩, fun U hU hW => ⟨rfl, by rw [hU], by rw [hU]; exact hPc, va_K.moved hW.alike hK, hDc.weaken (fun _ _ _ _ => trivial)⟩⟩ rfl rfl hl.1 rfl (lv_room (Nat.le_of_ble_eq_true rfl)) dX1_init_12 ⟨Nat.le_of_ble_eq_true rfl, Nat.le_of_ble_eq_true rfl⟩) hS (fun q _ h => hFc q h) hFc (fun u t H1 locs ht hvm hw hB hz1 hk1 hSn => ?_)
  obtain ⟨ar_2, hP1, hD1⟩ := hB
  rw [ht] at hP1
  obtain ⟨hPn, hDn⟩ := va_join (wr := [(o, .inr (1, [.null, .null, .null, .null, .null, .null, .null, .null, .null, .null, .null, .null, .null, .int 0, .int 0, .int 0, .int 0, .int 0, .int 0, .int 0]))]) (w1 := [(q_1, .inr (5, [.ref ar_2, .int 0])), (ar_2, .inl (cI, 800, .inl (fun _ => 0)))]) hP hD [1] [0] rfl rfl (by decide +kernel) (by decide +kernel) hk1 hFc hP1 hD1
  clear hP hD hS hPc hDc hFc hk1 hz1 hvm ht hP1 hD1
  generalize H1 = H at hPn hSn ⊢
  have hP : va_P (dC, dI) vwCl [(o, .inr (1, [.null, .null, .null, .null, .null, .null, .null, .null, .null, .null, .null, .null, .null, .int 0, .int 0, .int 0, .int 0, .int 0, .int 0, .int 0])), (q_1, .inr (5, [.ref ar_2, .int 0])), (ar_2, .inl (cI, 800, .inl (fun _ => 0)))] H := hPn
  have hD : va_D A [(o, .inr (1, [.null, .null, .null, .null, .null, .null, .null, .null, .null, .null, .null, .null, .null, .int 0, .int 0, .int 0, .int 0, .int 0, .int 0, .int 0])), (q_1, .inr (5, [.ref ar_2, .int 0])), (ar_2, .inl (cI, 800, .inl (fun _ => 0)))] := hDn
  have hS := hSn
  clear hPn hDn hSn
  refine W.widen (k := 2) (n := 802) (Nat.le_of_ble_eq_true rfl) (Nat.le_of_ble_eq_true rfl) ?_
  refine va_putF (D := (dC, dI)) (ci := 1) (v := .ref q_1) (ty := .object "TextMender$Numbers") (C := RX1) (T := TX1) (N := 20) hx hb hts in_X1 tyX1 tyX1_ok nmX1 hown hK hP hD hS 0 rfl rfl 2 (by decide) (hts (.fieldLink RX1 16 "TextMender$Choices" "bytes" "LTextMender$Numbers;") (List.mem_of_getElem? (i := 7) rfl)) (fun _ h9 => h9) rfl hin rfl (by decide +kernel) rfl rfl (Nat.le_of_ble_eq_true rfl) dX1_init_15 (fun H locs hPn hDn hSn => ?_)
  clear hP hD hS
  have hP : va_P (dC, dI) vwCl [(o, .inr (1, [.null, .null, .ref q_1, .null, .null, .null, .null, .null, .null, .null, .null, .null, .null, .int 0, .int 0, .int 0, .int 0, .int 0, .int 0, .int 0])), (q_1, .inr (5, [.ref ar_2, .int 0])), (ar_2, .inl (cI, 800, .inl (fun _ => 0)))] H := hPn
  have hD : va_D A [(o, .inr (1, [.null, .null, .ref q_1, .null, .null, .null, .null, .null, .null, .null, .null, .null, .null, .int 0, .int 0, .int 0, .int 0, .int 0, .int 0, .int 0])), (q_1, .inr (5, [.ref ar_2, .int 0])), (ar_2, .inl (cI, 800, .inl (fun _ => 0)))] := hDn
  have hS := hSn
  clear hPn hDn hSn
  refine lv_aload_n hx hb dX1_init_18 rfl (lv_at hl 0 rfl) ?_
  refine lv_sipush (v := 801) hx hb dX1_init_19 (by decide) ?_
  refine p_newint hx hb (hts (.arrayClass .int) (List.mem_of_getElem? (i := 8) rfl)) hK hP hD hS hA (n := 801) (N := 801) (by decide) (by decide) (by decide) (Nat.le_of_ble_eq_true rfl) (Nat.le_of_ble_eq_true rfl) dX1_init_22 (fun q_3 H hPn hDn hSn => ?_)
  clear hP hD hS
  have hP : va_P (dC, dI) vwCl [(o, .inr (1, [.null, .null, .ref q_1, .null, .null, .null, .null, .null, .null, .null, .null, .null, .null, .int 0, .int 0, .int 0, .int 0, .int 0, .int 0, .int 0])), (q_1, .inr (5, [.ref ar_2, .int 0])), (ar_2, .inl (cI, 800, .inl (fun _ => 0))), (q_3, .inl (cI, 801, .inl (fun _ => 0)))] H := hPn
  have hD : va_D A [(o, .inr (1, [.null, .null, .ref q_1, .null, .null, .null, .null, .null, .null, .null, .null, .null, .null, .int 0, .int 0, .int 0, .int 0, .int 0, .int 0, .int 0])), (q_1, .inr (5, [.ref ar_2, .int 0])), (ar_2, .inl (cI, 800, .inl (fun _ => 0))), (q_3, .inl (cI, 801, .inl (fun _ => 0)))] := hDn
  have hS := hSn
  clear hPn hDn hSn
  refine W.widen (k := 3) (n := 1603) (Nat.le_of_ble_eq_true rfl) (Nat.le_of_ble_eq_true rfl) ?_
  refine va_putF (D := (dC, dI)) (ci := 1) (v := .ref q_3) (ty := .array .int) (C := RX1) (T := TX1) (N := 20) hx hb hts in_X1 tyX1 tyX1_ok nmX1 hown hK hP hD hS 0 rfl rfl 3 (by decide) (hts (.fieldLink RX1 20 "TextMender$Choices" "tailFirst" "[I") (List.mem_of_getElem? (i := 9) rfl)) (fun _ h9 => h9) rfl hin rfl (by decide +kernel) rfl rfl (Nat.le_of_ble_eq_true rfl) dX1_init_24 (fun H locs hPn hDn hSn => ?_)
  clear hP hD hS
  have hP : va_P (dC, dI) vwCl [(o, .inr (1, [.null, .null, .ref q_1, .ref q_3, .null, .null, .null, .null, .null, .null, .null, .null, .null, .int 0, .int 0, .int 0, .int 0, .int 0, .int 0, .int 0])), (q_1, .inr (5, [.ref ar_2, .int 0])), (ar_2, .inl (cI, 800, .inl (fun _ => 0))), (q_3, .inl (cI, 801, .inl (fun _ => 0)))] H := hPn
  have hD : va_D A [(o, .inr (1, [.null, .null, .ref q_1, .ref q_3, .null, .null, .null, .null, .null, .null, .null, .null, .null, .int 0, .int 0, .int 0, .int 0, .int 0, .int 0, .int 0])), (q_1, .inr (5, [.ref ar_2, .int 0])), (ar_2, .inl (cI, 800, .inl (fun _ => 0))), (q_3, .inl (cI, 801, .inl (fun _ => 0)))] := hDn
  have hS := hSn
  clear hPn hDn hSn
  refine lv_aload_n hx hb dX1_init_27 rfl (lv_at hl 0 rfl) ?_
  refine lv_sipush (v := 801) hx hb dX1_init_28 (by decide) ?_
  refine p_newint hx hb (hts (.arrayClass .int) (List.mem_of_getElem? (i := 8) rfl)) hK hP hD hS hA (n := 801) (N := 801) (by decide) (by decide) (by decide) (Nat.le_of_ble_eq_true rfl) (Nat.le_of_ble_eq_true rfl) dX1_init_31 (fun q_4 H hPn hDn hSn => ?_)
  clear hP hD hS
  have hP : va_P (dC, dI) vwCl [(o, .inr (1, [.null, .null, .ref q_1, .ref q_3, .null, .null, .null, .null, .null, .null, .null, .null, .null, .int 0, .int 0, .int 0, .int 0, .int 0, .int 0, .int 0])), (q_1, .inr (5, [.ref ar_2, .int 0])), (ar_2, .inl (cI, 800, .inl (fun _ => 0))), (q_3, .inl (cI, 801, .inl (fun _ => 0))), (q_4, .inl (cI, 801, .inl (fun _ => 0)))] H := hPn
  have hD : va_D A [(o, .inr (1, [.null, .null, .ref q_1, .ref q_3, .null, .null, .null, .null, .null, .null, .null, .null, .null, .int 0, .int 0, .int 0, .int 0, .int 0, .int 0, .int 0])), (q_1, .inr (5, [.ref ar_2, .int 0])), (ar_2, .inl (cI, 800, .inl (fun _ => 0))), (q_3, .inl (cI, 801, .inl (fun _ => 0))), (q_4, .inl (cI, 801, .inl (fun _ => 0)))] := hDn
  have hS := hSn
  clear hPn hDn hSn
  refine W.widen (k := 4) (n := 2404) (Nat.le_of_ble_eq_true rfl) (Nat.le_of_ble_eq_true rfl) ?_
  refine va_putF (D := (dC, dI)) (ci := 1) (v := .ref q_4) (ty := .array .int) (C := RX1) (T := TX1) (N := 20) hx hb hts in_X1 tyX1 tyX1_ok nmX1 hown hK hP hD hS 0 rfl rfl 4 (by decide) (hts (.fieldLink RX1 24 "TextMender$Choices" "tailSum" "[I") (List.mem_of_getElem? (i := 10) rfl)) (fun _ h9 => h9) rfl hin rfl (by decide +kernel) rfl rfl (Nat.le_of_ble_eq_true rfl) dX1_init_33 (fun H locs hPn hDn hSn => ?_)
  clear hP hD hS
  have hP : va_P (dC, dI) vwCl [(o, .inr (1, [.null, .null, .ref q_1, .ref q_3, .ref q_4, .null, .null, .null, .null, .null, .null, .null, .null, .int 0, .int 0, .int 0, .int 0, .int 0, .int 0, .int 0])), (q_1, .inr (5, [.ref ar_2, .int 0])), (ar_2, .inl (cI, 800, .inl (fun _ => 0))), (q_3, .inl (cI, 801, .inl (fun _ => 0))), (q_4, .inl (cI, 801, .inl (fun _ => 0)))] H := hPn
  have hD : va_D A [(o, .inr (1, [.null, .null, .ref q_1, .ref q_3, .ref q_4, .null, .null, .null, .null, .null, .null, .null, .null, .int 0, .int 0, .int 0, .int 0, .int 0, .int 0, .int 0])), (q_1, .inr (5, [.ref ar_2, .int 0])), (ar_2, .inl (cI, 800, .inl (fun _ => 0))), (q_3, .inl (cI, 801, .inl (fun _ => 0))), (q_4, .inl (cI, 801, .inl (fun _ => 0)))] := hDn
  have hS := hSn
  clear hPn hDn hSn
  refine lv_aload_n hx hb dX1_init_36 rfl (lv_at hl 0 rfl) ?_
  refine lv_sipush (v := 801) hx hb dX1_init_37 (by decide) ?_
  refine p_newint hx hb (hts (.arrayClass .int) (List.mem_of_getElem? (i := 8) rfl)) hK hP hD hS hA (n := 801) (N := 801) (by decide) (by decide) (by decide) (Nat.le_of_ble_eq_true rfl) (Nat.le_of_ble_eq_true rfl) dX1_init_40 (fun q_5 H hPn hDn hSn => ?_)
  clear hP hD hS
  have hP : va_P (dC, dI) vwCl [(o, .inr (1, [.null, .null, .ref q_1, .ref q_3, .ref q_4, .null, .null, .null, .null, .null, .null, .null, .null, .int 0, .int 0, .int 0, .int 0, .int 0, .int 0, .int 0])), (q_1, .inr (5, [.ref ar_2, .int 0])), (ar_2, .inl (cI, 800, .inl (fun _ => 0))), (q_3, .inl (cI, 801, .inl (fun _ => 0))), (q_4, .inl (cI, 801, .inl (fun _ => 0))), (q_5, .inl (cI, 801, .inl (fun _ => 0)))] H := hPn
  have hD : va_D A [(o, .inr (1, [.null, .null, .ref q_1, .ref q_3, .ref q_4, .null, .null, .null, .null, .null, .null, .null, .null, .int 0, .int 0, .int 0, .int 0, .int 0, .int 0, .int 0])), (q_1, .inr (5, [.ref ar_2, .int 0])), (ar_2, .inl (cI, 800, .inl (fun _ => 0))), (q_3, .inl (cI, 801, .inl (fun _ => 0))), (q_4, .inl (cI, 801, .inl (fun _ => 0))), (q_5, .inl (cI, 801, .inl (fun _ => 0)))] := hDn
  have hS := hSn
  clear hPn hDn hSn
  refine W.widen (k := 5) (n := 3205) (Nat.le_of_ble_eq_true rfl) (Nat.le_of_ble_eq_true rfl) ?_
  refine va_putF (D := (dC, dI)) (ci := 1) (v := .ref q_5) (ty := .array .int) (C := RX1) (T := TX1) (N := 20) hx hb hts in_X1 tyX1 tyX1_ok nmX1 hown hK hP hD hS 0 rfl rfl 5 (by decide) (hts (.fieldLink RX1 27 "TextMender$Choices" "tailLetters" "[I") (List.mem_of_getElem? (i := 11) rfl)) (fun _ h9 => h9) rfl hin rfl (by decide +kernel) rfl rfl (Nat.le_of_ble_eq_true rfl) dX1_init_42 (fun H locs hPn hDn hSn => ?_)
  clear hP hD hS
  have hP : va_P (dC, dI) vwCl [(o, .inr (1, [.null, .null, .ref q_1, .ref q_3, .ref q_4, .ref q_5, .null, .null, .null, .null, .null, .null, .null, .int 0, .int 0, .int 0, .int 0, .int 0, .int 0, .int 0])), (q_1, .inr (5, [.ref ar_2, .int 0])), (ar_2, .inl (cI, 800, .inl (fun _ => 0))), (q_3, .inl (cI, 801, .inl (fun _ => 0))), (q_4, .inl (cI, 801, .inl (fun _ => 0))), (q_5, .inl (cI, 801, .inl (fun _ => 0)))] H := hPn
  have hD : va_D A [(o, .inr (1, [.null, .null, .ref q_1, .ref q_3, .ref q_4, .ref q_5, .null, .null, .null, .null, .null, .null, .null, .int 0, .int 0, .int 0, .int 0, .int 0, .int 0, .int 0])), (q_1, .inr (5, [.ref ar_2, .int 0])), (ar_2, .inl (cI, 800, .inl (fun _ => 0))), (q_3, .inl (cI, 801, .inl (fun _ => 0))), (q_4, .inl (cI, 801, .inl (fun _ => 0))), (q_5, .inl (cI, 801, .inl (fun _ => 0)))] := hDn
  have hS := hSn
  clear hPn hDn hSn
  refine lv_aload_n hx hb dX1_init_45 rfl (lv_at hl 0 rfl) ?_
  refine lv_sipush (v := 200) hx hb dX1_init_46 (by decide) ?_
  refine p_newint hx hb (hts (.arrayClass .int) (List.mem_of_getElem? (i := 8) rfl)) hK hP hD hS hA (n := 200) (N := 200) (by decide) (by decide) (by decide) (Nat.le_of_ble_eq_true rfl) (Nat.le_of_ble_eq_true rfl) dX1_init_49 (fun q_6 H hPn hDn hSn => ?_)
  clear hP hD hS
  have hP : va_P (dC, dI) vwCl [(o, .inr (1, [.null, .null, .ref q_1, .ref q_3, .ref q_4, .ref q_5, .null, .null, .null, .null, .null, .null, .null, .int 0, .int 0, .int 0, .int 0, .int 0, .int 0, .int 0])), (q_1, .inr (5, [.ref ar_2, .int 0])), (ar_2, .inl (cI, 800, .inl (fun _ => 0))), (q_3, .inl (cI, 801, .inl (fun _ => 0))), (q_4, .inl (cI, 801, .inl (fun _ => 0))), (q_5, .inl (cI, 801, .inl (fun _ => 0))), (q_6, .inl (cI, 200, .inl (fun _ => 0)))] H := hPn
  have hD : va_D A [(o, .inr (1, [.null, .null, .ref q_1, .ref q_3, .ref q_4, .ref q_5, .null, .null, .null, .null, .null, .null, .null, .int 0, .int 0, .int 0, .int 0, .int 0, .int 0, .int 0])), (q_1, .inr (5, [.ref ar_2, .int 0])), (ar_2, .inl (cI, 800, .inl (fun _ => 0))), (q_3, .inl (cI, 801, .inl (fun _ => 0))), (q_4, .inl (cI, 801, .inl (fun _ => 0))), (q_5, .inl (cI, 801, .inl (fun _ => 0))), (q_6, .inl (cI, 200, .inl (fun _ => 0)))] := hDn
  have hS := hSn
  clear hPn hDn hSn
  refine W.widen (k := 6) (n := 3405) (Nat.le_of_ble_eq_true rfl) (Nat.le_of_ble_eq_true rfl) ?_
  refine va_putF (D := (dC, dI)) (ci := 1) (v := .ref q_6) (ty := .array .int) (C := RX1) (T := TX1) (N := 20) hx hb hts in_X1 tyX1 tyX1_ok nmX1 hown hK hP hD hS 0 rfl rfl 9 (by decide) (hts (.fieldLink RX1 30 "TextMender$Choices" "firstByte" "[I") (List.mem_of_getElem? (i := 12) rfl)) (fun _ h9 => h9) rfl hin rfl (by decide +kernel) rfl rfl (Nat.le_of_ble_eq_true rfl) dX1_init_51 (fun H locs hPn hDn hSn => ?_)
  clear hP hD hS
  have hP : va_P (dC, dI) vwCl [(o, .inr (1, [.null, .null, .ref q_1, .ref q_3, .ref q_4, .ref q_5, .null, .null, .null, .ref q_6, .null, .null, .null, .int 0, .int 0, .int 0, .int 0, .int 0, .int 0, .int 0])), (q_1, .inr (5, [.ref ar_2, .int 0])), (ar_2, .inl (cI, 800, .inl (fun _ => 0))), (q_3, .inl (cI, 801, .inl (fun _ => 0))), (q_4, .inl (cI, 801, .inl (fun _ => 0))), (q_5, .inl (cI, 801, .inl (fun _ => 0))), (q_6, .inl (cI, 200, .inl (fun _ => 0)))] H := hPn
  have hD : va_D A [(o, .inr (1, [.null, .null, .ref q_1, .ref q_3, .ref q_4, .ref q_5, .null, .null, .null, .ref q_6, .null, .null, .null, .int 0, .int 0, .int 0, .int 0, .int 0, .int 0, .int 0])), (q_1, .inr (5, [.ref ar_2, .int 0])), (ar_2, .inl (cI, 800, .inl (fun _ => 0))), (q_3, .inl (cI, 801, .inl (fun _ => 0))), (q_4, .inl (cI, 801, .inl (fun _ => 0))), (q_5, .inl (cI, 801, .inl (fun _ => 0))), (q_6, .inl (cI, 200, .inl (fun _ => 0)))] := hDn
  have hS := hSn
  clear hPn hDn hSn
  refine lv_aload_n hx hb dX1_init_54 rfl (lv_at hl 0 rfl) ?_
  refine lv_sipush (v := 200) hx hb dX1_init_55 (by decide) ?_
  refine p_newint hx hb (hts (.arrayClass .int) (List.mem_of_getElem? (i := 8) rfl)) hK hP hD hS hA (n := 200) (N := 200) (by decide) (by decide) (by decide) (Nat.le_of_ble_eq_true rfl) (Nat.le_of_ble_eq_true rfl) dX1_init_58 (fun q_7 H hPn hDn hSn => ?_)
  clear hP hD hS
  have hP : va_P (dC, dI) vwCl [(o, .inr (1, [.null, .null, .ref q_1, .ref q_3, .ref q_4, .ref q_5, .null, .null, .null, .ref q_6, .null, .null, .null, .int 0, .int 0, .int 0, .int 0, .int 0, .int 0, .int 0])), (q_1, .inr (5, [.ref ar_2, .int 0])), (ar_2, .inl (cI, 800, .inl (fun _ => 0))), (q_3, .inl (cI, 801, .inl (fun _ => 0))), (q_4, .inl (cI, 801, .inl (fun _ => 0))), (q_5, .inl (cI, 801, .inl (fun _ => 0))), (q_6, .inl (cI, 200, .inl (fun _ => 0))), (q_7, .inl (cI, 200, .inl (fun _ => 0)))] H := hPn
  have hD : va_D A [(o, .inr (1, [.null, .null, .ref q_1, .ref q_3, .ref q_4, .ref q_5, .null, .null, .null, .ref q_6, .null, .null, .null, .int 0, .int 0, .int 0, .int 0, .int 0, .int 0, .int 0])), (q_1, .inr (5, [.ref ar_2, .int 0])), (ar_2, .inl (cI, 800, .inl (fun _ => 0))), (q_3, .inl (cI, 801, .inl (fun _ => 0))), (q_4, .inl (cI, 801, .inl (fun _ => 0))), (q_5, .inl (cI, 801, .inl (fun _ => 0))), (q_6, .inl (cI, 200, .inl (fun _ => 0))), (q_7, .inl (cI, 200, .inl (fun _ => 0)))] := hDn
  have hS := hSn
  clear hPn hDn hSn
  refine W.widen (k := 7) (n := 3605) (Nat.le_of_ble_eq_true rfl) (Nat.le_of_ble_eq_true rfl) ?_
  refine va_putF (D := (dC, dI)) (ci := 1) (v := .ref q_7) (ty := .array .int) (C := RX1) (T := TX1) (N := 20) hx hb hts in_X1 tyX1 tyX1_ok nmX1 hown hK hP hD hS 0 rfl rfl 10 (by decide) (hts (.fieldLink RX1 33 "TextMender$Choices" "secondByte" "[I") (List.mem_of_getElem? (i := 13) rfl)) (fun _ h9 => h9) rfl hin rfl (by decide +kernel) rfl rfl (Nat.le_of_ble_eq_true rfl) dX1_init_60 (fun H locs hPn hDn hSn => ?_)
  clear hP hD hS
  have hP : va_P (dC, dI) vwCl [(o, .inr (1, [.null, .null, .ref q_1, .ref q_3, .ref q_4, .ref q_5, .null, .null, .null, .ref q_6, .ref q_7, .null, .null, .int 0, .int 0, .int 0, .int 0, .int 0, .int 0, .int 0])), (q_1, .inr (5, [.ref ar_2, .int 0])), (ar_2, .inl (cI, 800, .inl (fun _ => 0))), (q_3, .inl (cI, 801, .inl (fun _ => 0))), (q_4, .inl (cI, 801, .inl (fun _ => 0))), (q_5, .inl (cI, 801, .inl (fun _ => 0))), (q_6, .inl (cI, 200, .inl (fun _ => 0))), (q_7, .inl (cI, 200, .inl (fun _ => 0)))] H := hPn
  have hD : va_D A [(o, .inr (1, [.null, .null, .ref q_1, .ref q_3, .ref q_4, .ref q_5, .null, .null, .null, .ref q_6, .ref q_7, .null, .null, .int 0, .int 0, .int 0, .int 0, .int 0, .int 0, .int 0])), (q_1, .inr (5, [.ref ar_2, .int 0])), (ar_2, .inl (cI, 800, .inl (fun _ => 0))), (q_3, .inl (cI, 801, .inl (fun _ => 0))), (q_4, .inl (cI, 801, .inl (fun _ => 0))), (q_5, .inl (cI, 801, .inl (fun _ => 0))), (q_6, .inl (cI, 200, .inl (fun _ => 0))), (q_7, .inl (cI, 200, .inl (fun _ => 0)))] := hDn
  have hS := hSn
  clear hPn hDn hSn
  refine lv_aload_n hx hb dX1_init_63 rfl (lv_at hl 0 rfl) ?_
  refine lv_sipush (v := 200) hx hb dX1_init_64 (by decide) ?_
  refine p_newint hx hb (hts (.arrayClass .int) (List.mem_of_getElem? (i := 8) rfl)) hK hP hD hS hA (n := 200) (N := 200) (by decide) (by decide) (by decide) (Nat.le_of_ble_eq_true rfl) (Nat.le_of_ble_eq_true rfl) dX1_init_67 (fun q_8 H hPn hDn hSn => ?_)
  clear hP hD hS
  have hP : va_P (dC, dI) vwCl [(o, .inr (1, [.null, .null, .ref q_1, .ref q_3, .ref q_4, .ref q_5, .null, .null, .null, .ref q_6, .ref q_7, .null, .null, .int 0, .int 0, .int 0, .int 0, .int 0, .int 0, .int 0])), (q_1, .inr (5, [.ref ar_2, .int 0])), (ar_2, .inl (cI, 800, .inl (fun _ => 0))), (q_3, .inl (cI, 801, .inl (fun _ => 0))), (q_4, .inl (cI, 801, .inl (fun _ => 0))), (q_5, .inl (cI, 801, .inl (fun _ => 0))), (q_6, .inl (cI, 200, .inl (fun _ => 0))), (q_7, .inl (cI, 200, .inl (fun _ => 0))), (q_8, .inl (cI, 200, .inl (fun _ => 0)))] H := hPn
  have hD : va_D A [(o, .inr (1, [.null, .null, .ref q_1, .ref q_3, .ref q_4, .ref q_5, .null, .null, .null, .ref q_6, .ref q_7, .null, .null, .int 0, .int 0, .int 0, .int 0, .int 0, .int 0, .int 0])), (q_1, .inr (5, [.ref ar_2, .int 0])), (ar_2, .inl (cI, 800, .inl (fun _ => 0))), (q_3, .inl (cI, 801, .inl (fun _ => 0))), (q_4, .inl (cI, 801, .inl (fun _ => 0))), (q_5, .inl (cI, 801, .inl (fun _ => 0))), (q_6, .inl (cI, 200, .inl (fun _ => 0))), (q_7, .inl (cI, 200, .inl (fun _ => 0))), (q_8, .inl (cI, 200, .inl (fun _ => 0)))] := hDn
  have hS := hSn
  clear hPn hDn hSn
  refine W.widen (k := 8) (n := 3805) (Nat.le_of_ble_eq_true rfl) (Nat.le_of_ble_eq_true rfl) ?_
  refine va_putF (D := (dC, dI)) (ci := 1) (v := .ref q_8) (ty := .array .int) (C := RX1) (T := TX1) (N := 20) hx hb hts in_X1 tyX1 tyX1_ok nmX1 hown hK hP hD hS 0 rfl rfl 11 (by decide) (hts (.fieldLink RX1 36 "TextMender$Choices" "costOf" "[I") (List.mem_of_getElem? (i := 14) rfl)) (fun _ h9 => h9) rfl hin rfl (by decide +kernel) rfl rfl (Nat.le_of_ble_eq_true rfl) dX1_init_69 (fun H locs hPn hDn hSn => ?_)
  clear hP hD hS
  have hP : va_P (dC, dI) vwCl [(o, .inr (1, [.null, .null, .ref q_1, .ref q_3, .ref q_4, .ref q_5, .null, .null, .null, .ref q_6, .ref q_7, .ref q_8, .null, .int 0, .int 0, .int 0, .int 0, .int 0, .int 0, .int 0])), (q_1, .inr (5, [.ref ar_2, .int 0])), (ar_2, .inl (cI, 800, .inl (fun _ => 0))), (q_3, .inl (cI, 801, .inl (fun _ => 0))), (q_4, .inl (cI, 801, .inl (fun _ => 0))), (q_5, .inl (cI, 801, .inl (fun _ => 0))), (q_6, .inl (cI, 200, .inl (fun _ => 0))), (q_7, .inl (cI, 200, .inl (fun _ => 0))), (q_8, .inl (cI, 200, .inl (fun _ => 0)))] H := hPn
  have hD : va_D A [(o, .inr (1, [.null, .null, .ref q_1, .ref q_3, .ref q_4, .ref q_5, .null, .null, .null, .ref q_6, .ref q_7, .ref q_8, .null, .int 0, .int 0, .int 0, .int 0, .int 0, .int 0, .int 0])), (q_1, .inr (5, [.ref ar_2, .int 0])), (ar_2, .inl (cI, 800, .inl (fun _ => 0))), (q_3, .inl (cI, 801, .inl (fun _ => 0))), (q_4, .inl (cI, 801, .inl (fun _ => 0))), (q_5, .inl (cI, 801, .inl (fun _ => 0))), (q_6, .inl (cI, 200, .inl (fun _ => 0))), (q_7, .inl (cI, 200, .inl (fun _ => 0))), (q_8, .inl (cI, 200, .inl (fun _ => 0)))] := hDn
  have hS := hSn
  clear hPn hDn hSn
  refine lv_aload_n hx hb dX1_init_72 rfl (lv_at hl 0 rfl) ?_
  refine lv_sipush (v := 200) hx hb dX1_init_73 (by decide) ?_
  refine p_newint hx hb (hts (.arrayClass .int) (List.mem_of_getElem? (i := 8) rfl)) hK hP hD hS hA (n := 200) (N := 200) (by decide) (by decide) (by decide) (Nat.le_of_ble_eq_true rfl) (Nat.le_of_ble_eq_true rfl) dX1_init_76 (fun q_9 H hPn hDn hSn => ?_)
  clear hP hD hS
  have hP : va_P (dC, dI) vwCl [(o, .inr (1, [.null, .null, .ref q_1, .ref q_3, .ref q_4, .ref q_5, .null, .null, .null, .ref q_6, .ref q_7, .ref q_8, .null, .int 0, .int 0, .int 0, .int 0, .int 0, .int 0, .int 0])), (q_1, .inr (5, [.ref ar_2, .int 0])), (ar_2, .inl (cI, 800, .inl (fun _ => 0))), (q_3, .inl (cI, 801, .inl (fun _ => 0))), (q_4, .inl (cI, 801, .inl (fun _ => 0))), (q_5, .inl (cI, 801, .inl (fun _ => 0))), (q_6, .inl (cI, 200, .inl (fun _ => 0))), (q_7, .inl (cI, 200, .inl (fun _ => 0))), (q_8, .inl (cI, 200, .inl (fun _ => 0))), (q_9, .inl (cI, 200, .inl (fun _ => 0)))] H := hPn
  have hD : va_D A [(o, .inr (1, [.null, .null, .ref q_1, .ref q_3, .ref q_4, .ref q_5, .null, .null, .null, .ref q_6, .ref q_7, .ref q_8, .null, .int 0, .int 0, .int 0, .int 0, .int 0, .int 0, .int 0])), (q_1, .inr (5, [.ref ar_2, .int 0])), (ar_2, .inl (cI, 800, .inl (fun _ => 0))), (q_3, .inl (cI, 801, .inl (fun _ => 0))), (q_4, .inl (cI, 801, .inl (fun _ => 0))), (q_5, .inl (cI, 801, .inl (fun _ => 0))), (q_6, .inl (cI, 200, .inl (fun _ => 0))), (q_7, .inl (cI, 200, .inl (fun _ => 0))), (q_8, .inl (cI, 200, .inl (fun _ => 0))), (q_9, .inl (cI, 200, .inl (fun _ => 0)))] := hDn
  have hS := hSn
  clear hPn hDn hSn
  refine W.widen (k := 9) (n := 4005) (Nat.le_of_ble_eq_true rfl) (Nat.le_of_ble_eq_true rfl) ?_
  refine va_putF (D := (dC, dI)) (ci := 1) (v := .ref q_9) (ty := .array .int) (C := RX1) (T := TX1) (N := 20) hx hb hts in_X1 tyX1 tyX1_ok nmX1 hown hK hP hD hS 0 rfl rfl 12 (by decide) (hts (.fieldLink RX1 39 "TextMender$Choices" "lengthOf" "[I") (List.mem_of_getElem? (i := 15) rfl)) (fun _ h9 => h9) rfl hin rfl (by decide +kernel) rfl rfl (Nat.le_of_ble_eq_true rfl) dX1_init_78 (fun H locs hPn hDn hSn => ?_)
  clear hP hD hS
  have hP : va_P (dC, dI) vwCl [(o, .inr (1, [.null, .null, .ref q_1, .ref q_3, .ref q_4, .ref q_5, .null, .null, .null, .ref q_6, .ref q_7, .ref q_8, .ref q_9, .int 0, .int 0, .int 0, .int 0, .int 0, .int 0, .int 0])), (q_1, .inr (5, [.ref ar_2, .int 0])), (ar_2, .inl (cI, 800, .inl (fun _ => 0))), (q_3, .inl (cI, 801, .inl (fun _ => 0))), (q_4, .inl (cI, 801, .inl (fun _ => 0))), (q_5, .inl (cI, 801, .inl (fun _ => 0))), (q_6, .inl (cI, 200, .inl (fun _ => 0))), (q_7, .inl (cI, 200, .inl (fun _ => 0))), (q_8, .inl (cI, 200, .inl (fun _ => 0))), (q_9, .inl (cI, 200, .inl (fun _ => 0)))] H := hPn
  have hD : va_D A [(o, .inr (1, [.null, .null, .ref q_1, .ref q_3, .ref q_4, .ref q_5, .null, .null, .null, .ref q_6, .ref q_7, .ref q_8, .ref q_9, .int 0, .int 0, .int 0, .int 0, .int 0, .int 0, .int 0])), (q_1, .inr (5, [.ref ar_2, .int 0])), (ar_2, .inl (cI, 800, .inl (fun _ => 0))), (q_3, .inl (cI, 801, .inl (fun _ => 0))), (q_4, .inl (cI, 801, .inl (fun _ => 0))), (q_5, .inl (cI, 801, .inl (fun _ => 0))), (q_6, .inl (cI, 200, .inl (fun _ => 0))), (q_7, .inl (cI, 200, .inl (fun _ => 0))), (q_8, .inl (cI, 200, .inl (fun _ => 0))), (q_9, .inl (cI, 200, .inl (fun _ => 0)))] := hDn
  have hS := hSn
  clear hPn hDn hSn
  refine lv_aload_n hx hb dX1_init_81 rfl (lv_at hl 0 rfl) ?_
  refine lv_aload_n hx hb dX1_init_82 rfl (lv_at hl 1 rfl) ?_
  refine va_putF (D := (dC, dI)) (ci := 1) (v := .ref oC) (ty := .object "TextMender$Codes") (C := RX1) (T := TX1) (N := 20) hx hb hts in_X1 tyX1 tyX1_ok nmX1 hown hK hP hD hS 0 rfl rfl 0 (by decide) (hts (.fieldLink RX1 42 "TextMender$Choices" "codes" "LTextMender$Codes;") (List.mem_of_getElem? (i := 16) rfl)) (fun _ h9 => h9) rfl hin rfl (by decide +kernel) rfl rfl (Nat.le_of_ble_eq_true rfl) dX1_init_83 (fun H locs hPn hDn hSn => ?_)
  clear hP hD hS
  have hP : va_P (dC, dI) vwCl [(o, .inr (1, [.ref oC, .null, .ref q_1, .ref q_3, .ref q_4, .ref q_5, .null, .null, .null, .ref q_6, .ref q_7, .ref q_8, .ref q_9, .int 0, .int 0, .int 0, .int 0, .int 0, .int 0, .int 0])), (q_1, .inr (5, [.ref ar_2, .int 0])), (ar_2, .inl (cI, 800, .inl (fun _ => 0))), (q_3, .inl (cI, 801, .inl (fun _ => 0))), (q_4, .inl (cI, 801, .inl (fun _ => 0))), (q_5, .inl (cI, 801, .inl (fun _ => 0))), (q_6, .inl (cI, 200, .inl (fun _ => 0))), (q_7, .inl (cI, 200, .inl (fun _ => 0))), (q_8, .inl (cI, 200, .inl (fun _ => 0))), (q_9, .inl (cI, 200, .inl (fun _ => 0)))] H := hPn
  have hD : va_D A [(o, .inr (1, [.ref oC, .null, .ref q_1, .ref q_3, .ref q_4, .ref q_5, .null, .null, .null, .ref q_6, .ref q_7, .ref q_8, .ref q_9, .int 0, .int 0, .int 0, .int 0, .int 0, .int 0, .int 0])), (q_1, .inr (5, [.ref ar_2, .int 0])), (ar_2, .inl (cI, 800, .inl (fun _ => 0))), (q_3, .inl (cI, 801, .inl (fun _ => 0))), (q_4, .inl (cI, 801, .inl (fun _ => 0))), (q_5, .inl (cI, 801, .inl (fun _ => 0))), (q_6, .inl (cI, 200, .inl (fun _ => 0))), (q_7, .inl (cI, 200, .inl (fun _ => 0))), (q_8, .inl (cI, 200, .inl (fun _ => 0))), (q_9, .inl (cI, 200, .inl (fun _ => 0)))] := hDn
  have hS := hSn
  clear hPn hDn hSn
  refine lv_aload_n hx hb dX1_init_86 rfl (lv_at hl 0 rfl) ?_
  refine lv_aload_n hx hb dX1_init_87 rfl (lv_at hl 2 rfl) ?_
  refine va_putF (D := (dC, dI)) (ci := 1) (v := .ref oK) (ty := .object "TextMender$Costs") (C := RX1) (T := TX1) (N := 20) hx hb hts in_X1 tyX1 tyX1_ok nmX1 hown hK hP hD hS 0 rfl rfl 1 (by decide) (hts (.fieldLink RX1 46 "TextMender$Choices" "costs" "LTextMender$Costs;") (List.mem_of_getElem? (i := 17) rfl)) (fun _ h9 => h9) rfl hin rfl (by decide +kernel) rfl rfl (Nat.le_of_ble_eq_true rfl) dX1_init_88 (fun H locs hPn hDn hSn => ?_)
  clear hP hD hS
  have hP : va_P (dC, dI) vwCl [(o, .inr (1, [.ref oC, .ref oK, .ref q_1, .ref q_3, .ref q_4, .ref q_5, .null, .null, .null, .ref q_6, .ref q_7, .ref q_8, .ref q_9, .int 0, .int 0, .int 0, .int 0, .int 0, .int 0, .int 0])), (q_1, .inr (5, [.ref ar_2, .int 0])), (ar_2, .inl (cI, 800, .inl (fun _ => 0))), (q_3, .inl (cI, 801, .inl (fun _ => 0))), (q_4, .inl (cI, 801, .inl (fun _ => 0))), (q_5, .inl (cI, 801, .inl (fun _ => 0))), (q_6, .inl (cI, 200, .inl (fun _ => 0))), (q_7, .inl (cI, 200, .inl (fun _ => 0))), (q_8, .inl (cI, 200, .inl (fun _ => 0))), (q_9, .inl (cI, 200, .inl (fun _ => 0)))] H := hPn
  have hD : va_D A [(o, .inr (1, [.ref oC, .ref oK, .ref q_1, .ref q_3, .ref q_4, .ref q_5, .null, .null, .null, .ref q_6, .ref q_7, .ref q_8, .ref q_9, .int 0, .int 0, .int 0, .int 0, .int 0, .int 0, .int 0])), (q_1, .inr (5, [.ref ar_2, .int 0])), (ar_2, .inl (cI, 800, .inl (fun _ => 0))), (q_3, .inl (cI, 801, .inl (fun _ => 0))), (q_4, .inl (cI, 801, .inl (fun _ => 0))), (q_5, .inl (cI, 801, .inl (fun _ => 0))), (q_6, .inl (cI, 200, .inl (fun _ => 0))), (q_7, .inl (cI, 200, .inl (fun _ => 0))), (q_8, .inl (cI, 200, .inl (fun _ => 0))), (q_9, .inl (cI, 200, .inl (fun _ => 0)))] := hDn
  have hS := hSn
  clear hPn hDn hSn
  refine lv_aload_n hx hb dX1_init_91 rfl (lv_at hl 0 rfl) ?_
  refine va_new (ci := 8) (fs := [.null, .null, .int 0, .int 0, .int 0, .int 0]) (C := RX8) (T := TX8) (N := 6) hx hb hts in_X8 tyX8 tyX8_ok hown (hts (.classLink RX1 50 RX8) (List.mem_of_getElem? (i := 18) rfl)) (hts (.instantiable RX8 6) (List.mem_of_getElem? (i := 19) rfl)) (hts (.initialized RX8) (List.mem_of_getElem? (i := 20) rfl)) hK hP hD hS hA rfl (p_fsX8) (Nat.le_of_ble_eq_true rfl) (Nat.le_of_ble_eq_true rfl) dX1_init_92 (fun q_10 H hPn hDn hSn => ?_)
  clear hP hD hS
  have hP : va_P (dC, dI) vwCl [(o, .inr (1, [.ref oC, .ref oK, .ref q_1, .ref q_3, .ref q_4, .ref q_5, .null, .null, .null, .ref q_6, .ref q_7, .ref q_8, .ref q_9, .int 0, .int 0, .int 0, .int 0, .int 0, .int 0, .int 0])), (q_1, .inr (5, [.ref ar_2, .int 0])), (ar_2, .inl (cI, 800, .inl (fun _ => 0))), (q_3, .inl (cI, 801, .inl (fun _ => 0))), (q_4, .inl (cI, 801, .inl (fun _ => 0))), (q_5, .inl (cI, 801, .inl (fun _ => 0))), (q_6, .inl (cI, 200, .inl (fun _ => 0))), (q_7, .inl (cI, 200, .inl (fun _ => 0))), (q_8, .inl (cI, 200, .inl (fun _ => 0))), (q_9, .inl (cI, 200, .inl (fun _ => 0))), (q_10, .inr (8, [.null, .null, .int 0, .int 0, .int 0, .int 0]))] H := hPn
  have hD : va_D A [(o, .inr (1, [.ref oC, .ref oK, .ref q_1, .ref q_3, .ref q_4, .ref q_5, .null, .null, .null, .ref q_6, .ref q_7, .ref q_8, .ref q_9, .int 0, .int 0, .int 0, .int 0, .int 0, .int 0, .int 0])), (q_1, .inr (5, [.ref ar_2, .int 0])), (ar_2, .inl (cI, 800, .inl (fun _ => 0))), (q_3, .inl (cI, 801, .inl (fun _ => 0))), (q_4, .inl (cI, 801, .inl (fun _ => 0))), (q_5, .inl (cI, 801, .inl (fun _ => 0))), (q_6, .inl (cI, 200, .inl (fun _ => 0))), (q_7, .inl (cI, 200, .inl (fun _ => 0))), (q_8, .inl (cI, 200, .inl (fun _ => 0))), (q_9, .inl (cI, 200, .inl (fun _ => 0))), (q_10, .inr (8, [.null, .null, .int 0, .int 0, .int 0, .int 0]))] := hDn
  have hS := hSn
  clear hPn hDn hSn
  refine W.widen (k := 10) (n := 4011) (Nat.le_of_ble_eq_true rfl) (Nat.le_of_ble_eq_true rfl) ?_
  refine lv_dup hx hb dX1_init_95 rfl ?_
  refine lv_aload_n hx hb dX1_init_96 rfl (lv_at hl 1 rfl) ?_
  refine lv_aload_n hx hb dX1_init_97 rfl (lv_at hl 2 rfl) ?_
  have hPc := hP.sub (ws' := [(q_10, .inr (8, [.null, .null, .int 0, .int 0, .int 0, .int 0]))]) [10] rfl
  have hDc := hD.sub (ws' := [(q_10, .inr (8, [.null, .null, .int 0, .int 0, .int 0, .int 0]))]) [10] (by decide +kernel) rfl
  have hFc := va_free (wc := [(q_10, .inr (8, [.null, .null, .int 0, .int 0, .int 0, .int 0]))]) hD hS hA [10] rfl
  refine va_callv (va_runI (As := [.ref oC, .ref oK]) (rest := [.ref q_10, .ref o]) ⟨hx, hb, hml, hown, hts⟩ (k_X8_init l dC dI cI cS H.size q_10 oC oK ) (cwI 2 hts gX1_init_X8_init rfl rfl rfl (hts (.initialized RX8) (List.mem_of_getElem? (i := 20) rfl)) (hts (.methodLink RX1 52 yX8_init) (List.mem_of_getElem? (i := 41) rfl)) (hts (.instanceMethod yX8_init) (List.mem_of_getElem? (i := 42) rfl)) rfl (by decide +kernel) ⟨Nat.le_of_ble_eq_true rfl, Nat.le_of_ble_eq_true rfl⟩) ⟨fun a U g mk q => by obtain ⟨q0, q1, qP, qK, qD⟩ := q; exact ⟨q0, q1, qP, va_K.moved (u := U) (U := U.calling g mk a) (Vm.Alike.refl U.vm) qK, qD⟩, fun U hU hW => ⟨rfl, by rw [hU], by rw [hU]; exact hPc, va_K.moved hW.alike hK, hDc.weaken (fun _ _ _ _ => trivial)⟩⟩ rfl rfl hl.1 rfl (lv_room (Nat.le_of_ble_eq_true rfl)) dX1_init_98 ⟨Nat.le_of_ble_eq_true rfl, Nat.le_of_ble_eq_true rfl⟩) hS (fun q _ h => hFc q h) hFc (fun u t H1 locs ht hvm hw hB hz1 hk1 hSn => ?_)
  obtain ⟨hP1, hD1⟩ := hB
  rw [ht] at hP1
  obtain ⟨hPn, hDn⟩ := va_join (wr := [(o, .inr (1, [.ref oC, .ref oK, .ref q_1, .ref q_3, .ref q_4, .ref q_5, .null, .null, .null, .ref q_6, .ref q_7, .ref q_8, .ref q_9, .int 0, .int 0, .int 0, .int 0, .int 0, .int 0, .int 0])), (q_1, .inr (5, [.ref ar_2, .int 0])), (ar_2, .inl (cI, 800, .inl (fun _ => 0))), (q_3, .inl (cI, 801, .inl (fun _ => 0))), (q_4, .inl (cI, 801, .inl (fun _ => 0))), (q_5, .inl (cI, 801, .inl (fun _ => 0))), (q_6, .inl (cI, 200, .inl (fun _ => 0))), (q_7, .inl (cI, 200, .inl (fun _ => 0))), (q_8, .inl (cI, 200, .inl (fun _ => 0))), (q_9, .inl (cI, 200, .inl (fun _ => 0)))]) (w1 := [(q_10, .inr (8, [.ref oC, .ref oK, .int 0, .int 32, .int 0, .int 0]))]) hP hD [10] [0, 1, 2, 3, 4, 5, 6, 7, 8, 9] rfl rfl (by decide +kernel) (by decide +kernel) hk1 hFc hP1 hD1
  clear hP hD hS hPc hDc hFc hk1 hz1 hvm ht hP1 hD1
  generalize H1 = H at hPn hSn ⊢
  have hP : va_P (dC, dI) vwCl [(o, .inr (1, [.ref oC, .ref oK, .ref q_1, .ref q_3, .ref q_4, .ref q_5, .null, .null, .null, .ref q_6, .ref q_7, .ref q_8, .ref q_9, .int 0, .int 0, .int 0, .int 0, .int 0, .int 0, .int 0])), (q_1, .inr (5, [.ref ar_2, .int 0])), (ar_2, .inl (cI, 800, .inl (fun _ => 0))), (q_3, .inl (cI, 801, .inl (fun _ => 0))), (q_4, .inl (cI, 801, .inl (fun _ => 0))), (q_5, .inl (cI, 801, .inl (fun _ => 0))), (q_6, .inl (cI, 200, .inl (fun _ => 0))), (q_7, .inl (cI, 200, .inl (fun _ => 0))), (q_8, .inl (cI, 200, .inl (fun _ => 0))), (q_9, .inl (cI, 200, .inl (fun _ => 0))), (q_10, .inr (8, [.ref oC, .ref oK, .int 0, .int 32, .int 0, .int 0]))] H := hPn
  have hD : va_D A [(o, .inr (1, [.ref oC, .ref oK, .ref q_1, .ref q_3, .ref q_4, .ref q_5, .null, .null, .null, .ref q_6, .ref q_7, .ref q_8, .ref q_9, .int 0, .int 0, .int 0, .int 0, .int 0, .int 0, .int 0])), (q_1, .inr (5, [.ref ar_2, .int 0])), (ar_2, .inl (cI, 800, .inl (fun _ => 0))), (q_3, .inl (cI, 801, .inl (fun _ => 0))), (q_4, .inl (cI, 801, .inl (fun _ => 0))), (q_5, .inl (cI, 801, .inl (fun _ => 0))), (q_6, .inl (cI, 200, .inl (fun _ => 0))), (q_7, .inl (cI, 200, .inl (fun _ => 0))), (q_8, .inl (cI, 200, .inl (fun _ => 0))), (q_9, .inl (cI, 200, .inl (fun _ => 0))), (q_10, .inr (8, [.ref oC, .ref oK, .int 0, .int 32, .int 0, .int 0]))] := hDn
  have hS := hSn
  clear hPn hDn hSn
  refine va_putF (D := (dC, dI)) (ci := 1) (v := .ref q_10) (ty := .object "TextMender$Reading") (C := RX1) (T := TX1) (N := 20) hx hb hts in_X1 tyX1 tyX1_ok nmX1 hown hK hP hD hS 0 rfl rfl 6 (by decide) (hts (.fieldLink RX1 55 "TextMender$Choices" "head" "LTextMender$Reading;") (List.mem_of_getElem? (i := 21) rfl)) (fun _ h9 => h9) rfl hin rfl (by decide +kernel) rfl rfl (Nat.le_of_ble_eq_true rfl) dX1_init_101 (fun H locs hPn hDn hSn => ?_)
  clear hP hD hS
  have hP : va_P (dC, dI) vwCl [(o, .inr (1, [.ref oC, .ref oK, .ref q_1, .ref q_3, .ref q_4, .ref q_5, .ref q_10, .null, .null, .ref q_6, .ref q_7, .ref q_8, .ref q_9, .int 0, .int 0, .int 0, .int 0, .int 0, .int 0, .int 0])), (q_1, .inr (5, [.ref ar_2, .int 0])), (ar_2, .inl (cI, 800, .inl (fun _ => 0))), (q_3, .inl (cI, 801, .inl (fun _ => 0))), (q_4, .inl (cI, 801, .inl (fun _ => 0))), (q_5, .inl (cI, 801, .inl (fun _ => 0))), (q_6, .inl (cI, 200, .inl (fun _ => 0))), (q_7, .inl (cI, 200, .inl (fun _ => 0))), (q_8, .inl (cI, 200, .inl (fun _ => 0))), (q_9, .inl (cI, 200, .inl (fun _ => 0))), (q_10, .inr (8, [.ref oC, .ref oK, .int 0, .int 32, .int 0, .int 0]))] H := hPn
  have hD : va_D A [(o, .inr (1, [.ref oC, .ref oK, .ref q_1, .ref q_3, .ref q_4, .ref q_5, .ref q_10, .null, .null, .ref q_6, .ref q_7, .ref q_8, .ref q_9, .int 0, .int 0, .int 0, .int 0, .int 0, .int 0, .int 0])), (q_1, .inr (5, [.ref ar_2, .int 0])), (ar_2, .inl (cI, 800, .inl (fun _ => 0))), (q_3, .inl (cI, 801, .inl (fun _ => 0))), (q_4, .inl (cI, 801, .inl (fun _ => 0))), (q_5, .inl (cI, 801, .inl (fun _ => 0))), (q_6, .inl (cI, 200, .inl (fun _ => 0))), (q_7, .inl (cI, 200, .inl (fun _ => 0))), (q_8, .inl (cI, 200, .inl (fun _ => 0))), (q_9, .inl (cI, 200, .inl (fun _ => 0))), (q_10, .inr (8, [.ref oC, .ref oK, .int 0, .int 32, .int 0, .int 0]))] := hDn
  have hS := hSn
  clear hPn hDn hSn
  refine lv_aload_n hx hb dX1_init_104 rfl (lv_at hl 0 rfl) ?_
  refine va_new (ci := 8) (fs := [.null, .null, .int 0, .int 0, .int 0, .int 0]) (C := RX8) (T := TX8) (N := 6) hx hb hts in_X8 tyX8 tyX8_ok hown (hts (.classLink RX1 50 RX8) (List.mem_of_getElem? (i := 18) rfl)) (hts (.instantiable RX8 6) (List.mem_of_getElem? (i := 19) rfl)) (hts (.initialized RX8) (List.mem_of_getElem? (i := 20) rfl)) hK hP hD hS hA rfl (p_fsX8) (Nat.le_of_ble_eq_true rfl) (Nat.le_of_ble_eq_true rfl) dX1_init_105 (fun q_12 H hPn hDn hSn => ?_)
  clear hP hD hS
  have hP : va_P (dC, dI) vwCl [(o, .inr (1, [.ref oC, .ref oK, .ref q_1, .ref q_3, .ref q_4, .ref q_5, .ref q_10, .null, .null, .ref q_6, .ref q_7, .ref q_8, .ref q_9, .int 0, .int 0, .int 0, .int 0, .int 0, .int 0, .int 0])), (q_1, .inr (5, [.ref ar_2, .int 0])), (ar_2, .inl (cI, 800, .inl (fun _ => 0))), (q_3, .inl (cI, 801, .inl (fun _ => 0))), (q_4, .inl (cI, 801, .inl (fun _ => 0))), (q_5, .inl (cI, 801, .inl (fun _ => 0))), (q_6, .inl (cI, 200, .inl (fun _ => 0))), (q_7, .inl (cI, 200, .inl (fun _ => 0))), (q_8, .inl (cI, 200, .inl (fun _ => 0))), (q_9, .inl (cI, 200, .inl (fun _ => 0))), (q_10, .inr (8, [.ref oC, .ref oK, .int 0, .int 32, .int 0, .int 0])), (q_12, .inr (8, [.null, .null, .int 0, .int 0, .int 0, .int 0]))] H := hPn
  have hD : va_D A [(o, .inr (1, [.ref oC, .ref oK, .ref q_1, .ref q_3, .ref q_4, .ref q_5, .ref q_10, .null, .null, .ref q_6, .ref q_7, .ref q_8, .ref q_9, .int 0, .int 0, .int 0, .int 0, .int 0, .int 0, .int 0])), (q_1, .inr (5, [.ref ar_2, .int 0])), (ar_2, .inl (cI, 800, .inl (fun _ => 0))), (q_3, .inl (cI, 801, .inl (fun _ => 0))), (q_4, .inl (cI, 801, .inl (fun _ => 0))), (q_5, .inl (cI, 801, .inl (fun _ => 0))), (q_6, .inl (cI, 200, .inl (fun _ => 0))), (q_7, .inl (cI, 200, .inl (fun _ => 0))), (q_8, .inl (cI, 200, .inl (fun _ => 0))), (q_9, .inl (cI, 200, .inl (fun _ => 0))), (q_10, .inr (8, [.ref oC, .ref oK, .int 0, .int 32, .int 0, .int 0])), (q_12, .inr (8, [.null, .null, .int 0, .int 0, .int 0, .int 0]))] := hDn
  have hS := hSn
  clear hPn hDn hSn
  refine W.widen (k := 11) (n := 4017) (Nat.le_of_ble_eq_true rfl) (Nat.le_of_ble_eq_true rfl) ?_
  refine lv_dup hx hb dX1_init_108 rfl ?_
  refine lv_aload_n hx hb dX1_init_109 rfl (lv_at hl 1 rfl) ?_
  refine lv_aload_n hx hb dX1_init_110 rfl (lv_at hl 2 rfl) ?_
  have hPc := hP.sub (ws' := [(q_12, .inr (8, [.null, .null, .int 0, .int 0, .int 0, .int 0]))]) [11] rfl
  have hDc := hD.sub (ws' := [(q_12, .inr (8, [.null, .null, .int 0, .int 0, .int 0, .int 0]))]) [11] (by decide +kernel) rfl
  have hFc := va_free (wc := [(q_12, .inr (8, [.null, .null, .int 0, .int 0, .int 0, .int 0]))]) hD hS hA [11] rfl
  refine va_callv (va_runI (As := [.ref oC, .ref oK]) (rest := [.ref q_12, .ref o]) ⟨hx, hb, hml, hown, hts⟩ (k_X8_init l dC dI cI cS H.size q_12 oC oK ) (cwI 2 hts gX1_init_X8_init rfl rfl rfl (hts (.initialized RX8) (List.mem_of_getElem? (i := 20) rfl)) (hts (.methodLink RX1 52 yX8_init) (List.mem_of_getElem? (i := 41) rfl)) (hts (.instanceMethod yX8_init) (List.mem_of_getElem? (i := 42) rfl)) rfl (by decide +kernel) ⟨Nat.le_of_ble_eq_true rfl, Nat.le_of_ble_eq_true rfl⟩) ⟨fun a U g mk q => by obtain ⟨q0, q1, qP, qK, qD⟩ := q; exact ⟨q0, q1, qP, va_K.moved (u := U) (U := U.calling g mk a) (Vm.Alike.refl U.vm) qK, qD⟩, fun U hU hW => ⟨rfl, by rw [hU], by rw [hU]; exact hPc, va_K.moved hW.alike hK, hDc.weaken (fun _ _ _ _ => trivial)⟩⟩ rfl rfl hl.1 rfl (lv_room (Nat.le_of_ble_eq_true rfl)) dX1_init_111 ⟨Nat.le_of_ble_eq_true rfl, Nat.le_of_ble_eq_true rfl⟩) hS (fun q _ h => hFc q h) hFc (fun u t H1 locs ht hvm hw hB hz1 hk1 hSn => ?_)
  obtain ⟨hP1, hD1⟩ := hB
  rw [ht] at hP1
  obtain ⟨hPn, hDn⟩ := va_join (wr := [(o, .inr (1, [.ref oC, .ref oK, .ref q_1, .ref q_3, .ref q_4, .ref q_5, .ref q_10, .null, .null, .ref q_6, .ref q_7, .ref q_8, .ref q_9, .int 0, .int 0, .int 0, .int 0, .int 0, .int 0, .int 0])), (q_1, .inr (5, [.ref ar_2, .int 0])), (ar_2, .inl (cI, 800, .inl (fun _ => 0))), (q_3, .inl (cI, 801, .inl (fun _ => 0))), (q_4, .inl (cI, 801, .inl (fun _ => 0))), (q_5, .inl (cI, 801, .inl (fun _ => 0))), (q_6, .inl (cI, 200, .inl (fun _ => 0))), (q_7, .inl (cI, 200, .inl (fun _ => 0))), (q_8, .inl (cI, 200, .inl (fun _ => 0))), (q_9, .inl (cI, 200, .inl (fun _ => 0))), (q_10, .inr (8, [.ref oC, .ref oK, .int 0, .int 32, .int 0, .int 0]))]) (w1 := [(q_12, .inr (8, [.ref oC, .ref oK, .int 0, .int 32, .int 0, .int 0]))]) hP hD [11] [0, 1, 2, 3, 4, 5, 6, 7, 8, 9, 10] rfl rfl (by decide +kernel) (by decide +kernel) hk1 hFc hP1 hD1
  clear hP hD hS hPc hDc hFc hk1 hz1 hvm ht hP1 hD1
  generalize H1 = H at hPn hSn ⊢
  have hP : va_P (dC, dI) vwCl [(o, .inr (1, [.ref oC, .ref oK, .ref q_1, .ref q_3, .ref q_4, .ref q_5, .ref q_10, .null, .null, .ref q_6, .ref q_7, .ref q_8, .ref q_9, .int 0, .int 0, .int 0, .int 0, .int 0, .int 0, .int 0])), (q_1, .inr (5, [.ref ar_2, .int 0])), (ar_2, .inl (cI, 800, .inl (fun _ => 0))), (q_3, .inl (cI, 801, .inl (fun _ => 0))), (q_4, .inl (cI, 801, .inl (fun _ => 0))), (q_5, .inl (cI, 801, .inl (fun _ => 0))), (q_6, .inl (cI, 200, .inl (fun _ => 0))), (q_7, .inl (cI, 200, .inl (fun _ => 0))), (q_8, .inl (cI, 200, .inl (fun _ => 0))), (q_9, .inl (cI, 200, .inl (fun _ => 0))), (q_10, .inr (8, [.ref oC, .ref oK, .int 0, .int 32, .int 0, .int 0])), (q_12, .inr (8, [.ref oC, .ref oK, .int 0, .int 32, .int 0, .int 0]))] H := hPn
  have hD : va_D A [(o, .inr (1, [.ref oC, .ref oK, .ref q_1, .ref q_3, .ref q_4, .ref q_5, .ref q_10, .null, .null, .ref q_6, .ref q_7, .ref q_8, .ref q_9, .int 0, .int 0, .int 0, .int 0, .int 0, .int 0, .int 0])), (q_1, .inr (5, [.ref ar_2, .int 0])), (ar_2, .inl (cI, 800, .inl (fun _ => 0))), (q_3, .inl (cI, 801, .inl (fun _ => 0))), (q_4, .inl (cI, 801, .inl (fun _ => 0))), (q_5, .inl (cI, 801, .inl (fun _ => 0))), (q_6, .inl (cI, 200, .inl (fun _ => 0))), (q_7, .inl (cI, 200, .inl (fun _ => 0))), (q_8, .inl (cI, 200, .inl (fun _ => 0))), (q_9, .inl (cI, 200, .inl (fun _ => 0))), (q_10, .inr (8, [.ref oC, .ref oK, .int 0, .int 32, .int 0, .int 0])), (q_12, .inr (8, [.ref oC, .ref oK, .int 0, .int 32, .int 0, .int 0]))] := hDn
  have hS := hSn
  clear hPn hDn hSn
  refine va_putF (D := (dC, dI)) (ci := 1) (v := .ref q_12) (ty := .object "TextMender$Reading") (C := RX1) (T := TX1) (N := 20) hx hb hts in_X1 tyX1 tyX1_ok nmX1 hown hK hP hD hS 0 rfl rfl 7 (by decide) (hts (.fieldLink RX1 59 "TextMender$Choices" "middle" "LTextMender$Reading;") (List.mem_of_getElem? (i := 22) rfl)) (fun _ h9 => h9) rfl hin rfl (by decide +kernel) rfl rfl (Nat.le_of_ble_eq_true rfl) dX1_init_114 (fun H locs hPn hDn hSn => ?_)
  clear hP hD hS
  have hP : va_P (dC, dI) vwCl [(o, .inr (1, [.ref oC, .ref oK, .ref q_1, .ref q_3, .ref q_4, .ref q_5, .ref q_10, .ref q_12, .null, .ref q_6, .ref q_7, .ref q_8, .ref q_9, .int 0, .int 0, .int 0, .int 0, .int 0, .int 0, .int 0])), (q_1, .inr (5, [.ref ar_2, .int 0])), (ar_2, .inl (cI, 800, .inl (fun _ => 0))), (q_3, .inl (cI, 801, .inl (fun _ => 0))), (q_4, .inl (cI, 801, .inl (fun _ => 0))), (q_5, .inl (cI, 801, .inl (fun _ => 0))), (q_6, .inl (cI, 200, .inl (fun _ => 0))), (q_7, .inl (cI, 200, .inl (fun _ => 0))), (q_8, .inl (cI, 200, .inl (fun _ => 0))), (q_9, .inl (cI, 200, .inl (fun _ => 0))), (q_10, .inr (8, [.ref oC, .ref oK, .int 0, .int 32, .int 0, .int 0])), (q_12, .inr (8, [.ref oC, .ref oK, .int 0, .int 32, .int 0, .int 0]))] H := hPn
  have hD : va_D A [(o, .inr (1, [.ref oC, .ref oK, .ref q_1, .ref q_3, .ref q_4, .ref q_5, .ref q_10, .ref q_12, .null, .ref q_6, .ref q_7, .ref q_8, .ref q_9, .int 0, .int 0, .int 0, .int 0, .int 0, .int 0, .int 0])), (q_1, .inr (5, [.ref ar_2, .int 0])), (ar_2, .inl (cI, 800, .inl (fun _ => 0))), (q_3, .inl (cI, 801, .inl (fun _ => 0))), (q_4, .inl (cI, 801, .inl (fun _ => 0))), (q_5, .inl (cI, 801, .inl (fun _ => 0))), (q_6, .inl (cI, 200, .inl (fun _ => 0))), (q_7, .inl (cI, 200, .inl (fun _ => 0))), (q_8, .inl (cI, 200, .inl (fun _ => 0))), (q_9, .inl (cI, 200, .inl (fun _ => 0))), (q_10, .inr (8, [.ref oC, .ref oK, .int 0, .int 32, .int 0, .int 0])), (q_12, .inr (8, [.ref oC, .ref oK, .int 0, .int 32, .int 0, .int 0]))] := hDn
  have hS := hSn
  clear hPn hDn hSn
  refine lv_aload_n hx hb dX1_init_117 rfl (lv_at hl 0 rfl) ?_
  refine va_new (ci := 8) (fs := [.null, .null, .int 0, .int 0, .int 0, .int 0]) (C := RX8) (T := TX8) (N := 6) hx hb hts in_X8 tyX8 tyX8_ok hown (hts (.classLink RX1 50 RX8) (List.mem_of_getElem? (i := 18) rfl)) (hts (.instantiable RX8 6) (List.mem_of_getElem? (i := 19) rfl)) (hts (.initialized RX8) (List.mem_of_getElem? (i := 20) rfl)) hK hP hD hS hA rfl (p_fsX8) (Nat.le_of_ble_eq_true rfl) (Nat.le_of_ble_eq_true rfl) dX1_init_118 (fun q_14 H hPn hDn hSn => ?_)
  clear hP hD hS
  have hP : va_P (dC, dI) vwCl [(o, .inr (1, [.ref oC, .ref oK, .ref q_1, .ref q_3, .ref q_4, .ref q_5, .ref q_10, .ref q_12, .null, .ref q_6, .ref q_7, .ref q_8, .ref q_9, .int 0, .int 0, .int 0, .int 0, .int 0, .int 0, .int 0])), (q_1, .inr (5, [.ref ar_2, .int 0])), (ar_2, .inl (cI, 800, .inl (fun _ => 0))), (q_3, .inl (cI, 801, .inl (fun _ => 0))), (q_4, .inl (cI, 801, .inl (fun _ => 0))), (q_5, .inl (cI, 801, .inl (fun _ => 0))), (q_6, .inl (cI, 200, .inl (fun _ => 0))), (q_7, .inl (cI, 200, .inl (fun _ => 0))), (q_8, .inl (cI, 200, .inl (fun _ => 0))), (q_9, .inl (cI, 200, .inl (fun _ => 0))), (q_10, .inr (8, [.ref oC, .ref oK, .int 0, .int 32, .int 0, .int 0])), (q_12, .inr (8, [.ref oC, .ref oK, .int 0, .int 32, .int 0, .int 0])), (q_14, .inr (8, [.null, .null, .int 0, .int 0, .int 0, .int 0]))] H := hPn
  have hD : va_D A [(o, .inr (1, [.ref oC, .ref oK, .ref q_1, .ref q_3, .ref q_4, .ref q_5, .ref q_10, .ref q_12, .null, .ref q_6, .ref q_7, .ref q_8, .ref q_9, .int 0, .int 0, .int 0, .int 0, .int 0, .int 0, .int 0])), (q_1, .inr (5, [.ref ar_2, .int 0])), (ar_2, .inl (cI, 800, .inl (fun _ => 0))), (q_3, .inl (cI, 801, .inl (fun _ => 0))), (q_4, .inl (cI, 801, .inl (fun _ => 0))), (q_5, .inl (cI, 801, .inl (fun _ => 0))), (q_6, .inl (cI, 200, .inl (fun _ => 0))), (q_7, .inl (cI, 200, .inl (fun _ => 0))), (q_8, .inl (cI, 200, .inl (fun _ => 0))), (q_9, .inl (cI, 200, .inl (fun _ => 0))), (q_10, .inr (8, [.ref oC, .ref oK, .int 0, .int 32, .int 0, .int 0])), (q_12, .inr (8, [.ref oC, .ref oK, .int 0, .int 32, .int 0, .int 0])), (q_14, .inr (8, [.null, .null, .int 0, .int 0, .int 0, .int 0]))] := hDn
  have hS := hSn
  clear hPn hDn hSn
  refine W.widen (k := 12) (n := 4023) (Nat.le_of_ble_eq_true rfl) (Nat.le_of_ble_eq_true rfl) ?_
  refine lv_dup hx hb dX1_init_121 rfl ?_
  refine lv_aload_n hx hb dX1_init_122 rfl (lv_at hl 1 rfl) ?_
  refine lv_aload_n hx hb dX1_init_123 rfl (lv_at hl 2 rfl) ?_
  have hPc := hP.sub (ws' := [(q_14, .inr (8, [.null, .null, .int 0, .int 0, .int 0, .int 0]))]) [12] rfl
  have hDc := hD.sub (ws' := [(q_14, .inr (8, [.null, .null, .int 0, .int 0, .int 0, .int 0]))]) [12] (by decide +kernel) rfl
  have hFc := va_free (wc := [(q_14, .inr (8, [.null, .null, .int 0, .int 0, .int 0, .int 0]))]) hD hS hA [12] rfl
  refine va_callv (va_runI (As := [.ref oC, .ref oK]) (rest := [.ref q_14, .ref o]) ⟨hx, hb, hml, hown, hts⟩ (k_X8_init l dC dI cI cS H.size q_14 oC oK ) (cwI 2 hts gX1_init_X8_init rfl rfl rfl (hts (.initialized RX8) (List.mem_of_getElem? (i := 20) rfl)) (hts (.methodLink RX1 52 yX8_init) (List.mem_of_getElem? (i := 41) rfl)) (hts (.instanceMethod yX8_init) (List.mem_of_getElem? (i := 42) rfl)) rfl (by decide +kernel) ⟨Nat.le_of_ble_eq_true rfl, Nat.le_of_ble_eq_true rfl⟩) ⟨fun a U g mk q => by obtain ⟨q0, q1, qP, qK, qD⟩ := q; exact ⟨q0, q1, qP, va_K.moved (u := U) (U := U.calling g mk a) (Vm.Alike.refl U.vm) qK, qD⟩, fun U hU hW => ⟨rfl, by rw [hU], by rw [hU]; exact hPc, va_K.moved hW.alike hK, hDc.weaken (fun _ _ _ _ => trivial)⟩⟩ rfl rfl hl.1 rfl (lv_room (Nat.le_of_ble_eq_true rfl)) dX1_init_124 ⟨Nat.le_of_ble_eq_true rfl, Nat.le_of_ble_eq_true rfl⟩) hS (fun q _ h => hFc q h) hFc (fun u t H1 locs ht hvm hw hB hz1 hk1 hSn => ?_)
  obtain ⟨hP1, hD1⟩ := hB
  rw [ht] at hP1
  obtain ⟨hPn, hDn⟩ := va_join (wr := [(o, .inr (1, [.ref oC, .ref oK, .ref q_1, .ref q_3, .ref q_4, .ref q_5, .ref q_10, .ref q_12, .null, .ref q_6, .ref q_7, .ref q_8, .ref q_9, .int 0, .int 0, .int 0, .int 0, .int 0, .int 0, .int 0])), (q_1, .inr (5, [.ref ar_2, .int 0])), (ar_2, .inl (cI, 800, .inl (fun _ => 0))), (q_3, .inl (cI, 801, .inl (fun _ => 0))), (q_4, .inl (cI, 801, .inl (fun _ => 0))), (q_5, .inl (cI, 801, .inl (fun _ => 0))), (q_6, .inl (cI, 200, .inl (fun _ => 0))), (q_7, .inl (cI, 200, .inl (fun _ => 0))), (q_8, .inl (cI, 200, .inl (fun _ => 0))), (q_9, .inl (cI, 200, .inl (fun _ => 0))), (q_10, .inr (8, [.ref oC, .ref oK, .int 0, .int 32, .int 0, .int 0])), (q_12, .inr (8, [.ref oC, .ref oK, .int 0, .int 32, .int 0, .int 0]))]) (w1 := [(q_14, .inr (8, [.ref oC, .ref oK, .int 0, .int 32, .int 0, .int 0]))]) hP hD [12] [0, 1, 2, 3, 4, 5, 6, 7, 8, 9, 10, 11] rfl rfl (by decide +kernel) (by decide +kernel) hk1 hFc hP1 hD1
  clear hP hD hS hPc hDc hFc hk1 hz1 hvm ht hP1 hD1
  generalize H1 = H at hPn hSn ⊢
  have hP : va_P (dC, dI) vwCl [(o, .inr (1, [.ref oC, .ref oK, .ref q_1, .ref q_3, .ref q_4, .ref q_5, .ref q_10, .ref q_12, .null, .ref q_6, .ref q_7, .ref q_8, .ref q_9, .int 0, .int 0, .int 0, .int 0, .int 0, .int 0, .int 0])), (q_1, .inr (5, [.ref ar_2, .int 0])), (ar_2, .inl (cI, 800, .inl (fun _ => 0))), (q_3, .inl (cI, 801, .inl (fun _ => 0))), (q_4, .inl (cI, 801, .inl (fun _ => 0))), (q_5, .inl (cI, 801, .inl (fun _ => 0))), (q_6, .inl (cI, 200, .inl (fun _ => 0))), (q_7, .inl (cI, 200, .inl (fun _ => 0))), (q_8, .inl (cI, 200, .inl (fun _ => 0))), (q_9, .inl (cI, 200, .inl (fun _ => 0))), (q_10, .inr (8, [.ref oC, .ref oK, .int 0, .int 32, .int 0, .int 0])), (q_12, .inr (8, [.ref oC, .ref oK, .int 0, .int 32, .int 0, .int 0])), (q_14, .inr (8, [.ref oC, .ref oK, .int 0, .int 32, .int 0, .int 0]))] H := hPn
  have hD : va_D A [(o, .inr (1, [.ref oC, .ref oK, .ref q_1, .ref q_3, .ref q_4, .ref q_5, .ref q_10, .ref q_12, .null, .ref q_6, .ref q_7, .ref q_8, .ref q_9, .int 0, .int 0, .int 0, .int 0, .int 0, .int 0, .int 0])), (q_1, .inr (5, [.ref ar_2, .int 0])), (ar_2, .inl (cI, 800, .inl (fun _ => 0))), (q_3, .inl (cI, 801, .inl (fun _ => 0))), (q_4, .inl (cI, 801, .inl (fun _ => 0))), (q_5, .inl (cI, 801, .inl (fun _ => 0))), (q_6, .inl (cI, 200, .inl (fun _ => 0))), (q_7, .inl (cI, 200, .inl (fun _ => 0))), (q_8, .inl (cI, 200, .inl (fun _ => 0))), (q_9, .inl (cI, 200, .inl (fun _ => 0))), (q_10, .inr (8, [.ref oC, .ref oK, .int 0, .int 32, .int 0, .int 0])), (q_12, .inr (8, [.ref oC, .ref oK, .int 0, .int 32, .int 0, .int 0])), (q_14, .inr (8, [.ref oC, .ref oK, .int 0, .int 32, .int 0, .int 0]))] := hDn
  have hS := hSn
  clear hPn hDn hSn
  refine va_putF (D := (dC, dI)) (ci := 1) (v := .ref q_14) (ty := .object "TextMender$Reading") (C := RX1) (T := TX1) (N := 20) hx hb hts in_X1 tyX1 tyX1_ok nmX1 hown hK hP hD hS 0 rfl rfl 8 (by decide) (hts (.fieldLink RX1 62 "TextMender$Choices" "whole" "LTextMender$Reading;") (List.mem_of_getElem? (i := 23) rfl)) (fun _ h9 => h9) rfl hin rfl (by decide +kernel) rfl rfl (Nat.le_of_ble_eq_true rfl) dX1_init_127 (fun H locs hPn hDn hSn => ?_)
  clear hP hD hS
  have hP : va_P (dC, dI) vwCl [(o, .inr (1, [.ref oC, .ref oK, .ref q_1, .ref q_3, .ref q_4, .ref q_5, .ref q_10, .ref q_12, .ref q_14, .ref q_6, .ref q_7, .ref q_8, .ref q_9, .int 0, .int 0, .int 0, .int 0, .int 0, .int 0, .int 0])), (q_1, .inr (5, [.ref ar_2, .int 0])), (ar_2, .inl (cI, 800, .inl (fun _ => 0))), (q_3, .inl (cI, 801, .inl (fun _ => 0))), (q_4, .inl (cI, 801, .inl (fun _ => 0))), (q_5, .inl (cI, 801, .inl (fun _ => 0))), (q_6, .inl (cI, 200, .inl (fun _ => 0))), (q_7, .inl (cI, 200, .inl (fun _ => 0))), (q_8, .inl (cI, 200, .inl (fun _ => 0))), (q_9, .inl (cI, 200, .inl (fun _ => 0))), (q_10, .inr (8, [.ref oC, .ref oK, .int 0, .int 32, .int 0, .int 0])), (q_12, .inr (8, [.ref oC, .ref oK, .int 0, .int 32, .int 0, .int 0])), (q_14, .inr (8, [.ref oC, .ref oK, .int 0, .int 32, .int 0, .int 0]))] H := hPn
  have hD : va_D A [(o, .inr (1, [.ref oC, .ref oK, .ref q_1, .ref q_3, .ref q_4, .ref q_5, .ref q_10, .ref q_12, .ref q_14, .ref q_6, .ref q_7, .ref q_8, .ref q_9, .int 0, .int 0, .int 0, .int 0, .int 0, .int 0, .int 0])), (q_1, .inr (5, [.ref ar_2, .int 0])), (ar_2, .inl (cI, 800, .inl (fun _ => 0))), (q_3, .inl (cI, 801, .inl (fun _ => 0))), (q_4, .inl (cI, 801, .inl (fun _ => 0))), (q_5, .inl (cI, 801, .inl (fun _ => 0))), (q_6, .inl (cI, 200, .inl (fun _ => 0))), (q_7, .inl (cI, 200, .inl (fun _ => 0))), (q_8, .inl (cI, 200, .inl (fun _ => 0))), (q_9, .inl (cI, 200, .inl (fun _ => 0))), (q_10, .inr (8, [.ref oC, .ref oK, .int 0, .int 32, .int 0, .int 0])), (q_12, .inr (8, [.ref oC, .ref oK, .int 0, .int 32, .int 0, .int 0])), (q_14, .inr (8, [.ref oC, .ref oK, .int 0, .int 32, .int 0, .int 0]))] := hDn
  have hS := hSn
  clear hPn hDn hSn
  refine lv_aload_n hx hb dX1_init_130 rfl (lv_at hl 0 rfl) ?_
  refine lv_iconst (v := 0) hx hb dX1_init_131 (by decide) ?_
  refine va_put (D := (dC, dI)) (ci := 1) (v := .int 0) (ty := .int) (C := RX1) (T := TX1) (N := 20) hx hb hts in_X1 tyX1 tyX1_ok nmX1 hown hK hP hD hS 0 rfl rfl 13 (by decide) (hts (.fieldLink RX1 65 "TextMender$Choices" "kept" "I") (List.mem_of_getElem? (i := 24) rfl)) (fun _ h9 => h9) rfl (by decide +kernel) rfl rfl (Nat.le_of_ble_eq_true rfl) dX1_init_132 (fun H locs hPn hDn hSn => ?_)
  clear hP hD hS
  have hP : va_P (dC, dI) vwCl [(o, .inr (1, [.ref oC, .ref oK, .ref q_1, .ref q_3, .ref q_4, .ref q_5, .ref q_10, .ref q_12, .ref q_14, .ref q_6, .ref q_7, .ref q_8, .ref q_9, .int 0, .int 0, .int 0, .int 0, .int 0, .int 0, .int 0])), (q_1, .inr (5, [.ref ar_2, .int 0])), (ar_2, .inl (cI, 800, .inl (fun _ => 0))), (q_3, .inl (cI, 801, .inl (fun _ => 0))), (q_4, .inl (cI, 801, .inl (fun _ => 0))), (q_5, .inl (cI, 801, .inl (fun _ => 0))), (q_6, .inl (cI, 200, .inl (fun _ => 0))), (q_7, .inl (cI, 200, .inl (fun _ => 0))), (q_8, .inl (cI, 200, .inl (fun _ => 0))), (q_9, .inl (cI, 200, .inl (fun _ => 0))), (q_10, .inr (8, [.ref oC, .ref oK, .int 0, .int 32, .int 0, .int 0])), (q_12, .inr (8, [.ref oC, .ref oK, .int 0, .int 32, .int 0, .int 0])), (q_14, .inr (8, [.ref oC, .ref oK, .int 0, .int 32, .int 0, .int 0]))] H := hPn
  have hD : va_D A [(o, .inr (1, [.ref oC, .ref oK, .ref q_1, .ref q_3, .ref q_4, .ref q_5, .ref q_10, .ref q_12, .ref q_14, .ref q_6, .ref q_7, .ref q_8, .ref q_9, .int 0, .int 0, .int 0, .int 0, .int 0, .int 0, .int 0])), (q_1, .inr (5, [.ref ar_2, .int 0])), (ar_2, .inl (cI, 800, .inl (fun _ => 0))), (q_3, .inl (cI, 801, .inl (fun _ => 0))), (q_4, .inl (cI, 801, .inl (fun _ => 0))), (q_5, .inl (cI, 801, .inl (fun _ => 0))), (q_6, .inl (cI, 200, .inl (fun _ => 0))), (q_7, .inl (cI, 200, .inl (fun _ => 0))), (q_8, .inl (cI, 200, .inl (fun _ => 0))), (q_9, .inl (cI, 200, .inl (fun _ => 0))), (q_10, .inr (8, [.ref oC, .ref oK, .int 0, .int 32, .int 0, .int 0])), (q_12, .inr (8, [.ref oC, .ref oK, .int 0, .int 32, .int 0, .int 0])), (q_14, .inr (8, [.ref oC, .ref oK, .int 0, .int 32, .int 0, .int 0]))] := hDn
  have hS := hSn
  clear hPn hDn hSn
  refine lv_aload_n hx hb dX1_init_135 rfl (lv_at hl 0 rfl) ?_
  refine lv_iconst (v := 0) hx hb dX1_init_136 (by decide) ?_
  refine va_put (D := (dC, dI)) (ci := 1) (v := .int 0) (ty := .int) (C := RX1) (T := TX1) (N := 20) hx hb hts in_X1 tyX1 tyX1_ok nmX1 hown hK hP hD hS 0 rfl rfl 14 (by decide) (hts (.fieldLink RX1 69 "TextMender$Choices" "total" "I") (List.mem_of_getElem? (i := 25) rfl)) (fun _ h9 => h9) rfl (by decide +kernel) rfl rfl (Nat.le_of_ble_eq_true rfl) dX1_init_137 (fun H locs hPn hDn hSn => ?_)
  clear hP hD hS
  have hP : va_P (dC, dI) vwCl [(o, .inr (1, [.ref oC, .ref oK, .ref q_1, .ref q_3, .ref q_4, .ref q_5, .ref q_10, .ref q_12, .ref q_14, .ref q_6, .ref q_7, .ref q_8, .ref q_9, .int 0, .int 0, .int 0, .int 0, .int 0, .int 0, .int 0])), (q_1, .inr (5, [.ref ar_2, .int 0])), (ar_2, .inl (cI, 800, .inl (fun _ => 0))), (q_3, .inl (cI, 801, .inl (fun _ => 0))), (q_4, .inl (cI, 801, .inl (fun _ => 0))), (q_5, .inl (cI, 801, .inl (fun _ => 0))), (q_6, .inl (cI, 200, .inl (fun _ => 0))), (q_7, .inl (cI, 200, .inl (fun _ => 0))), (q_8, .inl (cI, 200, .inl (fun _ => 0))), (q_9, .inl (cI, 200, .inl (fun _ => 0))), (q_10, .inr (8, [.ref oC, .ref oK, .int 0, .int 32, .int 0, .int 0])), (q_12, .inr (8, [.ref oC, .ref oK, .int 0, .int 32, .int 0, .int 0])), (q_14, .inr (8, [.ref oC, .ref oK, .int 0, .int 32, .int 0, .int 0]))] H := hPn
  have hD : va_D A [(o, .inr (1, [.ref oC, .ref oK, .ref q_1, .ref q_3, .ref q_4, .ref q_5, .ref q_10, .ref q_12, .ref q_14, .ref q_6, .ref q_7, .ref q_8, .ref q_9, .int 0, .int 0, .int 0, .int 0, .int 0, .int 0, .int 0])), (q_1, .inr (5, [.ref ar_2, .int 0])), (ar_2, .inl (cI, 800, .inl (fun _ => 0))), (q_3, .inl (cI, 801, .inl (fun _ => 0))), (q_4, .inl (cI, 801, .inl (fun _ => 0))), (q_5, .inl (cI, 801, .inl (fun _ => 0))), (q_6, .inl (cI, 200, .inl (fun _ => 0))), (q_7, .inl (cI, 200, .inl (fun _ => 0))), (q_8, .inl (cI, 200, .inl (fun _ => 0))), (q_9, .inl (cI, 200, .inl (fun _ => 0))), (q_10, .inr (8, [.ref oC, .ref oK, .int 0, .int 32, .int 0, .int 0])), (q_12, .inr (8, [.ref oC, .ref oK, .int 0, .int 32, .int 0, .int 0])), (q_14, .inr (8, [.ref oC, .ref oK, .int 0, .int 32, .int 0, .int 0]))] := hDn
  have hS := hSn
  clear hPn hDn hSn
  refine lv_aload_n hx hb dX1_init_140 rfl (lv_at hl 0 rfl) ?_
  refine lv_iconst (v := 0) hx hb dX1_init_141 (by decide) ?_
  refine va_put (D := (dC, dI)) (ci := 1) (v := .int 0) (ty := .boolean) (C := RX1) (T := TX1) (N := 20) hx hb hts in_X1 tyX1 tyX1_ok nmX1 hown hK hP hD hS 0 rfl rfl 15 (by decide) (hts (.fieldLink RX1 72 "TextMender$Choices" "fresh" "Z") (List.mem_of_getElem? (i := 26) rfl)) (fun _ h9 => h9) rfl (by decide +kernel) rfl rfl (Nat.le_of_ble_eq_true rfl) dX1_init_142 (fun H locs hPn hDn hSn => ?_)
  clear hP hD hS
  have hP : va_P (dC, dI) vwCl [(o, .inr (1, [.ref oC, .ref oK, .ref q_1, .ref q_3, .ref q_4, .ref q_5, .ref q_10, .ref q_12, .ref q_14, .ref q_6, .ref q_7, .ref q_8, .ref q_9, .int 0, .int 0, .int 0, .int 0, .int 0, .int 0, .int 0])), (q_1, .inr (5, [.ref ar_2, .int 0])), (ar_2, .inl (cI, 800, .inl (fun _ => 0))), (q_3, .inl (cI, 801, .inl (fun _ => 0))), (q_4, .inl (cI, 801, .inl (fun _ => 0))), (q_5, .inl (cI, 801, .inl (fun _ => 0))), (q_6, .inl (cI, 200, .inl (fun _ => 0))), (q_7, .inl (cI, 200, .inl (fun _ => 0))), (q_8, .inl (cI, 200, .inl (fun _ => 0))), (q_9, .inl (cI, 200, .inl (fun _ => 0))), (q_10, .inr (8, [.ref oC, .ref oK, .int 0, .int 32, .int 0, .int 0])), (q_12, .inr (8, [.ref oC, .ref oK, .int 0, .int 32, .int 0, .int 0])), (q_14, .inr (8, [.ref oC, .ref oK, .int 0, .int 32, .int 0, .int 0]))] H := hPn
  have hD : va_D A [(o, .inr (1, [.ref oC, .ref oK, .ref q_1, .ref q_3, .ref q_4, .ref q_5, .ref q_10, .ref q_12, .ref q_14, .ref q_6, .ref q_7, .ref q_8, .ref q_9, .int 0, .int 0, .int 0, .int 0, .int 0, .int 0, .int 0])), (q_1, .inr (5, [.ref ar_2, .int 0])), (ar_2, .inl (cI, 800, .inl (fun _ => 0))), (q_3, .inl (cI, 801, .inl (fun _ => 0))), (q_4, .inl (cI, 801, .inl (fun _ => 0))), (q_5, .inl (cI, 801, .inl (fun _ => 0))), (q_6, .inl (cI, 200, .inl (fun _ => 0))), (q_7, .inl (cI, 200, .inl (fun _ => 0))), (q_8, .inl (cI, 200, .inl (fun _ => 0))), (q_9, .inl (cI, 200, .inl (fun _ => 0))), (q_10, .inr (8, [.ref oC, .ref oK, .int 0, .int 32, .int 0, .int 0])), (q_12, .inr (8, [.ref oC, .ref oK, .int 0, .int 32, .int 0, .int 0])), (q_14, .inr (8, [.ref oC, .ref oK, .int 0, .int 32, .int 0, .int 0]))] := hDn
  have hS := hSn
  clear hPn hDn hSn
  refine lv_aload_n hx hb dX1_init_145 rfl (lv_at hl 0 rfl) ?_
  refine lv_iconst (v := (-1)) hx hb dX1_init_146 (by decide) ?_
  refine va_put (D := (dC, dI)) (ci := 1) (v := .int (-1)) (ty := .int) (C := RX1) (T := TX1) (N := 20) hx hb hts in_X1 tyX1 tyX1_ok nmX1 hown hK hP hD hS 0 rfl rfl 16 (by decide) (hts (.fieldLink RX1 76 "TextMender$Choices" "writtenIn" "I") (List.mem_of_getElem? (i := 27) rfl)) (fun _ h9 => h9) rfl (by decide +kernel) rfl rfl (Nat.le_of_ble_eq_true rfl) dX1_init_147 (fun H locs hPn hDn hSn => ?_)
  clear hP hD hS
  have hP : va_P (dC, dI) vwCl [(o, .inr (1, [.ref oC, .ref oK, .ref q_1, .ref q_3, .ref q_4, .ref q_5, .ref q_10, .ref q_12, .ref q_14, .ref q_6, .ref q_7, .ref q_8, .ref q_9, .int 0, .int 0, .int 0, .int (-1), .int 0, .int 0, .int 0])), (q_1, .inr (5, [.ref ar_2, .int 0])), (ar_2, .inl (cI, 800, .inl (fun _ => 0))), (q_3, .inl (cI, 801, .inl (fun _ => 0))), (q_4, .inl (cI, 801, .inl (fun _ => 0))), (q_5, .inl (cI, 801, .inl (fun _ => 0))), (q_6, .inl (cI, 200, .inl (fun _ => 0))), (q_7, .inl (cI, 200, .inl (fun _ => 0))), (q_8, .inl (cI, 200, .inl (fun _ => 0))), (q_9, .inl (cI, 200, .inl (fun _ => 0))), (q_10, .inr (8, [.ref oC, .ref oK, .int 0, .int 32, .int 0, .int 0])), (q_12, .inr (8, [.ref oC, .ref oK, .int 0, .int 32, .int 0, .int 0])), (q_14, .inr (8, [.ref oC, .ref oK, .int 0, .int 32, .int 0, .int 0]))] H := hPn
  have hD : va_D A [(o, .inr (1, [.ref oC, .ref oK, .ref q_1, .ref q_3, .ref q_4, .ref q_5, .ref q_10, .ref q_12, .ref q_14, .ref q_6, .ref q_7, .ref q_8, .ref q_9, .int 0, .int 0, .int 0, .int (-1), .int 0, .int 0, .int 0])), (q_1, .inr (5, [.ref ar_2, .int 0])), (ar_2, .inl (cI, 800, .inl (fun _ => 0))), (q_3, .inl (cI, 801, .inl (fun _ => 0))), (q_4, .inl (cI, 801, .inl (fun _ => 0))), (q_5, .inl (cI, 801, .inl (fun _ => 0))), (q_6, .inl (cI, 200, .inl (fun _ => 0))), (q_7, .inl (cI, 200, .inl (fun _ => 0))), (q_8, .inl (cI, 200, .inl (fun _ => 0))), (q_9, .inl (cI, 200, .inl (fun _ => 0))), (q_10, .inr (8, [.ref oC, .ref oK, .int 0, .int 32, .int 0, .int 0])), (q_12, .inr (8, [.ref oC, .ref oK, .int 0, .int 32, .int 0, .int 0])), (q_14, .inr (8, [.ref oC, .ref oK, .int 0, .int 32, .int 0, .int 0]))] := hDn
  have hS := hSn
  clear hPn hDn hSn
  refine lv_aload_n hx hb dX1_init_150 rfl (lv_at hl 0 rfl) ?_
  refine lv_iconst (v := (-1)) hx hb dX1_init_151 (by decide) ?_
  refine va_put (D := (dC, dI)) (ci := 1) (v := .int (-1)) (ty := .int) (C := RX1) (T := TX1) (N := 20) hx hb hts in_X1 tyX1 tyX1_ok nmX1 hown hK hP hD hS 0 rfl rfl 17 (by decide) (hts (.fieldLink RX1 79 "TextMender$Choices" "readIn" "I") (List.mem_of_getElem? (i := 28) rfl)) (fun _ h9 => h9) rfl (by decide +kernel) rfl rfl (Nat.le_of_ble_eq_true rfl) dX1_init_152 (fun H locs hPn hDn hSn => ?_)
  clear hP hD hS
  have hP : va_P (dC, dI) vwCl [(o, .inr (1, [.ref oC, .ref oK, .ref q_1, .ref q_3, .ref q_4, .ref q_5, .ref q_10, .ref q_12, .ref q_14, .ref q_6, .ref q_7, .ref q_8, .ref q_9, .int 0, .int 0, .int 0, .int (-1), .int (-1), .int 0, .int 0])), (q_1, .inr (5, [.ref ar_2, .int 0])), (ar_2, .inl (cI, 800, .inl (fun _ => 0))), (q_3, .inl (cI, 801, .inl (fun _ => 0))), (q_4, .inl (cI, 801, .inl (fun _ => 0))), (q_5, .inl (cI, 801, .inl (fun _ => 0))), (q_6, .inl (cI, 200, .inl (fun _ => 0))), (q_7, .inl (cI, 200, .inl (fun _ => 0))), (q_8, .inl (cI, 200, .inl (fun _ => 0))), (q_9, .inl (cI, 200, .inl (fun _ => 0))), (q_10, .inr (8, [.ref oC, .ref oK, .int 0, .int 32, .int 0, .int 0])), (q_12, .inr (8, [.ref oC, .ref oK, .int 0, .int 32, .int 0, .int 0])), (q_14, .inr (8, [.ref oC, .ref oK, .int 0, .int 32, .int 0, .int 0]))] H := hPn
  have hD : va_D A [(o, .inr (1, [.ref oC, .ref oK, .ref q_1, .ref q_3, .ref q_4, .ref q_5, .ref q_10, .ref q_12, .ref q_14, .ref q_6, .ref q_7, .ref q_8, .ref q_9, .int 0, .int 0, .int 0, .int (-1), .int (-1), .int 0, .int 0])), (q_1, .inr (5, [.ref ar_2, .int 0])), (ar_2, .inl (cI, 800, .inl (fun _ => 0))), (q_3, .inl (cI, 801, .inl (fun _ => 0))), (q_4, .inl (cI, 801, .inl (fun _ => 0))), (q_5, .inl (cI, 801, .inl (fun _ => 0))), (q_6, .inl (cI, 200, .inl (fun _ => 0))), (q_7, .inl (cI, 200, .inl (fun _ => 0))), (q_8, .inl (cI, 200, .inl (fun _ => 0))), (q_9, .inl (cI, 200, .inl (fun _ => 0))), (q_10, .inr (8, [.ref oC, .ref oK, .int 0, .int 32, .int 0, .int 0])), (q_12, .inr (8, [.ref oC, .ref oK, .int 0, .int 32, .int 0, .int 0])), (q_14, .inr (8, [.ref oC, .ref oK, .int 0, .int 32, .int 0, .int 0]))] := hDn
  have hS := hSn
  clear hPn hDn hSn
  refine lv_aload_n hx hb dX1_init_155 rfl (lv_at hl 0 rfl) ?_
  refine lv_iconst (v := (-1)) hx hb dX1_init_156 (by decide) ?_
  refine va_put (D := (dC, dI)) (ci := 1) (v := .int (-1)) (ty := .int) (C := RX1) (T := TX1) (N := 20) hx hb hts in_X1 tyX1 tyX1_ok nmX1 hown hK hP hD hS 0 rfl rfl 18 (by decide) (hts (.fieldLink RX1 82 "TextMender$Choices" "firstMark" "I") (List.mem_of_getElem? (i := 29) rfl)) (fun _ h9 => h9) rfl (by decide +kernel) rfl rfl (Nat.le_of_ble_eq_true rfl) dX1_init_157 (fun H locs hPn hDn hSn => ?_)
  clear hP hD hS
  have hP : va_P (dC, dI) vwCl [(o, .inr (1, [.ref oC, .ref oK, .ref q_1, .ref q_3, .ref q_4, .ref q_5, .ref q_10, .ref q_12, .ref q_14, .ref q_6, .ref q_7, .ref q_8, .ref q_9, .int 0, .int 0, .int 0, .int (-1), .int (-1), .int (-1), .int 0])), (q_1, .inr (5, [.ref ar_2, .int 0])), (ar_2, .inl (cI, 800, .inl (fun _ => 0))), (q_3, .inl (cI, 801, .inl (fun _ => 0))), (q_4, .inl (cI, 801, .inl (fun _ => 0))), (q_5, .inl (cI, 801, .inl (fun _ => 0))), (q_6, .inl (cI, 200, .inl (fun _ => 0))), (q_7, .inl (cI, 200, .inl (fun _ => 0))), (q_8, .inl (cI, 200, .inl (fun _ => 0))), (q_9, .inl (cI, 200, .inl (fun _ => 0))), (q_10, .inr (8, [.ref oC, .ref oK, .int 0, .int 32, .int 0, .int 0])), (q_12, .inr (8, [.ref oC, .ref oK, .int 0, .int 32, .int 0, .int 0])), (q_14, .inr (8, [.ref oC, .ref oK, .int 0, .int 32, .int 0, .int 0]))] H := hPn
  have hD : va_D A [(o, .inr (1, [.ref oC, .ref oK, .ref q_1, .ref q_3, .ref q_4, .ref q_5, .ref q_10, .ref q_12, .ref q_14, .ref q_6, .ref q_7, .ref q_8, .ref q_9, .int 0, .int 0, .int 0, .int (-1), .int (-1), .int (-1), .int 0])), (q_1, .inr (5, [.ref ar_2, .int 0])), (ar_2, .inl (cI, 800, .inl (fun _ => 0))), (q_3, .inl (cI, 801, .inl (fun _ => 0))), (q_4, .inl (cI, 801, .inl (fun _ => 0))), (q_5, .inl (cI, 801, .inl (fun _ => 0))), (q_6, .inl (cI, 200, .inl (fun _ => 0))), (q_7, .inl (cI, 200, .inl (fun _ => 0))), (q_8, .inl (cI, 200, .inl (fun _ => 0))), (q_9, .inl (cI, 200, .inl (fun _ => 0))), (q_10, .inr (8, [.ref oC, .ref oK, .int 0, .int 32, .int 0, .int 0])), (q_12, .inr (8, [.ref oC, .ref oK, .int 0, .int 32, .int 0, .int 0])), (q_14, .inr (8, [.ref oC, .ref oK, .int 0, .int 32, .int 0, .int 0]))] := hDn
  have hS := hSn
  clear hPn hDn hSn
  refine lv_aload_n hx hb dX1_init_160 rfl (lv_at hl 0 rfl) ?_
  refine lv_iconst (v := (-1)) hx hb dX1_init_161 (by decide) ?_
  refine va_put (D := (dC, dI)) (ci := 1) (v := .int (-1)) (ty := .int) (C := RX1) (T := TX1) (N := 20) hx hb hts in_X1 tyX1 tyX1_ok nmX1 hown hK hP hD hS 0 rfl rfl 19 (by decide) (hts (.fieldLink RX1 85 "TextMender$Choices" "lastMark" "I") (List.mem_of_getElem? (i := 30) rfl)) (fun _ h9 => h9) rfl (by decide +kernel) rfl rfl (Nat.le_of_ble_eq_true rfl) dX1_init_162 (fun H locs hPn hDn hSn => ?_)
  clear hP hD hS
  have hP : va_P (dC, dI) vwCl [(o, .inr (1, [.ref oC, .ref oK, .ref q_1, .ref q_3, .ref q_4, .ref q_5, .ref q_10, .ref q_12, .ref q_14, .ref q_6, .ref q_7, .ref q_8, .ref q_9, .int 0, .int 0, .int 0, .int (-1), .int (-1), .int (-1), .int (-1)])), (q_1, .inr (5, [.ref ar_2, .int 0])), (ar_2, .inl (cI, 800, .inl (fun _ => 0))), (q_3, .inl (cI, 801, .inl (fun _ => 0))), (q_4, .inl (cI, 801, .inl (fun _ => 0))), (q_5, .inl (cI, 801, .inl (fun _ => 0))), (q_6, .inl (cI, 200, .inl (fun _ => 0))), (q_7, .inl (cI, 200, .inl (fun _ => 0))), (q_8, .inl (cI, 200, .inl (fun _ => 0))), (q_9, .inl (cI, 200, .inl (fun _ => 0))), (q_10, .inr (8, [.ref oC, .ref oK, .int 0, .int 32, .int 0, .int 0])), (q_12, .inr (8, [.ref oC, .ref oK, .int 0, .int 32, .int 0, .int 0])), (q_14, .inr (8, [.ref oC, .ref oK, .int 0, .int 32, .int 0, .int 0]))] H := hPn
  have hD : va_D A [(o, .inr (1, [.ref oC, .ref oK, .ref q_1, .ref q_3, .ref q_4, .ref q_5, .ref q_10, .ref q_12, .ref q_14, .ref q_6, .ref q_7, .ref q_8, .ref q_9, .int 0, .int 0, .int 0, .int (-1), .int (-1), .int (-1), .int (-1)])), (q_1, .inr (5, [.ref ar_2, .int 0])), (ar_2, .inl (cI, 800, .inl (fun _ => 0))), (q_3, .inl (cI, 801, .inl (fun _ => 0))), (q_4, .inl (cI, 801, .inl (fun _ => 0))), (q_5, .inl (cI, 801, .inl (fun _ => 0))), (q_6, .inl (cI, 200, .inl (fun _ => 0))), (q_7, .inl (cI, 200, .inl (fun _ => 0))), (q_8, .inl (cI, 200, .inl (fun _ => 0))), (q_9, .inl (cI, 200, .inl (fun _ => 0))), (q_10, .inr (8, [.ref oC, .ref oK, .int 0, .int 32, .int 0, .int 0])), (q_12, .inr (8, [.ref oC, .ref oK, .int 0, .int 32, .int 0, .int 0])), (q_14, .inr (8, [.ref oC, .ref oK, .int 0, .int 32, .int 0, .int 0]))] := hDn
  have hS := hSn
  clear hPn hDn hSn
  have hP9 := hP.sub (ws' := [(o, .inr (1, [.ref oC, .ref oK, .ref q_1, .ref q_3, .ref q_4, .ref q_5, .ref q_10, .ref q_12, .ref q_14, .ref q_6, .ref q_7, .ref q_8, .ref q_9, .int 0, .int 0, .int 0, .int (-1), .int (-1), .int (-1), .int (-1)])), (q_1, .inr (5, [.ref ar_2, .int 0])), (ar_2, .inl (cI, 800, .inl (fun _ => 0))), (q_10, .inr (8, [.ref oC, .ref oK, .int 0, .int 32, .int 0, .int 0])), (q_12, .inr (8, [.ref oC, .ref oK, .int 0, .int 32, .int 0, .int 0])), (q_14, .inr (8, [.ref oC, .ref oK, .int 0, .int 32, .int 0, .int 0])), (q_3, .inl (cI, 801, .inl (fun _ => 0))), (q_4, .inl (cI, 801, .inl (fun _ => 0))), (q_5, .inl (cI, 801, .inl (fun _ => 0))), (q_6, .inl (cI, 200, .inl (fun _ => 0))), (q_7, .inl (cI, 200, .inl (fun _ => 0))), (q_8, .inl (cI, 200, .inl (fun _ => 0))), (q_9, .inl (cI, 200, .inl (fun _ => 0)))]) [0, 1, 2, 10, 11, 12, 3, 4, 5, 6, 7, 8, 9] rfl
  have hD9 := hD.sub (ws' := [(o, .inr (1, [.ref oC, .ref oK, .ref q_1, .ref q_3, .ref q_4, .ref q_5, .ref q_10, .ref q_12, .ref q_14, .ref q_6, .ref q_7, .ref q_8, .ref q_9, .int 0, .int 0, .int 0, .int (-1), .int (-1), .int (-1), .int (-1)])), (q_1, .inr (5, [.ref ar_2, .int 0])), (ar_2, .inl (cI, 800, .inl (fun _ => 0))), (q_10, .inr (8, [.ref oC, .ref oK, .int 0, .int 32, .int 0, .int 0])), (q_12, .inr (8, [.ref oC, .ref oK, .int 0, .int 32, .int 0, .int 0])), (q_14, .inr (8, [.ref oC, .ref oK, .int 0, .int 32, .int 0, .int 0])), (q_3, .inl (cI, 801, .inl (fun _ => 0))), (q_4, .inl (cI, 801, .inl (fun _ => 0))), (q_5, .inl (cI, 801, .inl (fun _ => 0))), (q_6, .inl (cI, 200, .inl (fun _ => 0))), (q_7, .inl (cI, 200, .inl (fun _ => 0))), (q_8, .inl (cI, 200, .inl (fun _ => 0))), (q_9, .inl (cI, 200, .inl (fun _ => 0)))]) [0, 1, 2, 10, 11, 12, 3, 4, 5, 6, 7, 8, 9] (by decide +kernel) rfl
  refine W.widen (k := 12) (n := 4023) (by omega) (by omega) ?_
  exact W.vret hx hb hr (fun t ht hW => ⟨⟨(), rfl, trivial, q_1, ar_2, q_10, q_12, q_14, q_3, q_4, q_5, q_6, q_7, q_8, q_9, by rw [ht]; exact hP9, hD9⟩, hS.F ht⟩) (hS.2.2) dX1_init_165

end

/-! 42.a.rows -/
section
set_option maxRecDepth 100000 in
theorem dA126_cX11_init : kDec cX11_init [(0, .aload_n 0, 1), (1, .invokespecial 1, 3), (4, .new 7, 3), (7, .dup, 1), (8, .invokespecial 9, 3), (11, .astore_n 1, 1), (12, .new 10, 3), (15, .dup, 1), (16, .aload_n 1, 1), (17, .invokespecial 12, 3), (20, .astore_n 2, 1), (21, .new 15, 3), (24, .dup, 1), (25, .aload_n 2, 1), (26, .invokespecial 17, 3), (29, .astore_n 3, 1), (30, .new 20, 3), (33, .dup, 1), (34, .invokespecial 22, 3), (37, .astore 4, 2), (39, .aload_n 0, 1), (40, .new 23, 3), (43, .dup, 1), (44, .sipush 900, 3)] = true := by decide +kernel
theorem dX11_init_0 : decode cX11_init 0 = .ok (.aload_n 0, 1) := kDec_at dA126_cX11_init 0 rfl
theorem dX11_init_1 : decode cX11_init 1 = .ok (.invokespecial 1, 3) := kDec_at dA126_cX11_init 1 rfl
theorem dX11_init_4 : decode cX11_init 4 = .ok (.new 7, 3) := kDec_at dA126_cX11_init 2 rfl
theorem dX11_init_7 : decode cX11_init 7 = .ok (.dup, 1) := kDec_at dA126_cX11_init 3 rfl
theorem dX11_init_8 : decode cX11_init 8 = .ok (.invokespecial 9, 3) := kDec_at dA126_cX11_init 4 rfl
theorem dX11_init_11 : decode cX11_init 11 = .ok (.astore_n 1, 1) := kDec_at dA126_cX11_init 5 rfl
theorem dX11_init_12 : decode cX11_init 12 = .ok (.new 10, 3) := kDec_at dA126_cX11_init 6 rfl
theorem dX11_init_15 : decode cX11_init 15 = .ok (.dup, 1) := kDec_at dA126_cX11_init 7 rfl
theorem dX11_init_16 : decode cX11_init 16 = .ok (.aload_n 1, 1) := kDec_at dA126_cX11_init 8 rfl
theorem dX11_init_17 : decode cX11_init 17 = .ok (.invokespecial 12, 3) := kDec_at dA126_cX11_init 9 rfl
theorem dX11_init_20 : decode cX11_init 20 = .ok (.astore_n 2, 1) := kDec_at dA126_cX11_init 10 rfl
theorem dX11_init_21 : decode cX11_init 21 = .ok (.new 15, 3) := kDec_at dA126_cX11_init 11 rfl
theorem dX11_init_24 : decode cX11_init 24 = .ok (.dup, 1) := kDec_at dA126_cX11_init 12 rfl
theorem dX11_init_25 : decode cX11_init 25 = .ok (.aload_n 2, 1) := kDec_at dA126_cX11_init 13 rfl
theorem dX11_init_26 : decode cX11_init 26 = .ok (.invokespecial 17, 3) := kDec_at dA126_cX11_init 14 rfl
theorem dX11_init_29 : decode cX11_init 29 = .ok (.astore_n 3, 1) := kDec_at dA126_cX11_init 15 rfl
theorem dX11_init_30 : decode cX11_init 30 = .ok (.new 20, 3) := kDec_at dA126_cX11_init 16 rfl
theorem dX11_init_33 : decode cX11_init 33 = .ok (.dup, 1) := kDec_at dA126_cX11_init 17 rfl
theorem dX11_init_34 : decode cX11_init 34 = .ok (.invokespecial 22, 3) := kDec_at dA126_cX11_init 18 rfl
theorem dX11_init_37 : decode cX11_init 37 = .ok (.astore 4, 2) := kDec_at dA126_cX11_init 19 rfl
theorem dX11_init_39 : decode cX11_init 39 = .ok (.aload_n 0, 1) := kDec_at dA126_cX11_init 20 rfl
theorem dX11_init_40 : decode cX11_init 40 = .ok (.new 23, 3) := kDec_at dA126_cX11_init 21 rfl
theorem dX11_init_43 : decode cX11_init 43 = .ok (.dup, 1) := kDec_at dA126_cX11_init 22 rfl
theorem dX11_init_44 : decode cX11_init 44 = .ok (.sipush 900, 3) := kDec_at dA126_cX11_init 23 rfl
set_option maxRecDepth 20000 in
theorem ggX11_init_X2_init : GoodIn wsX11_init wsX2_init := goodIn_r _ [44, 45, 2, 3, 46, 47, 48, 49, 50, 51, 52, 53, 54, 55, 56, 57, 58, 59, 60, 61, 62, 63, 259, 260, 261, 262, 185, 186] rfl (by decide +kernel)
set_option maxRecDepth 20000 in
theorem gX11_init_X2_init_n9 : GoodIn wsX11_init (wsX2_init) := ggX11_init_X2_init
set_option maxRecDepth 20000 in
theorem ggX11_init_X7_init : GoodIn wsX11_init wsX7_init := goodIn_r _ [66, 67, 2, 3, 68, 17, 18, 69, 70, 71, 72, 73, 74, 75, 76, 77, 78, 79, 55, 80, 81, 197, 198, 187, 188, 189] rfl (by decide +kernel)
set_option maxRecDepth 20000 in
theorem gX11_init_X7_init : GoodIn wsX11_init (wsX7_init) := ggX11_init_X7_init
set_option maxRecDepth 20000 in
theorem ggX11_init_X4_init : GoodIn wsX11_init wsX4_init := goodIn_r _ [84, 85, 2, 3, 55, 86, 87, 88, 89, 190, 191, 192, 193] rfl (by decide +kernel)
set_option maxRecDepth 20000 in
theorem gX11_init_X4_init : GoodIn wsX11_init (wsX4_init) := ggX11_init_X4_init
set_option maxRecDepth 20000 in
theorem ggX11_init_X3_init : GoodIn wsX11_init wsX3_init := goodIn_r _ [92, 93, 2, 3, 55, 94, 95, 96, 97, 61, 62, 63, 194, 195, 196] rfl (by decide +kernel)
set_option maxRecDepth 20000 in
theorem gX11_init_X3_init : GoodIn wsX11_init (wsX3_init) := ggX11_init_X3_init
set_option maxRecDepth 20000 in
theorem ggX11_init_X5_init : GoodIn wsX11_init wsX5_init := goodIn_r _ [74, 75, 2, 3, 76, 77, 78, 79, 55, 80, 81, 197, 198] rfl (by decide +kernel)
set_option maxRecDepth 20000 in
theorem gX11_init_X5_init : GoodIn wsX11_init (wsX5_init) := ggX11_init_X5_init
set_option maxRecDepth 100000 in
theorem dA127_cX11_init : kDec cX11_init [(47, .invokespecial 27, 3), (50, .putfield 30, 3), (53, .aload_n 0, 1), (54, .new 23, 3), (57, .dup, 1), (58, .sipush 300, 3), (61, .invokespecial 27, 3), (64, .putfield 34, 3), (67, .aload_n 0, 1), (68, .new 23, 3), (71, .dup, 1), (72, .sipush 300, 3), (75, .invokespecial 27, 3), (78, .putfield 37, 3), (81, .aload_n 0, 1), (82, .aload_n 1, 1), (83, .putfield 40, 3), (86, .aload_n 0, 1), (87, .aload_n 2, 1), (88, .putfield 44, 3), (91, .aload_n 0, 1), (92, .aload_n 3, 1), (93, .putfield 48, 3), (96, .aload_n 0, 1)] = true := by decide +kernel
theorem dX11_init_47 : decode cX11_init 47 = .ok (.invokespecial 27, 3) := kDec_at dA127_cX11_init 0 rfl
theorem dX11_init_50 : decode cX11_init 50 = .ok (.putfield 30, 3) := kDec_at dA127_cX11_init 1 rfl
theorem dX11_init_53 : decode cX11_init 53 = .ok (.aload_n 0, 1) := kDec_at dA127_cX11_init 2 rfl
theorem dX11_init_54 : decode cX11_init 54 = .ok (.new 23, 3) := kDec_at dA127_cX11_init 3 rfl
theorem dX11_init_57 : decode cX11_init 57 = .ok (.dup, 1) := kDec_at dA127_cX11_init 4 rfl
theorem dX11_init_58 : decode cX11_init 58 = .ok (.sipush 300, 3) := kDec_at dA127_cX11_init 5 rfl
theorem dX11_init_61 : decode cX11_init 61 = .ok (.invokespecial 27, 3) := kDec_at dA127_cX11_init 6 rfl
theorem dX11_init_64 : decode cX11_init 64 = .ok (.putfield 34, 3) := kDec_at dA127_cX11_init 7 rfl
theorem dX11_init_67 : decode cX11_init 67 = .ok (.aload_n 0, 1) := kDec_at dA127_cX11_init 8 rfl
theorem dX11_init_68 : decode cX11_init 68 = .ok (.new 23, 3) := kDec_at dA127_cX11_init 9 rfl
theorem dX11_init_71 : decode cX11_init 71 = .ok (.dup, 1) := kDec_at dA127_cX11_init 10 rfl
theorem dX11_init_72 : decode cX11_init 72 = .ok (.sipush 300, 3) := kDec_at dA127_cX11_init 11 rfl
theorem dX11_init_75 : decode cX11_init 75 = .ok (.invokespecial 27, 3) := kDec_at dA127_cX11_init 12 rfl
theorem dX11_init_78 : decode cX11_init 78 = .ok (.putfield 37, 3) := kDec_at dA127_cX11_init 13 rfl
theorem dX11_init_81 : decode cX11_init 81 = .ok (.aload_n 0, 1) := kDec_at dA127_cX11_init 14 rfl
theorem dX11_init_82 : decode cX11_init 82 = .ok (.aload_n 1, 1) := kDec_at dA127_cX11_init 15 rfl
theorem dX11_init_83 : decode cX11_init 83 = .ok (.putfield 40, 3) := kDec_at dA127_cX11_init 16 rfl
theorem dX11_init_86 : decode cX11_init 86 = .ok (.aload_n 0, 1) := kDec_at dA127_cX11_init 17 rfl
theorem dX11_init_87 : decode cX11_init 87 = .ok (.aload_n 2, 1) := kDec_at dA127_cX11_init 18 rfl
theorem dX11_init_88 : decode cX11_init 88 = .ok (.putfield 44, 3) := kDec_at dA127_cX11_init 19 rfl
theorem dX11_init_91 : decode cX11_init 91 = .ok (.aload_n 0, 1) := kDec_at dA127_cX11_init 20 rfl
theorem dX11_init_92 : decode cX11_init 92 = .ok (.aload_n 3, 1) := kDec_at dA127_cX11_init 21 rfl
theorem dX11_init_93 : decode cX11_init 93 = .ok (.putfield 48, 3) := kDec_at dA127_cX11_init 22 rfl
theorem dX11_init_96 : decode cX11_init 96 = .ok (.aload_n 0, 1) := kDec_at dA127_cX11_init 23 rfl
set_option maxRecDepth 100000 in
theorem dA128_cX11_init : kDec cX11_init [(97, .aload 4, 2), (99, .putfield 52, 3), (102, .aload_n 0, 1), (103, .new 56, 3), (106, .dup, 1), (107, .invokespecial 58, 3), (110, .putfield 59, 3), (113, .aload_n 0, 1), (114, .new 63, 3), (117, .dup, 1), (118, .aload_n 3, 1), (119, .aload 4, 2), (121, .invokespecial 65, 3), (124, .putfield 68, 3), (127, .aload_n 0, 1), (128, .new 72, 3), (131, .dup, 1), (132, .aload_n 1, 1), (133, .aload_n 3, 1), (134, .aload 4, 2), (136, .invokespecial 74, 3), (139, .putfield 77, 3), (142, .aload_n 0, 1), (143, .new 81, 3)] = true := by decide +kernel
theorem dX11_init_97 : decode cX11_init 97 = .ok (.aload 4, 2) := kDec_at dA128_cX11_init 0 rfl
theorem dX11_init_99 : decode cX11_init 99 = .ok (.putfield 52, 3) := kDec_at dA128_cX11_init 1 rfl
theorem dX11_init_102 : decode cX11_init 102 = .ok (.aload_n 0, 1) := kDec_at dA128_cX11_init 2 rfl
theorem dX11_init_103 : decode cX11_init 103 = .ok (.new 56, 3) := kDec_at dA128_cX11_init 3 rfl
theorem dX11_init_106 : decode cX11_init 106 = .ok (.dup, 1) := kDec_at dA128_cX11_init 4 rfl
theorem dX11_init_107 : decode cX11_init 107 = .ok (.invokespecial 58, 3) := kDec_at dA128_cX11_init 5 rfl
theorem dX11_init_110 : decode cX11_init 110 = .ok (.putfield 59, 3) := kDec_at dA128_cX11_init 6 rfl
theorem dX11_init_113 : decode cX11_init 113 = .ok (.aload_n 0, 1) := kDec_at dA128_cX11_init 7 rfl
theorem dX11_init_114 : decode cX11_init 114 = .ok (.new 63, 3) := kDec_at dA128_cX11_init 8 rfl
theorem dX11_init_117 : decode cX11_init 117 = .ok (.dup, 1) := kDec_at dA128_cX11_init 9 rfl
theorem dX11_init_118 : decode cX11_init 118 = .ok (.aload_n 3, 1) := kDec_at dA128_cX11_init 10 rfl
theorem dX11_init_119 : decode cX11_init 119 = .ok (.aload 4, 2) := kDec_at dA128_cX11_init 11 rfl
theorem dX11_init_121 : decode cX11_init 121 = .ok (.invokespecial 65, 3) := kDec_at dA128_cX11_init 12 rfl
theorem dX11_init_124 : decode cX11_init 124 = .ok (.putfield 68, 3) := kDec_at dA128_cX11_init 13 rfl
theorem dX11_init_127 : decode cX11_init 127 = .ok (.aload_n 0, 1) := kDec_at dA128_cX11_init 14 rfl
theorem dX11_init_128 : decode cX11_init 128 = .ok (.new 72, 3) := kDec_at dA128_cX11_init 15 rfl
theorem dX11_init_131 : decode cX11_init 131 = .ok (.dup, 1) := kDec_at dA128_cX11_init 16 rfl
theorem dX11_init_132 : decode cX11_init 132 = .ok (.aload_n 1, 1) := kDec_at dA128_cX11_init 17 rfl
theorem dX11_init_133 : decode cX11_init 133 = .ok (.aload_n 3, 1) := kDec_at dA128_cX11_init 18 rfl
theorem dX11_init_134 : decode cX11_init 134 = .ok (.aload 4, 2) := kDec_at dA128_cX11_init 19 rfl
theorem dX11_init_136 : decode cX11_init 136 = .ok (.invokespecial 74, 3) := kDec_at dA128_cX11_init 20 rfl
theorem dX11_init_139 : decode cX11_init 139 = .ok (.putfield 77, 3) := kDec_at dA128_cX11_init 21 rfl
theorem dX11_init_142 : decode cX11_init 142 = .ok (.aload_n 0, 1) := kDec_at dA128_cX11_init 22 rfl
theorem dX11_init_143 : decode cX11_init 143 = .ok (.new 81, 3) := kDec_at dA128_cX11_init 23 rfl
set_option maxRecDepth 20000 in
theorem ggX11_init_X0_init : GoodIn wsX11_init wsX0_init := goodIn_r _ [101, 102, 2, 3, 55, 103, 104, 105, 106, 211, 212, 213, 214] rfl (by decide +kernel)
set_option maxRecDepth 20000 in
theorem gX11_init_X0_init : GoodIn wsX11_init (wsX0_init) := ggX11_init_X0_init
set_option maxRecDepth 20000 in
theorem ggX11_init_X9_init : GoodIn wsX11_init wsX9_init := goodIn_r _ [109, 110, 2, 3, 111, 17, 18, 112, 113, 114, 55, 115, 116, 117, 118, 119, 120, 121, 122, 123, 124, 73, 74, 75, 76, 77, 78, 79, 80, 81, 125, 61, 62, 63, 197, 198, 215, 216, 217, 218, 219, 220, 221, 222, 223, 224, 225, 226] rfl (by decide +kernel)
set_option maxRecDepth 20000 in
theorem gX11_init_X9_init : GoodIn wsX11_init (wsX9_init) := ggX11_init_X9_init
set_option maxRecDepth 20000 in
theorem ggX11_init_X6_init : GoodIn wsX11_init wsX6_init := goodIn_r _ [128, 129, 2, 3, 130, 17, 18, 131, 132, 133, 55, 134, 135, 136, 137, 138, 139, 140, 141, 142, 143, 144, 145, 146, 73, 74, 75, 76, 77, 78, 79, 80, 81, 147, 148, 149, 150, 151, 152, 153, 154, 155, 156, 197, 198, 227, 228, 229, 230, 231, 232, 233, 234, 235, 236, 237, 238, 263, 264, 265, 266, 267, 268] rfl (by decide +kernel)
set_option maxRecDepth 20000 in
theorem gX11_init_X6_init : GoodIn wsX11_init (wsX6_init) := ggX11_init_X6_init
set_option maxRecDepth 100000 in
theorem dA129_cX11_init : kDec cX11_init [(146, .dup, 1), (147, .aload_n 1, 1), (148, .aload 4, 2), (150, .invokespecial 83, 3), (153, .putfield 86, 3), (156, .aload_n 0, 1), (157, .iconst (-1), 1), (158, .putfield 90, 3), (161, .return_, 1)] = true := by decide +kernel
theorem dX11_init_146 : decode cX11_init 146 = .ok (.dup, 1) := kDec_at dA129_cX11_init 0 rfl
theorem dX11_init_147 : decode cX11_init 147 = .ok (.aload_n 1, 1) := kDec_at dA129_cX11_init 1 rfl
theorem dX11_init_148 : decode cX11_init 148 = .ok (.aload 4, 2) := kDec_at dA129_cX11_init 2 rfl
theorem dX11_init_150 : decode cX11_init 150 = .ok (.invokespecial 83, 3) := kDec_at dA129_cX11_init 3 rfl
theorem dX11_init_153 : decode cX11_init 153 = .ok (.putfield 86, 3) := kDec_at dA129_cX11_init 4 rfl
theorem dX11_init_156 : decode cX11_init 156 = .ok (.aload_n 0, 1) := kDec_at dA129_cX11_init 5 rfl
theorem dX11_init_157 : decode cX11_init 157 = .ok (.iconst (-1), 1) := kDec_at dA129_cX11_init 6 rfl
theorem dX11_init_158 : decode cX11_init 158 = .ok (.putfield 90, 3) := kDec_at dA129_cX11_init 7 rfl
theorem dX11_init_161 : decode cX11_init 161 = .ok (.return_, 1) := kDec_at dA129_cX11_init 8 rfl
set_option maxRecDepth 20000 in
theorem ggX11_init_X1_init : GoodIn wsX11_init wsX1_init := goodIn_r _ [159, 160, 2, 3, 161, 17, 18, 162, 55, 163, 164, 165, 166, 167, 168, 169, 170, 171, 172, 142, 143, 173, 174, 175, 176, 177, 178, 179, 180, 181, 182, 183, 73, 74, 75, 76, 77, 78, 79, 80, 81, 184, 148, 149, 150, 151, 152, 153, 154, 155, 156, 197, 198, 239, 240, 241, 242, 243, 244, 245, 246, 247, 248, 249, 250, 251, 252, 253, 254, 255, 256, 257, 258, 263, 264, 265, 266, 267, 268] rfl (by decide +kernel)
set_option maxRecDepth 20000 in
theorem gX11_init_X1_init : GoodIn wsX11_init (wsX1_init) := ggX11_init_X1_init

end
