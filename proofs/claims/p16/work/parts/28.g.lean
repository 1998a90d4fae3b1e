/-! 59k.harm -/
section
set_option maxHeartbeats 40000000 in
set_option maxRecDepth 100000 in
theorem f_X11_passes (l : Launch) (dC : Nat → ClassId) (dI : Nat → Nat → Nat) (cI cS : ClassId) (sz : Nat) (oX : Nat) (nT : Nat) (nL : Nat) (nM : Nat) (oC : Nat) (oP : Nat) (oH : Nat) (oK : Nat) (oG : Nat) (oR : Nat) (oQ : Nat) (oW : Nat) (aL : Nat) (aM : Nat) (nB : Nat) (aB : Nat) (o4 : Nat) (o5 : Nat) (a41 : Nat) (a42 : Nat) (a43 : Nat) (a51 : Nat) (a52 : Nat) (a53 : Nat) (fa : Int32) (lL : Int32) (fL : Nat → Int32) (lM : Int32) (fM : Nat → Int32) (ft : Int32) (lB : Int32) (fB : Nat → Int32) (l4 : Int32) (f41 : Nat → Int32) (f42 : Nat → Int32) (f43 : Nat → Int32) (l5 : Int32) (f51 : Nat → Int32) (f52 : Nat → Int32) (f53 : Nat → Int32) (a : Int32) (b : Int32) (g_lL : 0 ≤ lL.toInt ∧ lL.toInt ≤ 300) (g_lM : 0 ≤ lM.toInt ∧ lM.toInt ≤ 300) (g_lB : 0 ≤ lB.toInt ∧ lB.toInt ≤ 2400) (hlt : prg lL.toInt 0 65535 fL) (hT4 : HT 512 511 hsT f42 f43) (ho4 : (occ f43 512 : Int) ≤ 511) (hT5 : HT 512 511 hsT f52 f53) (ho5 : (occ f53 512 : Int) ≤ 511) (hL4 : prg 256 (-1) 65535 f41) (hL5 : prg 256 (-1) 65535 f51) (hBr : ∀ cd : Int32, okB (Bc cd f42 f43 f52 f53)) : kMi l yX11_passes wsX11_passes ({ frames := 5, cells := 0, slots := 0, locals := 124 } : Room) [.ref oX, .int a, .int b] sz (dC, dI) vwCl [(cI, .int), (cS, .short)] [(oX, .inr (11, [.ref nT, .ref nL, .ref nM, .ref oC, .ref oP, .ref oH, .ref oK, .ref oG, .ref oR, .ref oQ, .ref oW, .int fa])), (nL, .inr (5, [.ref aL, .int lL])), (aL, .inl (cI, 300, .inl fL)), (nM, .inr (5, [.ref aM, .int lM])), (aM, .inl (cI, 300, .inl fM)), (oP, .inr (7, [.ref oC, .ref nB, .int ft])), (nB, .inr (5, [.ref aB, .int lB])), (aB, .inl (cI, 2400, .inl fB)), (oC, .inr (2, [.ref o4, .ref o5])), (o4, .inr (10, [.ref a41, .ref a42, .ref a43, .int l4])), (a41, .inl (cI, 256, .inl f41)), (a42, .inl (cI, 512, .inl f42)), (a43, .inl (cI, 512, .inl f43)), (o5, .inr (10, [.ref a51, .ref a52, .ref a53, .int l5])), (a51, .inl (cI, 256, .inl f51)), (a52, .inl (cI, 512, .inl f52)), (a53, .inl (cI, 512, .inl f53))] (va_Nw (.methodLinkNest RX2 52 yX11_isLetter "TextMender")) 0 0 (fun (A : Nat → Prop) (r : Int32) (hh9 : Heap) => ∀ PZ9 : Prop, (∀ (fa' : Int32) (ft' : Int32) (lB' : Int32) (fB' : Nat → Int32) (lM' : Int32) (fM' : Nat → Int32), kPD (dC, dI) vwCl A [(oX, .inr (11, [.ref nT, .ref nL, .ref nM, .ref oC, .ref oP, .ref oH, .ref oK, .ref oG, .ref oR, .ref oQ, .ref oW, .int fa'])), (nL, .inr (5, [.ref aL, .int lL])), (aL, .inl (cI, 300, .inl fL)), (nM, .inr (5, [.ref aM, .int lM'])), (aM, .inl (cI, 300, .inl fM')), (oP, .inr (7, [.ref oC, .ref nB, .int ft'])), (nB, .inr (5, [.ref aB, .int lB'])), (aB, .inl (cI, 2400, .inl fB')), (oC, .inr (2, [.ref o4, .ref o5])), (o4, .inr (10, [.ref a41, .ref a42, .ref a43, .int l4])), (a41, .inl (cI, 256, .inl f41)), (a42, .inl (cI, 512, .inl f42)), (a43, .inl (cI, 512, .inl f43)), (o5, .inr (10, [.ref a51, .ref a52, .ref a53, .int l5])), (a51, .inl (cI, 256, .inl f51)), (a52, .inl (cI, 512, .inl f52)), (a53, .inl (cI, 512, .inl f53))] hh9 → (0 ≤ lB'.toInt ∧ lB'.toInt ≤ 2400) → (0 ≤ lM'.toInt ∧ lM'.toInt ≤ 300) → (0 ≤ r.toInt ∧ r.toInt ≤ 1) → (F_pz r lM' fM' a b f41 f51 (Bc a f42 f43 f52 f53) lL.toInt fL) → PZ9) → PZ9) := by
  refine kMi_of (cc := cX11_passes) (maxL := 4) (ret := (some .boolean)) (lv := [(0, .ref oX), (1, .int a), (2, .int b)]) (by decide +kernel) rfl rfl (Nat.le_of_ble_eq_true rfl) ?_
  intro p e s m below meth c A QQ ls hx hb hr hts hml hown hlocks hA hQQ hK hX hP hD hS hl
  have hown : s.vm.findClass RX11 = some m.cls := hown
  have hcf := k_cf hx hb hml hown hts
  have hN52 := hX
  have in_X11 : ∀ w ∈ wsX110, w ∈ wsX11_passes := fun _ h => List.mem_cons_of_mem _ (List.mem_append_left _ (List.mem_append_left _ (List.mem_append_left _ (List.mem_append_left _ (List.mem_append_left _ (List.mem_append_left _ (List.mem_append_left _ (List.mem_append_right _ (h)))))))))
  replace g_lB := hid g_lB
  refine lv_aload_n hx hb dX11_passes_0 rfl (lv_at hl 0 rfl) ?_
  refine lv_iconst (v := (-1)) hx hb dX11_passes_1 (by decide) ?_
  refine va_put (D := (dC, dI)) (ci := 11) (v := .int (-1)) (ty := .int) (C := RX11) (T := TX11) (N := 12) hx hb hts in_X11 tyX11 tyX11_ok nmX11 hown hK hP hD hS 0 rfl rfl 11 (Nat.le_of_ble_eq_true rfl) (hts (.fieldLink RX11 90 "TextMender" "fault" "I") (List.mem_of_getElem? (i := 1) rfl)) (fun _ h9 => h9) rfl (tyX11_ok 11 (Nat.le_of_ble_eq_true rfl)) rfl rfl (Nat.le_of_ble_eq_true rfl) dX11_passes_2 (kW (wn := [(oX, .inr (11, [.ref nT, .ref nL, .ref nM, .ref oC, .ref oP, .ref oH, .ref oK, .ref oG, .ref oR, .ref oQ, .ref oW, .int (-1)])), (nL, .inr (5, [.ref aL, .int lL])), (aL, .inl (cI, 300, .inl fL)), (nM, .inr (5, [.ref aM, .int lM])), (aM, .inl (cI, 300, .inl fM)), (oP, .inr (7, [.ref oC, .ref nB, .int ft])), (nB, .inr (5, [.ref aB, .int lB])), (aB, .inl (cI, 2400, .inl fB)), (oC, .inr (2, [.ref o4, .ref o5])), (o4, .inr (10, [.ref a41, .ref a42, .ref a43, .int l4])), (a41, .inl (cI, 256, .inl f41)), (a42, .inl (cI, 512, .inl f42)), (a43, .inl (cI, 512, .inl f43)), (o5, .inr (10, [.ref a51, .ref a52, .ref a53, .int l5])), (a51, .inl (cI, 256, .inl f51)), (a52, .inl (cI, 512, .inl f52)), (a53, .inl (cI, 512, .inl f53))]) rfl (fun H locs hPn hDn hSn => ?_))
  clear hP hD hS
  have hP := hPn
  have hD := hDn
  have hS := hSn
  clear hPn hDn hSn
  refine lv_iload_n hx hb dX11_passes_5 rfl (lv_at hl 1 rfl) ?_
  refine kS_i (rest := []) hcf (m_X2_known l dC dI cI cS H.size a ) kc_X2_known gX11_passes_X2_known rfl rfl ⟨Nat.le_of_ble_eq_true rfl, Nat.le_of_ble_eq_true rfl⟩ kX_t hK hP hD hS hA (posT mk_104 0) (posF mk_104 0) (kC_of mk_104 rfl rfl) (by decide +kernel) rfl hl rfl (Nat.le_of_ble_eq_true rfl) dX11_passes_6 ⟨Nat.le_of_ble_eq_true rfl, Nat.le_of_ble_eq_true rfl⟩ (fun r_1 H locs hB hJ hSn => ?_)
  refine hB _ (fun hPD9 hf1_0 hf1_1 => ?_)
  clear hB
  obtain ⟨hPn, hDn⟩ := kJi (m := mk_104) hJ rfl hPD9.1 hPD9.2 (wn := [(oX, .inr (11, [.ref nT, .ref nL, .ref nM, .ref oC, .ref oP, .ref oH, .ref oK, .ref oG, .ref oR, .ref oQ, .ref oW, .int (-1)])), (nL, .inr (5, [.ref aL, .int lL])), (aL, .inl (cI, 300, .inl fL)), (nM, .inr (5, [.ref aM, .int lM])), (aM, .inl (cI, 300, .inl fM)), (oP, .inr (7, [.ref oC, .ref nB, .int ft])), (nB, .inr (5, [.ref aB, .int lB])), (aB, .inl (cI, 2400, .inl fB)), (oC, .inr (2, [.ref o4, .ref o5])), (o4, .inr (10, [.ref a41, .ref a42, .ref a43, .int l4])), (a41, .inl (cI, 256, .inl f41)), (a42, .inl (cI, 512, .inl f42)), (a43, .inl (cI, 512, .inl f43)), (o5, .inr (10, [.ref a51, .ref a52, .ref a53, .int l5])), (a51, .inl (cI, 256, .inl f51)), (a52, .inl (cI, 512, .inl f52)), (a53, .inl (cI, 512, .inl f53))]) rfl
  clear hP hD hS hJ hPD9
  have hP := hPn
  have hD := hDn
  have hS := hSn
  clear hPn hDn hSn
  refine lv_if_eq (tgt := 19) hx hb dX11_passes_9 (by decide) (fun c_2 => ?_) (fun c_2 => ?_)
  · have tc_2 : r_1.toInt = 0 := v_eq c_2
    refine lv_iconst (v := 0) hx hb dX11_passes_19 (by decide) ?_
    exact kl_z (v := 0) hQQ hx hb hr hlocks hS dX11_passes_20 (rfl) (fun PZ9 kZ9 => kZ9 (-1) ft lB fB lM fM (⟨hP, hD⟩) (g_lB) (g_lM) (by decide) (Or.inr ⟨rfl, by unfold okd; omega⟩))
  · have tc_2 : ¬ r_1.toInt = 0 := v_ne c_2
    refine lv_iload_n hx hb dX11_passes_12 rfl (lv_at hl 2 rfl) ?_
    refine kS_i (rest := []) hcf (m_X2_known l dC dI cI cS H.size b ) kc_X2_known gX11_passes_X2_known rfl rfl ⟨Nat.le_of_ble_eq_true rfl, Nat.le_of_ble_eq_true rfl⟩ kX_t hK hP hD hS hA (posT mk_104 0) (posF mk_104 0) (kC_of mk_104 rfl rfl) (by decide +kernel) rfl hl rfl (Nat.le_of_ble_eq_true rfl) dX11_passes_13 ⟨Nat.le_of_ble_eq_true rfl, Nat.le_of_ble_eq_true rfl⟩ (fun r_3 H locs hB hJ hSn => ?_)
    refine hB _ (fun hPD9 hf3_0 hf3_1 => ?_)
    clear hB
    obtain ⟨hPn, hDn⟩ := kJi (m := mk_104) hJ rfl hPD9.1 hPD9.2 (wn := [(oX, .inr (11, [.ref nT, .ref nL, .ref nM, .ref oC, .ref oP, .ref oH, .ref oK, .ref oG, .ref oR, .ref oQ, .ref oW, .int (-1)])), (nL, .inr (5, [.ref aL, .int lL])), (aL, .inl (cI, 300, .inl fL)), (nM, .inr (5, [.ref aM, .int lM])), (aM, .inl (cI, 300, .inl fM)), (oP, .inr (7, [.ref oC, .ref nB, .int ft])), (nB, .inr (5, [.ref aB, .int lB])), (aB, .inl (cI, 2400, .inl fB)), (oC, .inr (2, [.ref o4, .ref o5])), (o4, .inr (10, [.ref a41, .ref a42, .ref a43, .int l4])), (a41, .inl (cI, 256, .inl f41)), (a42, .inl (cI, 512, .inl f42)), (a43, .inl (cI, 512, .inl f43)), (o5, .inr (10, [.ref a51, .ref a52, .ref a53, .int l5])), (a51, .inl (cI, 256, .inl f51)), (a52, .inl (cI, 512, .inl f52)), (a53, .inl (cI, 512, .inl f53))]) rfl
    clear hP hD hS hJ hPD9
    have hP := hPn
    have hD := hDn
    have hS := hSn
    clear hPn hDn hSn
    refine lv_if_ne (tgt := 21) hx hb dX11_passes_16 (by decide) (fun c_4 => ?_) (fun c_4 => ?_)
    · have tc_4 : ¬ r_3.toInt = 0 := v_ne c_4
      refine lv_aload_n hx hb dX11_passes_21 rfl (lv_at hl 0 rfl) ?_
      refine va_get (D := (dC, dI)) (ci := 11) (v := .ref oP) (C := RX11) (T := TX11) (N := 12) hx hb hts in_X11 hown hK hP 0 rfl rfl 4 (Nat.le_of_ble_eq_true rfl) (hts (.fieldLink RX11 44 "TextMender" "passage" "LTextMender$Passage;") (List.mem_of_getElem? (i := 2) rfl)) (fun _ h9 => h9) rfl dX11_passes_22 ?_
      refine lv_iload_n hx hb dX11_passes_25 rfl (lv_at hl 1 rfl) ?_
      refine lv_iload_n hx hb dX11_passes_26 rfl (lv_at hl 2 rfl) ?_
      refine lv_aload_n hx hb dX11_passes_27 rfl (lv_at hl 0 rfl) ?_
      refine va_get (D := (dC, dI)) (ci := 11) (v := .ref nL) (C := RX11) (T := TX11) (N := 12) hx hb hts in_X11 hown hK hP 0 rfl rfl 1 (Nat.le_of_ble_eq_true rfl) (hts (.fieldLink RX11 34 "TextMender" "letters" "LTextMender$Numbers;") (List.mem_of_getElem? (i := 3) rfl)) (fun _ h9 => h9) rfl dX11_passes_28 ?_
      refine lv_aload_n hx hb dX11_passes_31 rfl (lv_at hl 0 rfl) ?_
      refine va_get (D := (dC, dI)) (ci := 11) (v := .ref nM) (C := RX11) (T := TX11) (N := 12) hx hb hts in_X11 hown hK hP 0 rfl rfl 2 (Nat.le_of_ble_eq_true rfl) (hts (.fieldLink RX11 37 "TextMender" "made" "LTextMender$Numbers;") (List.mem_of_getElem? (i := 4) rfl)) (fun _ h9 => h9) rfl dX11_passes_32 ?_
      refine kV_i (rest := []) (q0 := 0) (ci := 7) hcf (f_X7_pass l dC dI cI cS H.size oP nL nM oC nB aB aL aM o4 o5 a41 a42 a43 a51 a52 a53 ft lB fB lL fL lM fM l4 f41 f42 f43 l5 f51 f52 f53 a b (g_lB) (g_lL) (g_lM) (hlt) (hT4) (by omega) (hT5) (by omega) (hL4) (hL5) (hBr a)) kc_X7_pass gX11_passes_X7_pass rfl rfl rfl ⟨Nat.le_of_ble_eq_true rfl, Nat.le_of_ble_eq_true rfl⟩ (kX_1 hN52) hK hP hD hS hA ([4, 5, 6, 0, 1, 2, 3, 7, 8, 9, 10, 11, 12, 13, 14, 15].filterMap (fun j => (posT mk_125 0)[j]?)) (posF mk_125 0) (kCp (ws := [(nL, .inr (5, [.ref aL, .int lL])), (aL, .inl (cI, 300, .inl fL)), (nM, .inr (5, [.ref aM, .int lM])), (aM, .inl (cI, 300, .inl fM)), (oP, .inr (7, [.ref oC, .ref nB, .int ft])), (nB, .inr (5, [.ref aB, .int lB])), (aB, .inl (cI, 2400, .inl fB)), (oC, .inr (2, [.ref o4, .ref o5])), (o4, .inr (10, [.ref a41, .ref a42, .ref a43, .int l4])), (a41, .inl (cI, 256, .inl f41)), (a42, .inl (cI, 512, .inl f42)), (a43, .inl (cI, 512, .inl f43)), (o5, .inr (10, [.ref a51, .ref a52, .ref a53, .int l5])), (a51, .inl (cI, 256, .inl f51)), (a52, .inl (cI, 512, .inl f52)), (a53, .inl (cI, 512, .inl f53))]) (kC_of mk_125 rfl rfl) rfl) (by decide +kernel) rfl rfl rfl hl rfl (Nat.le_of_ble_eq_true rfl) dX11_passes_35 ⟨Nat.le_of_ble_eq_true rfl, Nat.le_of_ble_eq_true rfl⟩ (fun r_5 H locs hB hJ hSn => ?_)
      refine hB _ (fun ft_5 lB_5 fB_5 ld_5 fd_5 hPD9 hf5_0 hf5_1 hf5_2 hf5_3 => ?_)
      clear hB
      obtain ⟨hPn, hDn⟩ := kJm (m := mk_125) hJ rfl hPD9.1 hPD9.2 [3, 4, 5, 6, 0, 1, 2, 7, 8, 9, 10, 11, 12, 13, 14, 15] (by decide +kernel) (ws := [(nL, .inr (5, [.ref aL, .int lL])), (aL, .inl (cI, 300, .inl fL)), (nM, .inr (5, [.ref aM, .int ld_5])), (aM, .inl (cI, 300, .inl fd_5)), (oP, .inr (7, [.ref oC, .ref nB, .int ft_5])), (nB, .inr (5, [.ref aB, .int lB_5])), (aB, .inl (cI, 2400, .inl fB_5)), (oC, .inr (2, [.ref o4, .ref o5])), (o4, .inr (10, [.ref a41, .ref a42, .ref a43, .int l4])), (a41, .inl (cI, 256, .inl f41)), (a42, .inl (cI, 512, .inl f42)), (a43, .inl (cI, 512, .inl f43)), (o5, .inr (10, [.ref a51, .ref a52, .ref a53, .int l5])), (a51, .inl (cI, 256, .inl f51)), (a52, .inl (cI, 512, .inl f52)), (a53, .inl (cI, 512, .inl f53))]) rfl (wn := [(oX, .inr (11, [.ref nT, .ref nL, .ref nM, .ref oC, .ref oP, .ref oH, .ref oK, .ref oG, .ref oR, .ref oQ, .ref oW, .int (-1)])), (nL, .inr (5, [.ref aL, .int lL])), (aL, .inl (cI, 300, .inl fL)), (nM, .inr (5, [.ref aM, .int ld_5])), (aM, .inl (cI, 300, .inl fd_5)), (oP, .inr (7, [.ref oC, .ref nB, .int ft_5])), (nB, .inr (5, [.ref aB, .int lB_5])), (aB, .inl (cI, 2400, .inl fB_5)), (oC, .inr (2, [.ref o4, .ref o5])), (o4, .inr (10, [.ref a41, .ref a42, .ref a43, .int l4])), (a41, .inl (cI, 256, .inl f41)), (a42, .inl (cI, 512, .inl f42)), (a43, .inl (cI, 512, .inl f43)), (o5, .inr (10, [.ref a51, .ref a52, .ref a53, .int l5])), (a51, .inl (cI, 256, .inl f51)), (a52, .inl (cI, 512, .inl f52)), (a53, .inl (cI, 512, .inl f53))]) rfl
      clear hP hD hS hJ hPD9
      have hP := hPn
      have hD := hDn
      have hS := hSn
      clear hPn hDn hSn
      refine lv_istore_n (lv' := [(3, .int r_5), (0, .ref oX), (1, .int a), (2, .int b)]) hx hb dX11_passes_38 rfl hl (by decide) rfl (fun ls hl => ?_)
      refine lv_aload_n hx hb dX11_passes_39 rfl (lv_at hl 1 rfl) ?_
      refine lv_aload_n hx hb dX11_passes_40 rfl (lv_at hl 1 rfl) ?_
      refine va_get (D := (dC, dI)) (ci := 11) (v := .ref oP) (C := RX11) (T := TX11) (N := 12) hx hb hts in_X11 hown hK hP 0 rfl rfl 4 (Nat.le_of_ble_eq_true rfl) (hts (.fieldLink RX11 44 "TextMender" "passage" "LTextMender$Passage;") (List.mem_of_getElem? (i := 2) rfl)) (fun _ h9 => h9) rfl dX11_passes_41 ?_
      refine kV_i (rest := [.ref oX]) (q0 := 0) (ci := 7) hcf (m_X7_fault l dC dI cI cS H.size oP oC nB ft_5 ) kc_X7_fault gX11_passes_X7_fault rfl rfl rfl ⟨Nat.le_of_ble_eq_true rfl, Nat.le_of_ble_eq_true rfl⟩ kX_t hK hP hD hS hA (posT mk_126 0) (posF mk_126 0) (kC_of mk_126 rfl rfl) (by decide +kernel) rfl rfl rfl hl rfl (Nat.le_of_ble_eq_true rfl) dX11_passes_44 ⟨Nat.le_of_ble_eq_true rfl, Nat.le_of_ble_eq_true rfl⟩ (fun r_6 H locs hB hJ hSn => ?_)
      refine hB _ (fun hPD9 hf6_0 => ?_)
      clear hB
      obtain ⟨hPn, hDn⟩ := kJi (m := mk_126) hJ rfl hPD9.1 hPD9.2 (wn := [(oX, .inr (11, [.ref nT, .ref nL, .ref nM, .ref oC, .ref oP, .ref oH, .ref oK, .ref oG, .ref oR, .ref oQ, .ref oW, .int (-1)])), (nL, .inr (5, [.ref aL, .int lL])), (aL, .inl (cI, 300, .inl fL)), (nM, .inr (5, [.ref aM, .int ld_5])), (aM, .inl (cI, 300, .inl fd_5)), (oP, .inr (7, [.ref oC, .ref nB, .int ft_5])), (nB, .inr (5, [.ref aB, .int lB_5])), (aB, .inl (cI, 2400, .inl fB_5)), (oC, .inr (2, [.ref o4, .ref o5])), (o4, .inr (10, [.ref a41, .ref a42, .ref a43, .int l4])), (a41, .inl (cI, 256, .inl f41)), (a42, .inl (cI, 512, .inl f42)), (a43, .inl (cI, 512, .inl f43)), (o5, .inr (10, [.ref a51, .ref a52, .ref a53, .int l5])), (a51, .inl (cI, 256, .inl f51)), (a52, .inl (cI, 512, .inl f52)), (a53, .inl (cI, 512, .inl f53))]) rfl
      clear hP hD hS hJ hPD9
      have hP := hPn
      have hD := hDn
      have hS := hSn
      clear hPn hDn hSn
      rw [hf6_0]
      refine va_put (D := (dC, dI)) (ci := 11) (v := .int ft_5) (ty := .int) (C := RX11) (T := TX11) (N := 12) hx hb hts in_X11 tyX11 tyX11_ok nmX11 hown hK hP hD hS 0 rfl rfl 11 (Nat.le_of_ble_eq_true rfl) (hts (.fieldLink RX11 90 "TextMender" "fault" "I") (List.mem_of_getElem? (i := 1) rfl)) (fun _ h9 => h9) rfl (tyX11_ok 11 (Nat.le_of_ble_eq_true rfl)) rfl rfl (Nat.le_of_ble_eq_true rfl) dX11_passes_47 (kW (wn := [(oX, .inr (11, [.ref nT, .ref nL, .ref nM, .ref oC, .ref oP, .ref oH, .ref oK, .ref oG, .ref oR, .ref oQ, .ref oW, .int ft_5])), (nL, .inr (5, [.ref aL, .int lL])), (aL, .inl (cI, 300, .inl fL)), (nM, .inr (5, [.ref aM, .int ld_5])), (aM, .inl (cI, 300, .inl fd_5)), (oP, .inr (7, [.ref oC, .ref nB, .int ft_5])), (nB, .inr (5, [.ref aB, .int lB_5])), (aB, .inl (cI, 2400, .inl fB_5)), (oC, .inr (2, [.ref o4, .ref o5])), (o4, .inr (10, [.ref a41, .ref a42, .ref a43, .int l4])), (a41, .inl (cI, 256, .inl f41)), (a42, .inl (cI, 512, .inl f42)), (a43, .inl (cI, 512, .inl f43)), (o5, .inr (10, [.ref a51, .ref a52, .ref a53, .int l5])), (a51, .inl (cI, 256, .inl f51)), (a52, .inl (cI, 512, .inl f52)), (a53, .inl (cI, 512, .inl f53))]) rfl (fun H locs hPn hDn hSn => ?_))
      clear hP hD hS
      have hP := hPn
      have hD := hDn
      have hS := hSn
      clear hPn hDn hSn
      refine lv_iload_n hx hb dX11_passes_50 rfl (lv_at hl 0 rfl) ?_
      exact kl_z (v := r_5) hQQ hx hb hr hlocks hS dX11_passes_51 (v_bool (by omega)) (fun PZ9 kZ9 => kZ9 ft_5 ft_5 lB_5 fB_5 ld_5 fd_5 (⟨hP, hD⟩) (hf5_0) (hf5_1) (hf5_2) (Or.inl ⟨by unfold okd; omega, by unfold okd; omega, hf5_3⟩))
    · have tc_4 : r_3.toInt = 0 := v_eq c_4
      refine lv_iconst (v := 0) hx hb dX11_passes_19 (by decide) ?_
      exact kl_z (v := 0) hQQ hx hb hr hlocks hS dX11_passes_20 (rfl) (fun PZ9 kZ9 => kZ9 (-1) ft lB fB lM fM (⟨hP, hD⟩) (g_lB) (g_lM) (by decide) (Or.inr ⟨rfl, by unfold okd; omega⟩))

set_option maxHeartbeats 40000000 in
set_option maxRecDepth 100000 in
theorem f_X11_harm (l : Launch) (dC : Nat → ClassId) (dI : Nat → Nat → Nat) (cI cS : ClassId) (sz : Nat) (oX : Nat) (nT : Nat) (nL : Nat) (nM : Nat) (oC : Nat) (oP : Nat) (oH : Nat) (oK : Nat) (oG : Nat) (oR : Nat) (oQ : Nat) (oW : Nat) (aL : Nat) (aM : Nat) (nB : Nat) (aB : Nat) (o4 : Nat) (o5 : Nat) (a41 : Nat) (a42 : Nat) (a43 : Nat) (a51 : Nat) (a52 : Nat) (a53 : Nat) (g1 : Nat) (g2 : Nat) (nw : Nat) (w1 : Nat) (w2 : Nat) (w3 : Nat) (o7 : Nat) (o8 : Nat) (o9 : Nat) (w4 : Nat) (w5 : Nat) (w6 : Nat) (w7 : Nat) (fa : Int32) (lL : Int32) (fL : Nat → Int32) (lM : Int32) (fM : Nat → Int32) (ft : Int32) (lB : Int32) (fB : Nat → Int32) (l4 : Int32) (f41 : Nat → Int32) (f42 : Nat → Int32) (f43 : Nat → Int32) (l5 : Int32) (f51 : Nat → Int32) (f52 : Nat → Int32) (f53 : Nat → Int32) (gn : Int32) (lG : Int32) (fG1 : Nat → Int32) (fG2 : Nat → Int32) (ke : Int32) (tl : Int32) (fsh : Int32) (wi : Int32) (ri : Int32) (fm : Int32) (lm : Int32) (a : Int32) (b : Int32) (g_lL : 0 ≤ lL.toInt ∧ lL.toInt ≤ 300) (g_lM : 0 ≤ lM.toInt ∧ lM.toInt ≤ 300) (g_lB : 0 ≤ lB.toInt ∧ lB.toInt ≤ 2400) (g_gn : 0 ≤ gn.toInt ∧ gn.toInt ≤ 19) (g_lG : 0 ≤ lG.toInt ∧ lG.toInt ≤ 20) (g_fG2 : rg 0 300 fG2) (g_ke : 0 ≤ ke.toInt ∧ ke.toInt ≤ 200) (g_fsh : 0 ≤ fsh.toInt ∧ fsh.toInt ≤ 1) (g_fm : -1 ≤ fm.toInt ∧ fm.toInt ≤ 800) (g_lm : -1 ≤ lm.toInt ∧ lm.toInt ≤ 800) (hlt : prg lL.toInt 0 65535 fL) (hT4 : HT 512 511 hsT f42 f43) (ho4 : (occ f43 512 : Int) ≤ 511) (hT5 : HT 512 511 hsT f52 f53) (ho5 : (occ f53 512 : Int) ≤ 511) (hL4 : prg 256 (-1) 65535 f41) (hL5 : prg 256 (-1) 65535 f51) (hBr : ∀ cd : Int32, okB (Bc cd f42 f43 f52 f53)) : kMi l yX11_harm wsX11_harm ({ frames := 6, cells := 0, slots := 0, locals := 147 } : Room) [.ref oX, .int a, .int b] sz (dC, dI) vwCl [(cI, .int), (cS, .short)] [(oX, .inr (11, [.ref nT, .ref nL, .ref nM, .ref oC, .ref oP, .ref oH, .ref oK, .ref oG, .ref oR, .ref oQ, .ref oW, .int fa])), (nL, .inr (5, [.ref aL, .int lL])), (aL, .inl (cI, 300, .inl fL)), (nM, .inr (5, [.ref aM, .int lM])), (aM, .inl (cI, 300, .inl fM)), (oP, .inr (7, [.ref oC, .ref nB, .int ft])), (nB, .inr (5, [.ref aB, .int lB])), (aB, .inl (cI, 2400, .inl fB)), (oC, .inr (2, [.ref o4, .ref o5])), (o4, .inr (10, [.ref a41, .ref a42, .ref a43, .int l4])), (a41, .inl (cI, 256, .inl f41)), (a42, .inl (cI, 512, .inl f42)), (a43, .inl (cI, 512, .inl f43)), (o5, .inr (10, [.ref a51, .ref a52, .ref a53, .int l5])), (a51, .inl (cI, 256, .inl f51)), (a52, .inl (cI, 512, .inl f52)), (a53, .inl (cI, 512, .inl f53)), (oG, .inr (0, [.ref g1, .ref g2, .int gn, .int lG])), (g1, .inl (cI, 6000, .inl fG1)), (g2, .inl (cI, 20, .inl fG2)), (oW, .inr (1, [.ref oC, .ref oK, .ref nw, .ref w1, .ref w2, .ref w3, .ref o7, .ref o8, .ref o9, .ref w4, .ref w5, .ref w6, .ref w7, .int ke, .int tl, .int fsh, .int wi, .int ri, .int fm, .int lm]))] (va_Nw (.methodLinkNest RX2 52 yX11_isLetter "TextMender")) 0 0 (fun (A : Nat → Prop) (r : Int32) (hh9 : Heap) => ∀ PZ9 : Prop, (∀ (fa' : Int32) (ft' : Int32) (lB' : Int32) (fB' : Nat → Int32) (lM' : Int32) (fM' : Nat → Int32) (lL' : Int32) (fL' : Nat → Int32) (fsh' : Int32) (gn' : Int32) (lG' : Int32) (fG1' : Nat → Int32) (fG2' : Nat → Int32), kPD (dC, dI) vwCl A [(oX, .inr (11, [.ref nT, .ref nL, .ref nM, .ref oC, .ref oP, .ref oH, .ref oK, .ref oG, .ref oR, .ref oQ, .ref oW, .int fa'])), (nL, .inr (5, [.ref aL, .int lL'])), (aL, .inl (cI, 300, .inl fL')), (nM, .inr (5, [.ref aM, .int lM'])), (aM, .inl (cI, 300, .inl fM')), (oP, .inr (7, [.ref oC, .ref nB, .int ft'])), (nB, .inr (5, [.ref aB, .int lB'])), (aB, .inl (cI, 2400, .inl fB')), (oC, .inr (2, [.ref o4, .ref o5])), (o4, .inr (10, [.ref a41, .ref a42, .ref a43, .int l4])), (a41, .inl (cI, 256, .inl f41)), (a42, .inl (cI, 512, .inl f42)), (a43, .inl (cI, 512, .inl f43)), (o5, .inr (10, [.ref a51, .ref a52, .ref a53, .int l5])), (a51, .inl (cI, 256, .inl f51)), (a52, .inl (cI, 512, .inl f52)), (a53, .inl (cI, 512, .inl f53)), (oG, .inr (0, [.ref g1, .ref g2, .int gn', .int lG'])), (g1, .inl (cI, 6000, .inl fG1')), (g2, .inl (cI, 20, .inl fG2')), (oW, .inr (1, [.ref oC, .ref oK, .ref nw, .ref w1, .ref w2, .ref w3, .ref o7, .ref o8, .ref o9, .ref w4, .ref w5, .ref w6, .ref w7, .int ke, .int tl, .int fsh', .int wi, .int ri, .int fm, .int lm]))] hh9 → (0 ≤ lB'.toInt ∧ lB'.toInt ≤ 2400) → (0 ≤ lM'.toInt ∧ lM'.toInt ≤ 300) → (0 ≤ lL'.toInt ∧ lL'.toInt ≤ 300) → (0 ≤ fsh'.toInt ∧ fsh'.toInt ≤ 1) → (0 ≤ gn'.toInt ∧ gn'.toInt ≤ 19) → (0 ≤ lG'.toInt ∧ lG'.toInt ≤ 20) → (rg 0 300 fG2') → (OC (-1) r fsh fsh' gn gn' lG lG' lL lL' fG1 fG1' fG2 fG2' fL fL' (hmP a b f41 f51 (Bc a f42 f43 f52 f53) lL.toInt fL)) → PZ9) → PZ9) := by
  refine kMi_of (cc := cX11_harm) (maxL := 3) (ret := (some .int)) (lv := [(0, .ref oX), (1, .int a), (2, .int b)]) (by decide +kernel) rfl rfl (Nat.le_of_ble_eq_true rfl) ?_
  intro p e s m below meth c A QQ ls hx hb hr hts hml hown hlocks hA hQQ hK hX hP hD hS hl
  have hown : s.vm.findClass RX11 = some m.cls := hown
  have hcf := k_cf hx hb hml hown hts
  have hN52 := hX
  have in_X11 : ∀ w ∈ wsX110, w ∈ wsX11_harm := fun _ h => List.mem_cons_of_mem _ (List.mem_append_left _ (List.mem_append_left _ (List.mem_append_left _ (List.mem_append_left _ (List.mem_append_left _ (List.mem_append_left _ (List.mem_append_left _ (List.mem_append_left _ (List.mem_append_right _ (h))))))))))
  replace g_lM := hid g_lM
  replace g_lB := hid g_lB
  replace g_ke := hid g_ke
  replace g_fm := hid g_fm
  replace g_lm := hid g_lm
  refine lv_aload_n hx hb dX11_harm_0 rfl (lv_at hl 0 rfl) ?_
  refine lv_iload_n hx hb dX11_harm_1 rfl (lv_at hl 1 rfl) ?_
  refine lv_iload_n hx hb dX11_harm_2 rfl (lv_at hl 2 rfl) ?_
  refine kV_i (rest := []) (q0 := 0) (ci := 11) hcf (f_X11_passes l dC dI cI cS s.heap.size oX nT nL nM oC oP oH oK oG oR oQ oW aL aM nB aB o4 o5 a41 a42 a43 a51 a52 a53 fa lL fL lM fM ft lB fB l4 f41 f42 f43 l5 f51 f52 f53 a b (g_lL) (g_lM) (g_lB) (hlt) (hT4) (by omega) (hT5) (by omega) (hL4) (hL5) (hBr)) kc_X11_passes gX11_harm_X11_passes rfl rfl rfl ⟨Nat.le_of_ble_eq_true rfl, Nat.le_of_ble_eq_true rfl⟩ (kX_1 hN52) hK hP hD hS hA (posT mk_130 0) (posF mk_130 0) (kC_of mk_130 rfl rfl) (by decide +kernel) rfl rfl rfl hl rfl (Nat.le_of_ble_eq_true rfl) dX11_harm_3 ⟨Nat.le_of_ble_eq_true rfl, Nat.le_of_ble_eq_true rfl⟩ (fun r_1 H locs hB hJ hSn => ?_)
  refine hB _ (fun fa_1 ft_1 lB_1 fB_1 lM_1 fM_1 hPD9 hf1_0 hf1_1 hf1_2 hf1_3 => ?_)
  clear hB
  obtain ⟨hPn, hDn⟩ := kJi (m := mk_130) hJ rfl hPD9.1 hPD9.2 (wn := [(oX, .inr (11, [.ref nT, .ref nL, .ref nM, .ref oC, .ref oP, .ref oH, .ref oK, .ref oG, .ref oR, .ref oQ, .ref oW, .int fa_1])), (nL, .inr (5, [.ref aL, .int lL])), (aL, .inl (cI, 300, .inl fL)), (nM, .inr (5, [.ref aM, .int lM_1])), (aM, .inl (cI, 300, .inl fM_1)), (oP, .inr (7, [.ref oC, .ref nB, .int ft_1])), (nB, .inr (5, [.ref aB, .int lB_1])), (aB, .inl (cI, 2400, .inl fB_1)), (oC, .inr (2, [.ref o4, .ref o5])), (o4, .inr (10, [.ref a41, .ref a42, .ref a43, .int l4])), (a41, .inl (cI, 256, .inl f41)), (a42, .inl (cI, 512, .inl f42)), (a43, .inl (cI, 512, .inl f43)), (o5, .inr (10, [.ref a51, .ref a52, .ref a53, .int l5])), (a51, .inl (cI, 256, .inl f51)), (a52, .inl (cI, 512, .inl f52)), (a53, .inl (cI, 512, .inl f53)), (oG, .inr (0, [.ref g1, .ref g2, .int gn, .int lG])), (g1, .inl (cI, 6000, .inl fG1)), (g2, .inl (cI, 20, .inl fG2)), (oW, .inr (1, [.ref oC, .ref oK, .ref nw, .ref w1, .ref w2, .ref w3, .ref o7, .ref o8, .ref o9, .ref w4, .ref w5, .ref w6, .ref w7, .int ke, .int tl, .int fsh, .int wi, .int ri, .int fm, .int lm]))]) rfl
  clear hP hD hS hJ hPD9
  have hP := hPn
  have hD := hDn
  have hS := hSn
  clear hPn hDn hSn
  refine lv_if_eq (tgt := 20) hx hb dX11_harm_6 (by decide) (fun c_2 => ?_) (fun c_2 => ?_)
  · have tc_2 : r_1.toInt = 0 := v_eq c_2
    refine lv_iconst (v := (-1)) hx hb dX11_harm_20 (by decide) ?_
    exact kl_i (v := (-1)) hQQ hx hb hr hlocks hS dX11_harm_21 (fun PZ9 kZ9 => kZ9 fa_1 ft_1 lB_1 fB_1 lM_1 fM_1 lL fL fsh gn lG fG1 fG2 (⟨hP, hD⟩) (hf1_0) (hf1_1) (g_lL) (g_fsh) (g_gn) (g_lG) (g_fG2) (OC_n rfl (pz_0 hf1_3 (by omega))))
  · have tc_2 : ¬ r_1.toInt = 0 := v_ne c_2
    refine lv_aload_n hx hb dX11_harm_9 rfl (lv_at hl 0 rfl) ?_
    refine lv_aload_n hx hb dX11_harm_10 rfl (lv_at hl 0 rfl) ?_
    refine va_get (D := (dC, dI)) (ci := 11) (v := .ref nM) (C := RX11) (T := TX11) (N := 12) hx hb hts in_X11 hown hK hP 0 rfl rfl 2 (Nat.le_of_ble_eq_true rfl) (hts (.fieldLink RX11 37 "TextMender" "made" "LTextMender$Numbers;") (List.mem_of_getElem? (i := 1) rfl)) (fun _ h9 => h9) rfl dX11_harm_11 ?_
    refine kV_i (rest := []) (q0 := 0) (ci := 11) hcf (f_X11_bec l dC dI cI cS H.size oX nM nT nL oC oP oH oK oG oR oQ oW aL aM g1 g2 nw w1 w2 w3 o7 o8 o9 w4 w5 w6 w7 fa_1 lL fL lM_1 fM_1 gn lG fG1 fG2 ke tl fsh wi ri fm lm (g_lL) (hf1_1) (g_gn) (g_lG) (g_fG2) (g_ke) (g_fsh) (g_fm) (g_lm)) kc_X11_become gX11_harm_X11_become rfl rfl rfl ⟨Nat.le_of_ble_eq_true rfl, Nat.le_of_ble_eq_true rfl⟩ kX_t hK hP hD hS hA (posT mk_131 0) (posF mk_131 0) (kC_of mk_131 rfl rfl) (by decide +kernel) rfl rfl rfl hl rfl (Nat.le_of_ble_eq_true rfl) dX11_harm_14 ⟨Nat.le_of_ble_eq_true rfl, Nat.le_of_ble_eq_true rfl⟩ (fun r_3 H locs hB hJ hSn => ?_)
    refine hB _ (fun lL_3 fL_3 fsh_3 gn_3 lG_3 fG1_3 fG2_3 hPD9 hf3_0 hf3_1 hf3_2 hf3_3 hf3_4 hf3_5 hf3_6 hf3_7 => ?_)
    clear hB
    obtain ⟨hPn, hDn⟩ := kJi (m := mk_131) hJ rfl hPD9.1 hPD9.2 (wn := [(oX, .inr (11, [.ref nT, .ref nL, .ref nM, .ref oC, .ref oP, .ref oH, .ref oK, .ref oG, .ref oR, .ref oQ, .ref oW, .int fa_1])), (nL, .inr (5, [.ref aL, .int lL_3])), (aL, .inl (cI, 300, .inl fL_3)), (nM, .inr (5, [.ref aM, .int lM_1])), (aM, .inl (cI, 300, .inl fM_1)), (oP, .inr (7, [.ref oC, .ref nB, .int ft_1])), (nB, .inr (5, [.ref aB, .int lB_1])), (aB, .inl (cI, 2400, .inl fB_1)), (oC, .inr (2, [.ref o4, .ref o5])), (o4, .inr (10, [.ref a41, .ref a42, .ref a43, .int l4])), (a41, .inl (cI, 256, .inl f41)), (a42, .inl (cI, 512, .inl f42)), (a43, .inl (cI, 512, .inl f43)), (o5, .inr (10, [.ref a51, .ref a52, .ref a53, .int l5])), (a51, .inl (cI, 256, .inl f51)), (a52, .inl (cI, 512, .inl f52)), (a53, .inl (cI, 512, .inl f53)), (oG, .inr (0, [.ref g1, .ref g2, .int gn_3, .int lG_3])), (g1, .inl (cI, 6000, .inl fG1_3)), (g2, .inl (cI, 20, .inl fG2_3)), (oW, .inr (1, [.ref oC, .ref oK, .ref nw, .ref w1, .ref w2, .ref w3, .ref o7, .ref o8, .ref o9, .ref w4, .ref w5, .ref w6, .ref w7, .int ke, .int tl, .int fsh_3, .int wi, .int ri, .int fm, .int lm]))]) rfl
    clear hP hD hS hJ hPD9
    have hP := hPn
    have hD := hDn
    have hS := hSn
    clear hPn hDn hSn
    refine lv_goto (tgt := 21) hx hb dX11_harm_17 (by decide) ?_
    exact kl_i (v := r_3) hQQ hx hb hr hlocks hS dX11_harm_21 (fun PZ9 kZ9 => kZ9 fa_1 ft_1 lB_1 fB_1 lM_1 fM_1 lL_3 fL_3 fsh_3 gn_3 lG_3 fG1_3 fG2_3 (⟨hP, hD⟩) (hf1_0) (hf1_1) (hf3_0) (hf3_1) (hf3_2) (hf3_3) (hf3_4) (OC_y ((pz_1 hf1_3 (by omega)).imp (fun c hc => ⟨hc.1, hc.2 _ (by omega)⟩)) hf3_6 hf3_7))

set_option maxHeartbeats 40000000 in
set_option maxRecDepth 100000 in
theorem f_X11_undo (l : Launch) (dC : Nat → ClassId) (dI : Nat → Nat → Nat) (cI cS : ClassId) (sz : Nat) (oX : Nat) (nT : Nat) (nL : Nat) (nM : Nat) (oC : Nat) (oP : Nat) (oH : Nat) (oK : Nat) (oG : Nat) (oR : Nat) (oQ : Nat) (oW : Nat) (aL : Nat) (aM : Nat) (nB : Nat) (aB : Nat) (o4 : Nat) (o5 : Nat) (a41 : Nat) (a42 : Nat) (a43 : Nat) (a51 : Nat) (a52 : Nat) (a53 : Nat) (g1 : Nat) (g2 : Nat) (nw : Nat) (w1 : Nat) (w2 : Nat) (w3 : Nat) (o7 : Nat) (o8 : Nat) (o9 : Nat) (w4 : Nat) (w5 : Nat) (w6 : Nat) (w7 : Nat) (fa : Int32) (lL : Int32) (fL : Nat → Int32) (lM : Int32) (fM : Nat → Int32) (ft : Int32) (lB : Int32) (fB : Nat → Int32) (l4 : Int32) (f41 : Nat → Int32) (f42 : Nat → Int32) (f43 : Nat → Int32) (l5 : Int32) (f51 : Nat → Int32) (f52 : Nat → Int32) (f53 : Nat → Int32) (gn : Int32) (lG : Int32) (fG1 : Nat → Int32) (fG2 : Nat → Int32) (ke : Int32) (tl : Int32) (fsh : Int32) (wi : Int32) (ri : Int32) (fm : Int32) (lm : Int32) (a : Int32) (b : Int32) (g_lL : 0 ≤ lL.toInt ∧ lL.toInt ≤ 300) (g_lM : 0 ≤ lM.toInt ∧ lM.toInt ≤ 300) (g_lB : 0 ≤ lB.toInt ∧ lB.toInt ≤ 2400) (g_gn : 0 ≤ gn.toInt ∧ gn.toInt ≤ 19) (g_lG : 0 ≤ lG.toInt ∧ lG.toInt ≤ 20) (g_fG2 : rg 0 300 fG2) (g_ke : 0 ≤ ke.toInt ∧ ke.toInt ≤ 200) (g_fsh : 0 ≤ fsh.toInt ∧ fsh.toInt ≤ 1) (g_fm : -1 ≤ fm.toInt ∧ fm.toInt ≤ 800) (g_lm : -1 ≤ lm.toInt ∧ lm.toInt ≤ 800) (hlt : prg lL.toInt 0 65535 fL) (hT4 : HT 512 511 hsT f42 f43) (ho4 : (occ f43 512 : Int) ≤ 511) (hT5 : HT 512 511 hsT f52 f53) (ho5 : (occ f53 512 : Int) ≤ 511) (hL4 : prg 256 (-1) 65535 f41) (hL5 : prg 256 (-1) 65535 f51) (hBr : ∀ cd : Int32, okB (Bc cd f42 f43 f52 f53)) : kMi l yX11_undo wsX11_undo ({ frames := 6, cells := 0, slots := 0, locals := 147 } : Room) [.ref oX, .int a, .int b] sz (dC, dI) vwCl [(cI, .int), (cS, .short)] [(oX, .inr (11, [.ref nT, .ref nL, .ref nM, .ref oC, .ref oP, .ref oH, .ref oK, .ref oG, .ref oR, .ref oQ, .ref oW, .int fa])), (nL, .inr (5, [.ref aL, .int lL])), (aL, .inl (cI, 300, .inl fL)), (nM, .inr (5, [.ref aM, .int lM])), (aM, .inl (cI, 300, .inl fM)), (oP, .inr (7, [.ref oC, .ref nB, .int ft])), (nB, .inr (5, [.ref aB, .int lB])), (aB, .inl (cI, 2400, .inl fB)), (oC, .inr (2, [.ref o4, .ref o5])), (o4, .inr (10, [.ref a41, .ref a42, .ref a43, .int l4])), (a41, .inl (cI, 256, .inl f41)), (a42, .inl (cI, 512, .inl f42)), (a43, .inl (cI, 512, .inl f43)), (o5, .inr (10, [.ref a51, .ref a52, .ref a53, .int l5])), (a51, .inl (cI, 256, .inl f51)), (a52, .inl (cI, 512, .inl f52)), (a53, .inl (cI, 512, .inl f53)), (oG, .inr (0, [.ref g1, .ref g2, .int gn, .int lG])), (g1, .inl (cI, 6000, .inl fG1)), (g2, .inl (cI, 20, .inl fG2)), (oW, .inr (1, [.ref oC, .ref oK, .ref nw, .ref w1, .ref w2, .ref w3, .ref o7, .ref o8, .ref o9, .ref w4, .ref w5, .ref w6, .ref w7, .int ke, .int tl, .int fsh, .int wi, .int ri, .int fm, .int lm]))] (va_Nw (.methodLinkNest RX2 52 yX11_isLetter "TextMender")) 0 0 (fun (A : Nat → Prop) (r : Int32) (hh9 : Heap) => ∀ PZ9 : Prop, (∀ (fa' : Int32) (ft' : Int32) (lB' : Int32) (fB' : Nat → Int32) (lM' : Int32) (fM' : Nat → Int32) (lL' : Int32) (fL' : Nat → Int32) (fsh' : Int32) (gn' : Int32) (lG' : Int32) (fG1' : Nat → Int32) (fG2' : Nat → Int32), kPD (dC, dI) vwCl A [(oX, .inr (11, [.ref nT, .ref nL, .ref nM, .ref oC, .ref oP, .ref oH, .ref oK, .ref oG, .ref oR, .ref oQ, .ref oW, .int fa'])), (nL, .inr (5, [.ref aL, .int lL'])), (aL, .inl (cI, 300, .inl fL')), (nM, .inr (5, [.ref aM, .int lM'])), (aM, .inl (cI, 300, .inl fM')), (oP, .inr (7, [.ref oC, .ref nB, .int ft'])), (nB, .inr (5, [.ref aB, .int lB'])), (aB, .inl (cI, 2400, .inl fB')), (oC, .inr (2, [.ref o4, .ref o5])), (o4, .inr (10, [.ref a41, .ref a42, .ref a43, .int l4])), (a41, .inl (cI, 256, .inl f41)), (a42, .inl (cI, 512, .inl f42)), (a43, .inl (cI, 512, .inl f43)), (o5, .inr (10, [.ref a51, .ref a52, .ref a53, .int l5])), (a51, .inl (cI, 256, .inl f51)), (a52, .inl (cI, 512, .inl f52)), (a53, .inl (cI, 512, .inl f53)), (oG, .inr (0, [.ref g1, .ref g2, .int gn', .int lG'])), (g1, .inl (cI, 6000, .inl fG1')), (g2, .inl (cI, 20, .inl fG2')), (oW, .inr (1, [.ref oC, .ref oK, .ref nw, .ref w1, .ref w2, .ref w3, .ref o7, .ref o8, .ref o9, .ref w4, .ref w5, .ref w6, .ref w7, .int ke, .int tl, .int fsh', .int wi, .int ri, .int fm, .int lm]))] hh9 → (0 ≤ lB'.toInt ∧ lB'.toInt ≤ 2400) → (0 ≤ lM'.toInt ∧ lM'.toInt ≤ 300) → (0 ≤ lL'.toInt ∧ lL'.toInt ≤ 300) → (0 ≤ fsh'.toInt ∧ fsh'.toInt ≤ 1) → (0 ≤ gn'.toInt ∧ gn'.toInt ≤ 19) → (0 ≤ lG'.toInt ∧ lG'.toInt ≤ 20) → (rg 0 300 fG2') → (OC (-1) r fsh fsh' gn gn' lG lG' lL lL' fG1 fG1' fG2 fG2' fL fL' (hmP b a f41 f51 (Bc b f42 f43 f52 f53) lL.toInt fL)) → PZ9) → PZ9) := by
  refine kMi_of (cc := cX11_undo) (maxL := 3) (ret := (some .int)) (lv := [(0, .ref oX), (1, .int a), (2, .int b)]) (by decide +kernel) rfl rfl (Nat.le_of_ble_eq_true rfl) ?_
  intro p e s m below meth c A QQ ls hx hb hr hts hml hown hlocks hA hQQ hK hX hP hD hS hl
  have hown : s.vm.findClass RX11 = some m.cls := hown
  have hcf := k_cf hx hb hml hown hts
  have hN52 := hX
  have in_X11 : ∀ w ∈ wsX110, w ∈ wsX11_undo := fun _ h => List.mem_cons_of_mem _ (List.mem_append_left _ (List.mem_append_left _ (List.mem_append_left _ (List.mem_append_left _ (List.mem_append_left _ (List.mem_append_left _ (List.mem_append_left _ (List.mem_append_left _ (List.mem_append_right _ (h))))))))))
  replace g_lM := hid g_lM
  replace g_lB := hid g_lB
  replace g_ke := hid g_ke
  replace g_fm := hid g_fm
  replace g_lm := hid g_lm
  refine lv_aload_n hx hb dX11_undo_0 rfl (lv_at hl 0 rfl) ?_
  refine lv_iload_n hx hb dX11_undo_1 rfl (lv_at hl 2 rfl) ?_
  refine lv_iload_n hx hb dX11_undo_2 rfl (lv_at hl 1 rfl) ?_
  refine kV_i (rest := []) (q0 := 0) (ci := 11) hcf (f_X11_passes l dC dI cI cS s.heap.size oX nT nL nM oC oP oH oK oG oR oQ oW aL aM nB aB o4 o5 a41 a42 a43 a51 a52 a53 fa lL fL lM fM ft lB fB l4 f41 f42 f43 l5 f51 f52 f53 b a (g_lL) (g_lM) (g_lB) (hlt) (hT4) (by omega) (hT5) (by omega) (hL4) (hL5) (hBr)) kc_X11_passes gX11_undo_X11_passes rfl rfl rfl ⟨Nat.le_of_ble_eq_true rfl, Nat.le_of_ble_eq_true rfl⟩ (kX_1 hN52) hK hP hD hS hA (posT mk_130 0) (posF mk_130 0) (kC_of mk_130 rfl rfl) (by decide +kernel) rfl rfl rfl hl rfl (Nat.le_of_ble_eq_true rfl) dX11_undo_3 ⟨Nat.le_of_ble_eq_true rfl, Nat.le_of_ble_eq_true rfl⟩ (fun r_1 H locs hB hJ hSn => ?_)
  refine hB _ (fun fa_1 ft_1 lB_1 fB_1 lM_1 fM_1 hPD9 hf1_0 hf1_1 hf1_2 hf1_3 => ?_)
  clear hB
  obtain ⟨hPn, hDn⟩ := kJi (m := mk_130) hJ rfl hPD9.1 hPD9.2 (wn := [(oX, .inr (11, [.ref nT, .ref nL, .ref nM, .ref oC, .ref oP, .ref oH, .ref oK, .ref oG, .ref oR, .ref oQ, .ref oW, .int fa_1])), (nL, .inr (5, [.ref aL, .int lL])), (aL, .inl (cI, 300, .inl fL)), (nM, .inr (5, [.ref aM, .int lM_1])), (aM, .inl (cI, 300, .inl fM_1)), (oP, .inr (7, [.ref oC, .ref nB, .int ft_1])), (nB, .inr (5, [.ref aB, .int lB_1])), (aB, .inl (cI, 2400, .inl fB_1)), (oC, .inr (2, [.ref o4, .ref o5])), (o4, .inr (10, [.ref a41, .ref a42, .ref a43, .int l4])), (a41, .inl (cI, 256, .inl f41)), (a42, .inl (cI, 512, .inl f42)), (a43, .inl (cI, 512, .inl f43)), (o5, .inr (10, [.ref a51, .ref a52, .ref a53, .int l5])), (a51, .inl (cI, 256, .inl f51)), (a52, .inl (cI, 512, .inl f52)), (a53, .inl (cI, 512, .inl f53)), (oG, .inr (0, [.ref g1, .ref g2, .int gn, .int lG])), (g1, .inl (cI, 6000, .inl fG1)), (g2, .inl (cI, 20, .inl fG2)), (oW, .inr (1, [.ref oC, .ref oK, .ref nw, .ref w1, .ref w2, .ref w3, .ref o7, .ref o8, .ref o9, .ref w4, .ref w5, .ref w6, .ref w7, .int ke, .int tl, .int fsh, .int wi, .int ri, .int fm, .int lm]))]) rfl
  clear hP hD hS hJ hPD9
  have hP := hPn
  have hD := hDn
  have hS := hSn
  clear hPn hDn hSn
  refine lv_if_eq (tgt := 20) hx hb dX11_undo_6 (by decide) (fun c_2 => ?_) (fun c_2 => ?_)
  · have tc_2 : r_1.toInt = 0 := v_eq c_2
    refine lv_iconst (v := (-1)) hx hb dX11_undo_20 (by decide) ?_
    exact kl_i (v := (-1)) hQQ hx hb hr hlocks hS dX11_undo_21 (fun PZ9 kZ9 => kZ9 fa_1 ft_1 lB_1 fB_1 lM_1 fM_1 lL fL fsh gn lG fG1 fG2 (⟨hP, hD⟩) (hf1_0) (hf1_1) (g_lL) (g_fsh) (g_gn) (g_lG) (g_fG2) (OC_n rfl (pz_0 hf1_3 (by omega))))
  · have tc_2 : ¬ r_1.toInt = 0 := v_ne c_2
    refine lv_aload_n hx hb dX11_undo_9 rfl (lv_at hl 0 rfl) ?_
    refine lv_aload_n hx hb dX11_undo_10 rfl (lv_at hl 0 rfl) ?_
    refine va_get (D := (dC, dI)) (ci := 11) (v := .ref nM) (C := RX11) (T := TX11) (N := 12) hx hb hts in_X11 hown hK hP 0 rfl rfl 2 (Nat.le_of_ble_eq_true rfl) (hts (.fieldLink RX11 37 "TextMender" "made" "LTextMender$Numbers;") (List.mem_of_getElem? (i := 1) rfl)) (fun _ h9 => h9) rfl dX11_undo_11 ?_
    refine kV_i (rest := []) (q0 := 0) (ci := 11) hcf (f_X11_bec l dC dI cI cS H.size oX nM nT nL oC oP oH oK oG oR oQ oW aL aM g1 g2 nw w1 w2 w3 o7 o8 o9 w4 w5 w6 w7 fa_1 lL fL lM_1 fM_1 gn lG fG1 fG2 ke tl fsh wi ri fm lm (g_lL) (hf1_1) (g_gn) (g_lG) (g_fG2) (g_ke) (g_fsh) (g_fm) (g_lm)) kc_X11_become gX11_undo_X11_become rfl rfl rfl ⟨Nat.le_of_ble_eq_true rfl, Nat.le_of_ble_eq_true rfl⟩ kX_t hK hP hD hS hA (posT mk_131 0) (posF mk_131 0) (kC_of mk_131 rfl rfl) (by decide +kernel) rfl rfl rfl hl rfl (Nat.le_of_ble_eq_true rfl) dX11_undo_14 ⟨Nat.le_of_ble_eq_true rfl, Nat.le_of_ble_eq_true rfl⟩ (fun r_3 H locs hB hJ hSn => ?_)
    refine hB _ (fun lL_3 fL_3 fsh_3 gn_3 lG_3 fG1_3 fG2_3 hPD9 hf3_0 hf3_1 hf3_2 hf3_3 hf3_4 hf3_5 hf3_6 hf3_7 => ?_)
    clear hB
    obtain ⟨hPn, hDn⟩ := kJi (m := mk_131) hJ rfl hPD9.1 hPD9.2 (wn := [(oX, .inr (11, [.ref nT, .ref nL, .ref nM, .ref oC, .ref oP, .ref oH, .ref oK, .ref oG, .ref oR, .ref oQ, .ref oW, .int fa_1])), (nL, .inr (5, [.ref aL, .int lL_3])), (aL, .inl (cI, 300, .inl fL_3)), (nM, .inr (5, [.ref aM, .int lM_1])), (aM, .inl (cI, 300, .inl fM_1)), (oP, .inr (7, [.ref oC, .ref nB, .int ft_1])), (nB, .inr (5, [.ref aB, .int lB_1])), (aB, .inl (cI, 2400, .inl fB_1)), (oC, .inr (2, [.ref o4, .ref o5])), (o4, .inr (10, [.ref a41, .ref a42, .ref a43, .int l4])), (a41, .inl (cI, 256, .inl f41)), (a42, .inl (cI, 512, .inl f42)), (a43, .inl (cI, 512, .inl f43)), (o5, .inr (10, [.ref a51, .ref a52, .ref a53, .int l5])), (a51, .inl (cI, 256, .inl f51)), (a52, .inl (cI, 512, .inl f52)), (a53, .inl (cI, 512, .inl f53)), (oG, .inr (0, [.ref g1, .ref g2, .int gn_3, .int lG_3])), (g1, .inl (cI, 6000, .inl fG1_3)), (g2, .inl (cI, 20, .inl fG2_3)), (oW, .inr (1, [.ref oC, .ref oK, .ref nw, .ref w1, .ref w2, .ref w3, .ref o7, .ref o8, .ref o9, .ref w4, .ref w5, .ref w6, .ref w7, .int ke, .int tl, .int fsh_3, .int wi, .int ri, .int fm, .int lm]))]) rfl
    clear hP hD hS hJ hPD9
    have hP := hPn
    have hD := hDn
    have hS := hSn
    clear hPn hDn hSn
    refine lv_goto (tgt := 21) hx hb dX11_undo_17 (by decide) ?_
    exact kl_i (v := r_3) hQQ hx hb hr hlocks hS dX11_undo_21 (fun PZ9 kZ9 => kZ9 fa_1 ft_1 lB_1 fB_1 lM_1 fM_1 lL_3 fL_3 fsh_3 gn_3 lG_3 fG1_3 fG2_3 (⟨hP, hD⟩) (hf1_0) (hf1_1) (hf3_0) (hf3_1) (hf3_2) (hf3_3) (hf3_4) (OC_y ((pz_1 hf1_3 (by omega)).imp (fun c hc => ⟨hc.1, hc.2 _ (by omega)⟩)) hf3_6 hf3_7))

end

/-! 59l.a.rows -/
section
set_option maxRecDepth 100000 in
theorem dA217_cX12_harm : kDec cX12_harm [(0, .aload_n 0, 1), (1, .iconst 0, 1), (2, .putfield 85, 3), (5, .aload_n 0, 1), (6, .iconst (-1), 1), (7, .putfield 55, 3), (10, .iload_n 1, 1), (11, .invokestatic 158, 3), (14, .ifCond .eq 10, 3), (24, .iconst (-1), 1), (25, .ireturn, 1), (17, .iload_n 2, 1), (18, .invokestatic 158, 3), (21, .ifCond .ne 5, 3), (26, .aload_n 0, 1), (27, .iload_n 1, 1), (28, .iload_n 2, 1), (29, .aload_n 0, 1), (30, .getfield 16, 3), (33, .aload_n 0, 1), (34, .getfield 13, 3), (37, .iconst 0, 1), (38, .iaload, 1), (39, .invokevirtual 138, 3)] = true := by decide +kernel
theorem dX12_harm_0 : decode cX12_harm 0 = .ok (.aload_n 0, 1) := kDec_at dA217_cX12_harm 0 rfl
theorem dX12_harm_1 : decode cX12_harm 1 = .ok (.iconst 0, 1) := kDec_at dA217_cX12_harm 1 rfl
theorem dX12_harm_2 : decode cX12_harm 2 = .ok (.putfield 85, 3) := kDec_at dA217_cX12_harm 2 rfl
theorem dX12_harm_5 : decode cX12_harm 5 = .ok (.aload_n 0, 1) := kDec_at dA217_cX12_harm 3 rfl
theorem dX12_harm_6 : decode cX12_harm 6 = .ok (.iconst (-1), 1) := kDec_at dA217_cX12_harm 4 rfl
theorem dX12_harm_7 : decode cX12_harm 7 = .ok (.putfield 55, 3) := kDec_at dA217_cX12_harm 5 rfl
theorem dX12_harm_10 : decode cX12_harm 10 = .ok (.iload_n 1, 1) := kDec_at dA217_cX12_harm 6 rfl
theorem dX12_harm_11 : decode cX12_harm 11 = .ok (.invokestatic 158, 3) := kDec_at dA217_cX12_harm 7 rfl
theorem dX12_harm_14 : decode cX12_harm 14 = .ok (.ifCond .eq 10, 3) := kDec_at dA217_cX12_harm 8 rfl
theorem dX12_harm_24 : decode cX12_harm 24 = .ok (.iconst (-1), 1) := kDec_at dA217_cX12_harm 9 rfl
theorem dX12_harm_25 : decode cX12_harm 25 = .ok (.ireturn, 1) := kDec_at dA217_cX12_harm 10 rfl
theorem dX12_harm_17 : decode cX12_harm 17 = .ok (.iload_n 2, 1) := kDec_at dA217_cX12_harm 11 rfl
theorem dX12_harm_18 : decode cX12_harm 18 = .ok (.invokestatic 158, 3) := kDec_at dA217_cX12_harm 12 rfl
theorem dX12_harm_21 : decode cX12_harm 21 = .ok (.ifCond .ne 5, 3) := kDec_at dA217_cX12_harm 13 rfl
theorem dX12_harm_26 : decode cX12_harm 26 = .ok (.aload_n 0, 1) := kDec_at dA217_cX12_harm 14 rfl
theorem dX12_harm_27 : decode cX12_harm 27 = .ok (.iload_n 1, 1) := kDec_at dA217_cX12_harm 15 rfl
theorem dX12_harm_28 : decode cX12_harm 28 = .ok (.iload_n 2, 1) := kDec_at dA217_cX12_harm 16 rfl
theorem dX12_harm_29 : decode cX12_harm 29 = .ok (.aload_n 0, 1) := kDec_at dA217_cX12_harm 17 rfl
theorem dX12_harm_30 : decode cX12_harm 30 = .ok (.getfield 16, 3) := kDec_at dA217_cX12_harm 18 rfl
theorem dX12_harm_33 : decode cX12_harm 33 = .ok (.aload_n 0, 1) := kDec_at dA217_cX12_harm 19 rfl
theorem dX12_harm_34 : decode cX12_harm 34 = .ok (.getfield 13, 3) := kDec_at dA217_cX12_harm 20 rfl
theorem dX12_harm_37 : decode cX12_harm 37 = .ok (.iconst 0, 1) := kDec_at dA217_cX12_harm 21 rfl
theorem dX12_harm_38 : decode cX12_harm 38 = .ok (.iaload, 1) := kDec_at dA217_cX12_harm 22 rfl
theorem dX12_harm_39 : decode cX12_harm 39 = .ok (.invokevirtual 138, 3) := kDec_at dA217_cX12_harm 23 rfl
set_option maxRecDepth 20000 in
theorem ggX12_harm_X12_isCode : GoodIn wsX12_harm wsX12_isCode := goodIn_sub (fun _ h => List.mem_cons_of_mem _ (List.mem_append_left _ (List.mem_append_left _ (List.mem_append_right _ (h))))) gX12_isCode_all
set_option maxRecDepth 20000 in
theorem gX12_harm_X12_isCode : GoodIn wsX12_harm (va_wsS RX12 158 yX12_isCode wsX12_isCode) := goodIn_app (goodIn_r _ [8, 9, 10] rfl (by decide +kernel)) ggX12_harm_X12_isCode
set_option maxRecDepth 20000 in
theorem ggX12_harm_X12_does : GoodIn wsX12_harm wsX12_does := goodIn_sub (fun _ h => List.mem_cons_of_mem _ (List.mem_append_left _ (List.mem_append_right _ (h)))) gX12_does_all
set_option maxRecDepth 20000 in
theorem gX12_harm_X12_does : GoodIn wsX12_harm (wsV RX12 138 RX12 yX12_does wsX12_does) := goodIn_app (goodIn_r _ [11, 12, 13, 10] rfl (by decide +kernel)) ggX12_harm_X12_does
set_option maxRecDepth 100000 in
theorem dA218_cX12_harm : kDec cX12_harm [(42, .ifCond .ne 13, 3), (55, .aload_n 0, 1), (56, .aload_n 0, 1), (57, .getfield 61, 3), (60, .aload_n 0, 1), (61, .getfield 119, 3), (64, .invokevirtual 154, 3), (67, .aload_n 0, 1), (68, .getfield 119, 3), (71, .ireturn, 1), (45, .aload_n 0, 1), (46, .aload_n 0, 1), (47, .getfield 102, 3), (50, .putfield 55, 3), (53, .iconst (-1), 1), (54, .ireturn, 1)] = true := by decide +kernel
theorem dX12_harm_42 : decode cX12_harm 42 = .ok (.ifCond .ne 13, 3) := kDec_at dA218_cX12_harm 0 rfl
theorem dX12_harm_55 : decode cX12_harm 55 = .ok (.aload_n 0, 1) := kDec_at dA218_cX12_harm 1 rfl
theorem dX12_harm_56 : decode cX12_harm 56 = .ok (.aload_n 0, 1) := kDec_at dA218_cX12_harm 2 rfl
theorem dX12_harm_57 : decode cX12_harm 57 = .ok (.getfield 61, 3) := kDec_at dA218_cX12_harm 3 rfl
theorem dX12_harm_60 : decode cX12_harm 60 = .ok (.aload_n 0, 1) := kDec_at dA218_cX12_harm 4 rfl
theorem dX12_harm_61 : decode cX12_harm 61 = .ok (.getfield 119, 3) := kDec_at dA218_cX12_harm 5 rfl
theorem dX12_harm_64 : decode cX12_harm 64 = .ok (.invokevirtual 154, 3) := kDec_at dA218_cX12_harm 6 rfl
theorem dX12_harm_67 : decode cX12_harm 67 = .ok (.aload_n 0, 1) := kDec_at dA218_cX12_harm 7 rfl
theorem dX12_harm_68 : decode cX12_harm 68 = .ok (.getfield 119, 3) := kDec_at dA218_cX12_harm 8 rfl
theorem dX12_harm_71 : decode cX12_harm 71 = .ok (.ireturn, 1) := kDec_at dA218_cX12_harm 9 rfl
theorem dX12_harm_45 : decode cX12_harm 45 = .ok (.aload_n 0, 1) := kDec_at dA218_cX12_harm 10 rfl
theorem dX12_harm_46 : decode cX12_harm 46 = .ok (.aload_n 0, 1) := kDec_at dA218_cX12_harm 11 rfl
theorem dX12_harm_47 : decode cX12_harm 47 = .ok (.getfield 102, 3) := kDec_at dA218_cX12_harm 12 rfl
theorem dX12_harm_50 : decode cX12_harm 50 = .ok (.putfield 55, 3) := kDec_at dA218_cX12_harm 13 rfl
theorem dX12_harm_53 : decode cX12_harm 53 = .ok (.iconst (-1), 1) := kDec_at dA218_cX12_harm 14 rfl
theorem dX12_harm_54 : decode cX12_harm 54 = .ok (.ireturn, 1) := kDec_at dA218_cX12_harm 15 rfl
set_option maxRecDepth 20000 in
theorem gX12_become_all : wsX12_become.all goodWord = true := by
  unfold wsX12_become
  exact good_c (by decide +kernel) (good_a ((by decide +kernel)) gX12_clsall)
set_option maxRecDepth 20000 in
theorem ggX12_harm_X12_become : GoodIn wsX12_harm wsX12_become := goodIn_sub (fun _ h => List.mem_cons_of_mem _ (List.mem_append_right _ (h))) gX12_become_all
set_option maxRecDepth 20000 in
theorem gX12_harm_X12_become : GoodIn wsX12_harm (wsV RX12 154 RX12 yX12_become wsX12_become) := goodIn_app (goodIn_r _ [14, 15, 16, 10] rfl (by decide +kernel)) ggX12_harm_X12_become
set_option maxRecDepth 100000 in
theorem dA219_cX12_takeText : kDec cX12_takeText [(0, .aload_n 0, 1), (1, .aload_n 0, 1), (2, .getfield 13, 3), (5, .iconst 0, 1), (6, .iaload, 1), (7, .putfield 135, 3), (10, .iconst 0, 1), (11, .istore_n 1, 1), (12, .iload_n 1, 1), (13, .aload_n 0, 1), (14, .getfield 135, 3), (17, .if_icmp .ge 21, 3), (38, .return_, 1), (20, .aload_n 0, 1), (21, .getfield 64, 3), (24, .iload_n 1, 1), (25, .aload_n 0, 1), (26, .getfield 16, 3), (29, .iload_n 1, 1), (30, .iaload, 1), (31, .iastore, 1), (32, .iinc 1 1, 3), (35, .goto (-23), 3)] = true := by decide +kernel
theorem dX12_takeText_0 : decode cX12_takeText 0 = .ok (.aload_n 0, 1) := kDec_at dA219_cX12_takeText 0 rfl
theorem dX12_takeText_1 : decode cX12_takeText 1 = .ok (.aload_n 0, 1) := kDec_at dA219_cX12_takeText 1 rfl
theorem dX12_takeText_2 : decode cX12_takeText 2 = .ok (.getfield 13, 3) := kDec_at dA219_cX12_takeText 2 rfl
theorem dX12_takeText_5 : decode cX12_takeText 5 = .ok (.iconst 0, 1) := kDec_at dA219_cX12_takeText 3 rfl
theorem dX12_takeText_6 : decode cX12_takeText 6 = .ok (.iaload, 1) := kDec_at dA219_cX12_takeText 4 rfl
theorem dX12_takeText_7 : decode cX12_takeText 7 = .ok (.putfield 135, 3) := kDec_at dA219_cX12_takeText 5 rfl
theorem dX12_takeText_10 : decode cX12_takeText 10 = .ok (.iconst 0, 1) := kDec_at dA219_cX12_takeText 6 rfl
theorem dX12_takeText_11 : decode cX12_takeText 11 = .ok (.istore_n 1, 1) := kDec_at dA219_cX12_takeText 7 rfl
theorem dX12_takeText_12 : decode cX12_takeText 12 = .ok (.iload_n 1, 1) := kDec_at dA219_cX12_takeText 8 rfl
theorem dX12_takeText_13 : decode cX12_takeText 13 = .ok (.aload_n 0, 1) := kDec_at dA219_cX12_takeText 9 rfl
theorem dX12_takeText_14 : decode cX12_takeText 14 = .ok (.getfield 135, 3) := kDec_at dA219_cX12_takeText 10 rfl
theorem dX12_takeText_17 : decode cX12_takeText 17 = .ok (.if_icmp .ge 21, 3) := kDec_at dA219_cX12_takeText 11 rfl
theorem dX12_takeText_38 : decode cX12_takeText 38 = .ok (.return_, 1) := kDec_at dA219_cX12_takeText 12 rfl
theorem dX12_takeText_20 : decode cX12_takeText 20 = .ok (.aload_n 0, 1) := kDec_at dA219_cX12_takeText 13 rfl
theorem dX12_takeText_21 : decode cX12_takeText 21 = .ok (.getfield 64, 3) := kDec_at dA219_cX12_takeText 14 rfl
theorem dX12_takeText_24 : decode cX12_takeText 24 = .ok (.iload_n 1, 1) := kDec_at dA219_cX12_takeText 15 rfl
theorem dX12_takeText_25 : decode cX12_takeText 25 = .ok (.aload_n 0, 1) := kDec_at dA219_cX12_takeText 16 rfl
theorem dX12_takeText_26 : decode cX12_takeText 26 = .ok (.getfield 16, 3) := kDec_at dA219_cX12_takeText 17 rfl
theorem dX12_takeText_29 : decode cX12_takeText 29 = .ok (.iload_n 1, 1) := kDec_at dA219_cX12_takeText 18 rfl
theorem dX12_takeText_30 : decode cX12_takeText 30 = .ok (.iaload, 1) := kDec_at dA219_cX12_takeText 19 rfl
theorem dX12_takeText_31 : decode cX12_takeText 31 = .ok (.iastore, 1) := kDec_at dA219_cX12_takeText 20 rfl
theorem dX12_takeText_32 : decode cX12_takeText 32 = .ok (.iinc 1 1, 3) := kDec_at dA219_cX12_takeText 21 rfl
theorem dX12_takeText_35 : decode cX12_takeText 35 = .ok (.goto (-23), 3) := kDec_at dA219_cX12_takeText 22 rfl
set_option maxRecDepth 100000 in
theorem dA220_cX12_undo : kDec cX12_undo [(0, .aload_n 0, 1), (1, .iconst 0, 1), (2, .putfield 85, 3), (5, .aload_n 0, 1), (6, .iconst (-1), 1), (7, .putfield 55, 3), (10, .iload_n 1, 1), (11, .invokestatic 158, 3), (14, .ifCond .eq 10, 3), (24, .iconst (-1), 1), (25, .ireturn, 1), (17, .iload_n 2, 1), (18, .invokestatic 158, 3), (21, .ifCond .ne 5, 3), (26, .aload_n 0, 1), (27, .invokevirtual 171, 3), (30, .aload_n 0, 1), (31, .iload_n 1, 1), (32, .iload_n 2, 1), (33, .invokevirtual 174, 3), (36, .ifCond .ne 13, 3), (49, .aload_n 0, 1), (50, .aload_n 0, 1), (51, .getfield 64, 3)] = true := by decide +kernel
theorem dX12_undo_0 : decode cX12_undo 0 = .ok (.aload_n 0, 1) := kDec_at dA220_cX12_undo 0 rfl
theorem dX12_undo_1 : decode cX12_undo 1 = .ok (.iconst 0, 1) := kDec_at dA220_cX12_undo 1 rfl
theorem dX12_undo_2 : decode cX12_undo 2 = .ok (.putfield 85, 3) := kDec_at dA220_cX12_undo 2 rfl
theorem dX12_undo_5 : decode cX12_undo 5 = .ok (.aload_n 0, 1) := kDec_at dA220_cX12_undo 3 rfl
theorem dX12_undo_6 : decode cX12_undo 6 = .ok (.iconst (-1), 1) := kDec_at dA220_cX12_undo 4 rfl
theorem dX12_undo_7 : decode cX12_undo 7 = .ok (.putfield 55, 3) := kDec_at dA220_cX12_undo 5 rfl
theorem dX12_undo_10 : decode cX12_undo 10 = .ok (.iload_n 1, 1) := kDec_at dA220_cX12_undo 6 rfl
theorem dX12_undo_11 : decode cX12_undo 11 = .ok (.invokestatic 158, 3) := kDec_at dA220_cX12_undo 7 rfl
theorem dX12_undo_14 : decode cX12_undo 14 = .ok (.ifCond .eq 10, 3) := kDec_at dA220_cX12_undo 8 rfl
theorem dX12_undo_24 : decode cX12_undo 24 = .ok (.iconst (-1), 1) := kDec_at dA220_cX12_undo 9 rfl
theorem dX12_undo_25 : decode cX12_undo 25 = .ok (.ireturn, 1) := kDec_at dA220_cX12_undo 10 rfl
theorem dX12_undo_17 : decode cX12_undo 17 = .ok (.iload_n 2, 1) := kDec_at dA220_cX12_undo 11 rfl
theorem dX12_undo_18 : decode cX12_undo 18 = .ok (.invokestatic 158, 3) := kDec_at dA220_cX12_undo 12 rfl
theorem dX12_undo_21 : decode cX12_undo 21 = .ok (.ifCond .ne 5, 3) := kDec_at dA220_cX12_undo 13 rfl
theorem dX12_undo_26 : decode cX12_undo 26 = .ok (.aload_n 0, 1) := kDec_at dA220_cX12_undo 14 rfl
theorem dX12_undo_27 : decode cX12_undo 27 = .ok (.invokevirtual 171, 3) := kDec_at dA220_cX12_undo 15 rfl
theorem dX12_undo_30 : decode cX12_undo 30 = .ok (.aload_n 0, 1) := kDec_at dA220_cX12_undo 16 rfl
theorem dX12_undo_31 : decode cX12_undo 31 = .ok (.iload_n 1, 1) := kDec_at dA220_cX12_undo 17 rfl
theorem dX12_undo_32 : decode cX12_undo 32 = .ok (.iload_n 2, 1) := kDec_at dA220_cX12_undo 18 rfl
theorem dX12_undo_33 : decode cX12_undo 33 = .ok (.invokevirtual 174, 3) := kDec_at dA220_cX12_undo 19 rfl
theorem dX12_undo_36 : decode cX12_undo 36 = .ok (.ifCond .ne 13, 3) := kDec_at dA220_cX12_undo 20 rfl
theorem dX12_undo_49 : decode cX12_undo 49 = .ok (.aload_n 0, 1) := kDec_at dA220_cX12_undo 21 rfl
theorem dX12_undo_50 : decode cX12_undo 50 = .ok (.aload_n 0, 1) := kDec_at dA220_cX12_undo 22 rfl
theorem dX12_undo_51 : decode cX12_undo 51 = .ok (.getfield 64, 3) := kDec_at dA220_cX12_undo 23 rfl
set_option maxRecDepth 20000 in
theorem ggX12_undo_X12_isCode : GoodIn wsX12_undo wsX12_isCode := goodIn_sub (fun _ h => List.mem_cons_of_mem _ (List.mem_append_left _ (List.mem_append_left _ (List.mem_append_left _ (List.mem_append_right _ (h)))))) gX12_isCode_all
set_option maxRecDepth 20000 in
theorem gX12_undo_X12_isCode : GoodIn wsX12_undo (va_wsS RX12 158 yX12_isCode wsX12_isCode) := goodIn_app (goodIn_r _ [6, 7, 8] rfl (by decide +kernel)) ggX12_undo_X12_isCode
set_option maxRecDepth 20000 in
theorem gX12_takeText_all : wsX12_takeText.all goodWord = true := by
  unfold wsX12_takeText
  exact good_c (by decide +kernel) (good_a ((by decide +kernel)) gX12_clsall)
set_option maxRecDepth 20000 in
theorem ggX12_undo_X12_takeText : GoodIn wsX12_undo wsX12_takeText := goodIn_sub (fun _ h => List.mem_cons_of_mem _ (List.mem_append_left _ (List.mem_append_left _ (List.mem_append_right _ (h))))) gX12_takeText_all
set_option maxRecDepth 20000 in
theorem gX12_undo_X12_takeText : GoodIn wsX12_undo (wsV RX12 171 RX12 yX12_takeText wsX12_takeText) := goodIn_app (goodIn_r _ [9, 10, 11, 8] rfl (by decide +kernel)) ggX12_undo_X12_takeText
set_option maxRecDepth 20000 in
theorem gX12_undoes_all : wsX12_undoes.all goodWord = true := by
  unfold wsX12_undoes
  exact good_c (by decide +kernel) (good_a (good_a ((by decide +kernel)) gX12_clsall) gX12_does_all)
set_option maxRecDepth 20000 in
theorem ggX12_undo_X12_undoes : GoodIn wsX12_undo wsX12_undoes := goodIn_sub (fun _ h => List.mem_cons_of_mem _ (List.mem_append_left _ (List.mem_append_right _ (h)))) gX12_undoes_all
set_option maxRecDepth 20000 in
theorem gX12_undo_X12_undoes : GoodIn wsX12_undo (wsV RX12 174 RX12 yX12_undoes wsX12_undoes) := goodIn_app (goodIn_r _ [12, 13, 14, 8] rfl (by decide +kernel)) ggX12_undo_X12_undoes
set_option maxRecDepth 100000 in
theorem dA221_cX12_undo : kDec cX12_undo [(54, .aload_n 0, 1), (55, .getfield 135, 3), (58, .invokevirtual 154, 3), (61, .aload_n 0, 1), (62, .getfield 135, 3), (65, .ireturn, 1), (39, .aload_n 0, 1), (40, .aload_n 0, 1), (41, .getfield 102, 3), (44, .putfield 55, 3), (47, .iconst (-1), 1), (48, .ireturn, 1)] = true := by decide +kernel
theorem dX12_undo_54 : decode cX12_undo 54 = .ok (.aload_n 0, 1) := kDec_at dA221_cX12_undo 0 rfl
theorem dX12_undo_55 : decode cX12_undo 55 = .ok (.getfield 135, 3) := kDec_at dA221_cX12_undo 1 rfl
theorem dX12_undo_58 : decode cX12_undo 58 = .ok (.invokevirtual 154, 3) := kDec_at dA221_cX12_undo 2 rfl
theorem dX12_undo_61 : decode cX12_undo 61 = .ok (.aload_n 0, 1) := kDec_at dA221_cX12_undo 3 rfl
theorem dX12_undo_62 : decode cX12_undo 62 = .ok (.getfield 135, 3) := kDec_at dA221_cX12_undo 4 rfl
theorem dX12_undo_65 : decode cX12_undo 65 = .ok (.ireturn, 1) := kDec_at dA221_cX12_undo 5 rfl
theorem dX12_undo_39 : decode cX12_undo 39 = .ok (.aload_n 0, 1) := kDec_at dA221_cX12_undo 6 rfl
theorem dX12_undo_40 : decode cX12_undo 40 = .ok (.aload_n 0, 1) := kDec_at dA221_cX12_undo 7 rfl
theorem dX12_undo_41 : decode cX12_undo 41 = .ok (.getfield 102, 3) := kDec_at dA221_cX12_undo 8 rfl
theorem dX12_undo_44 : decode cX12_undo 44 = .ok (.putfield 55, 3) := kDec_at dA221_cX12_undo 9 rfl
theorem dX12_undo_47 : decode cX12_undo 47 = .ok (.iconst (-1), 1) := kDec_at dA221_cX12_undo 10 rfl
theorem dX12_undo_48 : decode cX12_undo 48 = .ok (.ireturn, 1) := kDec_at dA221_cX12_undo 11 rfl
set_option maxRecDepth 20000 in
theorem ggX12_undo_X12_become : GoodIn wsX12_undo wsX12_become := goodIn_sub (fun _ h => List.mem_cons_of_mem _ (List.mem_append_right _ (h))) gX12_become_all
set_option maxRecDepth 20000 in
theorem gX12_undo_X12_become : GoodIn wsX12_undo (wsV RX12 154 RX12 yX12_become wsX12_become) := goodIn_app (goodIn_r _ [15, 16, 17, 8] rfl (by decide +kernel)) ggX12_undo_X12_become

end

/-! 59l.harm -/
section
set_option maxHeartbeats 40000000 in
set_option maxRecDepth 100000 in
theorem f_X12_harm (l : Launch) (dC : Nat → ClassId) (dI : Nat → Nat → Nat) (cI cS : ClassId) (sz : Nat) (oM : Nat) (mT : Nat) (mS : Nat) (mX : Nat) (mL : Nat) (mB : Nat) (mD : Nat) (m1 : Nat) (m2 : Nat) (mR : Nat) (x1 : Nat) (x2 : Nat) (x3 : Nat) (mH : Nat) (mY : Nat) (mE : Nat) (mW : Nat) (mO : Nat) (y1 : Nat) (y2 : Nat) (y3 : Nat) (y4 : Nat) (mZ : Nat) (zt : Int32) (zp : Int32) (zf : Int32) (zh : Int32) (zr : Int32) (zc : Int32) (zy : Int32) (za : Int32) (zb : Int32) (zs : Int32) (zq : Int32) (zw : Int32) (ze : Int32) (zn : Int32) (zm : Int32) (zl : Int32) (zk : Int32) (zd : Int32) (eY : Nat → Int32) (eB : Nat → Int32) (eL : Nat → Int32) (eE : Nat → Int32) (eS : Nat → Int32) (eX : Nat → Int32) (a : Int32) (b : Int32) (g_zt : 0 ≤ zt.toInt ∧ zt.toInt ≤ 900) (g_zp : 0 ≤ zp.toInt ∧ zp.toInt ≤ 20) (g_zf : 0 ≤ zf.toInt ∧ zf.toInt ≤ 19) (g_zh : 0 ≤ zh.toInt ∧ zh.toInt ≤ 6) (g_zr : 0 ≤ zr.toInt ∧ zr.toInt ≤ 258) (g_zc : 0 ≤ zc.toInt ∧ zc.toInt ≤ 300) (g_zy : 0 ≤ zy.toInt ∧ zy.toInt ≤ 65536) (g_za : 0 ≤ za.toInt ∧ za.toInt ≤ 5) (g_zb : 0 ≤ zb.toInt ∧ zb.toInt ≤ 5) (g_zs : 0 ≤ zs.toInt ∧ zs.toInt ≤ 2000000) (g_zq : -1 ≤ zq.toInt ∧ zq.toInt ≤ 2000000) (g_zn : 0 ≤ zn.toInt ∧ zn.toInt ≤ 2600) (g_zm : 0 ≤ zm.toInt ∧ zm.toInt ≤ 2600) (g_zk : 0 ≤ zk.toInt ∧ zk.toInt ≤ 300) (g_eY : rg 0 255 eY) (g_eB : rg (-1) 255 eB) (g_eL : rg (-1) 65535 eL) (g_eE : rg 0 65535 eE) (g_eS : rg 0 300 eS) (g_eX : rg 0 65535 eX) (hzs : zs.toInt ≤ 1000000) : kMi l yX12_harm wsX12_harm ({ frames := 4, cells := 0, slots := 0, locals := 95 } : Room) [.ref oM, .int a, .int b] sz (dC, dI) vwCl [(cI, .int), (cS, .short)] [(oM, .inr (12, [.ref mT, .int zt, .ref mS, .ref mX, .int zp, .int zf, .ref mL, .ref mB, .ref mD, .ref m1, .ref m2, .int zh, .ref mR, .int zr, .ref x1, .ref x2, .ref x3, .int zc, .ref mH, .int zy, .int za, .int zb, .int zs, .int zq, .int zw, .int ze, .ref mY, .int zn, .ref mE, .int zm, .int zl, .ref mW, .int zk, .ref mO, .int zd, .ref y1, .ref y2, .ref y3, .ref y4, .ref mZ])), (mY, .inl (cI, 2600, .inl eY)), (mB, .inl (cS, 131072, .inl eB)), (mL, .inl (cI, 512, .inl eL)), (mE, .inl (cI, 2600, .inl eE)), (mS, .inl (cI, 21, .inl eS)), (mX, .inl (cI, 6300, .inl eX))] (fun _ => True) 0 0 (fun (A : Nat → Prop) (r : Int32) (hh9 : Heap) => ∀ PZ9 : Prop, (∀ (ze' : Int32) (zw' : Int32) (zn' : Int32) (eY' : Nat → Int32) (zd' : Int32) (zm' : Int32) (zl' : Int32) (eE' : Nat → Int32) (zp' : Int32) (zf' : Int32) (zs' : Int32) (eS' : Nat → Int32) (eX' : Nat → Int32), kPD (dC, dI) vwCl A [(oM, .inr (12, [.ref mT, .int zt, .ref mS, .ref mX, .int zp', .int zf', .ref mL, .ref mB, .ref mD, .ref m1, .ref m2, .int zh, .ref mR, .int zr, .ref x1, .ref x2, .ref x3, .int zc, .ref mH, .int zy, .int za, .int zb, .int zs', .int zq, .int zw', .int ze', .ref mY, .int zn', .ref mE, .int zm', .int zl', .ref mW, .int zk, .ref mO, .int zd', .ref y1, .ref y2, .ref y3, .ref y4, .ref mZ])), (mY, .inl (cI, 2600, .inl eY')), (mB, .inl (cS, 131072, .inl eB)), (mL, .inl (cI, 512, .inl eL)), (mE, .inl (cI, 2600, .inl eE')), (mS, .inl (cI, 21, .inl eS')), (mX, .inl (cI, 6300, .inl eX'))] hh9 → (0 ≤ zn'.toInt ∧ zn'.toInt ≤ 2600) → (rg 0 255 eY') → (0 ≤ zm'.toInt ∧ zm'.toInt ≤ 2600) → (rg 0 65535 eE') → (0 ≤ zp'.toInt ∧ zp'.toInt ≤ 20) → (0 ≤ zf'.toInt ∧ zf'.toInt ≤ 19) → (0 ≤ zs'.toInt ∧ zs'.toInt ≤ 2000000) → (rg 0 300 eS') → (rg 0 65535 eX') → (zs'.toInt ≤ zs.toInt + 1 ∧ zs.toInt ≤ zs'.toInt) → (F_st zs zs' eX eX' eS eS') → (OR (-1) r zs zs' zp zp' zf zf' eS eS' eX eX' (hmP a b (fun k => eL k) (fun k => eL (256 + k)) (Br a eB) (eS 0).toInt eX)) → PZ9) → PZ9) := by
  refine kMi_of (cc := cX12_harm) (maxL := 3) (ret := (some .int)) (lv := [(0, .ref oM), (1, .int a), (2, .int b)]) (by decide +kernel) rfl rfl (Nat.le_of_ble_eq_true rfl) ?_
  intro p e s m below meth c A QQ ls hx hb hr hts hml hown hlocks hA hQQ hK hX hP hD hS hl
  have hown : s.vm.findClass RX12 = some m.cls := hown
  have hcf := k_cf hx hb hml hown hts
  have in_X12 : ∀ w ∈ wsX120, w ∈ wsX12_harm := fun _ h => List.mem_cons_of_mem _ (List.mem_append_left _ (List.mem_append_left _ (List.mem_append_left _ (List.mem_append_right _ (h)))))
  replace g_zt := hid g_zt
  replace g_zh := hid g_zh
  replace g_zr := hid g_zr
  replace g_zc := hid g_zc
  replace g_zy := hid g_zy
  replace g_za := hid g_za
  replace g_zb := hid g_zb
  replace g_zq := hid g_zq
  replace g_zn := hid g_zn
  replace g_zm := hid g_zm
  replace g_zk := hid g_zk
  refine lv_aload_n hx hb dX12_harm_0 rfl (lv_at hl 0 rfl) ?_
  refine lv_iconst (v := 0) hx hb dX12_harm_1 (by decide) ?_
  refine va_put (D := (dC, dI)) (ci := 12) (v := .int 0) (ty := .int) (C := RX12) (T := TX12) (N := 40) hx hb hts in_X12 tyX12 tyX12_ok nmX12 hown hK hP hD hS 0 rfl rfl 25 (Nat.le_of_ble_eq_true rfl) (hts (.fieldLink RX12 85 "TextMenderModel" "thrown" "I") (List.mem_of_getElem? (i := 1) rfl)) (fun _ h9 => h9) rfl (tyX12_ok 25 (Nat.le_of_ble_eq_true rfl)) rfl rfl (Nat.le_of_ble_eq_true rfl) dX12_harm_2 (kW (wn := [(oM, .inr (12, [.ref mT, .int zt, .ref mS, .ref mX, .int zp, .int zf, .ref mL, .ref mB, .ref mD, .ref m1, .ref m2, .int zh, .ref mR, .int zr, .ref x1, .ref x2, .ref x3, .int zc, .ref mH, .int zy, .int za, .int zb, .int zs, .int zq, .int zw, .int 0, .ref mY, .int zn, .ref mE, .int zm, .int zl, .ref mW, .int zk, .ref mO, .int zd, .ref y1, .ref y2, .ref y3, .ref y4, .ref mZ])), (mY, .inl (cI, 2600, .inl eY)), (mB, .inl (cS, 131072, .inl eB)), (mL, .inl (cI, 512, .inl eL)), (mE, .inl (cI, 2600, .inl eE)), (mS, .inl (cI, 21, .inl eS)), (mX, .inl (cI, 6300, .inl eX))]) rfl (fun H locs hPn hDn hSn => ?_))
  clear hP hD hS
  have hP := hPn
  have hD := hDn
  have hS := hSn
  clear hPn hDn hSn
  refine lv_aload_n hx hb dX12_harm_5 rfl (lv_at hl 0 rfl) ?_
  refine lv_iconst (v := (-1)) hx hb dX12_harm_6 (by decide) ?_
  refine va_put (D := (dC, dI)) (ci := 12) (v := .int (-1)) (ty := .int) (C := RX12) (T := TX12) (N := 40) hx hb hts in_X12 tyX12 tyX12_ok nmX12 hown hK hP hD hS 0 rfl rfl 24 (Nat.le_of_ble_eq_true rfl) (hts (.fieldLink RX12 55 "TextMenderModel" "where" "I") (List.mem_of_getElem? (i := 2) rfl)) (fun _ h9 => h9) rfl (tyX12_ok 24 (Nat.le_of_ble_eq_true rfl)) rfl rfl (Nat.le_of_ble_eq_true rfl) dX12_harm_7 (kW (wn := [(oM, .inr (12, [.ref mT, .int zt, .ref mS, .ref mX, .int zp, .int zf, .ref mL, .ref mB, .ref mD, .ref m1, .ref m2, .int zh, .ref mR, .int zr, .ref x1, .ref x2, .ref x3, .int zc, .ref mH, .int zy, .int za, .int zb, .int zs, .int zq, .int (-1), .int 0, .ref mY, .int zn, .ref mE, .int zm, .int zl, .ref mW, .int zk, .ref mO, .int zd, .ref y1, .ref y2, .ref y3, .ref y4, .ref mZ])), (mY, .inl (cI, 2600, .inl eY)), (mB, .inl (cS, 131072, .inl eB)), (mL, .inl (cI, 512, .inl eL)), (mE, .inl (cI, 2600, .inl eE)), (mS, .inl (cI, 21, .inl eS)), (mX, .inl (cI, 6300, .inl eX))]) rfl (fun H locs hPn hDn hSn => ?_))
  clear hP hD hS
  have hP := hPn
  have hD := hDn
  have hS := hSn
  clear hPn hDn hSn
  refine lv_iload_n hx hb dX12_harm_10 rfl (lv_at hl 1 rfl) ?_
  refine kS_i (rest := []) hcf (m_X12_isCode l dC dI cI cS H.size a ) kc_X12_isCode gX12_harm_X12_isCode rfl rfl ⟨Nat.le_of_ble_eq_true rfl, Nat.le_of_ble_eq_true rfl⟩ kX_t hK hP hD hS hA (posT mk_2 0) (posF mk_2 0) (kC_of mk_2 rfl rfl) (by decide +kernel) rfl hl rfl (Nat.le_of_ble_eq_true rfl) dX12_harm_11 ⟨Nat.le_of_ble_eq_true rfl, Nat.le_of_ble_eq_true rfl⟩ (fun r_1 H locs hB hJ hSn => ?_)
  refine hB _ (fun hPD9 hf1_0 hf1_1 => ?_)
  clear hB
  obtain ⟨hPn, hDn⟩ := kJi (m := mk_2) hJ rfl hPD9.1 hPD9.2 (wn := [(oM, .inr (12, [.ref mT, .int zt, .ref mS, .ref mX, .int zp, .int zf, .ref mL, .ref mB, .ref mD, .ref m1, .ref m2, .int zh, .ref mR, .int zr, .ref x1, .ref x2, .ref x3, .int zc, .ref mH, .int zy, .int za, .int zb, .int zs, .int zq, .int (-1), .int 0, .ref mY, .int zn, .ref mE, .int zm, .int zl, .ref mW, .int zk, .ref mO, .int zd, .ref y1, .ref y2, .ref y3, .ref y4, .ref mZ])), (mY, .inl (cI, 2600, .inl eY)), (mB, .inl (cS, 131072, .inl eB)), (mL, .inl (cI, 512, .inl eL)), (mE, .inl (cI, 2600, .inl eE)), (mS, .inl (cI, 21, .inl eS)), (mX, .inl (cI, 6300, .inl eX))]) rfl
  clear hP hD hS hJ hPD9
  have hP := hPn
  have hD := hDn
  have hS := hSn
  clear hPn hDn hSn
  refine lv_if_eq (tgt := 24) hx hb dX12_harm_14 (by decide) (fun c_2 => ?_) (fun c_2 => ?_)
  · have tc_2 : r_1.toInt = 0 := v_eq c_2
    refine lv_iconst (v := (-1)) hx hb dX12_harm_24 (by decide) ?_
    exact kl_i (v := (-1)) hQQ hx hb hr hlocks hS dX12_harm_25 (fun PZ9 kZ9 => kZ9 0 (-1) zn eY zd zm zl eE zp zf zs eS eX (⟨hP, hD⟩) (g_zn) (g_eY) (g_zm) (g_eE) (g_zp) (g_zf) (g_zs) (g_eS) (g_eX) (by show zs.toInt ≤ zs.toInt + 1 ∧ zs.toInt ≤ zs.toInt; omega) (by first | exact Or.inl (by omega) | exact Or.inr ⟨rfl, rfl, rfl⟩) (OR_n rfl (fun c fm v h => by have h1 := h.1; have h2 := h.2.1; unfold okd at h1 h2; omega)))
  · have tc_2 : ¬ r_1.toInt = 0 := v_ne c_2
    refine lv_iload_n hx hb dX12_harm_17 rfl (lv_at hl 2 rfl) ?_
    refine kS_i (rest := []) hcf (m_X12_isCode l dC dI cI cS H.size b ) kc_X12_isCode gX12_harm_X12_isCode rfl rfl ⟨Nat.le_of_ble_eq_true rfl, Nat.le_of_ble_eq_true rfl⟩ kX_t hK hP hD hS hA (posT mk_2 0) (posF mk_2 0) (kC_of mk_2 rfl rfl) (by decide +kernel) rfl hl rfl (Nat.le_of_ble_eq_true rfl) dX12_harm_18 ⟨Nat.le_of_ble_eq_true rfl, Nat.le_of_ble_eq_true rfl⟩ (fun r_3 H locs hB hJ hSn => ?_)
    refine hB _ (fun hPD9 hf3_0 hf3_1 => ?_)
    clear hB
    obtain ⟨hPn, hDn⟩ := kJi (m := mk_2) hJ rfl hPD9.1 hPD9.2 (wn := [(oM, .inr (12, [.ref mT, .int zt, .ref mS, .ref mX, .int zp, .int zf, .ref mL, .ref mB, .ref mD, .ref m1, .ref m2, .int zh, .ref mR, .int zr, .ref x1, .ref x2, .ref x3, .int zc, .ref mH, .int zy, .int za, .int zb, .int zs, .int zq, .int (-1), .int 0, .ref mY, .int zn, .ref mE, .int zm, .int zl, .ref mW, .int zk, .ref mO, .int zd, .ref y1, .ref y2, .ref y3, .ref y4, .ref mZ])), (mY, .inl (cI, 2600, .inl eY)), (mB, .inl (cS, 131072, .inl eB)), (mL, .inl (cI, 512, .inl eL)), (mE, .inl (cI, 2600, .inl eE)), (mS, .inl (cI, 21, .inl eS)), (mX, .inl (cI, 6300, .inl eX))]) rfl
    clear hP hD hS hJ hPD9
    have hP := hPn
    have hD := hDn
    have hS := hSn
    clear hPn hDn hSn
    refine lv_if_ne (tgt := 26) hx hb dX12_harm_21 (by decide) (fun c_4 => ?_) (fun c_4 => ?_)
    · have tc_4 : ¬ r_3.toInt = 0 := v_ne c_4
      refine lv_aload_n hx hb dX12_harm_26 rfl (lv_at hl 0 rfl) ?_
      refine lv_iload_n hx hb dX12_harm_27 rfl (lv_at hl 1 rfl) ?_
      refine lv_iload_n hx hb dX12_harm_28 rfl (lv_at hl 2 rfl) ?_
      refine lv_aload_n hx hb dX12_harm_29 rfl (lv_at hl 0 rfl) ?_
      refine va_get (D := (dC, dI)) (ci := 12) (v := .ref mX) (C := RX12) (T := TX12) (N := 40) hx hb hts in_X12 hown hK hP 0 rfl rfl 3 (Nat.le_of_ble_eq_true rfl) (hts (.fieldLink RX12 16 "TextMenderModel" "texts" "[I") (List.mem_of_getElem? (i := 3) rfl)) (fun _ h9 => h9) rfl dX12_harm_30 ?_
      refine lv_aload_n hx hb dX12_harm_33 rfl (lv_at hl 0 rfl) ?_
      refine va_get (D := (dC, dI)) (ci := 12) (v := .ref mS) (C := RX12) (T := TX12) (N := 40) hx hb hts in_X12 hown hK hP 0 rfl rfl 2 (Nat.le_of_ble_eq_true rfl) (hts (.fieldLink RX12 13 "TextMenderModel" "sizes" "[I") (List.mem_of_getElem? (i := 4) rfl)) (fun _ h9 => h9) rfl dX12_harm_34 ?_
      refine lv_iconst (v := 0) hx hb dX12_harm_37 (by decide) ?_
      refine va_iald hx hb hK hP 5 0 rfl rfl (by unfold vp_in; decide) dX12_harm_38 ?_
      refine lv_topi (fun x_5 ex_5 => ?_)
      have tx_5 : 0 ≤ x_5.toInt ∧ x_5.toInt ≤ 300 := rg_at g_eS ex_5
      refine kV_i (rest := []) (q0 := 0) (ci := 12) hcf (f_X12_does l dC dI cI cS H.size oM mX mT mS mX mL mB mD m1 m2 mR x1 x2 x3 mH mY mE mW mO y1 y2 y3 y4 mZ 6300 zt zp zf zh zr zc zy za zb zs zq (-1) 0 zn zm zl zk zd eY eB eL eE eX a b x_5 (g_zt) (g_zp) (g_zf) (g_zh) (g_zr) (g_zc) (g_zy) (g_za) (g_zb) (g_zs) (g_zq) (g_zn) (g_zm) (g_zk) (g_eY) (g_eB) (g_eL) (g_eE) (g_eX) (by omega) (by omega) (v_rr tx_5 (by decide) (by decide)) (by omega) (by omega)) kc_X12_does gX12_harm_X12_does rfl rfl rfl ⟨Nat.le_of_ble_eq_true rfl, Nat.le_of_ble_eq_true rfl⟩ kX_t hK hP hD hS hA (posT mk_162 0) (posF mk_162 0) (kC_of mk_162 rfl rfl) (by decide +kernel) rfl rfl rfl hl rfl (Nat.le_of_ble_eq_true rfl) dX12_harm_39 ⟨Nat.le_of_ble_eq_true rfl, Nat.le_of_ble_eq_true rfl⟩ (fun r_6 H locs hB hJ hSn => ?_)
      refine hB _ (fun zn_6 eY_6 zd_6 zm_6 zl_6 eE_6 hPD9 hf6_0 hf6_1 hf6_2 hf6_3 hf6_4 hf6_5 hf6_6 => ?_)
      clear hB
      obtain ⟨hPn, hDn⟩ := kJi (m := mk_162) hJ rfl hPD9.1 hPD9.2 (wn := [(oM, .inr (12, [.ref mT, .int zt, .ref mS, .ref mX, .int zp, .int zf, .ref mL, .ref mB, .ref mD, .ref m1, .ref m2, .int zh, .ref mR, .int zr, .ref x1, .ref x2, .ref x3, .int zc, .ref mH, .int zy, .int za, .int zb, .int zs, .int zq, .int (-1), .int 0, .ref mY, .int zn_6, .ref mE, .int zm_6, .int zl_6, .ref mW, .int zk, .ref mO, .int zd_6, .ref y1, .ref y2, .ref y3, .ref y4, .ref mZ])), (mY, .inl (cI, 2600, .inl eY_6)), (mB, .inl (cS, 131072, .inl eB)), (mL, .inl (cI, 512, .inl eL)), (mE, .inl (cI, 2600, .inl eE_6)), (mS, .inl (cI, 21, .inl eS)), (mX, .inl (cI, 6300, .inl eX))]) rfl
      clear hP hD hS hJ hPD9
      have hP := hPn
      have hD := hDn
      have hS := hSn
      clear hPn hDn hSn
      refine lv_if_ne (tgt := 55) hx hb dX12_harm_42 (by decide) (fun c_7 => ?_) (fun c_7 => ?_)
      · have tc_7 : ¬ r_6.toInt = 0 := v_ne c_7
        refine lv_aload_n hx hb dX12_harm_55 rfl (lv_at hl 0 rfl) ?_
        refine lv_aload_n hx hb dX12_harm_56 rfl (lv_at hl 0 rfl) ?_
        refine va_get (D := (dC, dI)) (ci := 12) (v := .ref mE) (C := RX12) (T := TX12) (N := 40) hx hb hts in_X12 hown hK hP 0 rfl rfl 28 (Nat.le_of_ble_eq_true rfl) (hts (.fieldLink RX12 61 "TextMenderModel" "came" "[I") (List.mem_of_getElem? (i := 6) rfl)) (fun _ h9 => h9) rfl dX12_harm_57 ?_
        refine lv_aload_n hx hb dX12_harm_60 rfl (lv_at hl 0 rfl) ?_
        refine va_get (D := (dC, dI)) (ci := 12) (v := .int zm_6) (C := RX12) (T := TX12) (N := 40) hx hb hts in_X12 hown hK hP 0 rfl rfl 29 (Nat.le_of_ble_eq_true rfl) (hts (.fieldLink RX12 119 "TextMenderModel" "cameMany" "I") (List.mem_of_getElem? (i := 7) rfl)) (fun _ h9 => h9) rfl dX12_harm_61 ?_
        refine kV_v (rest := []) (q0 := 0) (ci := 12) hcf (f_X12_bec l dC dI cI cS H.size oM mE mT mS mX mL mB mD m1 m2 mR x1 x2 x3 mH mY mE mW mO y1 y2 y3 y4 mZ 2600 zt zp zf zh zr zc zy za zb zs zq (-1) 0 zn_6 zm_6 zl_6 zk zd_6 eS eX eE_6 zm_6 (g_zt) (g_zp) (g_zf) (g_zh) (g_zr) (g_zc) (g_zy) (g_za) (g_zb) (g_zs) (g_zq) (hf6_0) (hf6_2) (g_zk) (g_eS) (g_eX) (by omega) (by omega) (by omega) (prg_of hf6_3) (by omega)) kc_X12_become gX12_harm_X12_become rfl rfl rfl ⟨Nat.le_of_ble_eq_true rfl, Nat.le_of_ble_eq_true rfl⟩ kX_t hK hP hD hS hA ([0, 2, 3, 1].filterMap (fun j => (posT mk_164 0)[j]?)) (posF mk_164 0) (kCp (ws := [(oM, .inr (12, [.ref mT, .int zt, .ref mS, .ref mX, .int zp, .int zf, .ref mL, .ref mB, .ref mD, .ref m1, .ref m2, .int zh, .ref mR, .int zr, .ref x1, .ref x2, .ref x3, .int zc, .ref mH, .int zy, .int za, .int zb, .int zs, .int zq, .int (-1), .int 0, .ref mY, .int zn_6, .ref mE, .int zm_6, .int zl_6, .ref mW, .int zk, .ref mO, .int zd_6, .ref y1, .ref y2, .ref y3, .ref y4, .ref mZ])), (mE, .inl (cI, 2600, .inl eE_6)), (mS, .inl (cI, 21, .inl eS)), (mX, .inl (cI, 6300, .inl eX))]) (kC_of mk_164 rfl rfl) rfl) (by decide +kernel) rfl rfl rfl hl rfl (Nat.le_of_ble_eq_true rfl) dX12_harm_64 ⟨Nat.le_of_ble_eq_true rfl, Nat.le_of_ble_eq_true rfl⟩ (fun H locs hB hJ hSn => ?_)
        refine hB _ (fun zp_8 zf_8 zs_8 eS_8 eX_8 hPD9 hf8_0 hf8_1 hf8_2 hf8_3 hf8_4 hf8_5 hf8_6 => ?_)
        clear hB
        obtain ⟨hPn, hDn⟩ := kJm (m := mk_164) hJ rfl hPD9.1 hPD9.2 [0, 3, 1, 2] (by decide +kernel) (ws := [(oM, .inr (12, [.ref mT, .int zt, .ref mS, .ref mX, .int zp_8, .int zf_8, .ref mL, .ref mB, .ref mD, .ref m1, .ref m2, .int zh, .ref mR, .int zr, .ref x1, .ref x2, .ref x3, .int zc, .ref mH, .int zy, .int za, .int zb, .int zs_8, .int zq, .int (-1), .int 0, .ref mY, .int zn_6, .ref mE, .int zm_6, .int zl_6, .ref mW, .int zk, .ref mO, .int zd_6, .ref y1, .ref y2, .ref y3, .ref y4, .ref mZ])), (mE, .inl (cI, 2600, .inl eE_6)), (mS, .inl (cI, 21, .inl eS_8)), (mX, .inl (cI, 6300, .inl eX_8))]) rfl (wn := [(oM, .inr (12, [.ref mT, .int zt, .ref mS, .ref mX, .int zp_8, .int zf_8, .ref mL, .ref mB, .ref mD, .ref m1, .ref m2, .int zh, .ref mR, .int zr, .ref x1, .ref x2, .ref x3, .int zc, .ref mH, .int zy, .int za, .int zb, .int zs_8, .int zq, .int (-1), .int 0, .ref mY, .int zn_6, .ref mE, .int zm_6, .int zl_6, .ref mW, .int zk, .ref mO, .int zd_6, .ref y1, .ref y2, .ref y3, .ref y4, .ref mZ])), (mY, .inl (cI, 2600, .inl eY_6)), (mB, .inl (cS, 131072, .inl eB)), (mL, .inl (cI, 512, .inl eL)), (mE, .inl (cI, 2600, .inl eE_6)), (mS, .inl (cI, 21, .inl eS_8)), (mX, .inl (cI, 6300, .inl eX_8))]) rfl
        clear hP hD hS hJ hPD9
        have hP := hPn
        have hD := hDn
        have hS := hSn
        clear hPn hDn hSn
        refine lv_aload_n hx hb dX12_harm_67 rfl (lv_at hl 0 rfl) ?_
        refine va_get (D := (dC, dI)) (ci := 12) (v := .int zm_6) (C := RX12) (T := TX12) (N := 40) hx hb hts in_X12 hown hK hP 0 rfl rfl 29 (Nat.le_of_ble_eq_true rfl) (hts (.fieldLink RX12 119 "TextMenderModel" "cameMany" "I") (List.mem_of_getElem? (i := 7) rfl)) (fun _ h9 => h9) rfl dX12_harm_68 ?_
        exact kl_i (v := zm_6) hQQ hx hb hr hlocks hS dX12_harm_71 (fun PZ9 kZ9 => kZ9 0 (-1) zn_6 eY_6 zd_6 zm_6 zl_6 eE_6 zp_8 zf_8 zs_8 eS_8 eX_8 (⟨hP, hD⟩) (hf6_0) (hf6_1) (hf6_2) (hf6_3) (hf8_0) (hf8_1) (hf8_2) (hf8_3) (hf8_4) (by show zs_8.toInt ≤ zs.toInt + 1 ∧ zs.toInt ≤ zs_8.toInt; omega) (by first | exact Or.inl (by omega) | exact Or.inr ⟨rfl, rfl, rfl⟩) (OR_y ((pz_1 (Or.inl ⟨by unfold okd; omega, by unfold okd; omega, ps_n (n := x_5.toInt) (n' := (eS 0).toInt) hf6_6 (by rw [ex_5]; rfl)⟩) (by omega)).imp (fun c hc => ⟨hc.1, hc.2 _ (by first | rfl | omega)⟩)) hf8_6 (by omega)))
      · have tc_7 : r_6.toInt = 0 := v_eq c_7
        refine lv_aload_n hx hb dX12_harm_45 rfl (lv_at hl 0 rfl) ?_
        refine lv_aload_n hx hb dX12_harm_46 rfl (lv_at hl 0 rfl) ?_
        refine va_get (D := (dC, dI)) (ci := 12) (v := .int zl_6) (C := RX12) (T := TX12) (N := 40) hx hb hts in_X12 hown hK hP 0 rfl rfl 30 (Nat.le_of_ble_eq_true rfl) (hts (.fieldLink RX12 102 "TextMenderModel" "faultAt" "I") (List.mem_of_getElem? (i := 5) rfl)) (fun _ h9 => h9) rfl dX12_harm_47 ?_
        refine va_put (D := (dC, dI)) (ci := 12) (v := .int zl_6) (ty := .int) (C := RX12) (T := TX12) (N := 40) hx hb hts in_X12 tyX12 tyX12_ok nmX12 hown hK hP hD hS 0 rfl rfl 24 (Nat.le_of_ble_eq_true rfl) (hts (.fieldLink RX12 55 "TextMenderModel" "where" "I") (List.mem_of_getElem? (i := 2) rfl)) (fun _ h9 => h9) rfl (tyX12_ok 24 (Nat.le_of_ble_eq_true rfl)) rfl rfl (Nat.le_of_ble_eq_true rfl) dX12_harm_50 (kW (wn := [(oM, .inr (12, [.ref mT, .int zt, .ref mS, .ref mX, .int zp, .int zf, .ref mL, .ref mB, .ref mD, .ref m1, .ref m2, .int zh, .ref mR, .int zr, .ref x1, .ref x2, .ref x3, .int zc, .ref mH, .int zy, .int za, .int zb, .int zs, .int zq, .int zl_6, .int 0, .ref mY, .int zn_6, .ref mE, .int zm_6, .int zl_6, .ref mW, .int zk, .ref mO, .int zd_6, .ref y1, .ref y2, .ref y3, .ref y4, .ref mZ])), (mY, .inl (cI, 2600, .inl eY_6)), (mB, .inl (cS, 131072, .inl eB)), (mL, .inl (cI, 512, .inl eL)), (mE, .inl (cI, 2600, .inl eE_6)), (mS, .inl (cI, 21, .inl eS)), (mX, .inl (cI, 6300, .inl eX))]) rfl (fun H locs hPn hDn hSn => ?_))
        clear hP hD hS
        have hP := hPn
        have hD := hDn
        have hS := hSn
        clear hPn hDn hSn
        refine lv_iconst (v := (-1)) hx hb dX12_harm_53 (by decide) ?_
        exact kl_i (v := (-1)) hQQ hx hb hr hlocks hS dX12_harm_54 (fun PZ9 kZ9 => kZ9 0 zl_6 zn_6 eY_6 zd_6 zm_6 zl_6 eE_6 zp zf zs eS eX (⟨hP, hD⟩) (hf6_0) (hf6_1) (hf6_2) (hf6_3) (g_zp) (g_zf) (g_zs) (g_eS) (g_eX) (by show zs.toInt ≤ zs.toInt + 1 ∧ zs.toInt ≤ zs.toInt; omega) (by first | exact Or.inl (by omega) | exact Or.inr ⟨rfl, rfl, rfl⟩) (OR_n rfl (pz_0 (Or.inl ⟨by unfold okd; omega, by unfold okd; omega, ps_n (n := x_5.toInt) (n' := (eS 0).toInt) hf6_6 (by rw [ex_5]; rfl)⟩) (by omega))))
    · have tc_4 : r_3.toInt = 0 := v_eq c_4
      refine lv_iconst (v := (-1)) hx hb dX12_harm_24 (by decide) ?_
      exact kl_i (v := (-1)) hQQ hx hb hr hlocks hS dX12_harm_25 (fun PZ9 kZ9 => kZ9 0 (-1) zn eY zd zm zl eE zp zf zs eS eX (⟨hP, hD⟩) (g_zn) (g_eY) (g_zm) (g_eE) (g_zp) (g_zf) (g_zs) (g_eS) (g_eX) (by show zs.toInt ≤ zs.toInt + 1 ∧ zs.toInt ≤ zs.toInt; omega) (by first | exact Or.inl (by omega) | exact Or.inr ⟨rfl, rfl, rfl⟩) (OR_n rfl (fun c fm v h => by have h1 := h.1; have h2 := h.2.1; unfold okd at h1 h2; omega)))

set_option maxHeartbeats 40000000 in
set_option maxRecDepth 100000 in
theorem f_X12_takeText (l : Launch) (dC : Nat → ClassId) (dI : Nat → Nat → Nat) (cI cS : ClassId) (sz : Nat) (oM : Nat) (mT : Nat) (mS : Nat) (mX : Nat) (mL : Nat) (mB : Nat) (mD : Nat) (m1 : Nat) (m2 : Nat) (mR : Nat) (x1 : Nat) (x2 : Nat) (x3 : Nat) (mH : Nat) (mY : Nat) (mE : Nat) (mW : Nat) (mO : Nat) (y1 : Nat) (y2 : Nat) (y3 : Nat) (y4 : Nat) (mZ : Nat) (zt : Int32) (zp : Int32) (zf : Int32) (zh : Int32) (zr : Int32) (zc : Int32) (zy : Int32) (za : Int32) (zb : Int32) (zs : Int32) (zq : Int32) (zw : Int32) (ze : Int32) (zn : Int32) (zm : Int32) (zl : Int32) (zk : Int32) (zd : Int32) (eS : Nat → Int32) (eX : Nat → Int32) (eW : Nat → Int32) (g_zt : 0 ≤ zt.toInt ∧ zt.toInt ≤ 900) (g_zp : 0 ≤ zp.toInt ∧ zp.toInt ≤ 20) (g_zf : 0 ≤ zf.toInt ∧ zf.toInt ≤ 19) (g_zh : 0 ≤ zh.toInt ∧ zh.toInt ≤ 6) (g_zr : 0 ≤ zr.toInt ∧ zr.toInt ≤ 258) (g_zc : 0 ≤ zc.toInt ∧ zc.toInt ≤ 300) (g_zy : 0 ≤ zy.toInt ∧ zy.toInt ≤ 65536) (g_za : 0 ≤ za.toInt ∧ za.toInt ≤ 5) (g_zb : 0 ≤ zb.toInt ∧ zb.toInt ≤ 5) (g_zs : 0 ≤ zs.toInt ∧ zs.toInt ≤ 2000000) (g_zq : -1 ≤ zq.toInt ∧ zq.toInt ≤ 2000000) (g_zn : 0 ≤ zn.toInt ∧ zn.toInt ≤ 2600) (g_zm : 0 ≤ zm.toInt ∧ zm.toInt ≤ 2600) (g_zk : 0 ≤ zk.toInt ∧ zk.toInt ≤ 300) (g_eS : rg 0 300 eS) (g_eX : rg 0 65535 eX) (g_eW : rg 0 65535 eW) : kMv l yX12_takeText wsX12_takeText ({ frames := 0, cells := 0, slots := 0, locals := 0 } : Room) [.ref oM] sz (dC, dI) vwCl [(cI, .int), (cS, .short)] [(oM, .inr (12, [.ref mT, .int zt, .ref mS, .ref mX, .int zp, .int zf, .ref mL, .ref mB, .ref mD, .ref m1, .ref m2, .int zh, .ref mR, .int zr, .ref x1, .ref x2, .ref x3, .int zc, .ref mH, .int zy, .int za, .int zb, .int zs, .int zq, .int zw, .int ze, .ref mY, .int zn, .ref mE, .int zm, .int zl, .ref mW, .int zk, .ref mO, .int zd, .ref y1, .ref y2, .ref y3, .ref y4, .ref mZ])), (mS, .inl (cI, 21, .inl eS)), (mX, .inl (cI, 6300, .inl eX)), (mW, .inl (cI, 300, .inl eW))] (fun _ => True) 0 0 (fun (A : Nat → Prop) (hh9 : Heap) => ∀ PZ9 : Prop, (∀ (zk' : Int32) (eW' : Nat → Int32), kPD (dC, dI) vwCl A [(oM, .inr (12, [.ref mT, .int zt, .ref mS, .ref mX, .int zp, .int zf, .ref mL, .ref mB, .ref mD, .ref m1, .ref m2, .int zh, .ref mR, .int zr, .ref x1, .ref x2, .ref x3, .int zc, .ref mH, .int zy, .int za, .int zb, .int zs, .int zq, .int zw, .int ze, .ref mY, .int zn, .ref mE, .int zm, .int zl, .ref mW, .int zk', .ref mO, .int zd, .ref y1, .ref y2, .ref y3, .ref y4, .ref mZ])), (mS, .inl (cI, 21, .inl eS)), (mX, .inl (cI, 6300, .inl eX)), (mW, .inl (cI, 300, .inl eW'))] hh9 → (0 ≤ zk'.toInt ∧ zk'.toInt ≤ 300) → (rg 0 65535 eW') → (F_tt zk' eW' eS eX) → PZ9) → PZ9) := by
  refine kMv_of (cc := cX12_takeText) (maxL := 2) (ret := none) (lv := [(0, .ref oM)]) (by decide +kernel) rfl rfl (Nat.le_of_ble_eq_true rfl) ?_
  intro p e s m below meth c A QQ ls hx hb hr hts hml hown hlocks hA hQQ hK hX hP hD hS hl
  have hown : s.vm.findClass RX12 = some m.cls := hown
  have hcf := k_cf hx hb hml hown hts
  have in_X12 : ∀ w ∈ wsX120, w ∈ wsX12_takeText := fun _ h => List.mem_cons_of_mem _ (List.mem_append_right _ (h))
  replace g_zt := hid g_zt
  replace g_zp := hid g_zp
  replace g_zf := hid g_zf
  replace g_zh := hid g_zh
  replace g_zr := hid g_zr
  replace g_zc := hid g_zc
  replace g_zy := hid g_zy
  replace g_za := hid g_za
  replace g_zb := hid g_zb
  replace g_zs := hid g_zs
  replace g_zq := hid g_zq
  replace g_zn := hid g_zn
  replace g_zm := hid g_zm
  replace g_zk := hid g_zk
  refine lv_aload_n hx hb dX12_takeText_0 rfl (lv_at hl 0 rfl) ?_
  refine lv_aload_n hx hb dX12_takeText_1 rfl (lv_at hl 0 rfl) ?_
  refine va_get (D := (dC, dI)) (ci := 12) (v := .ref mS) (C := RX12) (T := TX12) (N := 40) hx hb hts in_X12 hown hK hP 0 rfl rfl 2 (Nat.le_of_ble_eq_true rfl) (hts (.fieldLink RX12 13 "TextMenderModel" "sizes" "[I") (List.mem_of_getElem? (i := 1) rfl)) (fun _ h9 => h9) rfl dX12_takeText_2 ?_
  refine lv_iconst (v := 0) hx hb dX12_takeText_5 (by decide) ?_
  refine va_iald hx hb hK hP 1 0 rfl rfl (by unfold vp_in; decide) dX12_takeText_6 ?_
  refine lv_topi (fun x_1 ex_1 => ?_)
  have tx_1 : 0 ≤ x_1.toInt ∧ x_1.toInt ≤ 300 := rg_at g_eS ex_1
  refine va_put (D := (dC, dI)) (ci := 12) (v := .int x_1) (ty := .int) (C := RX12) (T := TX12) (N := 40) hx hb hts in_X12 tyX12 tyX12_ok nmX12 hown hK hP hD hS 0 rfl rfl 32 (Nat.le_of_ble_eq_true rfl) (hts (.fieldLink RX12 135 "TextMenderModel" "workMany" "I") (List.mem_of_getElem? (i := 2) rfl)) (fun _ h9 => h9) rfl (tyX12_ok 32 (Nat.le_of_ble_eq_true rfl)) rfl rfl (Nat.le_of_ble_eq_true rfl) dX12_takeText_7 (kW (wn := [(oM, .inr (12, [.ref mT, .int zt, .ref mS, .ref mX, .int zp, .int zf, .ref mL, .ref mB, .ref mD, .ref m1, .ref m2, .int zh, .ref mR, .int zr, .ref x1, .ref x2, .ref x3, .int zc, .ref mH, .int zy, .int za, .int zb, .int zs, .int zq, .int zw, .int ze, .ref mY, .int zn, .ref mE, .int zm, .int zl, .ref mW, .int x_1, .ref mO, .int zd, .ref y1, .ref y2, .ref y3, .ref y4, .ref mZ])), (mS, .inl (cI, 21, .inl eS)), (mX, .inl (cI, 6300, .inl eX)), (mW, .inl (cI, 300, .inl eW))]) rfl (fun H locs hPn hDn hSn => ?_))
  clear hP hD hS
  have hP := hPn
  have hD := hDn
  have hS := hSn
  clear hPn hDn hSn
  refine lv_iconst (v := 0) hx hb dX12_takeText_10 (by decide) ?_
  refine lv_istore_n (lv' := [(1, .int 0), (0, .ref oM)]) hx hb dX12_takeText_11 rfl hl (by decide) rfl (fun ls hl => ?_)
  have LOOP_12 : ∀ (k_12 : Nat) (k : Int32) (eWa : Nat → Int32) (H : Heap) (locs : List Loc) (ls : Array Slot), MSd (300 - k.toInt : Int) k_12 → (0 ≤ k.toInt ∧ k.toInt ≤ 300) → (rg 0 65535 eWa) → (k.toInt ≤ x_1.toInt) → (cpE k.toInt eWa eX) → va_P (dC, dI) vwCl [(oM, .inr (12, [.ref mT, .int zt, .ref mS, .ref mX, .int zp, .int zf, .ref mL, .ref mB, .ref mD, .ref m1, .ref m2, .int zh, .ref mR, .int zr, .ref x1, .ref x2, .ref x3, .int zc, .ref mH, .int zy, .int za, .int zb, .int zs, .int zq, .int zw, .int ze, .ref mY, .int zn, .ref mE, .int zm, .int zl, .ref mW, .int x_1, .ref mO, .int zd, .ref y1, .ref y2, .ref y3, .ref y4, .ref mZ])), (mS, .inl (cI, 21, .inl eS)), (mX, .inl (cI, 6300, .inl eX)), (mW, .inl (cI, 300, .inl eWa))] H → va_D A [(oM, .inr (12, [.ref mT, .int zt, .ref mS, .ref mX, .int zp, .int zf, .ref mL, .ref mB, .ref mD, .ref m1, .ref m2, .int zh, .ref mR, .int zr, .ref x1, .ref x2, .ref x3, .int zc, .ref mH, .int zy, .int za, .int zb, .int zs, .int zq, .int zw, .int ze, .ref mY, .int zn, .ref mE, .int zm, .int zl, .ref mW, .int x_1, .ref mO, .int zd, .ref y1, .ref y2, .ref y3, .ref y4, .ref mZ])), (mS, .inl (cI, 21, .inl eS)), (mX, .inl (cI, 6300, .inl eX)), (mW, .inl (cI, 300, .inl eWa))] → va_S A s.heap H locs → lv_has ls 2 [(1, .int k), (0, .ref oM)] → W p l e (headSpec wsX12_takeText ({ frames := 0, cells := 0, slots := 0, locals := 0 } : Room)).room s m ([.ref oM] : List Value).toArray below meth c H locs 0 0 (MQ below QQ ([.ref oM] : List Value).toArray s 0 0 A) (F0 m 12 ls []) := by
    clear hP hD hS hl
    intro k_12
    induction k_12 with
    | zero =>
      intro k eWa H locs ls hm_12 g_k g_eWa hkk htt hP hD hS hl
      exact ms_0 hm_12
    | succ k_12 ih_12 =>
      intro k eWa H locs ls hm_12 g_k g_eWa hkk htt hP hD hS hl
      refine lv_iload_n hx hb dX12_takeText_12 rfl (lv_at hl 0 rfl) ?_
      refine lv_aload_n hx hb dX12_takeText_13 rfl (lv_at hl 1 rfl) ?_
      refine va_get (D := (dC, dI)) (ci := 12) (v := .int x_1) (C := RX12) (T := TX12) (N := 40) hx hb hts in_X12 hown hK hP 0 rfl rfl 32 (Nat.le_of_ble_eq_true rfl) (hts (.fieldLink RX12 135 "TextMenderModel" "workMany" "I") (List.mem_of_getElem? (i := 2) rfl)) (fun _ h9 => h9) rfl dX12_takeText_14 ?_
      refine lv_icmp_ge (tgt := 38) hx hb dX12_takeText_17 (by decide) (fun c_2 => ?_) (fun c_2 => ?_)
      · have tc_2 : x_1.toInt ≤ k.toInt := v_le c_2
        exact kl_v hQQ hx hb hr hlocks hS dX12_takeText_38 (fun PZ9 kZ9 => kZ9 x_1 eWa (⟨hP, hD⟩) (v_rr tx_1 (by decide) (by decide)) (g_eWa) (⟨by rw [ex_1]; rfl, fun j hj => htt j (by omega)⟩))
      · have tc_2 : k.toInt < x_1.toInt := v_nle c_2
        refine lv_aload_n hx hb dX12_takeText_20 rfl (lv_at hl 1 rfl) ?_
        refine va_get (D := (dC, dI)) (ci := 12) (v := .ref mW) (C := RX12) (T := TX12) (N := 40) hx hb hts in_X12 hown hK hP 0 rfl rfl 31 (Nat.le_of_ble_eq_true rfl) (hts (.fieldLink RX12 64 "TextMenderModel" "work" "[I") (List.mem_of_getElem? (i := 3) rfl)) (fun _ h9 => h9) rfl dX12_takeText_21 ?_
        refine lv_iload_n hx hb dX12_takeText_24 rfl (lv_at hl 0 rfl) ?_
        refine lv_aload_n hx hb dX12_takeText_25 rfl (lv_at hl 1 rfl) ?_
        refine va_get (D := (dC, dI)) (ci := 12) (v := .ref mX) (C := RX12) (T := TX12) (N := 40) hx hb hts in_X12 hown hK hP 0 rfl rfl 3 (Nat.le_of_ble_eq_true rfl) (hts (.fieldLink RX12 16 "TextMenderModel" "texts" "[I") (List.mem_of_getElem? (i := 4) rfl)) (fun _ h9 => h9) rfl dX12_takeText_26 ?_
        refine lv_iload_n hx hb dX12_takeText_29 rfl (lv_at hl 0 rfl) ?_
        refine va_iald hx hb hK hP 2 0 rfl rfl (v_inR g_k (by decide) (by decide)) dX12_takeText_30 ?_
        refine lv_topi (fun x_3 ex_3 => ?_)
        have tx_3 : 0 ≤ x_3.toInt ∧ x_3.toInt ≤ 65535 := rg_at g_eX ex_3
        obtain ⟨f_4, ef_4⟩ : ∃ g : Nat → Int32, g = upd eWa (k : Int32).toNatClampNeg x_3 := ⟨_, rfl⟩
        refine va_iast hx hb hK hP hD hS 3 0 rfl rfl (v_in (by omega)) dX12_takeText_31 (kWf (g := f_4) (F := fun f_4 => [(oM, .inr (12, [.ref mT, .int zt, .ref mS, .ref mX, .int zp, .int zf, .ref mL, .ref mB, .ref mD, .ref m1, .ref m2, .int zh, .ref mR, .int zr, .ref x1, .ref x2, .ref x3, .int zc, .ref mH, .int zy, .int za, .int zb, .int zs, .int zq, .int zw, .int ze, .ref mY, .int zn, .ref mE, .int zm, .int zl, .ref mW, .int x_1, .ref mO, .int zd, .ref y1, .ref y2, .ref y3, .ref y4, .ref mZ])), (mS, .inl (cI, 21, .inl eS)), (mX, .inl (cI, 6300, .inl eX)), (mW, .inl (cI, 300, .inl f_4))]) ef_4 rfl (fun H locs hPn hDn hSn => ?_))
        clear hP hD hS
        have hP := hPn
        have hD := hDn
        have hS := hSn
        clear hPn hDn hSn
        have g_f4 : rg 0 65535 f_4 := rg_upd ef_4 g_eWa (by omega)
        obtain ⟨x_5, ex_5⟩ : ∃ y : Int32, y = k + 1 := ⟨_, rfl⟩
        have tx_5 : x_5.toInt = k.toInt + 1 := v_addR (l2 := 1) (h2 := 1) ex_5 g_k (by decide) (by decide) (by decide)
        refine lv_iinc (v := x_5) (lv' := [(1, .int x_5), (0, .ref oM)]) hx hb dX12_takeText_32 hl (k := 0) rfl (by rw [ex_5]; rfl) (by decide) rfl (fun ls hl => ?_)
        refine lv_goto (tgt := 12) hx hb dX12_takeText_35 (by decide) ?_
        exact ih_12 x_5 f_4 _ _ _ (ms_lt hm_12 (by show ((300 - x_5.toInt : Int)) < 300 - k.toInt; omega) (by show (0 : Int) < 300 - k.toInt; omega)) (by show 0 ≤ x_5.toInt ∧ x_5.toInt ≤ 300; omega) (g_f4) (by show x_5.toInt ≤ x_1.toInt; omega) (cpE_s htt ex_3 ef_4 (by omega) (by omega)) hP hD hS (lv_sub hl [0, 1] rfl)
  exact LOOP_12 _ 0 eW _ _ _ (ms_s _) (by decide) (g_eW) (by show 0 ≤ x_1.toInt; omega) (cpE_0 (by decide)) hP hD hS (lv_sub hl [0, 1] rfl)

set_option maxHeartbeats 40000000 in
set_option maxRecDepth 100000 in
theorem f_X12_undo (l : Launch) (dC : Nat → ClassId) (dI : Nat → Nat → Nat) (cI cS : ClassId) (sz : Nat) (oM : Nat) (mT : Nat) (mS : Nat) (mX : Nat) (mL : Nat) (mB : Nat) (mD : Nat) (m1 : Nat) (m2 : Nat) (mR : Nat) (x1 : Nat) (x2 : Nat) (x3 : Nat) (mH : Nat) (mY : Nat) (mE : Nat) (mW : Nat) (mO : Nat) (y1 : Nat) (y2 : Nat) (y3 : Nat) (y4 : Nat) (mZ : Nat) (zt : Int32) (zp : Int32) (zf : Int32) (zh : Int32) (zr : Int32) (zc : Int32) (zy : Int32) (za : Int32) (zb : Int32) (zs : Int32) (zq : Int32) (zw : Int32) (ze : Int32) (zn : Int32) (zm : Int32) (zl : Int32) (zk : Int32) (zd : Int32) (eY : Nat → Int32) (eB : Nat → Int32) (eL : Nat → Int32) (eE : Nat → Int32) (eW : Nat → Int32) (eO : Nat → Int32) (eS : Nat → Int32) (eX : Nat → Int32) (a : Int32) (b : Int32) (g_zt : 0 ≤ zt.toInt ∧ zt.toInt ≤ 900) (g_zp : 0 ≤ zp.toInt ∧ zp.toInt ≤ 20) (g_zf : 0 ≤ zf.toInt ∧ zf.toInt ≤ 19) (g_zh : 0 ≤ zh.toInt ∧ zh.toInt ≤ 6) (g_zr : 0 ≤ zr.toInt ∧ zr.toInt ≤ 258) (g_zc : 0 ≤ zc.toInt ∧ zc.toInt ≤ 300) (g_zy : 0 ≤ zy.toInt ∧ zy.toInt ≤ 65536) (g_za : 0 ≤ za.toInt ∧ za.toInt ≤ 5) (g_zb : 0 ≤ zb.toInt ∧ zb.toInt ≤ 5) (g_zs : 0 ≤ zs.toInt ∧ zs.toInt ≤ 2000000) (g_zq : -1 ≤ zq.toInt ∧ zq.toInt ≤ 2000000) (g_zn : 0 ≤ zn.toInt ∧ zn.toInt ≤ 2600) (g_zm : 0 ≤ zm.toInt ∧ zm.toInt ≤ 2600) (g_zk : 0 ≤ zk.toInt ∧ zk.toInt ≤ 300) (g_eY : rg 0 255 eY) (g_eB : rg (-1) 255 eB) (g_eL : rg (-1) 65535 eL) (g_eE : rg 0 65535 eE) (g_eW : rg 0 65535 eW) (g_eO : rg 0 65535 eO) (g_eS : rg 0 300 eS) (g_eX : rg 0 65535 eX) (hxl : ∀ j : Nat, (j : Int) < (eS 0).toInt → isLz (eX j)) (hlb : LBr eL eB) (hzs : zs.toInt ≤ 1000000) : kMi l yX12_undo wsX12_undo ({ frames := 5, cells := 0, slots := 0, locals := 120 } : Room) [.ref oM, .int a, .int b] sz (dC, dI) vwCl [(cI, .int), (cS, .short)] [(oM, .inr (12, [.ref mT, .int zt, .ref mS, .ref mX, .int zp, .int zf, .ref mL, .ref mB, .ref mD, .ref m1, .ref m2, .int zh, .ref mR, .int zr, .ref x1, .ref x2, .ref x3, .int zc, .ref mH, .int zy, .int za, .int zb, .int zs, .int zq, .int zw, .int ze, .ref mY, .int zn, .ref mE, .int zm, .int zl, .ref mW, .int zk, .ref mO, .int zd, .ref y1, .ref y2, .ref y3, .ref y4, .ref mZ])), (mY, .inl (cI, 2600, .inl eY)), (mB, .inl (cS, 131072, .inl eB)), (mL, .inl (cI, 512, .inl eL)), (mE, .inl (cI, 2600, .inl eE)), (mW, .inl (cI, 300, .inl eW)), (mO, .inl (cI, 300, .inl eO)), (mS, .inl (cI, 21, .inl eS)), (mX, .inl (cI, 6300, .inl eX))] (fun _ => True) 0 0 (fun (A : Nat → Prop) (r : Int32) (hh9 : Heap) => ∀ PZ9 : Prop, (∀ (ze' : Int32) (zw' : Int32) (zk' : Int32) (eW' : Nat → Int32) (eO' : Nat → Int32) (zn' : Int32) (eY' : Nat → Int32) (zd' : Int32) (zm' : Int32) (zl' : Int32) (eE' : Nat → Int32) (zp' : Int32) (zf' : Int32) (zs' : Int32) (eS' : Nat → Int32) (eX' : Nat → Int32), kPD (dC, dI) vwCl A [(oM, .inr (12, [.ref mT, .int zt, .ref mS, .ref mX, .int zp', .int zf', .ref mL, .ref mB, .ref mD, .ref m1, .ref m2, .int zh, .ref mR, .int zr, .ref x1, .ref x2, .ref x3, .int zc, .ref mH, .int zy, .int za, .int zb, .int zs', .int zq, .int zw', .int ze', .ref mY, .int zn', .ref mE, .int zm', .int zl', .ref mW, .int zk', .ref mO, .int zd', .ref y1, .ref y2, .ref y3, .ref y4, .ref mZ])), (mY, .inl (cI, 2600, .inl eY')), (mB, .inl (cS, 131072, .inl eB)), (mL, .inl (cI, 512, .inl eL)), (mE, .inl (cI, 2600, .inl eE')), (mW, .inl (cI, 300, .inl eW')), (mO, .inl (cI, 300, .inl eO')), (mS, .inl (cI, 21, .inl eS')), (mX, .inl (cI, 6300, .inl eX'))] hh9 → (0 ≤ zk'.toInt ∧ zk'.toInt ≤ 300) → (rg 0 65535 eW') → (rg 0 65535 eO') → (0 ≤ zn'.toInt ∧ zn'.toInt ≤ 2600) → (rg 0 255 eY') → (0 ≤ zm'.toInt ∧ zm'.toInt ≤ 2600) → (rg 0 65535 eE') → (0 ≤ zp'.toInt ∧ zp'.toInt ≤ 20) → (0 ≤ zf'.toInt ∧ zf'.toInt ≤ 19) → (0 ≤ zs'.toInt ∧ zs'.toInt ≤ 2000000) → (rg 0 300 eS') → (rg 0 65535 eX') → (zs'.toInt ≤ zs.toInt + 1 ∧ zs.toInt ≤ zs'.toInt) → (F_st zs zs' eX eX' eS eS') → (OR (-1) r zs zs' zp zp' zf zf' eS eS' eX eX' (hmP b a (fun k => eL k) (fun k => eL (256 + k)) (Br b eB) (eS 0).toInt eX)) → PZ9) → PZ9) := by
  refine kMi_of (cc := cX12_undo) (maxL := 3) (ret := (some .int)) (lv := [(0, .ref oM), (1, .int a), (2, .int b)]) (by decide +kernel) rfl rfl (Nat.le_of_ble_eq_true rfl) ?_
  intro p e s m below meth c A QQ ls hx hb hr hts hml hown hlocks hA hQQ hK hX hP hD hS hl
  have hown : s.vm.findClass RX12 = some m.cls := hown
  have hcf := k_cf hx hb hml hown hts
  have in_X12 : ∀ w ∈ wsX120, w ∈ wsX12_undo := fun _ h => List.mem_cons_of_mem _ (List.mem_append_left _ (List.mem_append_left _ (List.mem_append_left _ (List.mem_append_left _ (List.mem_append_right _ (h))))))
  replace g_zt := hid g_zt
  replace g_zh := hid g_zh
  replace g_zr := hid g_zr
  replace g_zc := hid g_zc
  replace g_zy := hid g_zy
  replace g_za := hid g_za
  replace g_zb := hid g_zb
  replace g_zq := hid g_zq
  replace g_zn := hid g_zn
  replace g_zm := hid g_zm
  replace g_zk := hid g_zk
  refine lv_aload_n hx hb dX12_undo_0 rfl (lv_at hl 0 rfl) ?_
  refine lv_iconst (v := 0) hx hb dX12_undo_1 (by decide) ?_
  refine va_put (D := (dC, dI)) (ci := 12) (v := .int 0) (ty := .int) (C := RX12) (T := TX12) (N := 40) hx hb hts in_X12 tyX12 tyX12_ok nmX12 hown hK hP hD hS 0 rfl rfl 25 (Nat.le_of_ble_eq_true rfl) (hts (.fieldLink RX12 85 "TextMenderModel" "thrown" "I") (List.mem_of_getElem? (i := 1) rfl)) (fun _ h9 => h9) rfl (tyX12_ok 25 (Nat.le_of_ble_eq_true rfl)) rfl rfl (Nat.le_of_ble_eq_true rfl) dX12_undo_2 (kW (wn := [(oM, .inr (12, [.ref mT, .int zt, .ref mS, .ref mX, .int zp, .int zf, .ref mL, .ref mB, .ref mD, .ref m1, .ref m2, .int zh, .ref mR, .int zr, .ref x1, .ref x2, .ref x3, .int zc, .ref mH, .int zy, .int za, .int zb, .int zs, .int zq, .int zw, .int 0, .ref mY, .int zn, .ref mE, .int zm, .int zl, .ref mW, .int zk, .ref mO, .int zd, .ref y1, .ref y2, .ref y3, .ref y4, .ref mZ])), (mY, .inl (cI, 2600, .inl eY)), (mB, .inl (cS, 131072, .inl eB)), (mL, .inl (cI, 512, .inl eL)), (mE, .inl (cI, 2600, .inl eE)), (mW, .inl (cI, 300, .inl eW)), (mO, .inl (cI, 300, .inl eO)), (mS, .inl (cI, 21, .inl eS)), (mX, .inl (cI, 6300, .inl eX))]) rfl (fun H locs hPn hDn hSn => ?_))
  clear hP hD hS
  have hP := hPn
  have hD := hDn
  have hS := hSn
  clear hPn hDn hSn
  refine lv_aload_n hx hb dX12_undo_5 rfl (lv_at hl 0 rfl) ?_
  refine lv_iconst (v := (-1)) hx hb dX12_undo_6 (by decide) ?_
  refine va_put (D := (dC, dI)) (ci := 12) (v := .int (-1)) (ty := .int) (C := RX12) (T := TX12) (N := 40) hx hb hts in_X12 tyX12 tyX12_ok nmX12 hown hK hP hD hS 0 rfl rfl 24 (Nat.le_of_ble_eq_true rfl) (hts (.fieldLink RX12 55 "TextMenderModel" "where" "I") (List.mem_of_getElem? (i := 2) rfl)) (fun _ h9 => h9) rfl (tyX12_ok 24 (Nat.le_of_ble_eq_true rfl)) rfl rfl (Nat.le_of_ble_eq_true rfl) dX12_undo_7 (kW (wn := [(oM, .inr (12, [.ref mT, .int zt, .ref mS, .ref mX, .int zp, .int zf, .ref mL, .ref mB, .ref mD, .ref m1, .ref m2, .int zh, .ref mR, .int zr, .ref x1, .ref x2, .ref x3, .int zc, .ref mH, .int zy, .int za, .int zb, .int zs, .int zq, .int (-1), .int 0, .ref mY, .int zn, .ref mE, .int zm, .int zl, .ref mW, .int zk, .ref mO, .int zd, .ref y1, .ref y2, .ref y3, .ref y4, .ref mZ])), (mY, .inl (cI, 2600, .inl eY)), (mB, .inl (cS, 131072, .inl eB)), (mL, .inl (cI, 512, .inl eL)), (mE, .inl (cI, 2600, .inl eE)), (mW, .inl (cI, 300, .inl eW)), (mO, .inl (cI, 300, .inl eO)), (mS, .inl (cI, 21, .inl eS)), (mX, .inl (cI, 6300, .inl eX))]) rfl (fun H locs hPn hDn hSn => ?_))
  clear hP hD hS
  have hP := hPn
  have hD := hDn
  have hS := hSn
  clear hPn hDn hSn
  refine lv_iload_n hx hb dX12_undo_10 rfl (lv_at hl 1 rfl) ?_
  refine kS_i (rest := []) hcf (m_X12_isCode l dC dI cI cS H.size a ) kc_X12_isCode gX12_undo_X12_isCode rfl rfl ⟨Nat.le_of_ble_eq_true rfl, Nat.le_of_ble_eq_true rfl⟩ kX_t hK hP hD hS hA (posT mk_4 0) (posF mk_4 0) (kC_of mk_4 rfl rfl) (by decide +kernel) rfl hl rfl (Nat.le_of_ble_eq_true rfl) dX12_undo_11 ⟨Nat.le_of_ble_eq_true rfl, Nat.le_of_ble_eq_true rfl⟩ (fun r_1 H locs hB hJ hSn => ?_)
  refine hB _ (fun hPD9 hf1_0 hf1_1 => ?_)
  clear hB
  obtain ⟨hPn, hDn⟩ := kJi (m := mk_4) hJ rfl hPD9.1 hPD9.2 (wn := [(oM, .inr (12, [.ref mT, .int zt, .ref mS, .ref mX, .int zp, .int zf, .ref mL, .ref mB, .ref mD, .ref m1, .ref m2, .int zh, .ref mR, .int zr, .ref x1, .ref x2, .ref x3, .int zc, .ref mH, .int zy, .int za, .int zb, .int zs, .int zq, .int (-1), .int 0, .ref mY, .int zn, .ref mE, .int zm, .int zl, .ref mW, .int zk, .ref mO, .int zd, .ref y1, .ref y2, .ref y3, .ref y4, .ref mZ])), (mY, .inl (cI, 2600, .inl eY)), (mB, .inl (cS, 131072, .inl eB)), (mL, .inl (cI, 512, .inl eL)), (mE, .inl (cI, 2600, .inl eE)), (mW, .inl (cI, 300, .inl eW)), (mO, .inl (cI, 300, .inl eO)), (mS, .inl (cI, 21, .inl eS)), (mX, .inl (cI, 6300, .inl eX))]) rfl
  clear hP hD hS hJ hPD9
  have hP := hPn
  have hD := hDn
  have hS := hSn
  clear hPn hDn hSn
  refine lv_if_eq (tgt := 24) hx hb dX12_undo_14 (by decide) (fun c_2 => ?_) (fun c_2 => ?_)
  · have tc_2 : r_1.toInt = 0 := v_eq c_2
    refine lv_iconst (v := (-1)) hx hb dX12_undo_24 (by decide) ?_
    exact kl_i (v := (-1)) hQQ hx hb hr hlocks hS dX12_undo_25 (fun PZ9 kZ9 => kZ9 0 (-1) zk eW eO zn eY zd zm zl eE zp zf zs eS eX (⟨hP, hD⟩) (g_zk) (g_eW) (g_eO) (g_zn) (g_eY) (g_zm) (g_eE) (g_zp) (g_zf) (g_zs) (g_eS) (g_eX) (by show zs.toInt ≤ zs.toInt + 1 ∧ zs.toInt ≤ zs.toInt; omega) (by first | exact Or.inl (by omega) | exact Or.inr ⟨rfl, rfl, rfl⟩) (OR_n rfl (fun c fm v h => by have h1 := h.1; have h2 := h.2.1; unfold okd at h1 h2; omega)))
  · have tc_2 : ¬ r_1.toInt = 0 := v_ne c_2
    refine lv_iload_n hx hb dX12_undo_17 rfl (lv_at hl 2 rfl) ?_
    refine kS_i (rest := []) hcf (m_X12_isCode l dC dI cI cS H.size b ) kc_X12_isCode gX12_undo_X12_isCode rfl rfl ⟨Nat.le_of_ble_eq_true rfl, Nat.le_of_ble_eq_true rfl⟩ kX_t hK hP hD hS hA (posT mk_4 0) (posF mk_4 0) (kC_of mk_4 rfl rfl) (by decide +kernel) rfl hl rfl (Nat.le_of_ble_eq_true rfl) dX12_undo_18 ⟨Nat.le_of_ble_eq_true rfl, Nat.le_of_ble_eq_true rfl⟩ (fun r_3 H locs hB hJ hSn => ?_)
    refine hB _ (fun hPD9 hf3_0 hf3_1 => ?_)
    clear hB
    obtain ⟨hPn, hDn⟩ := kJi (m := mk_4) hJ rfl hPD9.1 hPD9.2 (wn := [(oM, .inr (12, [.ref mT, .int zt, .ref mS, .ref mX, .int zp, .int zf, .ref mL, .ref mB, .ref mD, .ref m1, .ref m2, .int zh, .ref mR, .int zr, .ref x1, .ref x2, .ref x3, .int zc, .ref mH, .int zy, .int za, .int zb, .int zs, .int zq, .int (-1), .int 0, .ref mY, .int zn, .ref mE, .int zm, .int zl, .ref mW, .int zk, .ref mO, .int zd, .ref y1, .ref y2, .ref y3, .ref y4, .ref mZ])), (mY, .inl (cI, 2600, .inl eY)), (mB, .inl (cS, 131072, .inl eB)), (mL, .inl (cI, 512, .inl eL)), (mE, .inl (cI, 2600, .inl eE)), (mW, .inl (cI, 300, .inl eW)), (mO, .inl (cI, 300, .inl eO)), (mS, .inl (cI, 21, .inl eS)), (mX, .inl (cI, 6300, .inl eX))]) rfl
    clear hP hD hS hJ hPD9
    have hP := hPn
    have hD := hDn
    have hS := hSn
    clear hPn hDn hSn
    refine lv_if_ne (tgt := 26) hx hb dX12_undo_21 (by decide) (fun c_4 => ?_) (fun c_4 => ?_)
    · have tc_4 : ¬ r_3.toInt = 0 := v_ne c_4
      refine lv_aload_n hx hb dX12_undo_26 rfl (lv_at hl 0 rfl) ?_
      refine kV_v (rest := []) (q0 := 0) (ci := 12) hcf (f_X12_takeText l dC dI cI cS H.size oM mT mS mX mL mB mD m1 m2 mR x1 x2 x3 mH mY mE mW mO y1 y2 y3 y4 mZ zt zp zf zh zr zc zy za zb zs zq (-1) 0 zn zm zl zk zd eS eX eW (g_zt) (g_zp) (g_zf) (g_zh) (g_zr) (g_zc) (g_zy) (g_za) (g_zb) (g_zs) (g_zq) (g_zn) (g_zm) (g_zk) (g_eS) (g_eX) (g_eW)) kc_X12_takeText gX12_undo_X12_takeText rfl rfl rfl ⟨Nat.le_of_ble_eq_true rfl, Nat.le_of_ble_eq_true rfl⟩ kX_t hK hP hD hS hA ([0, 2, 3, 1].filterMap (fun j => (posT mk_167 0)[j]?)) (posF mk_167 0) (kCp (ws := [(oM, .inr (12, [.ref mT, .int zt, .ref mS, .ref mX, .int zp, .int zf, .ref mL, .ref mB, .ref mD, .ref m1, .ref m2, .int zh, .ref mR, .int zr, .ref x1, .ref x2, .ref x3, .int zc, .ref mH, .int zy, .int za, .int zb, .int zs, .int zq, .int (-1), .int 0, .ref mY, .int zn, .ref mE, .int zm, .int zl, .ref mW, .int zk, .ref mO, .int zd, .ref y1, .ref y2, .ref y3, .ref y4, .ref mZ])), (mW, .inl (cI, 300, .inl eW)), (mS, .inl (cI, 21, .inl eS)), (mX, .inl (cI, 6300, .inl eX))]) (kC_of mk_167 rfl rfl) rfl) (by decide +kernel) rfl rfl rfl hl rfl (Nat.le_of_ble_eq_true rfl) dX12_undo_27 ⟨Nat.le_of_ble_eq_true rfl, Nat.le_of_ble_eq_true rfl⟩ (fun H locs hB hJ hSn => ?_)
      refine hB _ (fun zk_5 eW_5 hPD9 hf5_0 hf5_1 hf5_2 => ?_)
      clear hB
      obtain ⟨hPn, hDn⟩ := kJm (m := mk_167) hJ rfl hPD9.1 hPD9.2 [0, 3, 1, 2] (by decide +kernel) (ws := [(oM, .inr (12, [.ref mT, .int zt, .ref mS, .ref mX, .int zp, .int zf, .ref mL, .ref mB, .ref mD, .ref m1, .ref m2, .int zh, .ref mR, .int zr, .ref x1, .ref x2, .ref x3, .int zc, .ref mH, .int zy, .int za, .int zb, .int zs, .int zq, .int (-1), .int 0, .ref mY, .int zn, .ref mE, .int zm, .int zl, .ref mW, .int zk_5, .ref mO, .int zd, .ref y1, .ref y2, .ref y3, .ref y4, .ref mZ])), (mW, .inl (cI, 300, .inl eW_5)), (mS, .inl (cI, 21, .inl eS)), (mX, .inl (cI, 6300, .inl eX))]) rfl (wn := [(oM, .inr (12, [.ref mT, .int zt, .ref mS, .ref mX, .int zp, .int zf, .ref mL, .ref mB, .ref mD, .ref m1, .ref m2, .int zh, .ref mR, .int zr, .ref x1, .ref x2, .ref x3, .int zc, .ref mH, .int zy, .int za, .int zb, .int zs, .int zq, .int (-1), .int 0, .ref mY, .int zn, .ref mE, .int zm, .int zl, .ref mW, .int zk_5, .ref mO, .int zd, .ref y1, .ref y2, .ref y3, .ref y4, .ref mZ])), (mY, .inl (cI, 2600, .inl eY)), (mB, .inl (cS, 131072, .inl eB)), (mL, .inl (cI, 512, .inl eL)), (mE, .inl (cI, 2600, .inl eE)), (mW, .inl (cI, 300, .inl eW_5)), (mO, .inl (cI, 300, .inl eO)), (mS, .inl (cI, 21, .inl eS)), (mX, .inl (cI, 6300, .inl eX))]) rfl
      clear hP hD hS hJ hPD9
      have hP := hPn
      have hD := hDn
      have hS := hSn
      clear hPn hDn hSn
      refine lv_aload_n hx hb dX12_undo_30 rfl (lv_at hl 0 rfl) ?_
      refine lv_iload_n hx hb dX12_undo_31 rfl (lv_at hl 1 rfl) ?_
      refine lv_iload_n hx hb dX12_undo_32 rfl (lv_at hl 2 rfl) ?_
      refine kV_i (rest := []) (q0 := 0) (ci := 12) hcf (f_X12_undoes l dC dI cI cS H.size oM mT mS mX mL mB mD m1 m2 mR x1 x2 x3 mH mY mE mW mO y1 y2 y3 y4 mZ zt zp zf zh zr zc zy za zb zs zq (-1) 0 zn zm zl zk_5 zd eY eB eL eE eW_5 eO a b (g_zt) (g_zp) (g_zf) (g_zh) (g_zr) (g_zc) (g_zy) (g_za) (g_zb) (g_zs) (g_zq) (g_zn) (g_zm) (hf5_0) (g_eY) (g_eB) (g_eL) (g_eE) (hf5_1) (g_eO) (by omega) (by omega) (fun j hj => by rw [hf5_2.2 j hj]; exact hxl j (by rw [← hf5_2.1]; exact hj)) (hlb)) kc_X12_undoes gX12_undo_X12_undoes rfl rfl rfl ⟨Nat.le_of_ble_eq_true rfl, Nat.le_of_ble_eq_true rfl⟩ kX_t hK hP hD hS hA (posT mk_168 0) (posF mk_168 0) (kC_of mk_168 rfl rfl) (by decide +kernel) rfl rfl rfl hl rfl (Nat.le_of_ble_eq_true rfl) dX12_undo_33 ⟨Nat.le_of_ble_eq_true rfl, Nat.le_of_ble_eq_true rfl⟩ (fun r_6 H locs hB hJ hSn => ?_)
      refine hB _ (fun zn_6 eY_6 zd_6 zm_6 zl_6 eE_6 zk_6 eW_6 eO_6 hPD9 hf6_0 hf6_1 hf6_2 hf6_3 hf6_4 hf6_5 hf6_6 hf6_7 hf6_8 => ?_)
      clear hB
      obtain ⟨hPn, hDn⟩ := kJi (m := mk_168) hJ rfl hPD9.1 hPD9.2 (wn := [(oM, .inr (12, [.ref mT, .int zt, .ref mS, .ref mX, .int zp, .int zf, .ref mL, .ref mB, .ref mD, .ref m1, .ref m2, .int zh, .ref mR, .int zr, .ref x1, .ref x2, .ref x3, .int zc, .ref mH, .int zy, .int za, .int zb, .int zs, .int zq, .int (-1), .int 0, .ref mY, .int zn_6, .ref mE, .int zm_6, .int zl_6, .ref mW, .int zk_6, .ref mO, .int zd_6, .ref y1, .ref y2, .ref y3, .ref y4, .ref mZ])), (mY, .inl (cI, 2600, .inl eY_6)), (mB, .inl (cS, 131072, .inl eB)), (mL, .inl (cI, 512, .inl eL)), (mE, .inl (cI, 2600, .inl eE_6)), (mW, .inl (cI, 300, .inl eW_6)), (mO, .inl (cI, 300, .inl eO_6)), (mS, .inl (cI, 21, .inl eS)), (mX, .inl (cI, 6300, .inl eX))]) rfl
      clear hP hD hS hJ hPD9
      have hP := hPn
      have hD := hDn
      have hS := hSn
      clear hPn hDn hSn
      refine lv_if_ne (tgt := 49) hx hb dX12_undo_36 (by decide) (fun c_7 => ?_) (fun c_7 => ?_)
      · have tc_7 : ¬ r_6.toInt = 0 := v_ne c_7
        refine lv_aload_n hx hb dX12_undo_49 rfl (lv_at hl 0 rfl) ?_
        refine lv_aload_n hx hb dX12_undo_50 rfl (lv_at hl 0 rfl) ?_
        refine va_get (D := (dC, dI)) (ci := 12) (v := .ref mW) (C := RX12) (T := TX12) (N := 40) hx hb hts in_X12 hown hK hP 0 rfl rfl 31 (Nat.le_of_ble_eq_true rfl) (hts (.fieldLink RX12 64 "TextMenderModel" "work" "[I") (List.mem_of_getElem? (i := 4) rfl)) (fun _ h9 => h9) rfl dX12_undo_51 ?_
        refine lv_aload_n hx hb dX12_undo_54 rfl (lv_at hl 0 rfl) ?_
        refine va_get (D := (dC, dI)) (ci := 12) (v := .int zk_6) (C := RX12) (T := TX12) (N := 40) hx hb hts in_X12 hown hK hP 0 rfl rfl 32 (Nat.le_of_ble_eq_true rfl) (hts (.fieldLink RX12 135 "TextMenderModel" "workMany" "I") (List.mem_of_getElem? (i := 5) rfl)) (fun _ h9 => h9) rfl dX12_undo_55 ?_
        refine kV_v (rest := []) (q0 := 0) (ci := 12) hcf (f_X12_bec l dC dI cI cS H.size oM mW mT mS mX mL mB mD m1 m2 mR x1 x2 x3 mH mY mE mW mO y1 y2 y3 y4 mZ 300 zt zp zf zh zr zc zy za zb zs zq (-1) 0 zn_6 zm_6 zl_6 zk_6 zd_6 eS eX eW_6 zk_6 (g_zt) (g_zp) (g_zf) (g_zh) (g_zr) (g_zc) (g_zy) (g_za) (g_zb) (g_zs) (g_zq) (hf6_0) (hf6_2) (hf6_4) (g_eS) (g_eX) (hf6_4) (by omega) (by omega) (prg_of hf6_5) (by omega)) kc_X12_become gX12_undo_X12_become rfl rfl rfl ⟨Nat.le_of_ble_eq_true rfl, Nat.le_of_ble_eq_true rfl⟩ kX_t hK hP hD hS hA ([0, 2, 3, 1].filterMap (fun j => (posT mk_167 0)[j]?)) (posF mk_167 0) (kCp (ws := [(oM, .inr (12, [.ref mT, .int zt, .ref mS, .ref mX, .int zp, .int zf, .ref mL, .ref mB, .ref mD, .ref m1, .ref m2, .int zh, .ref mR, .int zr, .ref x1, .ref x2, .ref x3, .int zc, .ref mH, .int zy, .int za, .int zb, .int zs, .int zq, .int (-1), .int 0, .ref mY, .int zn_6, .ref mE, .int zm_6, .int zl_6, .ref mW, .int zk_6, .ref mO, .int zd_6, .ref y1, .ref y2, .ref y3, .ref y4, .ref mZ])), (mW, .inl (cI, 300, .inl eW_6)), (mS, .inl (cI, 21, .inl eS)), (mX, .inl (cI, 6300, .inl eX))]) (kC_of mk_167 rfl rfl) rfl) (by decide +kernel) rfl rfl rfl hl rfl (Nat.le_of_ble_eq_true rfl) dX12_undo_58 ⟨Nat.le_of_ble_eq_true rfl, Nat.le_of_ble_eq_true rfl⟩ (fun H locs hB hJ hSn => ?_)
        refine hB _ (fun zp_8 zf_8 zs_8 eS_8 eX_8 hPD9 hf8_0 hf8_1 hf8_2 hf8_3 hf8_4 hf8_5 hf8_6 => ?_)
        clear hB
        obtain ⟨hPn, hDn⟩ := kJm (m := mk_167) hJ rfl hPD9.1 hPD9.2 [0, 3, 1, 2] (by decide +kernel) (ws := [(oM, .inr (12, [.ref mT, .int zt, .ref mS, .ref mX, .int zp_8, .int zf_8, .ref mL, .ref mB, .ref mD, .ref m1, .ref m2, .int zh, .ref mR, .int zr, .ref x1, .ref x2, .ref x3, .int zc, .ref mH, .int zy, .int za, .int zb, .int zs_8, .int zq, .int (-1), .int 0, .ref mY, .int zn_6, .ref mE, .int zm_6, .int zl_6, .ref mW, .int zk_6, .ref mO, .int zd_6, .ref y1, .ref y2, .ref y3, .ref y4, .ref mZ])), (mW, .inl (cI, 300, .inl eW_6)), (mS, .inl (cI, 21, .inl eS_8)), (mX, .inl (cI, 6300, .inl eX_8))]) rfl (wn := [(oM, .inr (12, [.ref mT, .int zt, .ref mS, .ref mX, .int zp_8, .int zf_8, .ref mL, .ref mB, .ref mD, .ref m1, .ref m2, .int zh, .ref mR, .int zr, .ref x1, .ref x2, .ref x3, .int zc, .ref mH, .int zy, .int za, .int zb, .int zs_8, .int zq, .int (-1), .int 0, .ref mY, .int zn_6, .ref mE, .int zm_6, .int zl_6, .ref mW, .int zk_6, .ref mO, .int zd_6, .ref y1, .ref y2, .ref y3, .ref y4, .ref mZ])), (mY, .inl (cI, 2600, .inl eY_6)), (mB, .inl (cS, 131072, .inl eB)), (mL, .inl (cI, 512, .inl eL)), (mE, .inl (cI, 2600, .inl eE_6)), (mW, .inl (cI, 300, .inl eW_6)), (mO, .inl (cI, 300, .inl eO_6)), (mS, .inl (cI, 21, .inl eS_8)), (mX, .inl (cI, 6300, .inl eX_8))]) rfl
        clear hP hD hS hJ hPD9
        have hP := hPn
        have hD := hDn
        have hS := hSn
        clear hPn hDn hSn
        refine lv_aload_n hx hb dX12_undo_61 rfl (lv_at hl 0 rfl) ?_
        refine va_get (D := (dC, dI)) (ci := 12) (v := .int zk_6) (C := RX12) (T := TX12) (N := 40) hx hb hts in_X12 hown hK hP 0 rfl rfl 32 (Nat.le_of_ble_eq_true rfl) (hts (.fieldLink RX12 135 "TextMenderModel" "workMany" "I") (List.mem_of_getElem? (i := 5) rfl)) (fun _ h9 => h9) rfl dX12_undo_62 ?_
        exact kl_i (v := zk_6) hQQ hx hb hr hlocks hS dX12_undo_65 (fun PZ9 kZ9 => kZ9 0 (-1) zk_6 eW_6 eO_6 zn_6 eY_6 zd_6 zm_6 zl_6 eE_6 zp_8 zf_8 zs_8 eS_8 eX_8 (⟨hP, hD⟩) (hf6_4) (hf6_5) (hf6_6) (hf6_0) (hf6_1) (hf6_2) (hf6_3) (hf8_0) (hf8_1) (hf8_2) (hf8_3) (hf8_4) (by show zs_8.toInt ≤ zs.toInt + 1 ∧ zs.toInt ≤ zs_8.toInt; omega) (by first | exact Or.inl (by omega) | exact Or.inr ⟨rfl, rfl, rfl⟩) (OR_y ((pz_1 (Or.inl ⟨by unfold okd; omega, by unfold okd; omega, ps_n (n' := (eS 0).toInt) (ps_g hf6_8 (fun j hj => hf5_2.2 j hj)) (by rw [hf5_2.1])⟩) (by omega)).imp (fun c hc => ⟨hc.1, hc.2 _ (by first | rfl | omega)⟩)) hf8_6 (by omega)))
      · have tc_7 : r_6.toInt = 0 := v_eq c_7
        refine lv_aload_n hx hb dX12_undo_39 rfl (lv_at hl 0 rfl) ?_
        refine lv_aload_n hx hb dX12_undo_40 rfl (lv_at hl 0 rfl) ?_
        refine va_get (D := (dC, dI)) (ci := 12) (v := .int zl_6) (C := RX12) (T := TX12) (N := 40) hx hb hts in_X12 hown hK hP 0 rfl rfl 30 (Nat.le_of_ble_eq_true rfl) (hts (.fieldLink RX12 102 "TextMenderModel" "faultAt" "I") (List.mem_of_getElem? (i := 3) rfl)) (fun _ h9 => h9) rfl dX12_undo_41 ?_
        refine va_put (D := (dC, dI)) (ci := 12) (v := .int zl_6) (ty := .int) (C := RX12) (T := TX12) (N := 40) hx hb hts in_X12 tyX12 tyX12_ok nmX12 hown hK hP hD hS 0 rfl rfl 24 (Nat.le_of_ble_eq_true rfl) (hts (.fieldLink RX12 55 "TextMenderModel" "where" "I") (List.mem_of_getElem? (i := 2) rfl)) (fun _ h9 => h9) rfl (tyX12_ok 24 (Nat.le_of_ble_eq_true rfl)) rfl rfl (Nat.le_of_ble_eq_true rfl) dX12_undo_44 (kW (wn := [(oM, .inr (12, [.ref mT, .int zt, .ref mS, .ref mX, .int zp, .int zf, .ref mL, .ref mB, .ref mD, .ref m1, .ref m2, .int zh, .ref mR, .int zr, .ref x1, .ref x2, .ref x3, .int zc, .ref mH, .int zy, .int za, .int zb, .int zs, .int zq, .int zl_6, .int 0, .ref mY, .int zn_6, .ref mE, .int zm_6, .int zl_6, .ref mW, .int zk_6, .ref mO, .int zd_6, .ref y1, .ref y2, .ref y3, .ref y4, .ref mZ])), (mY, .inl (cI, 2600, .inl eY_6)), (mB, .inl (cS, 131072, .inl eB)), (mL, .inl (cI, 512, .inl eL)), (mE, .inl (cI, 2600, .inl eE_6)), (mW, .inl (cI, 300, .inl eW_6)), (mO, .inl (cI, 300, .inl eO_6)), (mS, .inl (cI, 21, .inl eS)), (mX, .inl (cI, 6300, .inl eX))]) rfl (fun H locs hPn hDn hSn => ?_))
        clear hP hD hS
        have hP := hPn
        have hD := hDn
        have hS := hSn
        clear hPn hDn hSn
        refine lv_iconst (v := (-1)) hx hb dX12_undo_47 (by decide) ?_
        exact kl_i (v := (-1)) hQQ hx hb hr hlocks hS dX12_undo_48 (fun PZ9 kZ9 => kZ9 0 zl_6 zk_6 eW_6 eO_6 zn_6 eY_6 zd_6 zm_6 zl_6 eE_6 zp zf zs eS eX (⟨hP, hD⟩) (hf6_4) (hf6_5) (hf6_6) (hf6_0) (hf6_1) (hf6_2) (hf6_3) (g_zp) (g_zf) (g_zs) (g_eS) (g_eX) (by show zs.toInt ≤ zs.toInt + 1 ∧ zs.toInt ≤ zs.toInt; omega) (by first | exact Or.inl (by omega) | exact Or.inr ⟨rfl, rfl, rfl⟩) (OR_n rfl (pz_0 (Or.inl ⟨by unfold okd; omega, by unfold okd; omega, ps_n (n' := (eS 0).toInt) (ps_g hf6_8 (fun j hj => hf5_2.2 j hj)) (by rw [hf5_2.1])⟩) (by omega))))
    · have tc_4 : r_3.toInt = 0 := v_eq c_4
      refine lv_iconst (v := (-1)) hx hb dX12_undo_24 (by decide) ?_
      exact kl_i (v := (-1)) hQQ hx hb hr hlocks hS dX12_undo_25 (fun PZ9 kZ9 => kZ9 0 (-1) zk eW eO zn eY zd zm zl eE zp zf zs eS eX (⟨hP, hD⟩) (g_zk) (g_eW) (g_eO) (g_zn) (g_eY) (g_zm) (g_eE) (g_zp) (g_zf) (g_zs) (g_eS) (g_eX) (by show zs.toInt ≤ zs.toInt + 1 ∧ zs.toInt ≤ zs.toInt; omega) (by first | exact Or.inl (by omega) | exact Or.inr ⟨rfl, rfl, rfl⟩) (OR_n rfl (fun c fm v h => by have h1 := h.1; have h2 := h.2.1; unfold okd at h1 h2; omega)))

end

/-! 59m.a.rows -/
section
set_option maxRecDepth 100000 in
theorem dA222_cX3_sortOutside : kDec cX3_sortOutside [(0, .iload_n 0, 1), (1, .bipush 32, 2), (3, .if_icmp .ne 5, 3), (8, .iload_n 0, 1), (9, .sipush 192, 3), (12, .if_icmp .lt 31, 3), (43, .iload_n 0, 1), (44, .sipush 880, 3), (47, .if_icmp .lt 15, 3), (62, .iconst 0, 1), (63, .ireturn, 1), (15, .iload_n 0, 1), (16, .sipush 591, 3), (19, .if_icmp .gt 24, 3), (50, .iload_n 0, 1), (51, .sipush 1327, 3), (54, .if_icmp .gt 8, 3), (57, .bipush 7, 2), (59, .goto 4, 3), (22, .iload_n 0, 1), (23, .sipush 215, 3), (26, .if_icmp .eq 10, 3), (36, .iconst 0, 1), (37, .goto 5, 3)] = true := by decide +kernel
theorem dX3_sortOutside_0 : decode cX3_sortOutside 0 = .ok (.iload_n 0, 1) := kDec_at dA222_cX3_sortOutside 0 rfl
theorem dX3_sortOutside_1 : decode cX3_sortOutside 1 = .ok (.bipush 32, 2) := kDec_at dA222_cX3_sortOutside 1 rfl
theorem dX3_sortOutside_3 : decode cX3_sortOutside 3 = .ok (.if_icmp .ne 5, 3) := kDec_at dA222_cX3_sortOutside 2 rfl
theorem dX3_sortOutside_8 : decode cX3_sortOutside 8 = .ok (.iload_n 0, 1) := kDec_at dA222_cX3_sortOutside 3 rfl
theorem dX3_sortOutside_9 : decode cX3_sortOutside 9 = .ok (.sipush 192, 3) := kDec_at dA222_cX3_sortOutside 4 rfl
theorem dX3_sortOutside_12 : decode cX3_sortOutside 12 = .ok (.if_icmp .lt 31, 3) := kDec_at dA222_cX3_sortOutside 5 rfl
theorem dX3_sortOutside_43 : decode cX3_sortOutside 43 = .ok (.iload_n 0, 1) := kDec_at dA222_cX3_sortOutside 6 rfl
theorem dX3_sortOutside_44 : decode cX3_sortOutside 44 = .ok (.sipush 880, 3) := kDec_at dA222_cX3_sortOutside 7 rfl
theorem dX3_sortOutside_47 : decode cX3_sortOutside 47 = .ok (.if_icmp .lt 15, 3) := kDec_at dA222_cX3_sortOutside 8 rfl
theorem dX3_sortOutside_62 : decode cX3_sortOutside 62 = .ok (.iconst 0, 1) := kDec_at dA222_cX3_sortOutside 9 rfl
theorem dX3_sortOutside_63 : decode cX3_sortOutside 63 = .ok (.ireturn, 1) := kDec_at dA222_cX3_sortOutside 10 rfl
theorem dX3_sortOutside_15 : decode cX3_sortOutside 15 = .ok (.iload_n 0, 1) := kDec_at dA222_cX3_sortOutside 11 rfl
theorem dX3_sortOutside_16 : decode cX3_sortOutside 16 = .ok (.sipush 591, 3) := kDec_at dA222_cX3_sortOutside 12 rfl
theorem dX3_sortOutside_19 : decode cX3_sortOutside 19 = .ok (.if_icmp .gt 24, 3) := kDec_at dA222_cX3_sortOutside 13 rfl
theorem dX3_sortOutside_50 : decode cX3_sortOutside 50 = .ok (.iload_n 0, 1) := kDec_at dA222_cX3_sortOutside 14 rfl
theorem dX3_sortOutside_51 : decode cX3_sortOutside 51 = .ok (.sipush 1327, 3) := kDec_at dA222_cX3_sortOutside 15 rfl
theorem dX3_sortOutside_54 : decode cX3_sortOutside 54 = .ok (.if_icmp .gt 8, 3) := kDec_at dA222_cX3_sortOutside 16 rfl
theorem dX3_sortOutside_57 : decode cX3_sortOutside 57 = .ok (.bipush 7, 2) := kDec_at dA222_cX3_sortOutside 17 rfl
theorem dX3_sortOutside_59 : decode cX3_sortOutside 59 = .ok (.goto 4, 3) := kDec_at dA222_cX3_sortOutside 18 rfl
theorem dX3_sortOutside_22 : decode cX3_sortOutside 22 = .ok (.iload_n 0, 1) := kDec_at dA222_cX3_sortOutside 19 rfl
theorem dX3_sortOutside_23 : decode cX3_sortOutside 23 = .ok (.sipush 215, 3) := kDec_at dA222_cX3_sortOutside 20 rfl
theorem dX3_sortOutside_26 : decode cX3_sortOutside 26 = .ok (.if_icmp .eq 10, 3) := kDec_at dA222_cX3_sortOutside 21 rfl
theorem dX3_sortOutside_36 : decode cX3_sortOutside 36 = .ok (.iconst 0, 1) := kDec_at dA222_cX3_sortOutside 22 rfl
theorem dX3_sortOutside_37 : decode cX3_sortOutside 37 = .ok (.goto 5, 3) := kDec_at dA222_cX3_sortOutside 23 rfl
set_option maxRecDepth 100000 in
theorem dA223_cX3_sortOutside : kDec cX3_sortOutside [(42, .ireturn, 1), (29, .iload_n 0, 1), (30, .sipush 247, 3), (33, .if_icmp .ne 7, 3), (40, .bipush 6, 2), (6, .iconst 4, 1), (7, .ireturn, 1)] = true := by decide +kernel
theorem dX3_sortOutside_42 : decode cX3_sortOutside 42 = .ok (.ireturn, 1) := kDec_at dA223_cX3_sortOutside 0 rfl
theorem dX3_sortOutside_29 : decode cX3_sortOutside 29 = .ok (.iload_n 0, 1) := kDec_at dA223_cX3_sortOutside 1 rfl
theorem dX3_sortOutside_30 : decode cX3_sortOutside 30 = .ok (.sipush 247, 3) := kDec_at dA223_cX3_sortOutside 2 rfl
theorem dX3_sortOutside_33 : decode cX3_sortOutside 33 = .ok (.if_icmp .ne 7, 3) := kDec_at dA223_cX3_sortOutside 3 rfl
theorem dX3_sortOutside_40 : decode cX3_sortOutside 40 = .ok (.bipush 6, 2) := kDec_at dA223_cX3_sortOutside 4 rfl
theorem dX3_sortOutside_6 : decode cX3_sortOutside 6 = .ok (.iconst 4, 1) := kDec_at dA223_cX3_sortOutside 5 rfl
theorem dX3_sortOutside_7 : decode cX3_sortOutside 7 = .ok (.ireturn, 1) := kDec_at dA223_cX3_sortOutside 6 rfl
set_option maxRecDepth 100000 in
theorem dA224_cX3_sortOf : kDec cX3_sortOf [(0, .iload_n 0, 1), (1, .bipush 33, 2), (3, .if_icmp .lt 9, 3), (12, .iload_n 0, 1), (13, .invokestatic 50, 3), (16, .ireturn, 1), (6, .iload_n 0, 1), (7, .bipush 126, 2), (9, .if_icmp .le 8, 3), (17, .iload_n 0, 1), (18, .bipush 97, 2), (20, .if_icmp .lt 11, 3), (31, .iload_n 0, 1), (32, .bipush 65, 2), (34, .if_icmp .lt 11, 3), (45, .iload_n 0, 1), (46, .bipush 48, 2), (48, .if_icmp .lt 13, 3), (61, .iconst 5, 1), (62, .ireturn, 1), (51, .iload_n 0, 1), (52, .bipush 57, 2), (54, .if_icmp .gt 7, 3), (57, .iconst 3, 1)] = true := by decide +kernel
theorem dX3_sortOf_0 : decode cX3_sortOf 0 = .ok (.iload_n 0, 1) := kDec_at dA224_cX3_sortOf 0 rfl
theorem dX3_sortOf_1 : decode cX3_sortOf 1 = .ok (.bipush 33, 2) := kDec_at dA224_cX3_sortOf 1 rfl
theorem dX3_sortOf_3 : decode cX3_sortOf 3 = .ok (.if_icmp .lt 9, 3) := kDec_at dA224_cX3_sortOf 2 rfl
theorem dX3_sortOf_12 : decode cX3_sortOf 12 = .ok (.iload_n 0, 1) := kDec_at dA224_cX3_sortOf 3 rfl
theorem dX3_sortOf_13 : decode cX3_sortOf 13 = .ok (.invokestatic 50, 3) := kDec_at dA224_cX3_sortOf 4 rfl
theorem dX3_sortOf_16 : decode cX3_sortOf 16 = .ok (.ireturn, 1) := kDec_at dA224_cX3_sortOf 5 rfl
theorem dX3_sortOf_6 : decode cX3_sortOf 6 = .ok (.iload_n 0, 1) := kDec_at dA224_cX3_sortOf 6 rfl
theorem dX3_sortOf_7 : decode cX3_sortOf 7 = .ok (.bipush 126, 2) := kDec_at dA224_cX3_sortOf 7 rfl
theorem dX3_sortOf_9 : decode cX3_sortOf 9 = .ok (.if_icmp .le 8, 3) := kDec_at dA224_cX3_sortOf 8 rfl
theorem dX3_sortOf_17 : decode cX3_sortOf 17 = .ok (.iload_n 0, 1) := kDec_at dA224_cX3_sortOf 9 rfl
theorem dX3_sortOf_18 : decode cX3_sortOf 18 = .ok (.bipush 97, 2) := kDec_at dA224_cX3_sortOf 10 rfl
theorem dX3_sortOf_20 : decode cX3_sortOf 20 = .ok (.if_icmp .lt 11, 3) := kDec_at dA224_cX3_sortOf 11 rfl
theorem dX3_sortOf_31 : decode cX3_sortOf 31 = .ok (.iload_n 0, 1) := kDec_at dA224_cX3_sortOf 12 rfl
theorem dX3_sortOf_32 : decode cX3_sortOf 32 = .ok (.bipush 65, 2) := kDec_at dA224_cX3_sortOf 13 rfl
theorem dX3_sortOf_34 : decode cX3_sortOf 34 = .ok (.if_icmp .lt 11, 3) := kDec_at dA224_cX3_sortOf 14 rfl
theorem dX3_sortOf_45 : decode cX3_sortOf 45 = .ok (.iload_n 0, 1) := kDec_at dA224_cX3_sortOf 15 rfl
theorem dX3_sortOf_46 : decode cX3_sortOf 46 = .ok (.bipush 48, 2) := kDec_at dA224_cX3_sortOf 16 rfl
theorem dX3_sortOf_48 : decode cX3_sortOf 48 = .ok (.if_icmp .lt 13, 3) := kDec_at dA224_cX3_sortOf 17 rfl
theorem dX3_sortOf_61 : decode cX3_sortOf 61 = .ok (.iconst 5, 1) := kDec_at dA224_cX3_sortOf 18 rfl
theorem dX3_sortOf_62 : decode cX3_sortOf 62 = .ok (.ireturn, 1) := kDec_at dA224_cX3_sortOf 19 rfl
theorem dX3_sortOf_51 : decode cX3_sortOf 51 = .ok (.iload_n 0, 1) := kDec_at dA224_cX3_sortOf 20 rfl
theorem dX3_sortOf_52 : decode cX3_sortOf 52 = .ok (.bipush 57, 2) := kDec_at dA224_cX3_sortOf 21 rfl
theorem dX3_sortOf_54 : decode cX3_sortOf 54 = .ok (.if_icmp .gt 7, 3) := kDec_at dA224_cX3_sortOf 22 rfl
theorem dX3_sortOf_57 : decode cX3_sortOf 57 = .ok (.iconst 3, 1) := kDec_at dA224_cX3_sortOf 23 rfl
set_option maxRecDepth 20000 in
theorem gX3_sortOutside_all : wsX3_sortOutside.all goodWord = true := by
  unfold wsX3_sortOutside
  exact good_c (by decide +kernel) (rfl)
set_option maxRecDepth 20000 in
theorem ggX3_sortOf_X3_sortOutside : GoodIn wsX3_sortOf wsX3_sortOutside := goodIn_sub (fun _ h => List.mem_cons_of_mem _ (List.mem_append_right _ (h))) gX3_sortOutside_all
set_option maxRecDepth 20000 in
theorem gX3_sortOf_X3_sortOutside : GoodIn wsX3_sortOf (va_wsS RX3 50 yX3_sortOutside wsX3_sortOutside) := goodIn_app (goodIn_r _ [1, 2, 3] rfl (by decide +kernel)) ggX3_sortOf_X3_sortOutside
set_option maxRecDepth 100000 in
theorem dA225_cX3_sortOf : kDec cX3_sortOf [(58, .goto 4, 3), (37, .iload_n 0, 1), (38, .bipush 90, 2), (40, .if_icmp .gt 5, 3), (43, .iconst 2, 1), (44, .ireturn, 1), (23, .iload_n 0, 1), (24, .bipush 122, 2), (26, .if_icmp .gt 5, 3), (29, .iconst 1, 1), (30, .ireturn, 1)] = true := by decide +kernel
theorem dX3_sortOf_58 : decode cX3_sortOf 58 = .ok (.goto 4, 3) := kDec_at dA225_cX3_sortOf 0 rfl
theorem dX3_sortOf_37 : decode cX3_sortOf 37 = .ok (.iload_n 0, 1) := kDec_at dA225_cX3_sortOf 1 rfl
theorem dX3_sortOf_38 : decode cX3_sortOf 38 = .ok (.bipush 90, 2) := kDec_at dA225_cX3_sortOf 2 rfl
theorem dX3_sortOf_40 : decode cX3_sortOf 40 = .ok (.if_icmp .gt 5, 3) := kDec_at dA225_cX3_sortOf 3 rfl
theorem dX3_sortOf_43 : decode cX3_sortOf 43 = .ok (.iconst 2, 1) := kDec_at dA225_cX3_sortOf 4 rfl
theorem dX3_sortOf_44 : decode cX3_sortOf 44 = .ok (.ireturn, 1) := kDec_at dA225_cX3_sortOf 5 rfl
theorem dX3_sortOf_23 : decode cX3_sortOf 23 = .ok (.iload_n 0, 1) := kDec_at dA225_cX3_sortOf 6 rfl
theorem dX3_sortOf_24 : decode cX3_sortOf 24 = .ok (.bipush 122, 2) := kDec_at dA225_cX3_sortOf 7 rfl
theorem dX3_sortOf_26 : decode cX3_sortOf 26 = .ok (.if_icmp .gt 5, 3) := kDec_at dA225_cX3_sortOf 8 rfl
theorem dX3_sortOf_29 : decode cX3_sortOf 29 = .ok (.iconst 1, 1) := kDec_at dA225_cX3_sortOf 9 rfl
theorem dX3_sortOf_30 : decode cX3_sortOf 30 = .ok (.ireturn, 1) := kDec_at dA225_cX3_sortOf 10 rfl
set_option maxRecDepth 100000 in
theorem dA226_cX12_sortOf : kDec cX12_sortOf [(0, .iload_n 0, 1), (1, .bipush 97, 2), (3, .if_icmp .lt 11, 3), (14, .iload_n 0, 1), (15, .bipush 65, 2), (17, .if_icmp .lt 11, 3), (28, .iload_n 0, 1), (29, .bipush 48, 2), (31, .if_icmp .lt 11, 3), (42, .iload_n 0, 1), (43, .bipush 32, 2), (45, .if_icmp .ne 5, 3), (50, .iload_n 0, 1), (51, .bipush 33, 2), (53, .if_icmp .lt 11, 3), (64, .iload_n 0, 1), (65, .sipush 192, 3), (68, .if_icmp .lt 27, 3), (95, .iload_n 0, 1), (96, .sipush 880, 3), (99, .if_icmp .lt 15, 3), (114, .iconst 0, 1), (115, .ireturn, 1), (56, .iload_n 0, 1)] = true := by decide +kernel
theorem dX12_sortOf_0 : decode cX12_sortOf 0 = .ok (.iload_n 0, 1) := kDec_at dA226_cX12_sortOf 0 rfl
theorem dX12_sortOf_1 : decode cX12_sortOf 1 = .ok (.bipush 97, 2) := kDec_at dA226_cX12_sortOf 1 rfl
theorem dX12_sortOf_3 : decode cX12_sortOf 3 = .ok (.if_icmp .lt 11, 3) := kDec_at dA226_cX12_sortOf 2 rfl
theorem dX12_sortOf_14 : decode cX12_sortOf 14 = .ok (.iload_n 0, 1) := kDec_at dA226_cX12_sortOf 3 rfl
theorem dX12_sortOf_15 : decode cX12_sortOf 15 = .ok (.bipush 65, 2) := kDec_at dA226_cX12_sortOf 4 rfl
theorem dX12_sortOf_17 : decode cX12_sortOf 17 = .ok (.if_icmp .lt 11, 3) := kDec_at dA226_cX12_sortOf 5 rfl
theorem dX12_sortOf_28 : decode cX12_sortOf 28 = .ok (.iload_n 0, 1) := kDec_at dA226_cX12_sortOf 6 rfl
theorem dX12_sortOf_29 : decode cX12_sortOf 29 = .ok (.bipush 48, 2) := kDec_at dA226_cX12_sortOf 7 rfl
theorem dX12_sortOf_31 : decode cX12_sortOf 31 = .ok (.if_icmp .lt 11, 3) := kDec_at dA226_cX12_sortOf 8 rfl
theorem dX12_sortOf_42 : decode cX12_sortOf 42 = .ok (.iload_n 0, 1) := kDec_at dA226_cX12_sortOf 9 rfl
theorem dX12_sortOf_43 : decode cX12_sortOf 43 = .ok (.bipush 32, 2) := kDec_at dA226_cX12_sortOf 10 rfl
theorem dX12_sortOf_45 : decode cX12_sortOf 45 = .ok (.if_icmp .ne 5, 3) := kDec_at dA226_cX12_sortOf 11 rfl
theorem dX12_sortOf_50 : decode cX12_sortOf 50 = .ok (.iload_n 0, 1) := kDec_at dA226_cX12_sortOf 12 rfl
theorem dX12_sortOf_51 : decode cX12_sortOf 51 = .ok (.bipush 33, 2) := kDec_at dA226_cX12_sortOf 13 rfl
theorem dX12_sortOf_53 : decode cX12_sortOf 53 = .ok (.if_icmp .lt 11, 3) := kDec_at dA226_cX12_sortOf 14 rfl
theorem dX12_sortOf_64 : decode cX12_sortOf 64 = .ok (.iload_n 0, 1) := kDec_at dA226_cX12_sortOf 15 rfl
theorem dX12_sortOf_65 : decode cX12_sortOf 65 = .ok (.sipush 192, 3) := kDec_at dA226_cX12_sortOf 16 rfl
theorem dX12_sortOf_68 : decode cX12_sortOf 68 = .ok (.if_icmp .lt 27, 3) := kDec_at dA226_cX12_sortOf 17 rfl
theorem dX12_sortOf_95 : decode cX12_sortOf 95 = .ok (.iload_n 0, 1) := kDec_at dA226_cX12_sortOf 18 rfl
theorem dX12_sortOf_96 : decode cX12_sortOf 96 = .ok (.sipush 880, 3) := kDec_at dA226_cX12_sortOf 19 rfl
theorem dX12_sortOf_99 : decode cX12_sortOf 99 = .ok (.if_icmp .lt 15, 3) := kDec_at dA226_cX12_sortOf 20 rfl
theorem dX12_sortOf_114 : decode cX12_sortOf 114 = .ok (.iconst 0, 1) := kDec_at dA226_cX12_sortOf 21 rfl
theorem dX12_sortOf_115 : decode cX12_sortOf 115 = .ok (.ireturn, 1) := kDec_at dA226_cX12_sortOf 22 rfl
theorem dX12_sortOf_56 : decode cX12_sortOf 56 = .ok (.iload_n 0, 1) := kDec_at dA226_cX12_sortOf 23 rfl
set_option maxRecDepth 100000 in
theorem dA227_cX12_sortOf : kDec cX12_sortOf [(57, .bipush 126, 2), (59, .if_icmp .gt 5, 3), (62, .iconst 5, 1), (63, .ireturn, 1), (48, .iconst 4, 1), (49, .ireturn, 1), (34, .iload_n 0, 1), (35, .bipush 57, 2), (37, .if_icmp .gt 5, 3), (40, .iconst 3, 1), (41, .ireturn, 1), (20, .iload_n 0, 1), (21, .bipush 90, 2), (23, .if_icmp .gt 5, 3), (26, .iconst 2, 1), (27, .ireturn, 1), (6, .iload_n 0, 1), (7, .bipush 122, 2), (9, .if_icmp .gt 5, 3), (71, .iload_n 0, 1), (72, .sipush 591, 3), (75, .if_icmp .gt 20, 3), (102, .iload_n 0, 1), (103, .sipush 1327, 3)] = true := by decide +kernel
theorem dX12_sortOf_57 : decode cX12_sortOf 57 = .ok (.bipush 126, 2) := kDec_at dA227_cX12_sortOf 0 rfl
theorem dX12_sortOf_59 : decode cX12_sortOf 59 = .ok (.if_icmp .gt 5, 3) := kDec_at dA227_cX12_sortOf 1 rfl
theorem dX12_sortOf_62 : decode cX12_sortOf 62 = .ok (.iconst 5, 1) := kDec_at dA227_cX12_sortOf 2 rfl
theorem dX12_sortOf_63 : decode cX12_sortOf 63 = .ok (.ireturn, 1) := kDec_at dA227_cX12_sortOf 3 rfl
theorem dX12_sortOf_48 : decode cX12_sortOf 48 = .ok (.iconst 4, 1) := kDec_at dA227_cX12_sortOf 4 rfl
theorem dX12_sortOf_49 : decode cX12_sortOf 49 = .ok (.ireturn, 1) := kDec_at dA227_cX12_sortOf 5 rfl
theorem dX12_sortOf_34 : decode cX12_sortOf 34 = .ok (.iload_n 0, 1) := kDec_at dA227_cX12_sortOf 6 rfl
theorem dX12_sortOf_35 : decode cX12_sortOf 35 = .ok (.bipush 57, 2) := kDec_at dA227_cX12_sortOf 7 rfl
theorem dX12_sortOf_37 : decode cX12_sortOf 37 = .ok (.if_icmp .gt 5, 3) := kDec_at dA227_cX12_sortOf 8 rfl
theorem dX12_sortOf_40 : decode cX12_sortOf 40 = .ok (.iconst 3, 1) := kDec_at dA227_cX12_sortOf 9 rfl
theorem dX12_sortOf_41 : decode cX12_sortOf 41 = .ok (.ireturn, 1) := kDec_at dA227_cX12_sortOf 10 rfl
theorem dX12_sortOf_20 : decode cX12_sortOf 20 = .ok (.iload_n 0, 1) := kDec_at dA227_cX12_sortOf 11 rfl
theorem dX12_sortOf_21 : decode cX12_sortOf 21 = .ok (.bipush 90, 2) := kDec_at dA227_cX12_sortOf 12 rfl
theorem dX12_sortOf_23 : decode cX12_sortOf 23 = .ok (.if_icmp .gt 5, 3) := kDec_at dA227_cX12_sortOf 13 rfl
theorem dX12_sortOf_26 : decode cX12_sortOf 26 = .ok (.iconst 2, 1) := kDec_at dA227_cX12_sortOf 14 rfl
theorem dX12_sortOf_27 : decode cX12_sortOf 27 = .ok (.ireturn, 1) := kDec_at dA227_cX12_sortOf 15 rfl
theorem dX12_sortOf_6 : decode cX12_sortOf 6 = .ok (.iload_n 0, 1) := kDec_at dA227_cX12_sortOf 16 rfl
theorem dX12_sortOf_7 : decode cX12_sortOf 7 = .ok (.bipush 122, 2) := kDec_at dA227_cX12_sortOf 17 rfl
theorem dX12_sortOf_9 : decode cX12_sortOf 9 = .ok (.if_icmp .gt 5, 3) := kDec_at dA227_cX12_sortOf 18 rfl
theorem dX12_sortOf_71 : decode cX12_sortOf 71 = .ok (.iload_n 0, 1) := kDec_at dA227_cX12_sortOf 19 rfl
theorem dX12_sortOf_72 : decode cX12_sortOf 72 = .ok (.sipush 591, 3) := kDec_at dA227_cX12_sortOf 20 rfl
theorem dX12_sortOf_75 : decode cX12_sortOf 75 = .ok (.if_icmp .gt 20, 3) := kDec_at dA227_cX12_sortOf 21 rfl
theorem dX12_sortOf_102 : decode cX12_sortOf 102 = .ok (.iload_n 0, 1) := kDec_at dA227_cX12_sortOf 22 rfl
theorem dX12_sortOf_103 : decode cX12_sortOf 103 = .ok (.sipush 1327, 3) := kDec_at dA227_cX12_sortOf 23 rfl
set_option maxRecDepth 100000 in
theorem dA228_cX12_sortOf : kDec cX12_sortOf [(106, .if_icmp .gt 8, 3), (109, .bipush 7, 2), (111, .goto 4, 3), (78, .iload_n 0, 1), (79, .sipush 215, 3), (82, .if_icmp .eq 13, 3), (85, .iload_n 0, 1), (86, .sipush 247, 3), (89, .if_icmp .eq 6, 3), (92, .bipush 6, 2), (94, .ireturn, 1), (12, .iconst 1, 1), (13, .ireturn, 1)] = true := by decide +kernel
theorem dX12_sortOf_106 : decode cX12_sortOf 106 = .ok (.if_icmp .gt 8, 3) := kDec_at dA228_cX12_sortOf 0 rfl
theorem dX12_sortOf_109 : decode cX12_sortOf 109 = .ok (.bipush 7, 2) := kDec_at dA228_cX12_sortOf 1 rfl
theorem dX12_sortOf_111 : decode cX12_sortOf 111 = .ok (.goto 4, 3) := kDec_at dA228_cX12_sortOf 2 rfl
theorem dX12_sortOf_78 : decode cX12_sortOf 78 = .ok (.iload_n 0, 1) := kDec_at dA228_cX12_sortOf 3 rfl
theorem dX12_sortOf_79 : decode cX12_sortOf 79 = .ok (.sipush 215, 3) := kDec_at dA228_cX12_sortOf 4 rfl
theorem dX12_sortOf_82 : decode cX12_sortOf 82 = .ok (.if_icmp .eq 13, 3) := kDec_at dA228_cX12_sortOf 5 rfl
theorem dX12_sortOf_85 : decode cX12_sortOf 85 = .ok (.iload_n 0, 1) := kDec_at dA228_cX12_sortOf 6 rfl
theorem dX12_sortOf_86 : decode cX12_sortOf 86 = .ok (.sipush 247, 3) := kDec_at dA228_cX12_sortOf 7 rfl
theorem dX12_sortOf_89 : decode cX12_sortOf 89 = .ok (.if_icmp .eq 6, 3) := kDec_at dA228_cX12_sortOf 8 rfl
theorem dX12_sortOf_92 : decode cX12_sortOf 92 = .ok (.bipush 6, 2) := kDec_at dA228_cX12_sortOf 9 rfl
theorem dX12_sortOf_94 : decode cX12_sortOf 94 = .ok (.ireturn, 1) := kDec_at dA228_cX12_sortOf 10 rfl
theorem dX12_sortOf_12 : decode cX12_sortOf 12 = .ok (.iconst 1, 1) := kDec_at dA228_cX12_sortOf 11 rfl
theorem dX12_sortOf_13 : decode cX12_sortOf 13 = .ok (.ireturn, 1) := kDec_at dA228_cX12_sortOf 12 rfl
set_option maxRecDepth 100000 in
theorem dA229_cX3_of : kDec cX3_of [(0, .aload_n 0, 1), (1, .getfield 24, 3), (4, .ifCond .ne 7, 3), (11, .aload_n 0, 1), (12, .iload_n 1, 1), (13, .iload_n 2, 1), (14, .invokevirtual 28, 3), (17, .istore_n 3, 1), (18, .iload_n 3, 1), (19, .iconst (-1), 1), (20, .if_icmp .eq 20, 3), (23, .aload_n 0, 1), (24, .getfield 15, 3), (27, .iload_n 3, 1), (28, .iaload, 1), (29, .iconst (-1), 1), (30, .if_icmp .eq 10, 3), (40, .iload_n 1, 1), (41, .invokestatic 35, 3), (44, .istore 4, 2), (46, .iload_n 2, 1), (47, .invokestatic 35, 3), (50, .istore 5, 2), (52, .iload 4, 2)] = true := by decide +kernel
theorem dX3_of_0 : decode cX3_of 0 = .ok (.aload_n 0, 1) := kDec_at dA229_cX3_of 0 rfl
theorem dX3_of_1 : decode cX3_of 1 = .ok (.getfield 24, 3) := kDec_at dA229_cX3_of 1 rfl
theorem dX3_of_4 : decode cX3_of 4 = .ok (.ifCond .ne 7, 3) := kDec_at dA229_cX3_of 2 rfl
theorem dX3_of_11 : decode cX3_of 11 = .ok (.aload_n 0, 1) := kDec_at dA229_cX3_of 3 rfl
theorem dX3_of_12 : decode cX3_of 12 = .ok (.iload_n 1, 1) := kDec_at dA229_cX3_of 4 rfl
theorem dX3_of_13 : decode cX3_of 13 = .ok (.iload_n 2, 1) := kDec_at dA229_cX3_of 5 rfl
theorem dX3_of_14 : decode cX3_of 14 = .ok (.invokevirtual 28, 3) := kDec_at dA229_cX3_of 6 rfl
theorem dX3_of_17 : decode cX3_of 17 = .ok (.istore_n 3, 1) := kDec_at dA229_cX3_of 7 rfl
theorem dX3_of_18 : decode cX3_of 18 = .ok (.iload_n 3, 1) := kDec_at dA229_cX3_of 8 rfl
theorem dX3_of_19 : decode cX3_of 19 = .ok (.iconst (-1), 1) := kDec_at dA229_cX3_of 9 rfl
theorem dX3_of_20 : decode cX3_of 20 = .ok (.if_icmp .eq 20, 3) := kDec_at dA229_cX3_of 10 rfl
theorem dX3_of_23 : decode cX3_of 23 = .ok (.aload_n 0, 1) := kDec_at dA229_cX3_of 11 rfl
theorem dX3_of_24 : decode cX3_of 24 = .ok (.getfield 15, 3) := kDec_at dA229_cX3_of 12 rfl
theorem dX3_of_27 : decode cX3_of 27 = .ok (.iload_n 3, 1) := kDec_at dA229_cX3_of 13 rfl
theorem dX3_of_28 : decode cX3_of 28 = .ok (.iaload, 1) := kDec_at dA229_cX3_of 14 rfl
theorem dX3_of_29 : decode cX3_of 29 = .ok (.iconst (-1), 1) := kDec_at dA229_cX3_of 15 rfl
theorem dX3_of_30 : decode cX3_of 30 = .ok (.if_icmp .eq 10, 3) := kDec_at dA229_cX3_of 16 rfl
theorem dX3_of_40 : decode cX3_of 40 = .ok (.iload_n 1, 1) := kDec_at dA229_cX3_of 17 rfl
theorem dX3_of_41 : decode cX3_of 41 = .ok (.invokestatic 35, 3) := kDec_at dA229_cX3_of 18 rfl
theorem dX3_of_44 : decode cX3_of 44 = .ok (.istore 4, 2) := kDec_at dA229_cX3_of 19 rfl
theorem dX3_of_46 : decode cX3_of 46 = .ok (.iload_n 2, 1) := kDec_at dA229_cX3_of 20 rfl
theorem dX3_of_47 : decode cX3_of 47 = .ok (.invokestatic 35, 3) := kDec_at dA229_cX3_of 21 rfl
theorem dX3_of_50 : decode cX3_of 50 = .ok (.istore 5, 2) := kDec_at dA229_cX3_of 22 rfl
theorem dX3_of_52 : decode cX3_of 52 = .ok (.iload 4, 2) := kDec_at dA229_cX3_of 23 rfl
set_option maxRecDepth 20000 in
theorem ggX3_of_X3_placeFor : GoodIn wsX3_of wsX3_placeFor := goodIn_sub (fun _ h => List.mem_cons_of_mem _ (List.mem_append_left _ (List.mem_append_right _ (h)))) gX3_placeFor_all
set_option maxRecDepth 20000 in
theorem gX3_of_X3_placeFor : GoodIn wsX3_of (wsV RX3 28 RX3 yX3_placeFor wsX3_placeFor) := goodIn_app (goodIn_r _ [3, 4, 5, 6] rfl (by decide +kernel)) ggX3_of_X3_placeFor
set_option maxRecDepth 20000 in
theorem gX3_sortOf_all : wsX3_sortOf.all goodWord = true := by
  unfold wsX3_sortOf
  exact good_c (by decide +kernel) (good_a ((by decide +kernel)) gX3_sortOutside_all)
set_option maxRecDepth 20000 in
theorem ggX3_of_X3_sortOf : GoodIn wsX3_of wsX3_sortOf := goodIn_sub (fun _ h => List.mem_cons_of_mem _ (List.mem_append_right _ (h))) gX3_sortOf_all
set_option maxRecDepth 20000 in
theorem gX3_of_X3_sortOf : GoodIn wsX3_of (va_wsS RX3 35 yX3_sortOf wsX3_sortOf) := goodIn_app (goodIn_r _ [7, 8, 6] rfl (by decide +kernel)) ggX3_of_X3_sortOf
set_option maxRecDepth 100000 in
theorem dA230_cX3_of : kDec cX3_of [(54, .iload 5, 2), (56, .if_icmp .ne 7, 3), (63, .bipush 9, 2), (65, .istore 6, 2), (67, .iload 6, 2), (69, .iload 4, 2), (71, .ifCond .ne 8, 3), (79, .iconst 0, 1), (80, .iadd, 1), (81, .istore 6, 2), (83, .iload 6, 2), (85, .iload 5, 2), (87, .ifCond .ne 8, 3), (95, .iconst 0, 1), (96, .iadd, 1), (97, .ireturn, 1), (90, .bipush 30, 2), (92, .goto 4, 3), (74, .bipush 30, 2), (76, .goto 4, 3), (59, .iconst 4, 1), (60, .goto 5, 3), (33, .aload_n 0, 1), (34, .getfield 15, 3)] = true := by decide +kernel
theorem dX3_of_54 : decode cX3_of 54 = .ok (.iload 5, 2) := kDec_at dA230_cX3_of 0 rfl
theorem dX3_of_56 : decode cX3_of 56 = .ok (.if_icmp .ne 7, 3) := kDec_at dA230_cX3_of 1 rfl
theorem dX3_of_63 : decode cX3_of 63 = .ok (.bipush 9, 2) := kDec_at dA230_cX3_of 2 rfl
theorem dX3_of_65 : decode cX3_of 65 = .ok (.istore 6, 2) := kDec_at dA230_cX3_of 3 rfl
theorem dX3_of_67 : decode cX3_of 67 = .ok (.iload 6, 2) := kDec_at dA230_cX3_of 4 rfl
theorem dX3_of_69 : decode cX3_of 69 = .ok (.iload 4, 2) := kDec_at dA230_cX3_of 5 rfl
theorem dX3_of_71 : decode cX3_of 71 = .ok (.ifCond .ne 8, 3) := kDec_at dA230_cX3_of 6 rfl
theorem dX3_of_79 : decode cX3_of 79 = .ok (.iconst 0, 1) := kDec_at dA230_cX3_of 7 rfl
theorem dX3_of_80 : decode cX3_of 80 = .ok (.iadd, 1) := kDec_at dA230_cX3_of 8 rfl
theorem dX3_of_81 : decode cX3_of 81 = .ok (.istore 6, 2) := kDec_at dA230_cX3_of 9 rfl
theorem dX3_of_83 : decode cX3_of 83 = .ok (.iload 6, 2) := kDec_at dA230_cX3_of 10 rfl
theorem dX3_of_85 : decode cX3_of 85 = .ok (.iload 5, 2) := kDec_at dA230_cX3_of 11 rfl
theorem dX3_of_87 : decode cX3_of 87 = .ok (.ifCond .ne 8, 3) := kDec_at dA230_cX3_of 12 rfl
theorem dX3_of_95 : decode cX3_of 95 = .ok (.iconst 0, 1) := kDec_at dA230_cX3_of 13 rfl
theorem dX3_of_96 : decode cX3_of 96 = .ok (.iadd, 1) := kDec_at dA230_cX3_of 14 rfl
theorem dX3_of_97 : decode cX3_of 97 = .ok (.ireturn, 1) := kDec_at dA230_cX3_of 15 rfl
theorem dX3_of_90 : decode cX3_of 90 = .ok (.bipush 30, 2) := kDec_at dA230_cX3_of 16 rfl
theorem dX3_of_92 : decode cX3_of 92 = .ok (.goto 4, 3) := kDec_at dA230_cX3_of 17 rfl
theorem dX3_of_74 : decode cX3_of 74 = .ok (.bipush 30, 2) := kDec_at dA230_cX3_of 18 rfl
theorem dX3_of_76 : decode cX3_of 76 = .ok (.goto 4, 3) := kDec_at dA230_cX3_of 19 rfl
theorem dX3_of_59 : decode cX3_of 59 = .ok (.iconst 4, 1) := kDec_at dA230_cX3_of 20 rfl
theorem dX3_of_60 : decode cX3_of 60 = .ok (.goto 5, 3) := kDec_at dA230_cX3_of 21 rfl
theorem dX3_of_33 : decode cX3_of 33 = .ok (.aload_n 0, 1) := kDec_at dA230_cX3_of 22 rfl
theorem dX3_of_34 : decode cX3_of 34 = .ok (.getfield 15, 3) := kDec_at dA230_cX3_of 23 rfl
set_option maxRecDepth 100000 in
theorem dA231_cX3_of : kDec cX3_of [(37, .iload_n 3, 1), (38, .iaload, 1), (39, .ireturn, 1), (7, .iconst (-1), 1), (8, .goto 9, 3)] = true := by decide +kernel
theorem dX3_of_37 : decode cX3_of 37 = .ok (.iload_n 3, 1) := kDec_at dA231_cX3_of 0 rfl
theorem dX3_of_38 : decode cX3_of 38 = .ok (.iaload, 1) := kDec_at dA231_cX3_of 1 rfl
theorem dX3_of_39 : decode cX3_of 39 = .ok (.ireturn, 1) := kDec_at dA231_cX3_of 2 rfl
theorem dX3_of_7 : decode cX3_of 7 = .ok (.iconst (-1), 1) := kDec_at dA231_cX3_of 3 rfl
theorem dX3_of_8 : decode cX3_of 8 = .ok (.goto 9, 3) := kDec_at dA231_cX3_of 4 rfl
set_option maxRecDepth 100000 in
theorem dA232_cX3_ofText : kDec cX3_ofText [(0, .iconst 0, 1), (1, .istore_n 2, 1), (2, .bipush 32, 2), (4, .istore_n 3, 1), (5, .iconst 0, 1), (6, .istore 4, 2), (8, .iload 4, 2), (10, .aload_n 1, 1), (11, .invokevirtual 39, 3), (14, .if_icmp .ge 30, 3), (44, .iload_n 2, 1), (45, .aload_n 0, 1), (46, .iload_n 3, 1), (47, .bipush 32, 2), (49, .invokevirtual 47, 3), (52, .iadd, 1), (53, .ireturn, 1), (17, .aload_n 1, 1), (18, .iload 4, 2), (20, .invokevirtual 44, 3), (23, .istore 5, 2), (25, .iload_n 2, 1), (26, .aload_n 0, 1), (27, .iload_n 3, 1)] = true := by decide +kernel
theorem dX3_ofText_0 : decode cX3_ofText 0 = .ok (.iconst 0, 1) := kDec_at dA232_cX3_ofText 0 rfl
theorem dX3_ofText_1 : decode cX3_ofText 1 = .ok (.istore_n 2, 1) := kDec_at dA232_cX3_ofText 1 rfl
theorem dX3_ofText_2 : decode cX3_ofText 2 = .ok (.bipush 32, 2) := kDec_at dA232_cX3_ofText 2 rfl
theorem dX3_ofText_4 : decode cX3_ofText 4 = .ok (.istore_n 3, 1) := kDec_at dA232_cX3_ofText 3 rfl
theorem dX3_ofText_5 : decode cX3_ofText 5 = .ok (.iconst 0, 1) := kDec_at dA232_cX3_ofText 4 rfl
theorem dX3_ofText_6 : decode cX3_ofText 6 = .ok (.istore 4, 2) := kDec_at dA232_cX3_ofText 5 rfl
theorem dX3_ofText_8 : decode cX3_ofText 8 = .ok (.iload 4, 2) := kDec_at dA232_cX3_ofText 6 rfl
theorem dX3_ofText_10 : decode cX3_ofText 10 = .ok (.aload_n 1, 1) := kDec_at dA232_cX3_ofText 7 rfl
theorem dX3_ofText_11 : decode cX3_ofText 11 = .ok (.invokevirtual 39, 3) := kDec_at dA232_cX3_ofText 8 rfl
theorem dX3_ofText_14 : decode cX3_ofText 14 = .ok (.if_icmp .ge 30, 3) := kDec_at dA232_cX3_ofText 9 rfl
theorem dX3_ofText_44 : decode cX3_ofText 44 = .ok (.iload_n 2, 1) := kDec_at dA232_cX3_ofText 10 rfl
theorem dX3_ofText_45 : decode cX3_ofText 45 = .ok (.aload_n 0, 1) := kDec_at dA232_cX3_ofText 11 rfl
theorem dX3_ofText_46 : decode cX3_ofText 46 = .ok (.iload_n 3, 1) := kDec_at dA232_cX3_ofText 12 rfl
theorem dX3_ofText_47 : decode cX3_ofText 47 = .ok (.bipush 32, 2) := kDec_at dA232_cX3_ofText 13 rfl
theorem dX3_ofText_49 : decode cX3_ofText 49 = .ok (.invokevirtual 47, 3) := kDec_at dA232_cX3_ofText 14 rfl
theorem dX3_ofText_52 : decode cX3_ofText 52 = .ok (.iadd, 1) := kDec_at dA232_cX3_ofText 15 rfl
theorem dX3_ofText_53 : decode cX3_ofText 53 = .ok (.ireturn, 1) := kDec_at dA232_cX3_ofText 16 rfl
theorem dX3_ofText_17 : decode cX3_ofText 17 = .ok (.aload_n 1, 1) := kDec_at dA232_cX3_ofText 17 rfl
theorem dX3_ofText_18 : decode cX3_ofText 18 = .ok (.iload 4, 2) := kDec_at dA232_cX3_ofText 18 rfl
theorem dX3_ofText_20 : decode cX3_ofText 20 = .ok (.invokevirtual 44, 3) := kDec_at dA232_cX3_ofText 19 rfl
theorem dX3_ofText_23 : decode cX3_ofText 23 = .ok (.istore 5, 2) := kDec_at dA232_cX3_ofText 20 rfl
theorem dX3_ofText_25 : decode cX3_ofText 25 = .ok (.iload_n 2, 1) := kDec_at dA232_cX3_ofText 21 rfl
theorem dX3_ofText_26 : decode cX3_ofText 26 = .ok (.aload_n 0, 1) := kDec_at dA232_cX3_ofText 22 rfl
theorem dX3_ofText_27 : decode cX3_ofText 27 = .ok (.iload_n 3, 1) := kDec_at dA232_cX3_ofText 23 rfl
set_option maxRecDepth 20000 in
theorem ggX3_ofText_X5_length : GoodIn wsX3_ofText wsX5_length := goodIn_sub (fun _ h => List.mem_cons_of_mem _ (List.mem_append_left _ (List.mem_append_left _ (List.mem_append_right _ (h))))) gX5_length_all
set_option maxRecDepth 20000 in
theorem gX3_ofText_X5_length : GoodIn wsX3_ofText (wsV RX3 39 RX5 yX5_length wsX5_length) := goodIn_app (goodIn_r _ [1, 2, 3, 4] rfl (by decide +kernel)) ggX3_ofText_X5_length
set_option maxRecDepth 20000 in
theorem gX3_of_all : wsX3_of.all goodWord = true := by
  unfold wsX3_of
  exact good_c (by decide +kernel) (good_a (good_a (good_a ((by decide +kernel)) gX3_clsall) gX3_placeFor_all) gX3_sortOf_all)
set_option maxRecDepth 20000 in
theorem ggX3_ofText_X3_of : GoodIn wsX3_ofText wsX3_of := goodIn_sub (fun _ h => List.mem_cons_of_mem _ (List.mem_append_right _ (h))) gX3_of_all
set_option maxRecDepth 20000 in
theorem gX3_ofText_X3_of : GoodIn wsX3_ofText (wsV RX3 47 RX3 yX3_of wsX3_of) := goodIn_app (goodIn_r _ [8, 9, 10, 11] rfl (by decide +kernel)) ggX3_ofText_X3_of
set_option maxRecDepth 20000 in
theorem ggX3_ofText_X5_get : GoodIn wsX3_ofText wsX5_get := goodIn_sub (fun _ h => List.mem_cons_of_mem _ (List.mem_append_left _ (List.mem_append_right _ (h)))) gX5_get_all
set_option maxRecDepth 20000 in
theorem gX3_ofText_X5_get : GoodIn wsX3_ofText (wsV RX3 44 RX5 yX5_get wsX5_get) := goodIn_app (goodIn_r _ [5, 6, 7, 4] rfl (by decide +kernel)) ggX3_ofText_X5_get
set_option maxRecDepth 100000 in
theorem dA233_cX3_ofText : kDec cX3_ofText [(28, .iload 5, 2), (30, .invokevirtual 47, 3), (33, .iadd, 1), (34, .istore_n 2, 1), (35, .iload 5, 2), (37, .istore_n 3, 1), (38, .iinc 4 1, 3), (41, .goto (-33), 3)] = true := by decide +kernel
theorem dX3_ofText_28 : decode cX3_ofText 28 = .ok (.iload 5, 2) := kDec_at dA233_cX3_ofText 0 rfl
theorem dX3_ofText_30 : decode cX3_ofText 30 = .ok (.invokevirtual 47, 3) := kDec_at dA233_cX3_ofText 1 rfl
theorem dX3_ofText_33 : decode cX3_ofText 33 = .ok (.iadd, 1) := kDec_at dA233_cX3_ofText 2 rfl
theorem dX3_ofText_34 : decode cX3_ofText 34 = .ok (.istore_n 2, 1) := kDec_at dA233_cX3_ofText 3 rfl
theorem dX3_ofText_35 : decode cX3_ofText 35 = .ok (.iload 5, 2) := kDec_at dA233_cX3_ofText 4 rfl
theorem dX3_ofText_37 : decode cX3_ofText 37 = .ok (.istore_n 3, 1) := kDec_at dA233_cX3_ofText 5 rfl
theorem dX3_ofText_38 : decode cX3_ofText 38 = .ok (.iinc 4 1, 3) := kDec_at dA233_cX3_ofText 6 rfl
theorem dX3_ofText_41 : decode cX3_ofText 41 = .ok (.goto (-33), 3) := kDec_at dA233_cX3_ofText 7 rfl
set_option maxRecDepth 100000 in
theorem dA234_cX12_costOf : kDec cX12_costOf [(0, .iconst 0, 1), (1, .istore_n 3, 1), (2, .iload_n 3, 1), (3, .aload_n 0, 1), (4, .getfield 168, 3), (7, .if_icmp .ge 36, 3), (43, .iload_n 1, 1), (44, .invokestatic 193, 3), (47, .istore_n 3, 1), (48, .iload_n 2, 1), (49, .invokestatic 193, 3), (52, .istore 4, 2), (54, .iload_n 3, 1), (55, .iload 4, 2), (57, .if_icmp .ne 7, 3), (64, .bipush 9, 2), (66, .iload_n 3, 1), (67, .ifCond .ne 8, 3), (75, .iconst 0, 1), (76, .iadd, 1), (77, .iload 4, 2), (79, .ifCond .ne 8, 3), (87, .iconst 0, 1), (88, .iadd, 1)] = true := by decide +kernel
theorem dX12_costOf_0 : decode cX12_costOf 0 = .ok (.iconst 0, 1) := kDec_at dA234_cX12_costOf 0 rfl
theorem dX12_costOf_1 : decode cX12_costOf 1 = .ok (.istore_n 3, 1) := kDec_at dA234_cX12_costOf 1 rfl
theorem dX12_costOf_2 : decode cX12_costOf 2 = .ok (.iload_n 3, 1) := kDec_at dA234_cX12_costOf 2 rfl
theorem dX12_costOf_3 : decode cX12_costOf 3 = .ok (.aload_n 0, 1) := kDec_at dA234_cX12_costOf 3 rfl
theorem dX12_costOf_4 : decode cX12_costOf 4 = .ok (.getfield 168, 3) := kDec_at dA234_cX12_costOf 4 rfl
theorem dX12_costOf_7 : decode cX12_costOf 7 = .ok (.if_icmp .ge 36, 3) := kDec_at dA234_cX12_costOf 5 rfl
theorem dX12_costOf_43 : decode cX12_costOf 43 = .ok (.iload_n 1, 1) := kDec_at dA234_cX12_costOf 6 rfl
theorem dX12_costOf_44 : decode cX12_costOf 44 = .ok (.invokestatic 193, 3) := kDec_at dA234_cX12_costOf 7 rfl
theorem dX12_costOf_47 : decode cX12_costOf 47 = .ok (.istore_n 3, 1) := kDec_at dA234_cX12_costOf 8 rfl
theorem dX12_costOf_48 : decode cX12_costOf 48 = .ok (.iload_n 2, 1) := kDec_at dA234_cX12_costOf 9 rfl
theorem dX12_costOf_49 : decode cX12_costOf 49 = .ok (.invokestatic 193, 3) := kDec_at dA234_cX12_costOf 10 rfl
theorem dX12_costOf_52 : decode cX12_costOf 52 = .ok (.istore 4, 2) := kDec_at dA234_cX12_costOf 11 rfl
theorem dX12_costOf_54 : decode cX12_costOf 54 = .ok (.iload_n 3, 1) := kDec_at dA234_cX12_costOf 12 rfl
theorem dX12_costOf_55 : decode cX12_costOf 55 = .ok (.iload 4, 2) := kDec_at dA234_cX12_costOf 13 rfl
theorem dX12_costOf_57 : decode cX12_costOf 57 = .ok (.if_icmp .ne 7, 3) := kDec_at dA234_cX12_costOf 14 rfl
theorem dX12_costOf_64 : decode cX12_costOf 64 = .ok (.bipush 9, 2) := kDec_at dA234_cX12_costOf 15 rfl
theorem dX12_costOf_66 : decode cX12_costOf 66 = .ok (.iload_n 3, 1) := kDec_at dA234_cX12_costOf 16 rfl
theorem dX12_costOf_67 : decode cX12_costOf 67 = .ok (.ifCond .ne 8, 3) := kDec_at dA234_cX12_costOf 17 rfl
theorem dX12_costOf_75 : decode cX12_costOf 75 = .ok (.iconst 0, 1) := kDec_at dA234_cX12_costOf 18 rfl
theorem dX12_costOf_76 : decode cX12_costOf 76 = .ok (.iadd, 1) := kDec_at dA234_cX12_costOf 19 rfl
theorem dX12_costOf_77 : decode cX12_costOf 77 = .ok (.iload 4, 2) := kDec_at dA234_cX12_costOf 20 rfl
theorem dX12_costOf_79 : decode cX12_costOf 79 = .ok (.ifCond .ne 8, 3) := kDec_at dA234_cX12_costOf 21 rfl
theorem dX12_costOf_87 : decode cX12_costOf 87 = .ok (.iconst 0, 1) := kDec_at dA234_cX12_costOf 22 rfl
theorem dX12_costOf_88 : decode cX12_costOf 88 = .ok (.iadd, 1) := kDec_at dA234_cX12_costOf 23 rfl
set_option maxRecDepth 20000 in
theorem gX12_sortOf_all : wsX12_sortOf.all goodWord = true := by
  unfold wsX12_sortOf
  exact good_c (by decide +kernel) (rfl)
set_option maxRecDepth 20000 in
theorem ggX12_costOf_X12_sortOf : GoodIn wsX12_costOf wsX12_sortOf := goodIn_sub (fun _ h => List.mem_cons_of_mem _ (List.mem_append_right _ (h))) gX12_sortOf_all
set_option maxRecDepth 20000 in
theorem gX12_costOf_X12_sortOf : GoodIn wsX12_costOf (va_wsS RX12 193 yX12_sortOf wsX12_sortOf) := goodIn_app (goodIn_r _ [5, 6, 7] rfl (by decide +kernel)) ggX12_costOf_X12_sortOf
set_option maxRecDepth 100000 in
theorem dA235_cX12_costOf : kDec cX12_costOf [(89, .ireturn, 1), (82, .bipush 30, 2), (84, .goto 4, 3), (70, .bipush 30, 2), (72, .goto 4, 3), (60, .iconst 4, 1), (61, .goto 5, 3), (10, .aload_n 0, 1), (11, .getfield 39, 3), (14, .iload_n 3, 1), (15, .iaload, 1), (16, .iload_n 1, 1), (17, .if_icmp .ne 20, 3), (37, .iinc 3 1, 3), (40, .goto (-38), 3), (20, .aload_n 0, 1), (21, .getfield 42, 3), (24, .iload_n 3, 1), (25, .iaload, 1), (26, .iload_n 2, 1), (27, .if_icmp .ne 10, 3), (30, .aload_n 0, 1), (31, .getfield 45, 3), (34, .iload_n 3, 1)] = true := by decide +kernel
theorem dX12_costOf_89 : decode cX12_costOf 89 = .ok (.ireturn, 1) := kDec_at dA235_cX12_costOf 0 rfl
theorem dX12_costOf_82 : decode cX12_costOf 82 = .ok (.bipush 30, 2) := kDec_at dA235_cX12_costOf 1 rfl
theorem dX12_costOf_84 : decode cX12_costOf 84 = .ok (.goto 4, 3) := kDec_at dA235_cX12_costOf 2 rfl
theorem dX12_costOf_70 : decode cX12_costOf 70 = .ok (.bipush 30, 2) := kDec_at dA235_cX12_costOf 3 rfl
theorem dX12_costOf_72 : decode cX12_costOf 72 = .ok (.goto 4, 3) := kDec_at dA235_cX12_costOf 4 rfl
theorem dX12_costOf_60 : decode cX12_costOf 60 = .ok (.iconst 4, 1) := kDec_at dA235_cX12_costOf 5 rfl
theorem dX12_costOf_61 : decode cX12_costOf 61 = .ok (.goto 5, 3) := kDec_at dA235_cX12_costOf 6 rfl
theorem dX12_costOf_10 : decode cX12_costOf 10 = .ok (.aload_n 0, 1) := kDec_at dA235_cX12_costOf 7 rfl
theorem dX12_costOf_11 : decode cX12_costOf 11 = .ok (.getfield 39, 3) := kDec_at dA235_cX12_costOf 8 rfl
theorem dX12_costOf_14 : decode cX12_costOf 14 = .ok (.iload_n 3, 1) := kDec_at dA235_cX12_costOf 9 rfl
theorem dX12_costOf_15 : decode cX12_costOf 15 = .ok (.iaload, 1) := kDec_at dA235_cX12_costOf 10 rfl
theorem dX12_costOf_16 : decode cX12_costOf 16 = .ok (.iload_n 1, 1) := kDec_at dA235_cX12_costOf 11 rfl
theorem dX12_costOf_17 : decode cX12_costOf 17 = .ok (.if_icmp .ne 20, 3) := kDec_at dA235_cX12_costOf 12 rfl
theorem dX12_costOf_37 : decode cX12_costOf 37 = .ok (.iinc 3 1, 3) := kDec_at dA235_cX12_costOf 13 rfl
theorem dX12_costOf_40 : decode cX12_costOf 40 = .ok (.goto (-38), 3) := kDec_at dA235_cX12_costOf 14 rfl
theorem dX12_costOf_20 : decode cX12_costOf 20 = .ok (.aload_n 0, 1) := kDec_at dA235_cX12_costOf 15 rfl
theorem dX12_costOf_21 : decode cX12_costOf 21 = .ok (.getfield 42, 3) := kDec_at dA235_cX12_costOf 16 rfl
theorem dX12_costOf_24 : decode cX12_costOf 24 = .ok (.iload_n 3, 1) := kDec_at dA235_cX12_costOf 17 rfl
theorem dX12_costOf_25 : decode cX12_costOf 25 = .ok (.iaload, 1) := kDec_at dA235_cX12_costOf 18 rfl
theorem dX12_costOf_26 : decode cX12_costOf 26 = .ok (.iload_n 2, 1) := kDec_at dA235_cX12_costOf 19 rfl
theorem dX12_costOf_27 : decode cX12_costOf 27 = .ok (.if_icmp .ne 10, 3) := kDec_at dA235_cX12_costOf 20 rfl
theorem dX12_costOf_30 : decode cX12_costOf 30 = .ok (.aload_n 0, 1) := kDec_at dA235_cX12_costOf 21 rfl
theorem dX12_costOf_31 : decode cX12_costOf 31 = .ok (.getfield 45, 3) := kDec_at dA235_cX12_costOf 22 rfl
theorem dX12_costOf_34 : decode cX12_costOf 34 = .ok (.iload_n 3, 1) := kDec_at dA235_cX12_costOf 23 rfl
set_option maxRecDepth 100000 in
theorem dA236_cX12_costOf : kDec cX12_costOf [(35, .iaload, 1), (36, .ireturn, 1)] = true := by decide +kernel
theorem dX12_costOf_35 : decode cX12_costOf 35 = .ok (.iaload, 1) := kDec_at dA236_cX12_costOf 0 rfl
theorem dX12_costOf_36 : decode cX12_costOf 36 = .ok (.ireturn, 1) := kDec_at dA236_cX12_costOf 1 rfl
set_option maxRecDepth 100000 in
theorem dA237_cX12_costOf_ : kDec cX12_costOf_ [(0, .iconst 0, 1), (1, .istore 4, 2), (3, .bipush 32, 2), (5, .istore 5, 2), (7, .iload_n 2, 1), (8, .istore 6, 2), (10, .iload 6, 2), (12, .iload_n 3, 1), (13, .if_icmp .ge 30, 3), (43, .iload 4, 2), (45, .aload_n 0, 1), (46, .iload 5, 2), (48, .bipush 32, 2), (50, .invokevirtual 196, 3), (53, .iadd, 1), (54, .ireturn, 1), (16, .iload 4, 2), (18, .aload_n 0, 1), (19, .iload 5, 2), (21, .aload_n 1, 1), (22, .iload 6, 2), (24, .iaload, 1), (25, .invokevirtual 196, 3), (28, .iadd, 1)] = true := by decide +kernel
theorem dX12_costOf__0 : decode cX12_costOf_ 0 = .ok (.iconst 0, 1) := kDec_at dA237_cX12_costOf_ 0 rfl
theorem dX12_costOf__1 : decode cX12_costOf_ 1 = .ok (.istore 4, 2) := kDec_at dA237_cX12_costOf_ 1 rfl
theorem dX12_costOf__3 : decode cX12_costOf_ 3 = .ok (.bipush 32, 2) := kDec_at dA237_cX12_costOf_ 2 rfl
theorem dX12_costOf__5 : decode cX12_costOf_ 5 = .ok (.istore 5, 2) := kDec_at dA237_cX12_costOf_ 3 rfl
theorem dX12_costOf__7 : decode cX12_costOf_ 7 = .ok (.iload_n 2, 1) := kDec_at dA237_cX12_costOf_ 4 rfl
theorem dX12_costOf__8 : decode cX12_costOf_ 8 = .ok (.istore 6, 2) := kDec_at dA237_cX12_costOf_ 5 rfl
theorem dX12_costOf__10 : decode cX12_costOf_ 10 = .ok (.iload 6, 2) := kDec_at dA237_cX12_costOf_ 6 rfl
theorem dX12_costOf__12 : decode cX12_costOf_ 12 = .ok (.iload_n 3, 1) := kDec_at dA237_cX12_costOf_ 7 rfl
theorem dX12_costOf__13 : decode cX12_costOf_ 13 = .ok (.if_icmp .ge 30, 3) := kDec_at dA237_cX12_costOf_ 8 rfl
theorem dX12_costOf__43 : decode cX12_costOf_ 43 = .ok (.iload 4, 2) := kDec_at dA237_cX12_costOf_ 9 rfl
theorem dX12_costOf__45 : decode cX12_costOf_ 45 = .ok (.aload_n 0, 1) := kDec_at dA237_cX12_costOf_ 10 rfl
theorem dX12_costOf__46 : decode cX12_costOf_ 46 = .ok (.iload 5, 2) := kDec_at dA237_cX12_costOf_ 11 rfl
theorem dX12_costOf__48 : decode cX12_costOf_ 48 = .ok (.bipush 32, 2) := kDec_at dA237_cX12_costOf_ 12 rfl
theorem dX12_costOf__50 : decode cX12_costOf_ 50 = .ok (.invokevirtual 196, 3) := kDec_at dA237_cX12_costOf_ 13 rfl
theorem dX12_costOf__53 : decode cX12_costOf_ 53 = .ok (.iadd, 1) := kDec_at dA237_cX12_costOf_ 14 rfl
theorem dX12_costOf__54 : decode cX12_costOf_ 54 = .ok (.ireturn, 1) := kDec_at dA237_cX12_costOf_ 15 rfl
theorem dX12_costOf__16 : decode cX12_costOf_ 16 = .ok (.iload 4, 2) := kDec_at dA237_cX12_costOf_ 16 rfl
theorem dX12_costOf__18 : decode cX12_costOf_ 18 = .ok (.aload_n 0, 1) := kDec_at dA237_cX12_costOf_ 17 rfl
theorem dX12_costOf__19 : decode cX12_costOf_ 19 = .ok (.iload 5, 2) := kDec_at dA237_cX12_costOf_ 18 rfl
theorem dX12_costOf__21 : decode cX12_costOf_ 21 = .ok (.aload_n 1, 1) := kDec_at dA237_cX12_costOf_ 19 rfl
theorem dX12_costOf__22 : decode cX12_costOf_ 22 = .ok (.iload 6, 2) := kDec_at dA237_cX12_costOf_ 20 rfl
theorem dX12_costOf__24 : decode cX12_costOf_ 24 = .ok (.iaload, 1) := kDec_at dA237_cX12_costOf_ 21 rfl
theorem dX12_costOf__25 : decode cX12_costOf_ 25 = .ok (.invokevirtual 196, 3) := kDec_at dA237_cX12_costOf_ 22 rfl
theorem dX12_costOf__28 : decode cX12_costOf_ 28 = .ok (.iadd, 1) := kDec_at dA237_cX12_costOf_ 23 rfl
set_option maxRecDepth 20000 in
theorem gX12_costOf_all : wsX12_costOf.all goodWord = true := by
  unfold wsX12_costOf
  exact good_c (by decide +kernel) (good_a (good_a ((by decide +kernel)) gX12_clsall) gX12_sortOf_all)
set_option maxRecDepth 20000 in
theorem ggX12_costOf__X12_costOf : GoodIn wsX12_costOf_ wsX12_costOf := goodIn_sub (fun _ h => List.mem_cons_of_mem _ (List.mem_append_right _ (h))) gX12_costOf_all
set_option maxRecDepth 20000 in
theorem gX12_costOf__X12_costOf : GoodIn wsX12_costOf_ (wsV RX12 196 RX12 yX12_costOf wsX12_costOf) := goodIn_app (goodIn_r _ [1, 2, 3, 4] rfl (by decide +kernel)) ggX12_costOf__X12_costOf
set_option maxRecDepth 100000 in
theorem dA238_cX12_costOf_ : kDec cX12_costOf_ [(29, .istore 4, 2), (31, .aload_n 1, 1), (32, .iload 6, 2), (34, .iaload, 1), (35, .istore 5, 2), (37, .iinc 6 1, 3), (40, .goto (-30), 3)] = true := by decide +kernel
theorem dX12_costOf__29 : decode cX12_costOf_ 29 = .ok (.istore 4, 2) := kDec_at dA238_cX12_costOf_ 0 rfl
theorem dX12_costOf__31 : decode cX12_costOf_ 31 = .ok (.aload_n 1, 1) := kDec_at dA238_cX12_costOf_ 1 rfl
theorem dX12_costOf__32 : decode cX12_costOf_ 32 = .ok (.iload 6, 2) := kDec_at dA238_cX12_costOf_ 2 rfl
theorem dX12_costOf__34 : decode cX12_costOf_ 34 = .ok (.iaload, 1) := kDec_at dA238_cX12_costOf_ 3 rfl
theorem dX12_costOf__35 : decode cX12_costOf_ 35 = .ok (.istore 5, 2) := kDec_at dA238_cX12_costOf_ 4 rfl
theorem dX12_costOf__37 : decode cX12_costOf_ 37 = .ok (.iinc 6 1, 3) := kDec_at dA238_cX12_costOf_ 5 rfl
theorem dX12_costOf__40 : decode cX12_costOf_ 40 = .ok (.goto (-30), 3) := kDec_at dA238_cX12_costOf_ 6 rfl

end

/-! 59m.cost -/
section
set_option maxHeartbeats 40000000 in
set_option maxRecDepth 100000 in
theorem f_X3_sortOutside (l : Launch) (dC : Nat → ClassId) (dI : Nat → Nat → Nat) (cI cS : ClassId) (sz : Nat) (x : Int32) (hxo : x.toInt < 33 ∨ 126 < x.toInt) : kMi l yX3_sortOutside wsX3_sortOutside ({ frames := 0, cells := 0, slots := 0, locals := 0 } : Room) [.int x] sz (dC, dI) vwCl [(cI, .int), (cS, .short)] [] (fun _ => True) 0 0 (fun (A : Nat → Prop) (r : Int32) (hh9 : Heap) => ∀ PZ9 : Prop, (kPD (dC, dI) vwCl A [] hh9 → (0 ≤ r.toInt ∧ r.toInt ≤ 7) → (r.toInt = srt x) → PZ9) → PZ9) := by
  refine kMi_of (cc := cX3_sortOutside) (maxL := 1) (ret := (some .int)) (lv := [(0, .int x)]) (by decide +kernel) rfl rfl (Nat.le_of_ble_eq_true rfl) ?_
  intro p e s m below meth c A QQ ls hx hb hr hts hml hown hlocks hA hQQ hK hX hP hD hS hl
  have hown : s.vm.findClass RX3 = some m.cls := hown
  have hcf := k_cf hx hb hml hown hts
  refine lv_iload_n hx hb dX3_sortOutside_0 rfl (lv_at hl 0 rfl) ?_
  refine lv_bipush (v := 32) hx hb dX3_sortOutside_1 (by decide) ?_
  refine lv_icmp_ne (tgt := 8) hx hb dX3_sortOutside_3 (by decide) (fun c_1 => ?_) (fun c_1 => ?_)
  · have tc_1 : ¬ x.toInt = 32 := v_ne c_1
    refine lv_iload_n hx hb dX3_sortOutside_8 rfl (lv_at hl 0 rfl) ?_
    refine lv_sipush (v := 192) hx hb dX3_sortOutside_9 (by decide) ?_
    refine lv_icmp_lt (tgt := 43) hx hb dX3_sortOutside_12 (by decide) (fun c_2 => ?_) (fun c_2 => ?_)
    · have tc_2 : x.toInt < 192 := v_lt c_2
      refine lv_iload_n hx hb dX3_sortOutside_43 rfl (lv_at hl 0 rfl) ?_
      refine lv_sipush (v := 880) hx hb dX3_sortOutside_44 (by decide) ?_
      refine lv_icmp_lt (tgt := 62) hx hb dX3_sortOutside_47 (by decide) (fun c_3 => ?_) (fun c_3 => by exfalso; have tc_3 : 880 ≤ x.toInt := v_nlt c_3; omega)
      have tc_3 : x.toInt < 880 := v_lt c_3
      refine lv_iconst (v := 0) hx hb dX3_sortOutside_62 (by decide) ?_
      exact kl_i (v := 0) hQQ hx hb hr hlocks hS dX3_sortOutside_63 (fun PZ9 kZ9 => kZ9 (⟨hP, hD⟩) (by decide) (by unfold srt; (repeat (first | rw [if_neg (by omega)] | rw [if_pos (by omega)])) <;> rfl))
    · have tc_2 : 192 ≤ x.toInt := v_nlt c_2
      refine lv_iload_n hx hb dX3_sortOutside_15 rfl (lv_at hl 0 rfl) ?_
      refine lv_sipush (v := 591) hx hb dX3_sortOutside_16 (by decide) ?_
      refine lv_icmp_gt (tgt := 43) hx hb dX3_sortOutside_19 (by decide) (fun c_4 => ?_) (fun c_4 => ?_)
      · have tc_4 : 591 < x.toInt := v_lt c_4
        refine lv_iload_n hx hb dX3_sortOutside_43 rfl (lv_at hl 0 rfl) ?_
        refine lv_sipush (v := 880) hx hb dX3_sortOutside_44 (by decide) ?_
        refine lv_icmp_lt (tgt := 62) hx hb dX3_sortOutside_47 (by decide) (fun c_5 => ?_) (fun c_5 => ?_)
        · have tc_5 : x.toInt < 880 := v_lt c_5
          refine lv_iconst (v := 0) hx hb dX3_sortOutside_62 (by decide) ?_
          exact kl_i (v := 0) hQQ hx hb hr hlocks hS dX3_sortOutside_63 (fun PZ9 kZ9 => kZ9 (⟨hP, hD⟩) (by decide) (by unfold srt; (repeat (first | rw [if_neg (by omega)] | rw [if_pos (by omega)])) <;> rfl))
        · have tc_5 : 880 ≤ x.toInt := v_nlt c_5
          refine lv_iload_n hx hb dX3_sortOutside_50 rfl (lv_at hl 0 rfl) ?_
          refine lv_sipush (v := 1327) hx hb dX3_sortOutside_51 (by decide) ?_
          refine lv_icmp_gt (tgt := 62) hx hb dX3_sortOutside_54 (by decide) (fun c_6 => ?_) (fun c_6 => ?_)
          · have tc_6 : 1327 < x.toInt := v_lt c_6
            refine lv_iconst (v := 0) hx hb dX3_sortOutside_62 (by decide) ?_
            exact kl_i (v := 0) hQQ hx hb hr hlocks hS dX3_sortOutside_63 (fun PZ9 kZ9 => kZ9 (⟨hP, hD⟩) (by decide) (by unfold srt; (repeat (first | rw [if_neg (by omega)] | rw [if_pos (by omega)])) <;> rfl))
          · have tc_6 : x.toInt ≤ 1327 := v_nlt c_6
            refine lv_bipush (v := 7) hx hb dX3_sortOutside_57 (by decide) ?_
            refine lv_goto (tgt := 63) hx hb dX3_sortOutside_59 (by decide) ?_
            exact kl_i (v := 7) hQQ hx hb hr hlocks hS dX3_sortOutside_63 (fun PZ9 kZ9 => kZ9 (⟨hP, hD⟩) (by decide) (by unfold srt; (repeat (first | rw [if_neg (by omega)] | rw [if_pos (by omega)])) <;> rfl))
      · have tc_4 : x.toInt ≤ 591 := v_nlt c_4
        refine lv_iload_n hx hb dX3_sortOutside_22 rfl (lv_at hl 0 rfl) ?_
        refine lv_sipush (v := 215) hx hb dX3_sortOutside_23 (by decide) ?_
        refine lv_icmp_eq (tgt := 36) hx hb dX3_sortOutside_26 (by decide) (fun c_7 => ?_) (fun c_7 => ?_)
        · have tc_7 : x.toInt = 215 := v_eq c_7
          refine lv_iconst (v := 0) hx hb dX3_sortOutside_36 (by decide) ?_
          refine lv_goto (tgt := 42) hx hb dX3_sortOutside_37 (by decide) ?_
          exact kl_i (v := 0) hQQ hx hb hr hlocks hS dX3_sortOutside_42 (fun PZ9 kZ9 => kZ9 (⟨hP, hD⟩) (by decide) (by unfold srt; (repeat (first | rw [if_neg (by omega)] | rw [if_pos (by omega)])) <;> rfl))
        · have tc_7 : ¬ x.toInt = 215 := v_ne c_7
          refine lv_iload_n hx hb dX3_sortOutside_29 rfl (lv_at hl 0 rfl) ?_
          refine lv_sipush (v := 247) hx hb dX3_sortOutside_30 (by decide) ?_
          refine lv_icmp_ne (tgt := 40) hx hb dX3_sortOutside_33 (by decide) (fun c_8 => ?_) (fun c_8 => ?_)
          · have tc_8 : ¬ x.toInt = 247 := v_ne c_8
            refine lv_bipush (v := 6) hx hb dX3_sortOutside_40 (by decide) ?_
            exact kl_i (v := 6) hQQ hx hb hr hlocks hS dX3_sortOutside_42 (fun PZ9 kZ9 => kZ9 (⟨hP, hD⟩) (by decide) (by unfold srt; (repeat (first | rw [if_neg (by omega)] | rw [if_pos (by omega)])) <;> rfl))
          · have tc_8 : x.toInt = 247 := v_eq c_8
            refine lv_iconst (v := 0) hx hb dX3_sortOutside_36 (by decide) ?_
            refine lv_goto (tgt := 42) hx hb dX3_sortOutside_37 (by decide) ?_
            exact kl_i (v := 0) hQQ hx hb hr hlocks hS dX3_sortOutside_42 (fun PZ9 kZ9 => kZ9 (⟨hP, hD⟩) (by decide) (by unfold srt; (repeat (first | rw [if_neg (by omega)] | rw [if_pos (by omega)])) <;> rfl))
  · have tc_1 : x.toInt = 32 := v_eq c_1
    refine lv_iconst (v := 4) hx hb dX3_sortOutside_6 (by decide) ?_
    exact kl_i (v := 4) hQQ hx hb hr hlocks hS dX3_sortOutside_7 (fun PZ9 kZ9 => kZ9 (⟨hP, hD⟩) (by decide) (by unfold srt; (repeat (first | rw [if_neg (by omega)] | rw [if_pos (by omega)])) <;> rfl))

set_option maxHeartbeats 40000000 in
set_option maxRecDepth 100000 in
theorem f_X3_sortOf (l : Launch) (dC : Nat → ClassId) (dI : Nat → Nat → Nat) (cI cS : ClassId) (sz : Nat) (x : Int32)  : kMi l yX3_sortOf wsX3_sortOf ({ frames := 1, cells := 0, slots := 0, locals := 20 } : Room) [.int x] sz (dC, dI) vwCl [(cI, .int), (cS, .short)] [] (fun _ => True) 0 0 (fun (A : Nat → Prop) (r : Int32) (hh9 : Heap) => ∀ PZ9 : Prop, (kPD (dC, dI) vwCl A [] hh9 → (0 ≤ r.toInt ∧ r.toInt ≤ 7) → (r.toInt = srt x) → PZ9) → PZ9) := by
  refine kMi_of (cc := cX3_sortOf) (maxL := 1) (ret := (some .int)) (lv := [(0, .int x)]) (by decide +kernel) rfl rfl (Nat.le_of_ble_eq_true rfl) ?_
  intro p e s m below meth c A QQ ls hx hb hr hts hml hown hlocks hA hQQ hK hX hP hD hS hl
  have hown : s.vm.findClass RX3 = some m.cls := hown
  have hcf := k_cf hx hb hml hown hts
  refine lv_iload_n hx hb dX3_sortOf_0 rfl (lv_at hl 0 rfl) ?_
  refine lv_bipush (v := 33) hx hb dX3_sortOf_1 (by decide) ?_
  refine lv_icmp_lt (tgt := 12) hx hb dX3_sortOf_3 (by decide) (fun c_1 => ?_) (fun c_1 => ?_)
  · have tc_1 : x.toInt < 33 := v_lt c_1
    refine lv_iload_n hx hb dX3_sortOf_12 rfl (lv_at hl 0 rfl) ?_
    refine kS_i (rest := []) hcf (f_X3_sortOutside l dC dI cI cS s.heap.size x (by omega)) kc_X3_sortOutside gX3_sortOf_X3_sortOutside rfl rfl ⟨Nat.le_of_ble_eq_true rfl, Nat.le_of_ble_eq_true rfl⟩ kX_t hK hP hD hS hA [] [] rfl (by decide +kernel) rfl hl rfl (Nat.le_of_ble_eq_true rfl) dX3_sortOf_13 ⟨Nat.le_of_ble_eq_true rfl, Nat.le_of_ble_eq_true rfl⟩ (fun r_2 H locs hB hJ hSn => ?_)
    refine hB _ (fun hPD9 hf2_0 hf2_1 => ?_)
    clear hB
    obtain ⟨hPn, hDn⟩ := hJ _ hPD9.1 hPD9.2 [] rfl
    clear hP hD hS hJ hPD9
    have hP := hPn
    have hD := hDn
    have hS := hSn
    clear hPn hDn hSn
    exact kl_i (v := r_2) hQQ hx hb hr hlocks hS dX3_sortOf_16 (fun PZ9 kZ9 => kZ9 (⟨hP, hD⟩) (hf2_0) (hf2_1))
  · have tc_1 : 33 ≤ x.toInt := v_nlt c_1
    refine lv_iload_n hx hb dX3_sortOf_6 rfl (lv_at hl 0 rfl) ?_
    refine lv_bipush (v := 126) hx hb dX3_sortOf_7 (by decide) ?_
    refine lv_icmp_le (tgt := 17) hx hb dX3_sortOf_9 (by decide) (fun c_3 => ?_) (fun c_3 => ?_)
    · have tc_3 : x.toInt ≤ 126 := v_le c_3
      refine lv_iload_n hx hb dX3_sortOf_17 rfl (lv_at hl 0 rfl) ?_
      refine lv_bipush (v := 97) hx hb dX3_sortOf_18 (by decide) ?_
      refine lv_icmp_lt (tgt := 31) hx hb dX3_sortOf_20 (by decide) (fun c_4 => ?_) (fun c_4 => ?_)
      · have tc_4 : x.toInt < 97 := v_lt c_4
        refine lv_iload_n hx hb dX3_sortOf_31 rfl (lv_at hl 0 rfl) ?_
        refine lv_bipush (v := 65) hx hb dX3_sortOf_32 (by decide) ?_
        refine lv_icmp_lt (tgt := 45) hx hb dX3_sortOf_34 (by decide) (fun c_5 => ?_) (fun c_5 => ?_)
        · have tc_5 : x.toInt < 65 := v_lt c_5
          refine lv_iload_n hx hb dX3_sortOf_45 rfl (lv_at hl 0 rfl) ?_
          refine lv_bipush (v := 48) hx hb dX3_sortOf_46 (by decide) ?_
          refine lv_icmp_lt (tgt := 61) hx hb dX3_sortOf_48 (by decide) (fun c_6 => ?_) (fun c_6 => ?_)
          · have tc_6 : x.toInt < 48 := v_lt c_6
            refine lv_iconst (v := 5) hx hb dX3_sortOf_61 (by decide) ?_
            exact kl_i (v := 5) hQQ hx hb hr hlocks hS dX3_sortOf_62 (fun PZ9 kZ9 => kZ9 (⟨hP, hD⟩) (by decide) (by unfold srt; (repeat (first | rw [if_neg (by omega)] | rw [if_pos (by omega)])) <;> rfl))
          · have tc_6 : 48 ≤ x.toInt := v_nlt c_6
            refine lv_iload_n hx hb dX3_sortOf_51 rfl (lv_at hl 0 rfl) ?_
            refine lv_bipush (v := 57) hx hb dX3_sortOf_52 (by decide) ?_
            refine lv_icmp_gt (tgt := 61) hx hb dX3_sortOf_54 (by decide) (fun c_7 => ?_) (fun c_7 => ?_)
            · have tc_7 : 57 < x.toInt := v_lt c_7
              refine lv_iconst (v := 5) hx hb dX3_sortOf_61 (by decide) ?_
              exact kl_i (v := 5) hQQ hx hb hr hlocks hS dX3_sortOf_62 (fun PZ9 kZ9 => kZ9 (⟨hP, hD⟩) (by decide) (by unfold srt; (repeat (first | rw [if_neg (by omega)] | rw [if_pos (by omega)])) <;> rfl))
            · have tc_7 : x.toInt ≤ 57 := v_nlt c_7
              refine lv_iconst (v := 3) hx hb dX3_sortOf_57 (by decide) ?_
              refine lv_goto (tgt := 62) hx hb dX3_sortOf_58 (by decide) ?_
              exact kl_i (v := 3) hQQ hx hb hr hlocks hS dX3_sortOf_62 (fun PZ9 kZ9 => kZ9 (⟨hP, hD⟩) (by decide) (by unfold srt; (repeat (first | rw [if_neg (by omega)] | rw [if_pos (by omega)])) <;> rfl))
        · have tc_5 : 65 ≤ x.toInt := v_nlt c_5
          refine lv_iload_n hx hb dX3_sortOf_37 rfl (lv_at hl 0 rfl) ?_
          refine lv_bipush (v := 90) hx hb dX3_sortOf_38 (by decide) ?_
          refine lv_icmp_gt (tgt := 45) hx hb dX3_sortOf_40 (by decide) (fun c_8 => ?_) (fun c_8 => ?_)
          · have tc_8 : 90 < x.toInt := v_lt c_8
            refine lv_iload_n hx hb dX3_sortOf_45 rfl (lv_at hl 0 rfl) ?_
            refine lv_bipush (v := 48) hx hb dX3_sortOf_46 (by decide) ?_
            refine lv_icmp_lt (tgt := 61) hx hb dX3_sortOf_48 (by decide) (fun c_9 => by exfalso; have tc_9 : x.toInt < 48 := v_lt c_9; omega) (fun c_9 => ?_)
            have tc_9 : 48 ≤ x.toInt := v_nlt c_9
            refine lv_iload_n hx hb dX3_sortOf_51 rfl (lv_at hl 0 rfl) ?_
            refine lv_bipush (v := 57) hx hb dX3_sortOf_52 (by decide) ?_
            refine lv_icmp_gt (tgt := 61) hx hb dX3_sortOf_54 (by decide) (fun c_10 => ?_) (fun c_10 => by exfalso; have tc_10 : x.toInt ≤ 57 := v_nlt c_10; omega)
            have tc_10 : 57 < x.toInt := v_lt c_10
            refine lv_iconst (v := 5) hx hb dX3_sortOf_61 (by decide) ?_
            exact kl_i (v := 5) hQQ hx hb hr hlocks hS dX3_sortOf_62 (fun PZ9 kZ9 => kZ9 (⟨hP, hD⟩) (by decide) (by unfold srt; (repeat (first | rw [if_neg (by omega)] | rw [if_pos (by omega)])) <;> rfl))
          · have tc_8 : x.toInt ≤ 90 := v_nlt c_8
            refine lv_iconst (v := 2) hx hb dX3_sortOf_43 (by decide) ?_
            exact kl_i (v := 2) hQQ hx hb hr hlocks hS dX3_sortOf_44 (fun PZ9 kZ9 => kZ9 (⟨hP, hD⟩) (by decide) (by unfold srt; (repeat (first | rw [if_neg (by omega)] | rw [if_pos (by omega)])) <;> rfl))
      · have tc_4 : 97 ≤ x.toInt := v_nlt c_4
        refine lv_iload_n hx hb dX3_sortOf_23 rfl (lv_at hl 0 rfl) ?_
        refine lv_bipush (v := 122) hx hb dX3_sortOf_24 (by decide) ?_
        refine lv_icmp_gt (tgt := 31) hx hb dX3_sortOf_26 (by decide) (fun c_11 => ?_) (fun c_11 => ?_)
        · have tc_11 : 122 < x.toInt := v_lt c_11
          refine lv_iload_n hx hb dX3_sortOf_31 rfl (lv_at hl 0 rfl) ?_
          refine lv_bipush (v := 65) hx hb dX3_sortOf_32 (by decide) ?_
          refine lv_icmp_lt (tgt := 45) hx hb dX3_sortOf_34 (by decide) (fun c_12 => by exfalso; have tc_12 : x.toInt < 65 := v_lt c_12; omega) (fun c_12 => ?_)
          have tc_12 : 65 ≤ x.toInt := v_nlt c_12
          refine lv_iload_n hx hb dX3_sortOf_37 rfl (lv_at hl 0 rfl) ?_
          refine lv_bipush (v := 90) hx hb dX3_sortOf_38 (by decide) ?_
          refine lv_icmp_gt (tgt := 45) hx hb dX3_sortOf_40 (by decide) (fun c_13 => ?_) (fun c_13 => by exfalso; have tc_13 : x.toInt ≤ 90 := v_nlt c_13; omega)
          have tc_13 : 90 < x.toInt := v_lt c_13
          refine lv_iload_n hx hb dX3_sortOf_45 rfl (lv_at hl 0 rfl) ?_
          refine lv_bipush (v := 48) hx hb dX3_sortOf_46 (by decide) ?_
          refine lv_icmp_lt (tgt := 61) hx hb dX3_sortOf_48 (by decide) (fun c_14 => by exfalso; have tc_14 : x.toInt < 48 := v_lt c_14; omega) (fun c_14 => ?_)
          have tc_14 : 48 ≤ x.toInt := v_nlt c_14
          refine lv_iload_n hx hb dX3_sortOf_51 rfl (lv_at hl 0 rfl) ?_
          refine lv_bipush (v := 57) hx hb dX3_sortOf_52 (by decide) ?_
          refine lv_icmp_gt (tgt := 61) hx hb dX3_sortOf_54 (by decide) (fun c_15 => ?_) (fun c_15 => by exfalso; have tc_15 : x.toInt ≤ 57 := v_nlt c_15; omega)
          have tc_15 : 57 < x.toInt := v_lt c_15
          refine lv_iconst (v := 5) hx hb dX3_sortOf_61 (by decide) ?_
          exact kl_i (v := 5) hQQ hx hb hr hlocks hS dX3_sortOf_62 (fun PZ9 kZ9 => kZ9 (⟨hP, hD⟩) (by decide) (by unfold srt; (repeat (first | rw [if_neg (by omega)] | rw [if_pos (by omega)])) <;> rfl))
        · have tc_11 : x.toInt ≤ 122 := v_nlt c_11
          refine lv_iconst (v := 1) hx hb dX3_sortOf_29 (by decide) ?_
          exact kl_i (v := 1) hQQ hx hb hr hlocks hS dX3_sortOf_30 (fun PZ9 kZ9 => kZ9 (⟨hP, hD⟩) (by decide) (by unfold srt; (repeat (first | rw [if_neg (by omega)] | rw [if_pos (by omega)])) <;> rfl))
    · have tc_3 : 126 < x.toInt := v_nle c_3
      refine lv_iload_n hx hb dX3_sortOf_12 rfl (lv_at hl 0 rfl) ?_
      refine kS_i (rest := []) hcf (f_X3_sortOutside l dC dI cI cS s.heap.size x (by omega)) kc_X3_sortOutside gX3_sortOf_X3_sortOutside rfl rfl ⟨Nat.le_of_ble_eq_true rfl, Nat.le_of_ble_eq_true rfl⟩ kX_t hK hP hD hS hA [] [] rfl (by decide +kernel) rfl hl rfl (Nat.le_of_ble_eq_true rfl) dX3_sortOf_13 ⟨Nat.le_of_ble_eq_true rfl, Nat.le_of_ble_eq_true rfl⟩ (fun r_16 H locs hB hJ hSn => ?_)
      refine hB _ (fun hPD9 hf16_0 hf16_1 => ?_)
      clear hB
      obtain ⟨hPn, hDn⟩ := hJ _ hPD9.1 hPD9.2 [] rfl
      clear hP hD hS hJ hPD9
      have hP := hPn
      have hD := hDn
      have hS := hSn
      clear hPn hDn hSn
      exact kl_i (v := r_16) hQQ hx hb hr hlocks hS dX3_sortOf_16 (fun PZ9 kZ9 => kZ9 (⟨hP, hD⟩) (hf16_0) (hf16_1))

set_option maxHeartbeats 40000000 in
set_option maxRecDepth 100000 in
theorem f_X12_sortOf (l : Launch) (dC : Nat → ClassId) (dI : Nat → Nat → Nat) (cI cS : ClassId) (sz : Nat) (x : Int32)  : kMi l yX12_sortOf wsX12_sortOf ({ frames := 0, cells := 0, slots := 0, locals := 0 } : Room) [.int x] sz (dC, dI) vwCl [(cI, .int), (cS, .short)] [] (fun _ => True) 0 0 (fun (A : Nat → Prop) (r : Int32) (hh9 : Heap) => ∀ PZ9 : Prop, (kPD (dC, dI) vwCl A [] hh9 → (0 ≤ r.toInt ∧ r.toInt ≤ 7) → (r.toInt = srt x) → PZ9) → PZ9) := by
  refine kMi_of (cc := cX12_sortOf) (maxL := 1) (ret := (some .int)) (lv := [(0, .int x)]) (by decide +kernel) rfl rfl (Nat.le_of_ble_eq_true rfl) ?_
  intro p e s m below meth c A QQ ls hx hb hr hts hml hown hlocks hA hQQ hK hX hP hD hS hl
  have hown : s.vm.findClass RX12 = some m.cls := hown
  have hcf := k_cf hx hb hml hown hts
  refine lv_iload_n hx hb dX12_sortOf_0 rfl (lv_at hl 0 rfl) ?_
  refine lv_bipush (v := 97) hx hb dX12_sortOf_1 (by decide) ?_
  refine lv_icmp_lt (tgt := 14) hx hb dX12_sortOf_3 (by decide) (fun c_1 => ?_) (fun c_1 => ?_)
  · have tc_1 : x.toInt < 97 := v_lt c_1
    refine lv_iload_n hx hb dX12_sortOf_14 rfl (lv_at hl 0 rfl) ?_
    refine lv_bipush (v := 65) hx hb dX12_sortOf_15 (by decide) ?_
    refine lv_icmp_lt (tgt := 28) hx hb dX12_sortOf_17 (by decide) (fun c_2 => ?_) (fun c_2 => ?_)
    · have tc_2 : x.toInt < 65 := v_lt c_2
      refine lv_iload_n hx hb dX12_sortOf_28 rfl (lv_at hl 0 rfl) ?_
      refine lv_bipush (v := 48) hx hb dX12_sortOf_29 (by decide) ?_
      refine lv_icmp_lt (tgt := 42) hx hb dX12_sortOf_31 (by decide) (fun c_3 => ?_) (fun c_3 => ?_)
      · have tc_3 : x.toInt < 48 := v_lt c_3
        refine lv_iload_n hx hb dX12_sortOf_42 rfl (lv_at hl 0 rfl) ?_
        refine lv_bipush (v := 32) hx hb dX12_sortOf_43 (by decide) ?_
        refine lv_icmp_ne (tgt := 50) hx hb dX12_sortOf_45 (by decide) (fun c_4 => ?_) (fun c_4 => ?_)
        · have tc_4 : ¬ x.toInt = 32 := v_ne c_4
          refine lv_iload_n hx hb dX12_sortOf_50 rfl (lv_at hl 0 rfl) ?_
          refine lv_bipush (v := 33) hx hb dX12_sortOf_51 (by decide) ?_
          refine lv_icmp_lt (tgt := 64) hx hb dX12_sortOf_53 (by decide) (fun c_5 => ?_) (fun c_5 => ?_)
          · have tc_5 : x.toInt < 33 := v_lt c_5
            refine lv_iload_n hx hb dX12_sortOf_64 rfl (lv_at hl 0 rfl) ?_
            refine lv_sipush (v := 192) hx hb dX12_sortOf_65 (by decide) ?_
            refine lv_icmp_lt (tgt := 95) hx hb dX12_sortOf_68 (by decide) (fun c_6 => ?_) (fun c_6 => by exfalso; have tc_6 : 192 ≤ x.toInt := v_nlt c_6; omega)
            have tc_6 : x.toInt < 192 := v_lt c_6
            refine lv_iload_n hx hb dX12_sortOf_95 rfl (lv_at hl 0 rfl) ?_
            refine lv_sipush (v := 880) hx hb dX12_sortOf_96 (by decide) ?_
            refine lv_icmp_lt (tgt := 114) hx hb dX12_sortOf_99 (by decide) (fun c_7 => ?_) (fun c_7 => by exfalso; have tc_7 : 880 ≤ x.toInt := v_nlt c_7; omega)
            have tc_7 : x.toInt < 880 := v_lt c_7
            refine lv_iconst (v := 0) hx hb dX12_sortOf_114 (by decide) ?_
            exact kl_i (v := 0) hQQ hx hb hr hlocks hS dX12_sortOf_115 (fun PZ9 kZ9 => kZ9 (⟨hP, hD⟩) (by decide) (by unfold srt; (repeat (first | rw [if_neg (by omega)] | rw [if_pos (by omega)])) <;> rfl))
          · have tc_5 : 33 ≤ x.toInt := v_nlt c_5
            refine lv_iload_n hx hb dX12_sortOf_56 rfl (lv_at hl 0 rfl) ?_
            refine lv_bipush (v := 126) hx hb dX12_sortOf_57 (by decide) ?_
            refine lv_icmp_gt (tgt := 64) hx hb dX12_sortOf_59 (by decide) (fun c_8 => by exfalso; have tc_8 : 126 < x.toInt := v_lt c_8; omega) (fun c_8 => ?_)
            have tc_8 : x.toInt ≤ 126 := v_nlt c_8
            refine lv_iconst (v := 5) hx hb dX12_sortOf_62 (by decide) ?_
            exact kl_i (v := 5) hQQ hx hb hr hlocks hS dX12_sortOf_63 (fun PZ9 kZ9 => kZ9 (⟨hP, hD⟩) (by decide) (by unfold srt; (repeat (first | rw [if_neg (by omega)] | rw [if_pos (by omega)])) <;> rfl))
        · have tc_4 : x.toInt = 32 := v_eq c_4
          refine lv_iconst (v := 4) hx hb dX12_sortOf_48 (by decide) ?_
          exact kl_i (v := 4) hQQ hx hb hr hlocks hS dX12_sortOf_49 (fun PZ9 kZ9 => kZ9 (⟨hP, hD⟩) (by decide) (by unfold srt; (repeat (first | rw [if_neg (by omega)] | rw [if_pos (by omega)])) <;> rfl))
      · have tc_3 : 48 ≤ x.toInt := v_nlt c_3
        refine lv_iload_n hx hb dX12_sortOf_34 rfl (lv_at hl 0 rfl) ?_
        refine lv_bipush (v := 57) hx hb dX12_sortOf_35 (by decide) ?_
        refine lv_icmp_gt (tgt := 42) hx hb dX12_sortOf_37 (by decide) (fun c_9 => ?_) (fun c_9 => ?_)
        · have tc_9 : 57 < x.toInt := v_lt c_9
          refine lv_iload_n hx hb dX12_sortOf_42 rfl (lv_at hl 0 rfl) ?_
          refine lv_bipush (v := 32) hx hb dX12_sortOf_43 (by decide) ?_
          refine lv_icmp_ne (tgt := 50) hx hb dX12_sortOf_45 (by decide) (fun c_10 => ?_) (fun c_10 => by exfalso; have tc_10 : x.toInt = 32 := v_eq c_10; omega)
          have tc_10 : ¬ x.toInt = 32 := v_ne c_10
          refine lv_iload_n hx hb dX12_sortOf_50 rfl (lv_at hl 0 rfl) ?_
          refine lv_bipush (v := 33) hx hb dX12_sortOf_51 (by decide) ?_
          refine lv_icmp_lt (tgt := 64) hx hb dX12_sortOf_53 (by decide) (fun c_11 => by exfalso; have tc_11 : x.toInt < 33 := v_lt c_11; omega) (fun c_11 => ?_)
          have tc_11 : 33 ≤ x.toInt := v_nlt c_11
          refine lv_iload_n hx hb dX12_sortOf_56 rfl (lv_at hl 0 rfl) ?_
          refine lv_bipush (v := 126) hx hb dX12_sortOf_57 (by decide) ?_
          refine lv_icmp_gt (tgt := 64) hx hb dX12_sortOf_59 (by decide) (fun c_12 => by exfalso; have tc_12 : 126 < x.toInt := v_lt c_12; omega) (fun c_12 => ?_)
          have tc_12 : x.toInt ≤ 126 := v_nlt c_12
          refine lv_iconst (v := 5) hx hb dX12_sortOf_62 (by decide) ?_
          exact kl_i (v := 5) hQQ hx hb hr hlocks hS dX12_sortOf_63 (fun PZ9 kZ9 => kZ9 (⟨hP, hD⟩) (by decide) (by unfold srt; (repeat (first | rw [if_neg (by omega)] | rw [if_pos (by omega)])) <;> rfl))
        · have tc_9 : x.toInt ≤ 57 := v_nlt c_9
          refine lv_iconst (v := 3) hx hb dX12_sortOf_40 (by decide) ?_
          exact kl_i (v := 3) hQQ hx hb hr hlocks hS dX12_sortOf_41 (fun PZ9 kZ9 => kZ9 (⟨hP, hD⟩) (by decide) (by unfold srt; (repeat (first | rw [if_neg (by omega)] | rw [if_pos (by omega)])) <;> rfl))
    · have tc_2 : 65 ≤ x.toInt := v_nlt c_2
      refine lv_iload_n hx hb dX12_sortOf_20 rfl (lv_at hl 0 rfl) ?_
      refine lv_bipush (v := 90) hx hb dX12_sortOf_21 (by decide) ?_
      refine lv_icmp_gt (tgt := 28) hx hb dX12_sortOf_23 (by decide) (fun c_13 => ?_) (fun c_13 => ?_)
      · have tc_13 : 90 < x.toInt := v_lt c_13
        refine lv_iload_n hx hb dX12_sortOf_28 rfl (lv_at hl 0 rfl) ?_
        refine lv_bipush (v := 48) hx hb dX12_sortOf_29 (by decide) ?_
        refine lv_icmp_lt (tgt := 42) hx hb dX12_sortOf_31 (by decide) (fun c_14 => by exfalso; have tc_14 : x.toInt < 48 := v_lt c_14; omega) (fun c_14 => ?_)
        have tc_14 : 48 ≤ x.toInt := v_nlt c_14
        refine lv_iload_n hx hb dX12_sortOf_34 rfl (lv_at hl 0 rfl) ?_
        refine lv_bipush (v := 57) hx hb dX12_sortOf_35 (by decide) ?_
        refine lv_icmp_gt (tgt := 42) hx hb dX12_sortOf_37 (by decide) (fun c_15 => ?_) (fun c_15 => by exfalso; have tc_15 : x.toInt ≤ 57 := v_nlt c_15; omega)
        have tc_15 : 57 < x.toInt := v_lt c_15
        refine lv_iload_n hx hb dX12_sortOf_42 rfl (lv_at hl 0 rfl) ?_
        refine lv_bipush (v := 32) hx hb dX12_sortOf_43 (by decide) ?_
        refine lv_icmp_ne (tgt := 50) hx hb dX12_sortOf_45 (by decide) (fun c_16 => ?_) (fun c_16 => by exfalso; have tc_16 : x.toInt = 32 := v_eq c_16; omega)
        have tc_16 : ¬ x.toInt = 32 := v_ne c_16
        refine lv_iload_n hx hb dX12_sortOf_50 rfl (lv_at hl 0 rfl) ?_
        refine lv_bipush (v := 33) hx hb dX12_sortOf_51 (by decide) ?_
        refine lv_icmp_lt (tgt := 64) hx hb dX12_sortOf_53 (by decide) (fun c_17 => by exfalso; have tc_17 : x.toInt < 33 := v_lt c_17; omega) (fun c_17 => ?_)
        have tc_17 : 33 ≤ x.toInt := v_nlt c_17
        refine lv_iload_n hx hb dX12_sortOf_56 rfl (lv_at hl 0 rfl) ?_
        refine lv_bipush (v := 126) hx hb dX12_sortOf_57 (by decide) ?_
        refine lv_icmp_gt (tgt := 64) hx hb dX12_sortOf_59 (by decide) (fun c_18 => by exfalso; have tc_18 : 126 < x.toInt := v_lt c_18; omega) (fun c_18 => ?_)
        have tc_18 : x.toInt ≤ 126 := v_nlt c_18
        refine lv_iconst (v := 5) hx hb dX12_sortOf_62 (by decide) ?_
        exact kl_i (v := 5) hQQ hx hb hr hlocks hS dX12_sortOf_63 (fun PZ9 kZ9 => kZ9 (⟨hP, hD⟩) (by decide) (by unfold srt; (repeat (first | rw [if_neg (by omega)] | rw [if_pos (by omega)])) <;> rfl))
      · have tc_13 : x.toInt ≤ 90 := v_nlt c_13
        refine lv_iconst (v := 2) hx hb dX12_sortOf_26 (by decide) ?_
        exact kl_i (v := 2) hQQ hx hb hr hlocks hS dX12_sortOf_27 (fun PZ9 kZ9 => kZ9 (⟨hP, hD⟩) (by decide) (by unfold srt; (repeat (first | rw [if_neg (by omega)] | rw [if_pos (by omega)])) <;> rfl))
  · have tc_1 : 97 ≤ x.toInt := v_nlt c_1
    refine lv_iload_n hx hb dX12_sortOf_6 rfl (lv_at hl 0 rfl) ?_
    refine lv_bipush (v := 122) hx hb dX12_sortOf_7 (by decide) ?_
    refine lv_icmp_gt (tgt := 14) hx hb dX12_sortOf_9 (by decide) (fun c_19 => ?_) (fun c_19 => ?_)
    · have tc_19 : 122 < x.toInt := v_lt c_19
      refine lv_iload_n hx hb dX12_sortOf_14 rfl (lv_at hl 0 rfl) ?_
      refine lv_bipush (v := 65) hx hb dX12_sortOf_15 (by decide) ?_
      refine lv_icmp_lt (tgt := 28) hx hb dX12_sortOf_17 (by decide) (fun c_20 => by exfalso; have tc_20 : x.toInt < 65 := v_lt c_20; omega) (fun c_20 => ?_)
      have tc_20 : 65 ≤ x.toInt := v_nlt c_20
      refine lv_iload_n hx hb dX12_sortOf_20 rfl (lv_at hl 0 rfl) ?_
      refine lv_bipush (v := 90) hx hb dX12_sortOf_21 (by decide) ?_
      refine lv_icmp_gt (tgt := 28) hx hb dX12_sortOf_23 (by decide) (fun c_21 => ?_) (fun c_21 => by exfalso; have tc_21 : x.toInt ≤ 90 := v_nlt c_21; omega)
      have tc_21 : 90 < x.toInt := v_lt c_21
      refine lv_iload_n hx hb dX12_sortOf_28 rfl (lv_at hl 0 rfl) ?_
      refine lv_bipush (v := 48) hx hb dX12_sortOf_29 (by decide) ?_
      refine lv_icmp_lt (tgt := 42) hx hb dX12_sortOf_31 (by decide) (fun c_22 => by exfalso; have tc_22 : x.toInt < 48 := v_lt c_22; omega) (fun c_22 => ?_)
      have tc_22 : 48 ≤ x.toInt := v_nlt c_22
      refine lv_iload_n hx hb dX12_sortOf_34 rfl (lv_at hl 0 rfl) ?_
      refine lv_bipush (v := 57) hx hb dX12_sortOf_35 (by decide) ?_
      refine lv_icmp_gt (tgt := 42) hx hb dX12_sortOf_37 (by decide) (fun c_23 => ?_) (fun c_23 => by exfalso; have tc_23 : x.toInt ≤ 57 := v_nlt c_23; omega)
      have tc_23 : 57 < x.toInt := v_lt c_23
      refine lv_iload_n hx hb dX12_sortOf_42 rfl (lv_at hl 0 rfl) ?_
      refine lv_bipush (v := 32) hx hb dX12_sortOf_43 (by decide) ?_
      refine lv_icmp_ne (tgt := 50) hx hb dX12_sortOf_45 (by decide) (fun c_24 => ?_) (fun c_24 => by exfalso; have tc_24 : x.toInt = 32 := v_eq c_24; omega)
      have tc_24 : ¬ x.toInt = 32 := v_ne c_24
      refine lv_iload_n hx hb dX12_sortOf_50 rfl (lv_at hl 0 rfl) ?_
      refine lv_bipush (v := 33) hx hb dX12_sortOf_51 (by decide) ?_
      refine lv_icmp_lt (tgt := 64) hx hb dX12_sortOf_53 (by decide) (fun c_25 => by exfalso; have tc_25 : x.toInt < 33 := v_lt c_25; omega) (fun c_25 => ?_)
      have tc_25 : 33 ≤ x.toInt := v_nlt c_25
      refine lv_iload_n hx hb dX12_sortOf_56 rfl (lv_at hl 0 rfl) ?_
      refine lv_bipush (v := 126) hx hb dX12_sortOf_57 (by decide) ?_
      refine lv_icmp_gt (tgt := 64) hx hb dX12_sortOf_59 (by decide) (fun c_26 => ?_) (fun c_26 => ?_)
      · have tc_26 : 126 < x.toInt := v_lt c_26
        refine lv_iload_n hx hb dX12_sortOf_64 rfl (lv_at hl 0 rfl) ?_
        refine lv_sipush (v := 192) hx hb dX12_sortOf_65 (by decide) ?_
        refine lv_icmp_lt (tgt := 95) hx hb dX12_sortOf_68 (by decide) (fun c_27 => ?_) (fun c_27 => ?_)
        · have tc_27 : x.toInt < 192 := v_lt c_27
          refine lv_iload_n hx hb dX12_sortOf_95 rfl (lv_at hl 0 rfl) ?_
          refine lv_sipush (v := 880) hx hb dX12_sortOf_96 (by decide) ?_
          refine lv_icmp_lt (tgt := 114) hx hb dX12_sortOf_99 (by decide) (fun c_28 => ?_) (fun c_28 => by exfalso; have tc_28 : 880 ≤ x.toInt := v_nlt c_28; omega)
          have tc_28 : x.toInt < 880 := v_lt c_28
          refine lv_iconst (v := 0) hx hb dX12_sortOf_114 (by decide) ?_
          exact kl_i (v := 0) hQQ hx hb hr hlocks hS dX12_sortOf_115 (fun PZ9 kZ9 => kZ9 (⟨hP, hD⟩) (by decide) (by unfold srt; (repeat (first | rw [if_neg (by omega)] | rw [if_pos (by omega)])) <;> rfl))
        · have tc_27 : 192 ≤ x.toInt := v_nlt c_27
          refine lv_iload_n hx hb dX12_sortOf_71 rfl (lv_at hl 0 rfl) ?_
          refine lv_sipush (v := 591) hx hb dX12_sortOf_72 (by decide) ?_
          refine lv_icmp_gt (tgt := 95) hx hb dX12_sortOf_75 (by decide) (fun c_29 => ?_) (fun c_29 => ?_)
          · have tc_29 : 591 < x.toInt := v_lt c_29
            refine lv_iload_n hx hb dX12_sortOf_95 rfl (lv_at hl 0 rfl) ?_
            refine lv_sipush (v := 880) hx hb dX12_sortOf_96 (by decide) ?_
            refine lv_icmp_lt (tgt := 114) hx hb dX12_sortOf_99 (by decide) (fun c_30 => ?_) (fun c_30 => ?_)
            · have tc_30 : x.toInt < 880 := v_lt c_30
              refine lv_iconst (v := 0) hx hb dX12_sortOf_114 (by decide) ?_
              exact kl_i (v := 0) hQQ hx hb hr hlocks hS dX12_sortOf_115 (fun PZ9 kZ9 => kZ9 (⟨hP, hD⟩) (by decide) (by unfold srt; (repeat (first | rw [if_neg (by omega)] | rw [if_pos (by omega)])) <;> rfl))
            · have tc_30 : 880 ≤ x.toInt := v_nlt c_30
              refine lv_iload_n hx hb dX12_sortOf_102 rfl (lv_at hl 0 rfl) ?_
              refine lv_sipush (v := 1327) hx hb dX12_sortOf_103 (by decide) ?_
              refine lv_icmp_gt (tgt := 114) hx hb dX12_sortOf_106 (by decide) (fun c_31 => ?_) (fun c_31 => ?_)
              · have tc_31 : 1327 < x.toInt := v_lt c_31
                refine lv_iconst (v := 0) hx hb dX12_sortOf_114 (by decide) ?_
                exact kl_i (v := 0) hQQ hx hb hr hlocks hS dX12_sortOf_115 (fun PZ9 kZ9 => kZ9 (⟨hP, hD⟩) (by decide) (by unfold srt; (repeat (first | rw [if_neg (by omega)] | rw [if_pos (by omega)])) <;> rfl))
              · have tc_31 : x.toInt ≤ 1327 := v_nlt c_31
                refine lv_bipush (v := 7) hx hb dX12_sortOf_109 (by decide) ?_
                refine lv_goto (tgt := 115) hx hb dX12_sortOf_111 (by decide) ?_
                exact kl_i (v := 7) hQQ hx hb hr hlocks hS dX12_sortOf_115 (fun PZ9 kZ9 => kZ9 (⟨hP, hD⟩) (by decide) (by unfold srt; (repeat (first | rw [if_neg (by omega)] | rw [if_pos (by omega)])) <;> rfl))
          · have tc_29 : x.toInt ≤ 591 := v_nlt c_29
            refine lv_iload_n hx hb dX12_sortOf_78 rfl (lv_at hl 0 rfl) ?_
            refine lv_sipush (v := 215) hx hb dX12_sortOf_79 (by decide) ?_
            refine lv_icmp_eq (tgt := 95) hx hb dX12_sortOf_82 (by decide) (fun c_32 => ?_) (fun c_32 => ?_)
            · have tc_32 : x.toInt = 215 := v_eq c_32
              refine lv_iload_n hx hb dX12_sortOf_95 rfl (lv_at hl 0 rfl) ?_
              refine lv_sipush (v := 880) hx hb dX12_sortOf_96 (by decide) ?_
              refine lv_icmp_lt (tgt := 114) hx hb dX12_sortOf_99 (by decide) (fun c_33 => ?_) (fun c_33 => by exfalso; have tc_33 : 880 ≤ x.toInt := v_nlt c_33; omega)
              have tc_33 : x.toInt < 880 := v_lt c_33
              refine lv_iconst (v := 0) hx hb dX12_sortOf_114 (by decide) ?_
              exact kl_i (v := 0) hQQ hx hb hr hlocks hS dX12_sortOf_115 (fun PZ9 kZ9 => kZ9 (⟨hP, hD⟩) (by decide) (by unfold srt; (repeat (first | rw [if_neg (by omega)] | rw [if_pos (by omega)])) <;> rfl))
            · have tc_32 : ¬ x.toInt = 215 := v_ne c_32
              refine lv_iload_n hx hb dX12_sortOf_85 rfl (lv_at hl 0 rfl) ?_
              refine lv_sipush (v := 247) hx hb dX12_sortOf_86 (by decide) ?_
              refine lv_icmp_eq (tgt := 95) hx hb dX12_sortOf_89 (by decide) (fun c_34 => ?_) (fun c_34 => ?_)
              · have tc_34 : x.toInt = 247 := v_eq c_34
                refine lv_iload_n hx hb dX12_sortOf_95 rfl (lv_at hl 0 rfl) ?_
                refine lv_sipush (v := 880) hx hb dX12_sortOf_96 (by decide) ?_
                refine lv_icmp_lt (tgt := 114) hx hb dX12_sortOf_99 (by decide) (fun c_35 => ?_) (fun c_35 => by exfalso; have tc_35 : 880 ≤ x.toInt := v_nlt c_35; omega)
                have tc_35 : x.toInt < 880 := v_lt c_35
                refine lv_iconst (v := 0) hx hb dX12_sortOf_114 (by decide) ?_
                exact kl_i (v := 0) hQQ hx hb hr hlocks hS dX12_sortOf_115 (fun PZ9 kZ9 => kZ9 (⟨hP, hD⟩) (by decide) (by unfold srt; (repeat (first | rw [if_neg (by omega)] | rw [if_pos (by omega)])) <;> rfl))
              · have tc_34 : ¬ x.toInt = 247 := v_ne c_34
                refine lv_bipush (v := 6) hx hb dX12_sortOf_92 (by decide) ?_
                exact kl_i (v := 6) hQQ hx hb hr hlocks hS dX12_sortOf_94 (fun PZ9 kZ9 => kZ9 (⟨hP, hD⟩) (by decide) (by unfold srt; (repeat (first | rw [if_neg (by omega)] | rw [if_pos (by omega)])) <;> rfl))
      · have tc_26 : x.toInt ≤ 126 := v_nlt c_26
        refine lv_iconst (v := 5) hx hb dX12_sortOf_62 (by decide) ?_
        exact kl_i (v := 5) hQQ hx hb hr hlocks hS dX12_sortOf_63 (fun PZ9 kZ9 => kZ9 (⟨hP, hD⟩) (by decide) (by unfold srt; (repeat (first | rw [if_neg (by omega)] | rw [if_pos (by omega)])) <;> rfl))
    · have tc_19 : x.toInt ≤ 122 := v_nlt c_19
      refine lv_iconst (v := 1) hx hb dX12_sortOf_12 (by decide) ?_
      exact kl_i (v := 1) hQQ hx hb hr hlocks hS dX12_sortOf_13 (fun PZ9 kZ9 => kZ9 (⟨hP, hD⟩) (by decide) (by unfold srt; (repeat (first | rw [if_neg (by omega)] | rw [if_pos (by omega)])) <;> rfl))

set_option maxHeartbeats 40000000 in
set_option maxRecDepth 100000 in
theorem f_X3_of (l : Launch) (dC : Nat → ClassId) (dI : Nat → Nat → Nat) (cI cS : ClassId) (sz : Nat) (oK : Nat) (k1 : Nat) (k2 : Nat) (lK : Int32) (fK1 : Nat → Int32) (fK2 : Nat → Int32) (x : Int32) (y : Int32) (g_lK : 0 ≤ lK.toInt ∧ lK.toInt ≤ 300) (g_x : 0 ≤ x.toInt ∧ x.toInt ≤ 65535) (g_y : 0 ≤ y.toInt ∧ y.toInt ≤ 65535) (hT : HT 1024 1023 hsK fK1 fK2) (ho : (occ fK2 1024 : Int) ≤ lK.toInt) (hV : prg 1024 (-1) 200 fK2) : kMi l yX3_of wsX3_of ({ frames := 2, cells := 0, slots := 0, locals := 47 } : Room) [.ref oK, .int x, .int y] sz (dC, dI) vwCl [(cI, .int), (cS, .short)] [(oK, .inr (3, [.ref k1, .ref k2, .int lK])), (k1, .inl (cI, 1024, .inl fK1)), (k2, .inl (cI, 1024, .inl fK2))] (fun _ => True) 0 0 (fun (A : Nat → Prop) (r : Int32) (hh9 : Heap) => ∀ PZ9 : Prop, (kPD (dC, dI) vwCl A [(oK, .inr (3, [.ref k1, .ref k2, .int lK])), (k1, .inl (cI, 1024, .inl fK1)), (k2, .inl (cI, 1024, .inl fK2))] hh9 → (0 ≤ r.toInt ∧ r.toInt ≤ 200) → (r.toInt = cF (tcC fK1 fK2 x y) x y) → PZ9) → PZ9) := by
  refine kMi_of (cc := cX3_of) (maxL := 7) (ret := (some .int)) (lv := [(0, .ref oK), (1, .int x), (2, .int y)]) (by decide +kernel) rfl rfl (Nat.le_of_ble_eq_true rfl) ?_
  intro p e s m below meth c A QQ ls hx hb hr hts hml hown hlocks hA hQQ hK hX hP hD hS hl
  have hown : s.vm.findClass RX3 = some m.cls := hown
  have hcf := k_cf hx hb hml hown hts
  have in_X3 : ∀ w ∈ wsX30, w ∈ wsX3_of := fun _ h => List.mem_cons_of_mem _ (List.mem_append_left _ (List.mem_append_left _ (List.mem_append_right _ (h))))
  refine lv_aload_n hx hb dX3_of_0 rfl (lv_at hl 0 rfl) ?_
  refine va_get (D := (dC, dI)) (ci := 3) (v := .int lK) (C := RX3) (T := TX3) (N := 3) hx hb hts in_X3 hown hK hP 0 rfl rfl 2 (Nat.le_of_ble_eq_true rfl) (hts (.fieldLink RX3 24 "TextMender$Costs" "length" "I") (List.mem_of_getElem? (i := 1) rfl)) (fun _ h9 => h9) rfl dX3_of_1 ?_
  refine lv_if_ne (tgt := 11) hx hb dX3_of_4 (by decide) (fun c_1 => ?_) (fun c_1 => ?_)
  · have tc_1 : ¬ lK.toInt = 0 := v_ne c_1
    refine lv_aload_n hx hb dX3_of_11 rfl (lv_at hl 0 rfl) ?_
    refine lv_iload_n hx hb dX3_of_12 rfl (lv_at hl 1 rfl) ?_
    refine lv_iload_n hx hb dX3_of_13 rfl (lv_at hl 2 rfl) ?_
    refine kV_i (rest := []) (q0 := 0) (ci := 3) hcf (f_X3_placeFor l dC dI cI cS s.heap.size oK k1 k2 lK fK1 fK2 x y (g_lK)) kc_X3_placeFor gX3_of_X3_placeFor rfl rfl rfl ⟨Nat.le_of_ble_eq_true rfl, Nat.le_of_ble_eq_true rfl⟩ kX_t hK hP hD hS hA [0, 1, 2] [] rfl (by decide +kernel) rfl rfl rfl hl rfl (Nat.le_of_ble_eq_true rfl) dX3_of_14 ⟨Nat.le_of_ble_eq_true rfl, Nat.le_of_ble_eq_true rfl⟩ (fun r_2 H locs hB hJ hSn => ?_)
    refine hB _ (fun hPD9 hf2_0 hf2_1 => ?_)
    clear hB
    obtain ⟨hPn, hDn⟩ := hJ _ hPD9.1 hPD9.2 [(oK, .inr (3, [.ref k1, .ref k2, .int lK])), (k1, .inl (cI, 1024, .inl fK1)), (k2, .inl (cI, 1024, .inl fK2))] rfl
    clear hP hD hS hJ hPD9
    have hP := hPn
    have hD := hDn
    have hS := hSn
    clear hPn hDn hSn
    obtain ⟨hpz2, hpf2⟩ := pf_found hf2_1 ho (by omega)
    refine lv_istore_n (lv' := [(3, .int r_2), (0, .ref oK), (1, .int x), (2, .int y)]) hx hb dX3_of_17 rfl hl (by decide) rfl (fun ls hl => ?_)
    refine lv_iload_n hx hb dX3_of_18 rfl (lv_at hl 0 rfl) ?_
    refine lv_iconst (v := (-1)) hx hb dX3_of_19 (by decide) ?_
    refine lv_icmp_eq (tgt := 40) hx hb dX3_of_20 (by decide) (fun c_3 => by exfalso; have tc_3 : r_2.toInt = (-1) := v_eq c_3; omega) (fun c_3 => ?_)
    have tc_3 : ¬ r_2.toInt = (-1) := v_ne c_3
    refine lv_aload_n hx hb dX3_of_23 rfl (lv_at hl 1 rfl) ?_
    refine va_get (D := (dC, dI)) (ci := 3) (v := .ref k2) (C := RX3) (T := TX3) (N := 3) hx hb hts in_X3 hown hK hP 0 rfl rfl 1 (Nat.le_of_ble_eq_true rfl) (hts (.fieldLink RX3 15 "TextMender$Costs" "value" "[I") (List.mem_of_getElem? (i := 2) rfl)) (fun _ h9 => h9) rfl dX3_of_24 ?_
    refine lv_iload_n hx hb dX3_of_27 rfl (lv_at hl 0 rfl) ?_
    refine va_iald hx hb hK hP 2 0 rfl rfl (v_in (by omega)) dX3_of_28 ?_
    refine lv_topi (fun x_4 ex_4 => ?_)
    refine lv_iconst (v := (-1)) hx hb dX3_of_29 (by decide) ?_
    refine lv_icmp_eq (tgt := 40) hx hb dX3_of_30 (by decide) (fun c_5 => ?_) (fun c_5 => ?_)
    · have tc_5 : x_4.toInt = (-1) := v_eq c_5
      refine lv_iload_n hx hb dX3_of_40 rfl (lv_at hl 2 rfl) ?_
      refine kS_i (rest := []) hcf (f_X3_sortOf l dC dI cI cS H.size x ) kc_X3_sortOf gX3_of_X3_sortOf rfl rfl ⟨Nat.le_of_ble_eq_true rfl, Nat.le_of_ble_eq_true rfl⟩ kX_t hK hP hD hS hA [] [0, 1, 2] rfl (by decide +kernel) rfl hl rfl (Nat.le_of_ble_eq_true rfl) dX3_of_41 ⟨Nat.le_of_ble_eq_true rfl, Nat.le_of_ble_eq_true rfl⟩ (fun r_6 H locs hB hJ hSn => ?_)
      refine hB _ (fun hPD9 hf6_0 hf6_1 => ?_)
      clear hB
      obtain ⟨hPn, hDn⟩ := hJ _ hPD9.1 hPD9.2 [(oK, .inr (3, [.ref k1, .ref k2, .int lK])), (k1, .inl (cI, 1024, .inl fK1)), (k2, .inl (cI, 1024, .inl fK2))] rfl
      clear hP hD hS hJ hPD9
      have hP := hPn
      have hD := hDn
      have hS := hSn
      clear hPn hDn hSn
      refine lv_istore (lv' := [(4, .int r_6), (3, .int r_2), (0, .ref oK), (1, .int x), (2, .int y)]) hx hb dX3_of_44 hl (by decide) rfl (fun ls hl => ?_)
      refine lv_iload_n hx hb dX3_of_46 rfl (lv_at hl 4 rfl) ?_
      refine kS_i (rest := []) hcf (f_X3_sortOf l dC dI cI cS H.size y ) kc_X3_sortOf gX3_of_X3_sortOf rfl rfl ⟨Nat.le_of_ble_eq_true rfl, Nat.le_of_ble_eq_true rfl⟩ kX_t hK hP hD hS hA [] [0, 1, 2] rfl (by decide +kernel) rfl hl rfl (Nat.le_of_ble_eq_true rfl) dX3_of_47 ⟨Nat.le_of_ble_eq_true rfl, Nat.le_of_ble_eq_true rfl⟩ (fun r_7 H locs hB hJ hSn => ?_)
      refine hB _ (fun hPD9 hf7_0 hf7_1 => ?_)
      clear hB
      obtain ⟨hPn, hDn⟩ := hJ _ hPD9.1 hPD9.2 [(oK, .inr (3, [.ref k1, .ref k2, .int lK])), (k1, .inl (cI, 1024, .inl fK1)), (k2, .inl (cI, 1024, .inl fK2))] rfl
      clear hP hD hS hJ hPD9
      have hP := hPn
      have hD := hDn
      have hS := hSn
      clear hPn hDn hSn
      refine lv_istore (lv' := [(5, .int r_7), (4, .int r_6), (3, .int r_2), (0, .ref oK), (1, .int x), (2, .int y)]) hx hb dX3_of_50 hl (by decide) rfl (fun ls hl => ?_)
      refine lv_iload hx hb dX3_of_52 (lv_at hl 1 rfl) ?_
      refine lv_iload hx hb dX3_of_54 (lv_at hl 0 rfl) ?_
      refine lv_icmp_ne (tgt := 63) hx hb dX3_of_56 (by decide) (fun c_8 => ?_) (fun c_8 => ?_)
      · have tc_8 : ¬ r_6.toInt = r_7.toInt := v_ne c_8
        refine lv_bipush (v := 9) hx hb dX3_of_63 (by decide) ?_
        refine lv_istore (lv' := [(6, .int 9), (5, .int r_7), (4, .int r_6), (3, .int r_2), (0, .ref oK), (1, .int x), (2, .int y)]) hx hb dX3_of_65 hl (by decide) rfl (fun ls hl => ?_)
        refine lv_iload hx hb dX3_of_67 (lv_at hl 0 rfl) ?_
        refine lv_iload hx hb dX3_of_69 (lv_at hl 2 rfl) ?_
        refine lv_if_ne (tgt := 79) hx hb dX3_of_71 (by decide) (fun c_9 => ?_) (fun c_9 => ?_)
        · have tc_9 : ¬ r_6.toInt = 0 := v_ne c_9
          refine lv_iconst (v := 0) hx hb dX3_of_79 (by decide) ?_
          refine lv_iadd hx hb dX3_of_80 ?_
          refine k_i (y := 9) (by decide) ?_
          refine lv_istore (lv' := [(6, .int 9), (5, .int r_7), (4, .int r_6), (3, .int r_2), (0, .ref oK), (1, .int x), (2, .int y)]) hx hb dX3_of_81 hl (by decide) rfl (fun ls hl => ?_)
          refine lv_iload hx hb dX3_of_83 (lv_at hl 0 rfl) ?_
          refine lv_iload hx hb dX3_of_85 (lv_at hl 1 rfl) ?_
          refine lv_if_ne (tgt := 95) hx hb dX3_of_87 (by decide) (fun c_10 => ?_) (fun c_10 => ?_)
          · have tc_10 : ¬ r_7.toInt = 0 := v_ne c_10
            refine lv_iconst (v := 0) hx hb dX3_of_95 (by decide) ?_
            refine lv_iadd hx hb dX3_of_96 ?_
            refine k_i (y := 9) (by decide) ?_
            exact kl_i (v := 9) hQQ hx hb hr hlocks hS dX3_of_97 (fun PZ9 kZ9 => kZ9 (⟨hP, hD⟩) (by decide) (by first | (exfalso; omega) | (rw [tc_free hT hpf2 (by rw [← ex_4]; exact c_5)]; unfold cF sC; rw [if_pos rfl, ← hf6_1, ← hf7_1]; (repeat (first | rw [if_neg (by omega)] | rw [if_pos (by omega)])) <;> rfl)))
          · have tc_10 : r_7.toInt = 0 := v_eq c_10
            refine lv_bipush (v := 30) hx hb dX3_of_90 (by decide) ?_
            refine lv_goto (tgt := 96) hx hb dX3_of_92 (by decide) ?_
            refine lv_iadd hx hb dX3_of_96 ?_
            refine k_i (y := 39) (by decide) ?_
            exact kl_i (v := 39) hQQ hx hb hr hlocks hS dX3_of_97 (fun PZ9 kZ9 => kZ9 (⟨hP, hD⟩) (by decide) (by first | (exfalso; omega) | (rw [tc_free hT hpf2 (by rw [← ex_4]; exact c_5)]; unfold cF sC; rw [if_pos rfl, ← hf6_1, ← hf7_1]; (repeat (first | rw [if_neg (by omega)] | rw [if_pos (by omega)])) <;> rfl)))
        · have tc_9 : r_6.toInt = 0 := v_eq c_9
          refine lv_bipush (v := 30) hx hb dX3_of_74 (by decide) ?_
          refine lv_goto (tgt := 80) hx hb dX3_of_76 (by decide) ?_
          refine lv_iadd hx hb dX3_of_80 ?_
          refine k_i (y := 39) (by decide) ?_
          refine lv_istore (lv' := [(6, .int 39), (5, .int r_7), (4, .int r_6), (3, .int r_2), (0, .ref oK), (1, .int x), (2, .int y)]) hx hb dX3_of_81 hl (by decide) rfl (fun ls hl => ?_)
          refine lv_iload hx hb dX3_of_83 (lv_at hl 0 rfl) ?_
          refine lv_iload hx hb dX3_of_85 (lv_at hl 1 rfl) ?_
          refine lv_if_ne (tgt := 95) hx hb dX3_of_87 (by decide) (fun c_11 => ?_) (fun c_11 => ?_)
          · have tc_11 : ¬ r_7.toInt = 0 := v_ne c_11
            refine lv_iconst (v := 0) hx hb dX3_of_95 (by decide) ?_
            refine lv_iadd hx hb dX3_of_96 ?_
            refine k_i (y := 39) (by decide) ?_
            exact kl_i (v := 39) hQQ hx hb hr hlocks hS dX3_of_97 (fun PZ9 kZ9 => kZ9 (⟨hP, hD⟩) (by decide) (by first | (exfalso; omega) | (rw [tc_free hT hpf2 (by rw [← ex_4]; exact c_5)]; unfold cF sC; rw [if_pos rfl, ← hf6_1, ← hf7_1]; (repeat (first | rw [if_neg (by omega)] | rw [if_pos (by omega)])) <;> rfl)))
          · have tc_11 : r_7.toInt = 0 := v_eq c_11
            refine lv_bipush (v := 30) hx hb dX3_of_90 (by decide) ?_
            refine lv_goto (tgt := 96) hx hb dX3_of_92 (by decide) ?_
            refine lv_iadd hx hb dX3_of_96 ?_
            refine k_i (y := 69) (by decide) ?_
            exact kl_i (v := 69) hQQ hx hb hr hlocks hS dX3_of_97 (fun PZ9 kZ9 => kZ9 (⟨hP, hD⟩) (by decide) (by first | (exfalso; omega) | (rw [tc_free hT hpf2 (by rw [← ex_4]; exact c_5)]; unfold cF sC; rw [if_pos rfl, ← hf6_1, ← hf7_1]; (repeat (first | rw [if_neg (by omega)] | rw [if_pos (by omega)])) <;> rfl)))
      · have tc_8 : r_6.toInt = r_7.toInt := v_eq c_8
        refine lv_iconst (v := 4) hx hb dX3_of_59 (by decide) ?_
        refine lv_goto (tgt := 65) hx hb dX3_of_60 (by decide) ?_
        refine lv_istore (lv' := [(6, .int 4), (5, .int r_7), (4, .int r_6), (3, .int r_2), (0, .ref oK), (1, .int x), (2, .int y)]) hx hb dX3_of_65 hl (by decide) rfl (fun ls hl => ?_)
        refine lv_iload hx hb dX3_of_67 (lv_at hl 0 rfl) ?_
        refine lv_iload hx hb dX3_of_69 (lv_at hl 2 rfl) ?_
        refine lv_if_ne (tgt := 79) hx hb dX3_of_71 (by decide) (fun c_12 => ?_) (fun c_12 => ?_)
        · have tc_12 : ¬ r_6.toInt = 0 := v_ne c_12
          refine lv_iconst (v := 0) hx hb dX3_of_79 (by decide) ?_
          refine lv_iadd hx hb dX3_of_80 ?_
          refine k_i (y := 4) (by decide) ?_
          refine lv_istore (lv' := [(6, .int 4), (5, .int r_7), (4, .int r_6), (3, .int r_2), (0, .ref oK), (1, .int x), (2, .int y)]) hx hb dX3_of_81 hl (by decide) rfl (fun ls hl => ?_)
          refine lv_iload hx hb dX3_of_83 (lv_at hl 0 rfl) ?_
          refine lv_iload hx hb dX3_of_85 (lv_at hl 1 rfl) ?_
          refine lv_if_ne (tgt := 95) hx hb dX3_of_87 (by decide) (fun c_13 => ?_) (fun c_13 => ?_)
          · have tc_13 : ¬ r_7.toInt = 0 := v_ne c_13
            refine lv_iconst (v := 0) hx hb dX3_of_95 (by decide) ?_
            refine lv_iadd hx hb dX3_of_96 ?_
            refine k_i (y := 4) (by decide) ?_
            exact kl_i (v := 4) hQQ hx hb hr hlocks hS dX3_of_97 (fun PZ9 kZ9 => kZ9 (⟨hP, hD⟩) (by decide) (by first | (exfalso; omega) | (rw [tc_free hT hpf2 (by rw [← ex_4]; exact c_5)]; unfold cF sC; rw [if_pos rfl, ← hf6_1, ← hf7_1]; (repeat (first | rw [if_neg (by omega)] | rw [if_pos (by omega)])) <;> rfl)))
          · have tc_13 : r_7.toInt = 0 := v_eq c_13
            refine lv_bipush (v := 30) hx hb dX3_of_90 (by decide) ?_
            refine lv_goto (tgt := 96) hx hb dX3_of_92 (by decide) ?_
            refine lv_iadd hx hb dX3_of_96 ?_
            refine k_i (y := 34) (by decide) ?_
            exact kl_i (v := 34) hQQ hx hb hr hlocks hS dX3_of_97 (fun PZ9 kZ9 => kZ9 (⟨hP, hD⟩) (by decide) (by first | (exfalso; omega) | (rw [tc_free hT hpf2 (by rw [← ex_4]; exact c_5)]; unfold cF sC; rw [if_pos rfl, ← hf6_1, ← hf7_1]; (repeat (first | rw [if_neg (by omega)] | rw [if_pos (by omega)])) <;> rfl)))
        · have tc_12 : r_6.toInt = 0 := v_eq c_12
          refine lv_bipush (v := 30) hx hb dX3_of_74 (by decide) ?_
          refine lv_goto (tgt := 80) hx hb dX3_of_76 (by decide) ?_
          refine lv_iadd hx hb dX3_of_80 ?_
          refine k_i (y := 34) (by decide) ?_
          refine lv_istore (lv' := [(6, .int 34), (5, .int r_7), (4, .int r_6), (3, .int r_2), (0, .ref oK), (1, .int x), (2, .int y)]) hx hb dX3_of_81 hl (by decide) rfl (fun ls hl => ?_)
          refine lv_iload hx hb dX3_of_83 (lv_at hl 0 rfl) ?_
          refine lv_iload hx hb dX3_of_85 (lv_at hl 1 rfl) ?_
          refine lv_if_ne (tgt := 95) hx hb dX3_of_87 (by decide) (fun c_14 => ?_) (fun c_14 => ?_)
          · have tc_14 : ¬ r_7.toInt = 0 := v_ne c_14
            refine lv_iconst (v := 0) hx hb dX3_of_95 (by decide) ?_
            refine lv_iadd hx hb dX3_of_96 ?_
            refine k_i (y := 34) (by decide) ?_
            exact kl_i (v := 34) hQQ hx hb hr hlocks hS dX3_of_97 (fun PZ9 kZ9 => kZ9 (⟨hP, hD⟩) (by decide) (by first | (exfalso; omega) | (rw [tc_free hT hpf2 (by rw [← ex_4]; exact c_5)]; unfold cF sC; rw [if_pos rfl, ← hf6_1, ← hf7_1]; (repeat (first | rw [if_neg (by omega)] | rw [if_pos (by omega)])) <;> rfl)))
          · have tc_14 : r_7.toInt = 0 := v_eq c_14
            refine lv_bipush (v := 30) hx hb dX3_of_90 (by decide) ?_
            refine lv_goto (tgt := 96) hx hb dX3_of_92 (by decide) ?_
            refine lv_iadd hx hb dX3_of_96 ?_
            refine k_i (y := 64) (by decide) ?_
            exact kl_i (v := 64) hQQ hx hb hr hlocks hS dX3_of_97 (fun PZ9 kZ9 => kZ9 (⟨hP, hD⟩) (by decide) (by first | (exfalso; omega) | (rw [tc_free hT hpf2 (by rw [← ex_4]; exact c_5)]; unfold cF sC; rw [if_pos rfl, ← hf6_1, ← hf7_1]; (repeat (first | rw [if_neg (by omega)] | rw [if_pos (by omega)])) <;> rfl)))
    · have tc_5 : ¬ x_4.toInt = (-1) := v_ne c_5
      have hvr : -1 ≤ x_4.toInt ∧ x_4.toInt ≤ 200 := prg_at hV ex_4 (by omega) (by omega)
      refine lv_aload_n hx hb dX3_of_33 rfl (lv_at hl 1 rfl) ?_
      refine va_get (D := (dC, dI)) (ci := 3) (v := .ref k2) (C := RX3) (T := TX3) (N := 3) hx hb hts in_X3 hown hK hP 0 rfl rfl 1 (Nat.le_of_ble_eq_true rfl) (hts (.fieldLink RX3 15 "TextMender$Costs" "value" "[I") (List.mem_of_getElem? (i := 2) rfl)) (fun _ h9 => h9) rfl dX3_of_34 ?_
      refine lv_iload_n hx hb dX3_of_37 rfl (lv_at hl 0 rfl) ?_
      refine va_iald hx hb hK hP 2 0 rfl rfl (v_in (by omega)) dX3_of_38 ?_
      refine k_i (y := x_4) ex_4.symm ?_
      exact kl_i (v := x_4) hQQ hx hb hr hlocks hS dX3_of_39 (fun PZ9 kZ9 => kZ9 (⟨hP, hD⟩) (by omega) (by rw [tc_told hT hpf2 (by omega) (by omega) ex_4 c_5]; unfold cF; rw [if_neg c_5]))
  · have tc_1 : lK.toInt = 0 := v_eq c_1
    refine lv_iconst (v := (-1)) hx hb dX3_of_7 (by decide) ?_
    refine lv_goto (tgt := 17) hx hb dX3_of_8 (by decide) ?_
    refine lv_istore_n (lv' := [(3, .int (-1)), (0, .ref oK), (1, .int x), (2, .int y)]) hx hb dX3_of_17 rfl hl (by decide) rfl (fun ls hl => ?_)
    refine lv_iload_n hx hb dX3_of_18 rfl (lv_at hl 0 rfl) ?_
    refine lv_iconst (v := (-1)) hx hb dX3_of_19 (by decide) ?_
    refine lv_icmp_eq (tgt := 40) hx hb dX3_of_20 (by decide) (fun c_15 => ?_) (fun c_15 => absurd c_15 (by decide))
    refine lv_iload_n hx hb dX3_of_40 rfl (lv_at hl 2 rfl) ?_
    refine kS_i (rest := []) hcf (f_X3_sortOf l dC dI cI cS s.heap.size x ) kc_X3_sortOf gX3_of_X3_sortOf rfl rfl ⟨Nat.le_of_ble_eq_true rfl, Nat.le_of_ble_eq_true rfl⟩ kX_t hK hP hD hS hA [] [0, 1, 2] rfl (by decide +kernel) rfl hl rfl (Nat.le_of_ble_eq_true rfl) dX3_of_41 ⟨Nat.le_of_ble_eq_true rfl, Nat.le_of_ble_eq_true rfl⟩ (fun r_16 H locs hB hJ hSn => ?_)
    refine hB _ (fun hPD9 hf16_0 hf16_1 => ?_)
    clear hB
    obtain ⟨hPn, hDn⟩ := hJ _ hPD9.1 hPD9.2 [(oK, .inr (3, [.ref k1, .ref k2, .int lK])), (k1, .inl (cI, 1024, .inl fK1)), (k2, .inl (cI, 1024, .inl fK2))] rfl
    clear hP hD hS hJ hPD9
    have hP := hPn
    have hD := hDn
    have hS := hSn
    clear hPn hDn hSn
    refine lv_istore (lv' := [(4, .int r_16), (3, .int (-1)), (0, .ref oK), (1, .int x), (2, .int y)]) hx hb dX3_of_44 hl (by decide) rfl (fun ls hl => ?_)
    refine lv_iload_n hx hb dX3_of_46 rfl (lv_at hl 4 rfl) ?_
    refine kS_i (rest := []) hcf (f_X3_sortOf l dC dI cI cS H.size y ) kc_X3_sortOf gX3_of_X3_sortOf rfl rfl ⟨Nat.le_of_ble_eq_true rfl, Nat.le_of_ble_eq_true rfl⟩ kX_t hK hP hD hS hA [] [0, 1, 2] rfl (by decide +kernel) rfl hl rfl (Nat.le_of_ble_eq_true rfl) dX3_of_47 ⟨Nat.le_of_ble_eq_true rfl, Nat.le_of_ble_eq_true rfl⟩ (fun r_17 H locs hB hJ hSn => ?_)
    refine hB _ (fun hPD9 hf17_0 hf17_1 => ?_)
    clear hB
    obtain ⟨hPn, hDn⟩ := hJ _ hPD9.1 hPD9.2 [(oK, .inr (3, [.ref k1, .ref k2, .int lK])), (k1, .inl (cI, 1024, .inl fK1)), (k2, .inl (cI, 1024, .inl fK2))] rfl
    clear hP hD hS hJ hPD9
    have hP := hPn
    have hD := hDn
    have hS := hSn
    clear hPn hDn hSn
    refine lv_istore (lv' := [(5, .int r_17), (4, .int r_16), (3, .int (-1)), (0, .ref oK), (1, .int x), (2, .int y)]) hx hb dX3_of_50 hl (by decide) rfl (fun ls hl => ?_)
    refine lv_iload hx hb dX3_of_52 (lv_at hl 1 rfl) ?_
    refine lv_iload hx hb dX3_of_54 (lv_at hl 0 rfl) ?_
    refine lv_icmp_ne (tgt := 63) hx hb dX3_of_56 (by decide) (fun c_18 => ?_) (fun c_18 => ?_)
    · have tc_18 : ¬ r_16.toInt = r_17.toInt := v_ne c_18
      refine lv_bipush (v := 9) hx hb dX3_of_63 (by decide) ?_
      refine lv_istore (lv' := [(6, .int 9), (5, .int r_17), (4, .int r_16), (3, .int (-1)), (0, .ref oK), (1, .int x), (2, .int y)]) hx hb dX3_of_65 hl (by decide) rfl (fun ls hl => ?_)
      refine lv_iload hx hb dX3_of_67 (lv_at hl 0 rfl) ?_
      refine lv_iload hx hb dX3_of_69 (lv_at hl 2 rfl) ?_
      refine lv_if_ne (tgt := 79) hx hb dX3_of_71 (by decide) (fun c_19 => ?_) (fun c_19 => ?_)
      · have tc_19 : ¬ r_16.toInt = 0 := v_ne c_19
        refine lv_iconst (v := 0) hx hb dX3_of_79 (by decide) ?_
        refine lv_iadd hx hb dX3_of_80 ?_
        refine k_i (y := 9) (by decide) ?_
        refine lv_istore (lv' := [(6, .int 9), (5, .int r_17), (4, .int r_16), (3, .int (-1)), (0, .ref oK), (1, .int x), (2, .int y)]) hx hb dX3_of_81 hl (by decide) rfl (fun ls hl => ?_)
        refine lv_iload hx hb dX3_of_83 (lv_at hl 0 rfl) ?_
        refine lv_iload hx hb dX3_of_85 (lv_at hl 1 rfl) ?_
        refine lv_if_ne (tgt := 95) hx hb dX3_of_87 (by decide) (fun c_20 => ?_) (fun c_20 => ?_)
        · have tc_20 : ¬ r_17.toInt = 0 := v_ne c_20
          refine lv_iconst (v := 0) hx hb dX3_of_95 (by decide) ?_
          refine lv_iadd hx hb dX3_of_96 ?_
          refine k_i (y := 9) (by decide) ?_
          exact kl_i (v := 9) hQQ hx hb hr hlocks hS dX3_of_97 (fun PZ9 kZ9 => kZ9 (⟨hP, hD⟩) (by decide) (by first | (exfalso; omega) | (rw [tc_empty ho (by omega)]; unfold cF sC; rw [if_pos rfl, ← hf16_1, ← hf17_1]; (repeat (first | rw [if_neg (by omega)] | rw [if_pos (by omega)])) <;> rfl)))
        · have tc_20 : r_17.toInt = 0 := v_eq c_20
          refine lv_bipush (v := 30) hx hb dX3_of_90 (by decide) ?_
          refine lv_goto (tgt := 96) hx hb dX3_of_92 (by decide) ?_
          refine lv_iadd hx hb dX3_of_96 ?_
          refine k_i (y := 39) (by decide) ?_
          exact kl_i (v := 39) hQQ hx hb hr hlocks hS dX3_of_97 (fun PZ9 kZ9 => kZ9 (⟨hP, hD⟩) (by decide) (by first | (exfalso; omega) | (rw [tc_empty ho (by omega)]; unfold cF sC; rw [if_pos rfl, ← hf16_1, ← hf17_1]; (repeat (first | rw [if_neg (by omega)] | rw [if_pos (by omega)])) <;> rfl)))
      · have tc_19 : r_16.toInt = 0 := v_eq c_19
        refine lv_bipush (v := 30) hx hb dX3_of_74 (by decide) ?_
        refine lv_goto (tgt := 80) hx hb dX3_of_76 (by decide) ?_
        refine lv_iadd hx hb dX3_of_80 ?_
        refine k_i (y := 39) (by decide) ?_
        refine lv_istore (lv' := [(6, .int 39), (5, .int r_17), (4, .int r_16), (3, .int (-1)), (0, .ref oK), (1, .int x), (2, .int y)]) hx hb dX3_of_81 hl (by decide) rfl (fun ls hl => ?_)
        refine lv_iload hx hb dX3_of_83 (lv_at hl 0 rfl) ?_
        refine lv_iload hx hb dX3_of_85 (lv_at hl 1 rfl) ?_
        refine lv_if_ne (tgt := 95) hx hb dX3_of_87 (by decide) (fun c_21 => ?_) (fun c_21 => ?_)
        · have tc_21 : ¬ r_17.toInt = 0 := v_ne c_21
          refine lv_iconst (v := 0) hx hb dX3_of_95 (by decide) ?_
          refine lv_iadd hx hb dX3_of_96 ?_
          refine k_i (y := 39) (by decide) ?_
          exact kl_i (v := 39) hQQ hx hb hr hlocks hS dX3_of_97 (fun PZ9 kZ9 => kZ9 (⟨hP, hD⟩) (by decide) (by first | (exfalso; omega) | (rw [tc_empty ho (by omega)]; unfold cF sC; rw [if_pos rfl, ← hf16_1, ← hf17_1]; (repeat (first | rw [if_neg (by omega)] | rw [if_pos (by omega)])) <;> rfl)))
        · have tc_21 : r_17.toInt = 0 := v_eq c_21
          refine lv_bipush (v := 30) hx hb dX3_of_90 (by decide) ?_
          refine lv_goto (tgt := 96) hx hb dX3_of_92 (by decide) ?_
          refine lv_iadd hx hb dX3_of_96 ?_
          refine k_i (y := 69) (by decide) ?_
          exact kl_i (v := 69) hQQ hx hb hr hlocks hS dX3_of_97 (fun PZ9 kZ9 => kZ9 (⟨hP, hD⟩) (by decide) (by first | (exfalso; omega) | (rw [tc_empty ho (by omega)]; unfold cF sC; rw [if_pos rfl, ← hf16_1, ← hf17_1]; (repeat (first | rw [if_neg (by omega)] | rw [if_pos (by omega)])) <;> rfl)))
    · have tc_18 : r_16.toInt = r_17.toInt := v_eq c_18
      refine lv_iconst (v := 4) hx hb dX3_of_59 (by decide) ?_
      refine lv_goto (tgt := 65) hx hb dX3_of_60 (by decide) ?_
      refine lv_istore (lv' := [(6, .int 4), (5, .int r_17), (4, .int r_16), (3, .int (-1)), (0, .ref oK), (1, .int x), (2, .int y)]) hx hb dX3_of_65 hl (by decide) rfl (fun ls hl => ?_)
      refine lv_iload hx hb dX3_of_67 (lv_at hl 0 rfl) ?_
      refine lv_iload hx hb dX3_of_69 (lv_at hl 2 rfl) ?_
      refine lv_if_ne (tgt := 79) hx hb dX3_of_71 (by decide) (fun c_22 => ?_) (fun c_22 => ?_)
      · have tc_22 : ¬ r_16.toInt = 0 := v_ne c_22
        refine lv_iconst (v := 0) hx hb dX3_of_79 (by decide) ?_
        refine lv_iadd hx hb dX3_of_80 ?_
        refine k_i (y := 4) (by decide) ?_
        refine lv_istore (lv' := [(6, .int 4), (5, .int r_17), (4, .int r_16), (3, .int (-1)), (0, .ref oK), (1, .int x), (2, .int y)]) hx hb dX3_of_81 hl (by decide) rfl (fun ls hl => ?_)
        refine lv_iload hx hb dX3_of_83 (lv_at hl 0 rfl) ?_
        refine lv_iload hx hb dX3_of_85 (lv_at hl 1 rfl) ?_
        refine lv_if_ne (tgt := 95) hx hb dX3_of_87 (by decide) (fun c_23 => ?_) (fun c_23 => ?_)
        · have tc_23 : ¬ r_17.toInt = 0 := v_ne c_23
          refine lv_iconst (v := 0) hx hb dX3_of_95 (by decide) ?_
          refine lv_iadd hx hb dX3_of_96 ?_
          refine k_i (y := 4) (by decide) ?_
          exact kl_i (v := 4) hQQ hx hb hr hlocks hS dX3_of_97 (fun PZ9 kZ9 => kZ9 (⟨hP, hD⟩) (by decide) (by first | (exfalso; omega) | (rw [tc_empty ho (by omega)]; unfold cF sC; rw [if_pos rfl, ← hf16_1, ← hf17_1]; (repeat (first | rw [if_neg (by omega)] | rw [if_pos (by omega)])) <;> rfl)))
        · have tc_23 : r_17.toInt = 0 := v_eq c_23
          refine lv_bipush (v := 30) hx hb dX3_of_90 (by decide) ?_
          refine lv_goto (tgt := 96) hx hb dX3_of_92 (by decide) ?_
          refine lv_iadd hx hb dX3_of_96 ?_
          refine k_i (y := 34) (by decide) ?_
          exact kl_i (v := 34) hQQ hx hb hr hlocks hS dX3_of_97 (fun PZ9 kZ9 => kZ9 (⟨hP, hD⟩) (by decide) (by first | (exfalso; omega) | (rw [tc_empty ho (by omega)]; unfold cF sC; rw [if_pos rfl, ← hf16_1, ← hf17_1]; (repeat (first | rw [if_neg (by omega)] | rw [if_pos (by omega)])) <;> rfl)))
      · have tc_22 : r_16.toInt = 0 := v_eq c_22
        refine lv_bipush (v := 30) hx hb dX3_of_74 (by decide) ?_
        refine lv_goto (tgt := 80) hx hb dX3_of_76 (by decide) ?_
        refine lv_iadd hx hb dX3_of_80 ?_
        refine k_i (y := 34) (by decide) ?_
        refine lv_istore (lv' := [(6, .int 34), (5, .int r_17), (4, .int r_16), (3, .int (-1)), (0, .ref oK), (1, .int x), (2, .int y)]) hx hb dX3_of_81 hl (by decide) rfl (fun ls hl => ?_)
        refine lv_iload hx hb dX3_of_83 (lv_at hl 0 rfl) ?_
        refine lv_iload hx hb dX3_of_85 (lv_at hl 1 rfl) ?_
        refine lv_if_ne (tgt := 95) hx hb dX3_of_87 (by decide) (fun c_24 => ?_) (fun c_24 => ?_)
        · have tc_24 : ¬ r_17.toInt = 0 := v_ne c_24
          refine lv_iconst (v := 0) hx hb dX3_of_95 (by decide) ?_
          refine lv_iadd hx hb dX3_of_96 ?_
          refine k_i (y := 34) (by decide) ?_
          exact kl_i (v := 34) hQQ hx hb hr hlocks hS dX3_of_97 (fun PZ9 kZ9 => kZ9 (⟨hP, hD⟩) (by decide) (by first | (exfalso; omega) | (rw [tc_empty ho (by omega)]; unfold cF sC; rw [if_pos rfl, ← hf16_1, ← hf17_1]; (repeat (first | rw [if_neg (by omega)] | rw [if_pos (by omega)])) <;> rfl)))
        · have tc_24 : r_17.toInt = 0 := v_eq c_24
          refine lv_bipush (v := 30) hx hb dX3_of_90 (by decide) ?_
          refine lv_goto (tgt := 96) hx hb dX3_of_92 (by decide) ?_
          refine lv_iadd hx hb dX3_of_96 ?_
          refine k_i (y := 64) (by decide) ?_
          exact kl_i (v := 64) hQQ hx hb hr hlocks hS dX3_of_97 (fun PZ9 kZ9 => kZ9 (⟨hP, hD⟩) (by decide) (by first | (exfalso; omega) | (rw [tc_empty ho (by omega)]; unfold cF sC; rw [if_pos rfl, ← hf16_1, ← hf17_1]; (repeat (first | rw [if_neg (by omega)] | rw [if_pos (by omega)])) <;> rfl)))

set_option maxHeartbeats 40000000 in
set_option maxRecDepth 100000 in
theorem f_X3_ofText (l : Launch) (dC : Nat → ClassId) (dI : Nat → Nat → Nat) (cI cS : ClassId) (sz : Nat) (oK : Nat) (nx : Nat) (k1 : Nat) (k2 : Nat) (ax : Nat) (lK : Int32) (fK1 : Nat → Int32) (fK2 : Nat → Int32) (lx : Int32) (fx : Nat → Int32) (g_lK : 0 ≤ lK.toInt ∧ lK.toInt ≤ 300) (g_lx : 0 ≤ lx.toInt ∧ lx.toInt ≤ 300) (hT : HT 1024 1023 hsK fK1 fK2) (ho : (occ fK2 1024 : Int) ≤ lK.toInt) (hV : prg 1024 (-1) 200 fK2) (hlt : prg lx.toInt 0 65535 fx) : kMi l yX3_ofText wsX3_ofText ({ frames := 3, cells := 0, slots := 0, locals := 73 } : Room) [.ref oK, .ref nx] sz (dC, dI) vwCl [(cI, .int), (cS, .short)] [(oK, .inr (3, [.ref k1, .ref k2, .int lK])), (k1, .inl (cI, 1024, .inl fK1)), (k2, .inl (cI, 1024, .inl fK2)), (nx, .inr (5, [.ref ax, .int lx])), (ax, .inl (cI, 300, .inl fx))] (fun _ => True) 0 0 (fun (A : Nat → Prop) (r : Int32) (hh9 : Heap) => ∀ PZ9 : Prop, (kPD (dC, dI) vwCl A [(oK, .inr (3, [.ref k1, .ref k2, .int lK])), (k1, .inl (cI, 1024, .inl fK1)), (k2, .inl (cI, 1024, .inl fK2)), (nx, .inr (5, [.ref ax, .int lx])), (ax, .inl (cI, 300, .inl fx))] hh9 → (0 ≤ r.toInt ∧ r.toInt ≤ 61000) → (r.toInt = cT (tcC fK1 fK2) lx.toInt fx) → PZ9) → PZ9) := by
  refine kMi_of (cc := cX3_ofText) (maxL := 6) (ret := (some .int)) (lv := [(0, .ref oK), (1, .ref nx)]) (by decide +kernel) rfl rfl (Nat.le_of_ble_eq_true rfl) ?_
  intro p e s m below meth c A QQ ls hx hb hr hts hml hown hlocks hA hQQ hK hX hP hD hS hl
  have hown : s.vm.findClass RX3 = some m.cls := hown
  have hcf := k_cf hx hb hml hown hts
  refine lv_iconst (v := 0) hx hb dX3_ofText_0 (by decide) ?_
  refine lv_istore_n (lv' := [(2, .int 0), (0, .ref oK), (1, .ref nx)]) hx hb dX3_ofText_1 rfl hl (by decide) rfl (fun ls hl => ?_)
  refine lv_bipush (v := 32) hx hb dX3_ofText_2 (by decide) ?_
  refine lv_istore_n (lv' := [(3, .int 32), (2, .int 0), (0, .ref oK), (1, .ref nx)]) hx hb dX3_ofText_4 rfl hl (by decide) rfl (fun ls hl => ?_)
  refine lv_iconst (v := 0) hx hb dX3_ofText_5 (by decide) ?_
  refine lv_istore (lv' := [(4, .int 0), (3, .int 32), (2, .int 0), (0, .ref oK), (1, .ref nx)]) hx hb dX3_ofText_6 hl (by decide) rfl (fun ls hl => ?_)
  have LOOP_8 : ∀ (k_8 : Nat) (su : Int32) (be : Int32) (i : Int32) (H : Heap) (locs : List Loc) (ls : Array Slot), MSd (lx.toInt - i.toInt : Int) k_8 → (0 ≤ su.toInt ∧ su.toInt ≤ 60200) → (0 ≤ be.toInt ∧ be.toInt ≤ 65535) → (0 ≤ i.toInt ∧ i.toInt ≤ 300) → (i.toInt ≤ lx.toInt) → (su.toInt ≤ 200 * i.toInt) → (su.toInt = cs (tcC fK1 fK2) fx i.toNatClampNeg) → (be = pv fx i.toNatClampNeg) → va_P (dC, dI) vwCl [(oK, .inr (3, [.ref k1, .ref k2, .int lK])), (k1, .inl (cI, 1024, .inl fK1)), (k2, .inl (cI, 1024, .inl fK2)), (nx, .inr (5, [.ref ax, .int lx])), (ax, .inl (cI, 300, .inl fx))] H → va_D A [(oK, .inr (3, [.ref k1, .ref k2, .int lK])), (k1, .inl (cI, 1024, .inl fK1)), (k2, .inl (cI, 1024, .inl fK2)), (nx, .inr (5, [.ref ax, .int lx])), (ax, .inl (cI, 300, .inl fx))] → va_S A s.heap H locs → lv_has ls 6 [(4, .int i), (3, .int be), (2, .int su), (0, .ref oK), (1, .ref nx)] → W p l e (headSpec wsX3_ofText ({ frames := 3, cells := 0, slots := 0, locals := 73 } : Room)).room s m ([.ref oK, .ref nx] : List Value).toArray below meth c H locs 0 0 (MQ below QQ ([.ref oK, .ref nx] : List Value).toArray s 0 0 A) (F0 m 8 ls []) := by
    clear hP hD hS hl
    intro k_8
    induction k_8 with
    | zero =>
      intro su be i H locs ls hm_8 g_su g_be g_i hil hs2 hsu hbe hP hD hS hl
      exact ms_0 hm_8
    | succ k_8 ih_8 =>
      intro su be i H locs ls hm_8 g_su g_be g_i hil hs2 hsu hbe hP hD hS hl
      refine lv_iload hx hb dX3_ofText_8 (lv_at hl 0 rfl) ?_
      refine lv_aload_n hx hb dX3_ofText_10 rfl (lv_at hl 4 rfl) ?_
      refine kV_i (rest := [.int i]) (q0 := 0) (ci := 5) hcf (m_X5_length l dC dI cI cS H.size nx ax lx ) kc_X5_length gX3_ofText_X5_length rfl rfl rfl ⟨Nat.le_of_ble_eq_true rfl, Nat.le_of_ble_eq_true rfl⟩ kX_t hK hP hD hS hA [3] [0, 1, 2, 4] rfl (by decide +kernel) rfl rfl rfl hl rfl (Nat.le_of_ble_eq_true rfl) dX3_ofText_11 ⟨Nat.le_of_ble_eq_true rfl, Nat.le_of_ble_eq_true rfl⟩ (fun r_1 H locs hB hJ hSn => ?_)
      refine hB _ (fun hPD9 hf1_0 => ?_)
      clear hB
      obtain ⟨hPn, hDn⟩ := hJ _ hPD9.1 hPD9.2 [(oK, .inr (3, [.ref k1, .ref k2, .int lK])), (k1, .inl (cI, 1024, .inl fK1)), (k2, .inl (cI, 1024, .inl fK2)), (ax, .inl (cI, 300, .inl fx)), (nx, .inr (5, [.ref ax, .int lx]))] rfl
      clear hP hD hS hJ hPD9
      have hP := hPn
      have hD := hDn
      have hS := hSn
      clear hPn hDn hSn
      rw [hf1_0]
      refine lv_icmp_ge (tgt := 44) hx hb dX3_ofText_14 (by decide) (fun c_2 => ?_) (fun c_2 => ?_)
      · have tc_2 : lx.toInt ≤ i.toInt := v_le c_2
        refine lv_iload_n hx hb dX3_ofText_44 rfl (lv_at hl 2 rfl) ?_
        refine lv_aload_n hx hb dX3_ofText_45 rfl (lv_at hl 3 rfl) ?_
        refine lv_iload_n hx hb dX3_ofText_46 rfl (lv_at hl 1 rfl) ?_
        refine lv_bipush (v := 32) hx hb dX3_ofText_47 (by decide) ?_
        refine kV_i (rest := [.int su]) (q0 := 0) (ci := 3) hcf (f_X3_of l dC dI cI cS H.size oK k1 k2 lK fK1 fK2 be 32 (g_lK) (g_be) (by decide) (hT) (ho) (hV)) kc_X3_of gX3_ofText_X3_of rfl rfl rfl ⟨Nat.le_of_ble_eq_true rfl, Nat.le_of_ble_eq_true rfl⟩ kX_t hK hP hD hS hA [0, 1, 2] [3, 4] rfl (by decide +kernel) rfl rfl rfl hl rfl (Nat.le_of_ble_eq_true rfl) dX3_ofText_49 ⟨Nat.le_of_ble_eq_true rfl, Nat.le_of_ble_eq_true rfl⟩ (fun r_3 H locs hB hJ hSn => ?_)
        refine hB _ (fun hPD9 hf3_0 hf3_1 => ?_)
        clear hB
        obtain ⟨hPn, hDn⟩ := hJ _ hPD9.1 hPD9.2 [(ax, .inl (cI, 300, .inl fx)), (nx, .inr (5, [.ref ax, .int lx])), (oK, .inr (3, [.ref k1, .ref k2, .int lK])), (k1, .inl (cI, 1024, .inl fK1)), (k2, .inl (cI, 1024, .inl fK2))] rfl
        clear hP hD hS hJ hPD9
        have hP := hPn
        have hD := hDn
        have hS := hSn
        clear hPn hDn hSn
        refine lv_iadd hx hb dX3_ofText_52 ?_
        refine lv_topi (fun x_4 ex_4 => ?_)
        have tx_4 : x_4.toInt = su.toInt + r_3.toInt := v_addR ex_4 g_su hf3_0 (by decide) (by decide)
        exact kl_i (v := x_4) hQQ hx hb hr hlocks hS dX3_ofText_53 (fun PZ9 kZ9 => kZ9 (kPD_sub hP hD [2, 3, 4, 1, 0] (by decide +kernel) rfl) (v_rr (v_sumR (l := 0) (h := 60400) tx_4 g_su hf3_0 (by decide) (by decide)) (by decide) (by decide)) (cT_of hsu hbe hf3_1 (by omega) (by omega) (by omega)))
      · have tc_2 : i.toInt < lx.toInt := v_nle c_2
        refine lv_aload_n hx hb dX3_ofText_17 rfl (lv_at hl 4 rfl) ?_
        refine lv_iload hx hb dX3_ofText_18 (lv_at hl 0 rfl) ?_
        refine kV_i (rest := []) (q0 := 0) (ci := 5) hcf (m_X5_get l dC dI cI cS H.size nx ax 300 lx fx i (by omega) (by omega)) kc_X5_get gX3_ofText_X5_get rfl rfl rfl ⟨Nat.le_of_ble_eq_true rfl, Nat.le_of_ble_eq_true rfl⟩ kX_t hK hP hD hS hA [4, 3] [0, 1, 2] rfl (by decide +kernel) rfl rfl rfl hl rfl (Nat.le_of_ble_eq_true rfl) dX3_ofText_20 ⟨Nat.le_of_ble_eq_true rfl, Nat.le_of_ble_eq_true rfl⟩ (fun r_5 H locs hB hJ hSn => ?_)
        refine hB _ (fun hPD9 hf5_0 => ?_)
        clear hB
        obtain ⟨hPn, hDn⟩ := hJ _ hPD9.1 hPD9.2 [(oK, .inr (3, [.ref k1, .ref k2, .int lK])), (k1, .inl (cI, 1024, .inl fK1)), (k2, .inl (cI, 1024, .inl fK2)), (nx, .inr (5, [.ref ax, .int lx])), (ax, .inl (cI, 300, .inl fx))] rfl
        clear hP hD hS hJ hPD9
        have hP := hPn
        have hD := hDn
        have hS := hSn
        clear hPn hDn hSn
        have hg5 : r_5 = fx i.toNatClampNeg := F_get_f hf5_0 (by omega) (by omega)
        have hgr5 : 0 ≤ r_5.toInt ∧ r_5.toInt ≤ 65535 := prg_at hlt hg5 (by omega) (by omega)
        refine lv_istore (lv' := [(5, .int r_5), (4, .int i), (3, .int be), (2, .int su), (0, .ref oK), (1, .ref nx)]) hx hb dX3_ofText_23 hl (by decide) rfl (fun ls hl => ?_)
        refine lv_iload_n hx hb dX3_ofText_25 rfl (lv_at hl 3 rfl) ?_
        refine lv_aload_n hx hb dX3_ofText_26 rfl (lv_at hl 4 rfl) ?_
        refine lv_iload_n hx hb dX3_ofText_27 rfl (lv_at hl 2 rfl) ?_
        refine lv_iload hx hb dX3_ofText_28 (lv_at hl 0 rfl) ?_
        refine kV_i (rest := [.int su]) (q0 := 0) (ci := 3) hcf (f_X3_of l dC dI cI cS H.size oK k1 k2 lK fK1 fK2 be r_5 (g_lK) (g_be) (by omega) (hT) (ho) (hV)) kc_X3_of gX3_ofText_X3_of rfl rfl rfl ⟨Nat.le_of_ble_eq_true rfl, Nat.le_of_ble_eq_true rfl⟩ kX_t hK hP hD hS hA [0, 1, 2] [3, 4] rfl (by decide +kernel) rfl rfl rfl hl rfl (Nat.le_of_ble_eq_true rfl) dX3_ofText_30 ⟨Nat.le_of_ble_eq_true rfl, Nat.le_of_ble_eq_true rfl⟩ (fun r_6 H locs hB hJ hSn => ?_)
        refine hB _ (fun hPD9 hf6_0 hf6_1 => ?_)
        clear hB
        obtain ⟨hPn, hDn⟩ := hJ _ hPD9.1 hPD9.2 [(nx, .inr (5, [.ref ax, .int lx])), (ax, .inl (cI, 300, .inl fx)), (oK, .inr (3, [.ref k1, .ref k2, .int lK])), (k1, .inl (cI, 1024, .inl fK1)), (k2, .inl (cI, 1024, .inl fK2))] rfl
        clear hP hD hS hJ hPD9
        have hP := hPn
        have hD := hDn
        have hS := hSn
        clear hPn hDn hSn
        refine lv_iadd hx hb dX3_ofText_33 ?_
        refine lv_topi (fun x_7 ex_7 => ?_)
        have tx_7 : x_7.toInt = su.toInt + r_6.toInt := v_addR ex_7 g_su hf6_0 (by decide) (by decide)
        refine lv_istore_n (lv' := [(2, .int x_7), (5, .int r_5), (4, .int i), (3, .int be), (0, .ref oK), (1, .ref nx)]) hx hb dX3_ofText_34 rfl hl (by decide) rfl (fun ls hl => ?_)
        refine lv_iload hx hb dX3_ofText_35 (lv_at hl 1 rfl) ?_
        refine lv_istore_n (lv' := [(3, .int r_5), (2, .int x_7), (5, .int r_5), (4, .int i), (0, .ref oK), (1, .ref nx)]) hx hb dX3_ofText_37 rfl hl (by decide) rfl (fun ls hl => ?_)
        obtain ⟨x_8, ex_8⟩ : ∃ y : Int32, y = i + 1 := ⟨_, rfl⟩
        have tx_8 : x_8.toInt = i.toInt + 1 := v_addR (l2 := 1) (h2 := 1) ex_8 g_i (by decide) (by decide) (by decide)
        refine lv_iinc (v := x_8) (lv' := [(4, .int x_8), (3, .int r_5), (2, .int x_7), (5, .int r_5), (0, .ref oK), (1, .ref nx)]) hx hb dX3_ofText_38 hl (k := 3) rfl (by rw [ex_8]; rfl) (by decide) rfl (fun ls hl => ?_)
        refine lv_goto (tgt := 8) hx hb dX3_ofText_41 (by decide) ?_
        exact ih_8 x_7 r_5 x_8 _ _ _ (ms_lt hm_8 (by show ((lx.toInt - x_8.toInt : Int)) < lx.toInt - i.toInt; omega) (by show (0 : Int) < lx.toInt - i.toInt; omega)) (by show 0 ≤ x_7.toInt ∧ x_7.toInt ≤ 60200; omega) (by show 0 ≤ r_5.toInt ∧ r_5.toInt ≤ 65535; omega) (by show 0 ≤ x_8.toInt ∧ x_8.toInt ≤ 300; omega) (by show x_8.toInt ≤ lx.toInt; omega) (by show x_7.toInt ≤ 200 * x_8.toInt; omega) ((cs_s hsu hbe hg5 hf6_1 (by omega) (by omega) (by omega)).1) ((cs_s hsu hbe hg5 hf6_1 (by omega) (by omega) (by omega)).2) (hP.sub [2, 3, 4, 0, 1] rfl) (hD.sub [2, 3, 4, 0, 1] (by decide +kernel) rfl) hS (lv_sub hl [0, 1, 2, 4, 5] rfl)
  exact LOOP_8 _ 0 32 0 _ _ _ (ms_s _) (by decide) (by decide) (by decide) (by show 0 ≤ lx.toInt; omega) (by show 0 ≤ 200 * 0; omega) (rfl) (rfl) hP hD hS (lv_sub hl [0, 1, 2, 3, 4] rfl)

set_option maxHeartbeats 40000000 in
set_option maxRecDepth 100000 in
theorem f_X12_costOf (l : Launch) (dC : Nat → ClassId) (dI : Nat → Nat → Nat) (cI cS : ClassId) (sz : Nat) (oM : Nat) (mT : Nat) (mS : Nat) (mX : Nat) (mL : Nat) (mB : Nat) (mD : Nat) (m1 : Nat) (m2 : Nat) (mR : Nat) (x1 : Nat) (x2 : Nat) (x3 : Nat) (mH : Nat) (mY : Nat) (mE : Nat) (mW : Nat) (mO : Nat) (y1 : Nat) (y2 : Nat) (y3 : Nat) (y4 : Nat) (mZ : Nat) (zt : Int32) (zp : Int32) (zf : Int32) (zh : Int32) (zr : Int32) (zc : Int32) (zy : Int32) (za : Int32) (zb : Int32) (zs : Int32) (zq : Int32) (zw : Int32) (ze : Int32) (zn : Int32) (zm : Int32) (zl : Int32) (zk : Int32) (zd : Int32) (ec1 : Nat → Int32) (ec2 : Nat → Int32) (ec3 : Nat → Int32) (x : Int32) (y : Int32) (g_zt : 0 ≤ zt.toInt ∧ zt.toInt ≤ 900) (g_zp : 0 ≤ zp.toInt ∧ zp.toInt ≤ 20) (g_zf : 0 ≤ zf.toInt ∧ zf.toInt ≤ 19) (g_zh : 0 ≤ zh.toInt ∧ zh.toInt ≤ 6) (g_zr : 0 ≤ zr.toInt ∧ zr.toInt ≤ 258) (g_zc : 0 ≤ zc.toInt ∧ zc.toInt ≤ 300) (g_zy : 0 ≤ zy.toInt ∧ zy.toInt ≤ 65536) (g_za : 0 ≤ za.toInt ∧ za.toInt ≤ 5) (g_zb : 0 ≤ zb.toInt ∧ zb.toInt ≤ 5) (g_zs : 0 ≤ zs.toInt ∧ zs.toInt ≤ 2000000) (g_zq : -1 ≤ zq.toInt ∧ zq.toInt ≤ 2000000) (g_zn : 0 ≤ zn.toInt ∧ zn.toInt ≤ 2600) (g_zm : 0 ≤ zm.toInt ∧ zm.toInt ≤ 2600) (g_zk : 0 ≤ zk.toInt ∧ zk.toInt ≤ 300) (g_x : 0 ≤ x.toInt ∧ x.toInt ≤ 65535) (g_y : 0 ≤ y.toInt ∧ y.toInt ≤ 65535) (hV : rg 0 200 ec3) : kMi l yX12_costOf wsX12_costOf ({ frames := 1, cells := 0, slots := 0, locals := 20 } : Room) [.ref oM, .int x, .int y] sz (dC, dI) vwCl [(cI, .int), (cS, .short)] [(oM, .inr (12, [.ref mT, .int zt, .ref mS, .ref mX, .int zp, .int zf, .ref mL, .ref mB, .ref mD, .ref m1, .ref m2, .int zh, .ref mR, .int zr, .ref x1, .ref x2, .ref x3, .int zc, .ref mH, .int zy, .int za, .int zb, .int zs, .int zq, .int zw, .int ze, .ref mY, .int zn, .ref mE, .int zm, .int zl, .ref mW, .int zk, .ref mO, .int zd, .ref y1, .ref y2, .ref y3, .ref y4, .ref mZ])), (x1, .inl (cI, 300, .inl ec1)), (x2, .inl (cI, 300, .inl ec2)), (x3, .inl (cI, 300, .inl ec3))] (fun _ => True) 0 0 (fun (A : Nat → Prop) (r : Int32) (hh9 : Heap) => ∀ PZ9 : Prop, (kPD (dC, dI) vwCl A [(oM, .inr (12, [.ref mT, .int zt, .ref mS, .ref mX, .int zp, .int zf, .ref mL, .ref mB, .ref mD, .ref m1, .ref m2, .int zh, .ref mR, .int zr, .ref x1, .ref x2, .ref x3, .int zc, .ref mH, .int zy, .int za, .int zb, .int zs, .int zq, .int zw, .int ze, .ref mY, .int zn, .ref mE, .int zm, .int zl, .ref mW, .int zk, .ref mO, .int zd, .ref y1, .ref y2, .ref y3, .ref y4, .ref mZ])), (x1, .inl (cI, 300, .inl ec1)), (x2, .inl (cI, 300, .inl ec2)), (x3, .inl (cI, 300, .inl ec3))] hh9 → (0 ≤ r.toInt ∧ r.toInt ≤ 200) → (r.toInt = cF (tcR zc.toInt ec1 ec2 ec3 x y) x y) → PZ9) → PZ9) := by
  refine kMi_of (cc := cX12_costOf) (maxL := 5) (ret := (some .int)) (lv := [(0, .ref oM), (1, .int x), (2, .int y)]) (by decide +kernel) rfl rfl (Nat.le_of_ble_eq_true rfl) ?_
  intro p e s m below meth c A QQ ls hx hb hr hts hml hown hlocks hA hQQ hK hX hP hD hS hl
  have hown : s.vm.findClass RX12 = some m.cls := hown
  have hcf := k_cf hx hb hml hown hts
  have in_X12 : ∀ w ∈ wsX120, w ∈ wsX12_costOf := fun _ h => List.mem_cons_of_mem _ (List.mem_append_left _ (List.mem_append_right _ (h)))
  replace g_zt := hid g_zt
  replace g_zp := hid g_zp
  replace g_zf := hid g_zf
  replace g_zh := hid g_zh
  replace g_zr := hid g_zr
  replace g_zy := hid g_zy
  replace g_za := hid g_za
  replace g_zb := hid g_zb
  replace g_zs := hid g_zs
  replace g_zq := hid g_zq
  replace g_zn := hid g_zn
  replace g_zm := hid g_zm
  replace g_zk := hid g_zk
  refine lv_iconst (v := 0) hx hb dX12_costOf_0 (by decide) ?_
  refine lv_istore_n (lv' := [(3, .int 0), (0, .ref oM), (1, .int x), (2, .int y)]) hx hb dX12_costOf_1 rfl hl (by decide) rfl (fun ls hl => ?_)
  have LOOP_2 : ∀ (k_2 : Nat) (k : Int32) (H : Heap) (locs : List Loc) (ls : Array Slot), MSd (300 - k.toInt : Int) k_2 → (0 ≤ k.toInt ∧ k.toInt ≤ 300) → (k.toInt ≤ zc.toInt) → (noP k.toInt x y ec1 ec2) → va_P (dC, dI) vwCl [(oM, .inr (12, [.ref mT, .int zt, .ref mS, .ref mX, .int zp, .int zf, .ref mL, .ref mB, .ref mD, .ref m1, .ref m2, .int zh, .ref mR, .int zr, .ref x1, .ref x2, .ref x3, .int zc, .ref mH, .int zy, .int za, .int zb, .int zs, .int zq, .int zw, .int ze, .ref mY, .int zn, .ref mE, .int zm, .int zl, .ref mW, .int zk, .ref mO, .int zd, .ref y1, .ref y2, .ref y3, .ref y4, .ref mZ])), (x1, .inl (cI, 300, .inl ec1)), (x2, .inl (cI, 300, .inl ec2)), (x3, .inl (cI, 300, .inl ec3))] H → va_D A [(oM, .inr (12, [.ref mT, .int zt, .ref mS, .ref mX, .int zp, .int zf, .ref mL, .ref mB, .ref mD, .ref m1, .ref m2, .int zh, .ref mR, .int zr, .ref x1, .ref x2, .ref x3, .int zc, .ref mH, .int zy, .int za, .int zb, .int zs, .int zq, .int zw, .int ze, .ref mY, .int zn, .ref mE, .int zm, .int zl, .ref mW, .int zk, .ref mO, .int zd, .ref y1, .ref y2, .ref y3, .ref y4, .ref mZ])), (x1, .inl (cI, 300, .inl ec1)), (x2, .inl (cI, 300, .inl ec2)), (x3, .inl (cI, 300, .inl ec3))] → va_S A s.heap H locs → lv_has ls 5 [(3, .int k), (0, .ref oM), (1, .int x), (2, .int y)] → W p l e (headSpec wsX12_costOf ({ frames := 1, cells := 0, slots := 0, locals := 20 } : Room)).room s m ([.ref oM, .int x, .int y] : List Value).toArray below meth c H locs 0 0 (MQ below QQ ([.ref oM, .int x, .int y] : List Value).toArray s 0 0 A) (F0 m 2 ls []) := by
    clear hP hD hS hl
    intro k_2
    induction k_2 with
    | zero =>
      intro k H locs ls hm_2 g_k hkc hno hP hD hS hl
      exact ms_0 hm_2
    | succ k_2 ih_2 =>
      intro k H locs ls hm_2 g_k hkc hno hP hD hS hl
      refine lv_iload_n hx hb dX12_costOf_2 rfl (lv_at hl 0 rfl) ?_
      refine lv_aload_n hx hb dX12_costOf_3 rfl (lv_at hl 1 rfl) ?_
      refine va_get (D := (dC, dI)) (ci := 12) (v := .int zc) (C := RX12) (T := TX12) (N := 40) hx hb hts in_X12 hown hK hP 0 rfl rfl 17 (Nat.le_of_ble_eq_true rfl) (hts (.fieldLink RX12 168 "TextMenderModel" "costs" "I") (List.mem_of_getElem? (i := 1) rfl)) (fun _ h9 => h9) rfl dX12_costOf_4 ?_
      refine lv_icmp_ge (tgt := 43) hx hb dX12_costOf_7 (by decide) (fun c_1 => ?_) (fun c_1 => ?_)
      · have tc_1 : zc.toInt ≤ k.toInt := v_le c_1
        refine lv_iload_n hx hb dX12_costOf_43 rfl (lv_at hl 2 rfl) ?_
        refine kS_i (rest := []) hcf (f_X12_sortOf l dC dI cI cS H.size x ) kc_X12_sortOf gX12_costOf_X12_sortOf rfl rfl ⟨Nat.le_of_ble_eq_true rfl, Nat.le_of_ble_eq_true rfl⟩ kX_t hK hP hD hS hA [] [0, 1, 2, 3] rfl (by decide +kernel) rfl hl rfl (Nat.le_of_ble_eq_true rfl) dX12_costOf_44 ⟨Nat.le_of_ble_eq_true rfl, Nat.le_of_ble_eq_true rfl⟩ (fun r_2 H locs hB hJ hSn => ?_)
        refine hB _ (fun hPD9 hf2_0 hf2_1 => ?_)
        clear hB
        obtain ⟨hPn, hDn⟩ := hJ _ hPD9.1 hPD9.2 [(oM, .inr (12, [.ref mT, .int zt, .ref mS, .ref mX, .int zp, .int zf, .ref mL, .ref mB, .ref mD, .ref m1, .ref m2, .int zh, .ref mR, .int zr, .ref x1, .ref x2, .ref x3, .int zc, .ref mH, .int zy, .int za, .int zb, .int zs, .int zq, .int zw, .int ze, .ref mY, .int zn, .ref mE, .int zm, .int zl, .ref mW, .int zk, .ref mO, .int zd, .ref y1, .ref y2, .ref y3, .ref y4, .ref mZ])), (x1, .inl (cI, 300, .inl ec1)), (x2, .inl (cI, 300, .inl ec2)), (x3, .inl (cI, 300, .inl ec3))] rfl
        clear hP hD hS hJ hPD9
        have hP := hPn
        have hD := hDn
        have hS := hSn
        clear hPn hDn hSn
        refine lv_istore_n (lv' := [(3, .int r_2), (0, .ref oM), (1, .int x), (2, .int y)]) hx hb dX12_costOf_47 rfl hl (by decide) rfl (fun ls hl => ?_)
        refine lv_iload_n hx hb dX12_costOf_48 rfl (lv_at hl 3 rfl) ?_
        refine kS_i (rest := []) hcf (f_X12_sortOf l dC dI cI cS H.size y ) kc_X12_sortOf gX12_costOf_X12_sortOf rfl rfl ⟨Nat.le_of_ble_eq_true rfl, Nat.le_of_ble_eq_true rfl⟩ kX_t hK hP hD hS hA [] [0, 1, 2, 3] rfl (by decide +kernel) rfl hl rfl (Nat.le_of_ble_eq_true rfl) dX12_costOf_49 ⟨Nat.le_of_ble_eq_true rfl, Nat.le_of_ble_eq_true rfl⟩ (fun r_3 H locs hB hJ hSn => ?_)
        refine hB _ (fun hPD9 hf3_0 hf3_1 => ?_)
        clear hB
        obtain ⟨hPn, hDn⟩ := hJ _ hPD9.1 hPD9.2 [(oM, .inr (12, [.ref mT, .int zt, .ref mS, .ref mX, .int zp, .int zf, .ref mL, .ref mB, .ref mD, .ref m1, .ref m2, .int zh, .ref mR, .int zr, .ref x1, .ref x2, .ref x3, .int zc, .ref mH, .int zy, .int za, .int zb, .int zs, .int zq, .int zw, .int ze, .ref mY, .int zn, .ref mE, .int zm, .int zl, .ref mW, .int zk, .ref mO, .int zd, .ref y1, .ref y2, .ref y3, .ref y4, .ref mZ])), (x1, .inl (cI, 300, .inl ec1)), (x2, .inl (cI, 300, .inl ec2)), (x3, .inl (cI, 300, .inl ec3))] rfl
        clear hP hD hS hJ hPD9
        have hP := hPn
        have hD := hDn
        have hS := hSn
        clear hPn hDn hSn
        refine lv_istore (lv' := [(4, .int r_3), (3, .int r_2), (0, .ref oM), (1, .int x), (2, .int y)]) hx hb dX12_costOf_52 hl (by decide) rfl (fun ls hl => ?_)
        refine lv_iload_n hx hb dX12_costOf_54 rfl (lv_at hl 1 rfl) ?_
        refine lv_iload hx hb dX12_costOf_55 (lv_at hl 0 rfl) ?_
        refine lv_icmp_ne (tgt := 64) hx hb dX12_costOf_57 (by decide) (fun c_4 => ?_) (fun c_4 => ?_)
        · have tc_4 : ¬ r_2.toInt = r_3.toInt := v_ne c_4
          refine lv_bipush (v := 9) hx hb dX12_costOf_64 (by decide) ?_
          refine lv_iload_n hx hb dX12_costOf_66 rfl (lv_at hl 1 rfl) ?_
          refine lv_if_ne (tgt := 75) hx hb dX12_costOf_67 (by decide) (fun c_5 => ?_) (fun c_5 => ?_)
          · have tc_5 : ¬ r_2.toInt = 0 := v_ne c_5
            refine lv_iconst (v := 0) hx hb dX12_costOf_75 (by decide) ?_
            refine lv_iadd hx hb dX12_costOf_76 ?_
            refine k_i (y := 9) (by decide) ?_
            refine lv_iload hx hb dX12_costOf_77 (lv_at hl 0 rfl) ?_
            refine lv_if_ne (tgt := 87) hx hb dX12_costOf_79 (by decide) (fun c_6 => ?_) (fun c_6 => ?_)
            · have tc_6 : ¬ r_3.toInt = 0 := v_ne c_6
              refine lv_iconst (v := 0) hx hb dX12_costOf_87 (by decide) ?_
              refine lv_iadd hx hb dX12_costOf_88 ?_
              refine k_i (y := 9) (by decide) ?_
              exact kl_i (v := 9) hQQ hx hb hr hlocks hS dX12_costOf_89 (fun PZ9 kZ9 => kZ9 (⟨hP, hD⟩) (by decide) (by first | (exfalso; omega) | (rw [tcR_no (fun j hj => hno j (by omega))]; unfold cF sC; rw [if_pos rfl, ← hf2_1, ← hf3_1]; (repeat (first | rw [if_neg (by omega)] | rw [if_pos (by omega)])) <;> rfl)))
            · have tc_6 : r_3.toInt = 0 := v_eq c_6
              refine lv_bipush (v := 30) hx hb dX12_costOf_82 (by decide) ?_
              refine lv_goto (tgt := 88) hx hb dX12_costOf_84 (by decide) ?_
              refine lv_iadd hx hb dX12_costOf_88 ?_
              refine k_i (y := 39) (by decide) ?_
              exact kl_i (v := 39) hQQ hx hb hr hlocks hS dX12_costOf_89 (fun PZ9 kZ9 => kZ9 (⟨hP, hD⟩) (by decide) (by first | (exfalso; omega) | (rw [tcR_no (fun j hj => hno j (by omega))]; unfold cF sC; rw [if_pos rfl, ← hf2_1, ← hf3_1]; (repeat (first | rw [if_neg (by omega)] | rw [if_pos (by omega)])) <;> rfl)))
          · have tc_5 : r_2.toInt = 0 := v_eq c_5
            refine lv_bipush (v := 30) hx hb dX12_costOf_70 (by decide) ?_
            refine lv_goto (tgt := 76) hx hb dX12_costOf_72 (by decide) ?_
            refine lv_iadd hx hb dX12_costOf_76 ?_
            refine k_i (y := 39) (by decide) ?_
            refine lv_iload hx hb dX12_costOf_77 (lv_at hl 0 rfl) ?_
            refine lv_if_ne (tgt := 87) hx hb dX12_costOf_79 (by decide) (fun c_7 => ?_) (fun c_7 => ?_)
            · have tc_7 : ¬ r_3.toInt = 0 := v_ne c_7
              refine lv_iconst (v := 0) hx hb dX12_costOf_87 (by decide) ?_
              refine lv_iadd hx hb dX12_costOf_88 ?_
              refine k_i (y := 39) (by decide) ?_
              exact kl_i (v := 39) hQQ hx hb hr hlocks hS dX12_costOf_89 (fun PZ9 kZ9 => kZ9 (⟨hP, hD⟩) (by decide) (by first | (exfalso; omega) | (rw [tcR_no (fun j hj => hno j (by omega))]; unfold cF sC; rw [if_pos rfl, ← hf2_1, ← hf3_1]; (repeat (first | rw [if_neg (by omega)] | rw [if_pos (by omega)])) <;> rfl)))
            · have tc_7 : r_3.toInt = 0 := v_eq c_7
              refine lv_bipush (v := 30) hx hb dX12_costOf_82 (by decide) ?_
              refine lv_goto (tgt := 88) hx hb dX12_costOf_84 (by decide) ?_
              refine lv_iadd hx hb dX12_costOf_88 ?_
              refine k_i (y := 69) (by decide) ?_
              exact kl_i (v := 69) hQQ hx hb hr hlocks hS dX12_costOf_89 (fun PZ9 kZ9 => kZ9 (⟨hP, hD⟩) (by decide) (by first | (exfalso; omega) | (rw [tcR_no (fun j hj => hno j (by omega))]; unfold cF sC; rw [if_pos rfl, ← hf2_1, ← hf3_1]; (repeat (first | rw [if_neg (by omega)] | rw [if_pos (by omega)])) <;> rfl)))
        · have tc_4 : r_2.toInt = r_3.toInt := v_eq c_4
          refine lv_iconst (v := 4) hx hb dX12_costOf_60 (by decide) ?_
          refine lv_goto (tgt := 66) hx hb dX12_costOf_61 (by decide) ?_
          refine lv_iload_n hx hb dX12_costOf_66 rfl (lv_at hl 1 rfl) ?_
          refine lv_if_ne (tgt := 75) hx hb dX12_costOf_67 (by decide) (fun c_8 => ?_) (fun c_8 => ?_)
          · have tc_8 : ¬ r_2.toInt = 0 := v_ne c_8
            refine lv_iconst (v := 0) hx hb dX12_costOf_75 (by decide) ?_
            refine lv_iadd hx hb dX12_costOf_76 ?_
            refine k_i (y := 4) (by decide) ?_
            refine lv_iload hx hb dX12_costOf_77 (lv_at hl 0 rfl) ?_
            refine lv_if_ne (tgt := 87) hx hb dX12_costOf_79 (by decide) (fun c_9 => ?_) (fun c_9 => ?_)
            · have tc_9 : ¬ r_3.toInt = 0 := v_ne c_9
              refine lv_iconst (v := 0) hx hb dX12_costOf_87 (by decide) ?_
              refine lv_iadd hx hb dX12_costOf_88 ?_
              refine k_i (y := 4) (by decide) ?_
              exact kl_i (v := 4) hQQ hx hb hr hlocks hS dX12_costOf_89 (fun PZ9 kZ9 => kZ9 (⟨hP, hD⟩) (by decide) (by first | (exfalso; omega) | (rw [tcR_no (fun j hj => hno j (by omega))]; unfold cF sC; rw [if_pos rfl, ← hf2_1, ← hf3_1]; (repeat (first | rw [if_neg (by omega)] | rw [if_pos (by omega)])) <;> rfl)))
            · have tc_9 : r_3.toInt = 0 := v_eq c_9
              refine lv_bipush (v := 30) hx hb dX12_costOf_82 (by decide) ?_
              refine lv_goto (tgt := 88) hx hb dX12_costOf_84 (by decide) ?_
              refine lv_iadd hx hb dX12_costOf_88 ?_
              refine k_i (y := 34) (by decide) ?_
              exact kl_i (v := 34) hQQ hx hb hr hlocks hS dX12_costOf_89 (fun PZ9 kZ9 => kZ9 (⟨hP, hD⟩) (by decide) (by first | (exfalso; omega) | (rw [tcR_no (fun j hj => hno j (by omega))]; unfold cF sC; rw [if_pos rfl, ← hf2_1, ← hf3_1]; (repeat (first | rw [if_neg (by omega)] | rw [if_pos (by omega)])) <;> rfl)))
          · have tc_8 : r_2.toInt = 0 := v_eq c_8
            refine lv_bipush (v := 30) hx hb dX12_costOf_70 (by decide) ?_
            refine lv_goto (tgt := 76) hx hb dX12_costOf_72 (by decide) ?_
            refine lv_iadd hx hb dX12_costOf_76 ?_
            refine k_i (y := 34) (by decide) ?_
            refine lv_iload hx hb dX12_costOf_77 (lv_at hl 0 rfl) ?_
            refine lv_if_ne (tgt := 87) hx hb dX12_costOf_79 (by decide) (fun c_10 => ?_) (fun c_10 => ?_)
            · have tc_10 : ¬ r_3.toInt = 0 := v_ne c_10
              refine lv_iconst (v := 0) hx hb dX12_costOf_87 (by decide) ?_
              refine lv_iadd hx hb dX12_costOf_88 ?_
              refine k_i (y := 34) (by decide) ?_
              exact kl_i (v := 34) hQQ hx hb hr hlocks hS dX12_costOf_89 (fun PZ9 kZ9 => kZ9 (⟨hP, hD⟩) (by decide) (by first | (exfalso; omega) | (rw [tcR_no (fun j hj => hno j (by omega))]; unfold cF sC; rw [if_pos rfl, ← hf2_1, ← hf3_1]; (repeat (first | rw [if_neg (by omega)] | rw [if_pos (by omega)])) <;> rfl)))
            · have tc_10 : r_3.toInt = 0 := v_eq c_10
              refine lv_bipush (v := 30) hx hb dX12_costOf_82 (by decide) ?_
              refine lv_goto (tgt := 88) hx hb dX12_costOf_84 (by decide) ?_
              refine lv_iadd hx hb dX12_costOf_88 ?_
              refine k_i (y := 64) (by decide) ?_
              exact kl_i (v := 64) hQQ hx hb hr hlocks hS dX12_costOf_89 (fun PZ9 kZ9 => kZ9 (⟨hP, hD⟩) (by decide) (by first | (exfalso; omega) | (rw [tcR_no (fun j hj => hno j (by omega))]; unfold cF sC; rw [if_pos rfl, ← hf2_1, ← hf3_1]; (repeat (first | rw [if_neg (by omega)] | rw [if_pos (by omega)])) <;> rfl)))
      · have tc_1 : k.toInt < zc.toInt := v_nle c_1
        refine lv_aload_n hx hb dX12_costOf_10 rfl (lv_at hl 1 rfl) ?_
        refine va_get (D := (dC, dI)) (ci := 12) (v := .ref x1) (C := RX12) (T := TX12) (N := 40) hx hb hts in_X12 hown hK hP 0 rfl rfl 14 (Nat.le_of_ble_eq_true rfl) (hts (.fieldLink RX12 39 "TextMenderModel" "costX" "[I") (List.mem_of_getElem? (i := 2) rfl)) (fun _ h9 => h9) rfl dX12_costOf_11 ?_
        refine lv_iload_n hx hb dX12_costOf_14 rfl (lv_at hl 0 rfl) ?_
        refine va_iald hx hb hK hP 1 0 rfl rfl (v_in (by omega)) dX12_costOf_15 ?_
        refine lv_topi (fun x_11 ex_11 => ?_)
        refine lv_iload_n hx hb dX12_costOf_16 rfl (lv_at hl 2 rfl) ?_
        refine lv_icmp_ne (tgt := 37) hx hb dX12_costOf_17 (by decide) (fun c_12 => ?_) (fun c_12 => ?_)
        · have tc_12 : ¬ x_11.toInt = x.toInt := v_ne c_12
          have rw12_0 := v_rng x_11
          obtain ⟨x_13, ex_13⟩ : ∃ y : Int32, y = k + 1 := ⟨_, rfl⟩
          have tx_13 : x_13.toInt = k.toInt + 1 := v_addR (l2 := 1) (h2 := 1) ex_13 g_k (by decide) (by decide) (by decide)
          refine lv_iinc (v := x_13) (lv' := [(3, .int x_13), (0, .ref oM), (1, .int x), (2, .int y)]) hx hb dX12_costOf_37 hl (k := 0) rfl (by rw [ex_13]; rfl) (by decide) rfl (fun ls hl => ?_)
          refine lv_goto (tgt := 2) hx hb dX12_costOf_40 (by decide) ?_
          exact ih_2 x_13 _ _ _ (ms_lt hm_2 (by show ((300 - x_13.toInt : Int)) < 300 - k.toInt; omega) (by show (0 : Int) < 300 - k.toInt; omega)) (by show 0 ≤ x_13.toInt ∧ x_13.toInt ≤ 300; omega) (by show x_13.toInt ≤ zc.toInt; omega) (noP_s1 hno ex_11 c_12 (by omega) (by omega)) hP hD hS (lv_sub hl [0, 1, 2, 3] rfl)
        · have tc_12 : x_11.toInt = x.toInt := v_eq c_12
          have rw12_0 := v_rng x_11
          refine lv_aload_n hx hb dX12_costOf_20 rfl (lv_at hl 1 rfl) ?_
          refine va_get (D := (dC, dI)) (ci := 12) (v := .ref x2) (C := RX12) (T := TX12) (N := 40) hx hb hts in_X12 hown hK hP 0 rfl rfl 15 (Nat.le_of_ble_eq_true rfl) (hts (.fieldLink RX12 42 "TextMenderModel" "costY" "[I") (List.mem_of_getElem? (i := 3) rfl)) (fun _ h9 => h9) rfl dX12_costOf_21 ?_
          refine lv_iload_n hx hb dX12_costOf_24 rfl (lv_at hl 0 rfl) ?_
          refine va_iald hx hb hK hP 2 0 rfl rfl (v_in (by omega)) dX12_costOf_25 ?_
          refine lv_topi (fun x_14 ex_14 => ?_)
          refine lv_iload_n hx hb dX12_costOf_26 rfl (lv_at hl 3 rfl) ?_
          refine lv_icmp_ne (tgt := 37) hx hb dX12_costOf_27 (by decide) (fun c_15 => ?_) (fun c_15 => ?_)
          · have tc_15 : ¬ x_14.toInt = y.toInt := v_ne c_15
            have rw15_0 := v_rng x_14
            obtain ⟨x_16, ex_16⟩ : ∃ y : Int32, y = k + 1 := ⟨_, rfl⟩
            have tx_16 : x_16.toInt = k.toInt + 1 := v_addR (l2 := 1) (h2 := 1) ex_16 g_k (by decide) (by decide) (by decide)
            refine lv_iinc (v := x_16) (lv' := [(3, .int x_16), (0, .ref oM), (1, .int x), (2, .int y)]) hx hb dX12_costOf_37 hl (k := 0) rfl (by rw [ex_16]; rfl) (by decide) rfl (fun ls hl => ?_)
            refine lv_goto (tgt := 2) hx hb dX12_costOf_40 (by decide) ?_
            exact ih_2 x_16 _ _ _ (ms_lt hm_2 (by show ((300 - x_16.toInt : Int)) < 300 - k.toInt; omega) (by show (0 : Int) < 300 - k.toInt; omega)) (by show 0 ≤ x_16.toInt ∧ x_16.toInt ≤ 300; omega) (by show x_16.toInt ≤ zc.toInt; omega) (noP_s2 hno ex_14 c_15 (by omega) (by omega)) hP hD hS (lv_sub hl [0, 1, 2, 3] rfl)
          · have tc_15 : x_14.toInt = y.toInt := v_eq c_15
            have rw15_0 := v_rng x_14
            refine lv_aload_n hx hb dX12_costOf_30 rfl (lv_at hl 1 rfl) ?_
            refine va_get (D := (dC, dI)) (ci := 12) (v := .ref x3) (C := RX12) (T := TX12) (N := 40) hx hb hts in_X12 hown hK hP 0 rfl rfl 16 (Nat.le_of_ble_eq_true rfl) (hts (.fieldLink RX12 45 "TextMenderModel" "costV" "[I") (List.mem_of_getElem? (i := 4) rfl)) (fun _ h9 => h9) rfl dX12_costOf_31 ?_
            refine lv_iload_n hx hb dX12_costOf_34 rfl (lv_at hl 0 rfl) ?_
            refine va_iald hx hb hK hP 3 0 rfl rfl (v_in (by omega)) dX12_costOf_35 ?_
            refine lv_topi (fun x_17 ex_17 => ?_)
            have hvr : 0 ≤ x_17.toInt ∧ x_17.toInt ≤ 200 := rg_at hV ex_17
            exact kl_i (v := x_17) hQQ hx hb hr hlocks hS dX12_costOf_36 (fun PZ9 kZ9 => kZ9 (⟨hP, hD⟩) (by omega) (by rw [tcR_of ⟨k.toNatClampNeg, by have c9 := v_clamp (x := k) (by omega); omega, by rw [← ex_11]; exact c_12, by rw [← ex_14]; exact c_15, ex_17.symm, fun j hj => hno j (by have c9 := v_clamp (x := k) (by omega); omega)⟩]; unfold cF; rw [if_neg (v_nn (by omega))]))
  exact LOOP_2 _ 0 _ _ _ (ms_s _) (by decide) (by show 0 ≤ zc.toInt; omega) (noP_0 (by decide)) hP hD hS (lv_sub hl [0, 1, 2, 3] rfl)

set_option maxHeartbeats 40000000 in
set_option maxRecDepth 100000 in
theorem f_X12_costOf_ (l : Launch) (dC : Nat → ClassId) (dI : Nat → Nat → Nat) (cI cS : ClassId) (sz : Nat) (oM : Nat) (rw : Nat) (mT : Nat) (mS : Nat) (mX : Nat) (mL : Nat) (mB : Nat) (mD : Nat) (m1 : Nat) (m2 : Nat) (mR : Nat) (x1 : Nat) (x2 : Nat) (x3 : Nat) (mH : Nat) (mY : Nat) (mE : Nat) (mW : Nat) (mO : Nat) (y1 : Nat) (y2 : Nat) (y3 : Nat) (y4 : Nat) (mZ : Nat) (cw : Nat) (zt : Int32) (zp : Int32) (zf : Int32) (zh : Int32) (zr : Int32) (zc : Int32) (zy : Int32) (za : Int32) (zb : Int32) (zs : Int32) (zq : Int32) (zw : Int32) (ze : Int32) (zn : Int32) (zm : Int32) (zl : Int32) (zk : Int32) (zd : Int32) (ec1 : Nat → Int32) (ec2 : Nat → Int32) (ec3 : Nat → Int32) (fr : Nat → Int32) (fo : Int32) (to_ : Int32) (g_zt : 0 ≤ zt.toInt ∧ zt.toInt ≤ 900) (g_zp : 0 ≤ zp.toInt ∧ zp.toInt ≤ 20) (g_zf : 0 ≤ zf.toInt ∧ zf.toInt ≤ 19) (g_zh : 0 ≤ zh.toInt ∧ zh.toInt ≤ 6) (g_zr : 0 ≤ zr.toInt ∧ zr.toInt ≤ 258) (g_zc : 0 ≤ zc.toInt ∧ zc.toInt ≤ 300) (g_zy : 0 ≤ zy.toInt ∧ zy.toInt ≤ 65536) (g_za : 0 ≤ za.toInt ∧ za.toInt ≤ 5) (g_zb : 0 ≤ zb.toInt ∧ zb.toInt ≤ 5) (g_zs : 0 ≤ zs.toInt ∧ zs.toInt ≤ 2000000) (g_zq : -1 ≤ zq.toInt ∧ zq.toInt ≤ 2000000) (g_zn : 0 ≤ zn.toInt ∧ zn.toInt ≤ 2600) (g_zm : 0 ≤ zm.toInt ∧ zm.toInt ≤ 2600) (g_zk : 0 ≤ zk.toInt ∧ zk.toInt ≤ 300) (g_fo : 0 ≤ fo.toInt ∧ fo.toInt ≤ 0) (g_to_ : 0 ≤ to_.toInt ∧ to_.toInt ≤ 300) (hcw : to_.toInt ≤ (cw : Int)) (hcw2 : cw ≤ 6300) (hV : rg 0 200 ec3) (hrow : prg to_.toInt 0 65535 fr) : kMi l yX12_costOf_ wsX12_costOf_ ({ frames := 2, cells := 0, slots := 0, locals := 44 } : Room) [.ref oM, .ref rw, .int fo, .int to_] sz (dC, dI) vwCl [(cI, .int), (cS, .short)] [(oM, .inr (12, [.ref mT, .int zt, .ref mS, .ref mX, .int zp, .int zf, .ref mL, .ref mB, .ref mD, .ref m1, .ref m2, .int zh, .ref mR, .int zr, .ref x1, .ref x2, .ref x3, .int zc, .ref mH, .int zy, .int za, .int zb, .int zs, .int zq, .int zw, .int ze, .ref mY, .int zn, .ref mE, .int zm, .int zl, .ref mW, .int zk, .ref mO, .int zd, .ref y1, .ref y2, .ref y3, .ref y4, .ref mZ])), (x1, .inl (cI, 300, .inl ec1)), (x2, .inl (cI, 300, .inl ec2)), (x3, .inl (cI, 300, .inl ec3)), (rw, .inl (cI, cw, .inl fr))] (fun _ => True) 0 0 (fun (A : Nat → Prop) (r : Int32) (hh9 : Heap) => ∀ PZ9 : Prop, (kPD (dC, dI) vwCl A [(oM, .inr (12, [.ref mT, .int zt, .ref mS, .ref mX, .int zp, .int zf, .ref mL, .ref mB, .ref mD, .ref m1, .ref m2, .int zh, .ref mR, .int zr, .ref x1, .ref x2, .ref x3, .int zc, .ref mH, .int zy, .int za, .int zb, .int zs, .int zq, .int zw, .int ze, .ref mY, .int zn, .ref mE, .int zm, .int zl, .ref mW, .int zk, .ref mO, .int zd, .ref y1, .ref y2, .ref y3, .ref y4, .ref mZ])), (x1, .inl (cI, 300, .inl ec1)), (x2, .inl (cI, 300, .inl ec2)), (x3, .inl (cI, 300, .inl ec3)), (rw, .inl (cI, cw, .inl fr))] hh9 → (0 ≤ r.toInt ∧ r.toInt ≤ 61000) → (r.toInt = cT (tcR zc.toInt ec1 ec2 ec3) to_.toInt fr) → PZ9) → PZ9) := by
  refine kMi_of (cc := cX12_costOf_) (maxL := 7) (ret := (some .int)) (lv := [(0, .ref oM), (1, .ref rw), (2, .int fo), (3, .int to_)]) (by decide +kernel) rfl rfl (Nat.le_of_ble_eq_true rfl) ?_
  intro p e s m below meth c A QQ ls hx hb hr hts hml hown hlocks hA hQQ hK hX hP hD hS hl
  have hown : s.vm.findClass RX12 = some m.cls := hown
  have hcf := k_cf hx hb hml hown hts
  replace g_zt := hid g_zt
  replace g_zp := hid g_zp
  replace g_zf := hid g_zf
  replace g_zh := hid g_zh
  replace g_zr := hid g_zr
  replace g_zy := hid g_zy
  replace g_za := hid g_za
  replace g_zb := hid g_zb
  replace g_zs := hid g_zs
  replace g_zq := hid g_zq
  replace g_zn := hid g_zn
  replace g_zm := hid g_zm
  replace g_zk := hid g_zk
  refine lv_iconst (v := 0) hx hb dX12_costOf__0 (by decide) ?_
  refine lv_istore (lv' := [(4, .int 0), (0, .ref oM), (1, .ref rw), (2, .int fo), (3, .int to_)]) hx hb dX12_costOf__1 hl (by decide) rfl (fun ls hl => ?_)
  refine lv_bipush (v := 32) hx hb dX12_costOf__3 (by decide) ?_
  refine lv_istore (lv' := [(5, .int 32), (4, .int 0), (0, .ref oM), (1, .ref rw), (2, .int fo), (3, .int to_)]) hx hb dX12_costOf__5 hl (by decide) rfl (fun ls hl => ?_)
  refine lv_iload_n hx hb dX12_costOf__7 rfl (lv_at hl 4 rfl) ?_
  refine lv_istore (lv' := [(6, .int fo), (5, .int 32), (4, .int 0), (0, .ref oM), (1, .ref rw), (2, .int fo), (3, .int to_)]) hx hb dX12_costOf__8 hl (by decide) rfl (fun ls hl => ?_)
  have LOOP_10 : ∀ (k_10 : Nat) (su : Int32) (be : Int32) (k : Int32) (H : Heap) (locs : List Loc) (ls : Array Slot), MSd (300 - k.toInt : Int) k_10 → (0 ≤ su.toInt ∧ su.toInt ≤ 60200) → (0 ≤ be.toInt ∧ be.toInt ≤ 65535) → (0 ≤ k.toInt ∧ k.toInt ≤ 300) → (k.toInt ≤ to_.toInt) → (su.toInt ≤ 200 * k.toInt) → (su.toInt = cs (tcR zc.toInt ec1 ec2 ec3) fr k.toNatClampNeg) → (be = pv fr k.toNatClampNeg) → va_P (dC, dI) vwCl [(oM, .inr (12, [.ref mT, .int zt, .ref mS, .ref mX, .int zp, .int zf, .ref mL, .ref mB, .ref mD, .ref m1, .ref m2, .int zh, .ref mR, .int zr, .ref x1, .ref x2, .ref x3, .int zc, .ref mH, .int zy, .int za, .int zb, .int zs, .int zq, .int zw, .int ze, .ref mY, .int zn, .ref mE, .int zm, .int zl, .ref mW, .int zk, .ref mO, .int zd, .ref y1, .ref y2, .ref y3, .ref y4, .ref mZ])), (x1, .inl (cI, 300, .inl ec1)), (x2, .inl (cI, 300, .inl ec2)), (x3, .inl (cI, 300, .inl ec3)), (rw, .inl (cI, cw, .inl fr))] H → va_D A [(oM, .inr (12, [.ref mT, .int zt, .ref mS, .ref mX, .int zp, .int zf, .ref mL, .ref mB, .ref mD, .ref m1, .ref m2, .int zh, .ref mR, .int zr, .ref x1, .ref x2, .ref x3, .int zc, .ref mH, .int zy, .int za, .int zb, .int zs, .int zq, .int zw, .int ze, .ref mY, .int zn, .ref mE, .int zm, .int zl, .ref mW, .int zk, .ref mO, .int zd, .ref y1, .ref y2, .ref y3, .ref y4, .ref mZ])), (x1, .inl (cI, 300, .inl ec1)), (x2, .inl (cI, 300, .inl ec2)), (x3, .inl (cI, 300, .inl ec3)), (rw, .inl (cI, cw, .inl fr))] → va_S A s.heap H locs → lv_has ls 7 [(6, .int k), (5, .int be), (4, .int su), (0, .ref oM), (1, .ref rw), (2, .int fo), (3, .int to_)] → W p l e (headSpec wsX12_costOf_ ({ frames := 2, cells := 0, slots := 0, locals := 44 } : Room)).room s m ([.ref oM, .ref rw, .int fo, .int to_] : List Value).toArray below meth c H locs 0 0 (MQ below QQ ([.ref oM, .ref rw, .int fo, .int to_] : List Value).toArray s 0 0 A) (F0 m 10 ls []) := by
    clear hP hD hS hl
    try (clear g_fo)
    intro k_10
    induction k_10 with
    | zero =>
      intro su be k H locs ls hm_10 g_su g_be g_k hkt hs2 hsu hbe hP hD hS hl
      exact ms_0 hm_10
    | succ k_10 ih_10 =>
      intro su be k H locs ls hm_10 g_su g_be g_k hkt hs2 hsu hbe hP hD hS hl
      refine lv_iload hx hb dX12_costOf__10 (lv_at hl 0 rfl) ?_
      refine lv_iload_n hx hb dX12_costOf__12 rfl (lv_at hl 6 rfl) ?_
      refine lv_icmp_ge (tgt := 43) hx hb dX12_costOf__13 (by decide) (fun c_1 => ?_) (fun c_1 => ?_)
      · have tc_1 : to_.toInt ≤ k.toInt := v_le c_1
        refine lv_iload hx hb dX12_costOf__43 (lv_at hl 2 rfl) ?_
        refine lv_aload_n hx hb dX12_costOf__45 rfl (lv_at hl 3 rfl) ?_
        refine lv_iload hx hb dX12_costOf__46 (lv_at hl 1 rfl) ?_
        refine lv_bipush (v := 32) hx hb dX12_costOf__48 (by decide) ?_
        refine kV_i (rest := [.int su]) (q0 := 0) (ci := 12) hcf (f_X12_costOf l dC dI cI cS H.size oM mT mS mX mL mB mD m1 m2 mR x1 x2 x3 mH mY mE mW mO y1 y2 y3 y4 mZ zt zp zf zh zr zc zy za zb zs zq zw ze zn zm zl zk zd ec1 ec2 ec3 be 32 (g_zt) (g_zp) (g_zf) (g_zh) (g_zr) (g_zc) (g_zy) (g_za) (g_zb) (g_zs) (g_zq) (g_zn) (g_zm) (g_zk) (g_be) (by decide) (hV)) kc_X12_costOf gX12_costOf__X12_costOf rfl rfl rfl ⟨Nat.le_of_ble_eq_true rfl, Nat.le_of_ble_eq_true rfl⟩ kX_t hK hP hD hS hA [0, 1, 2, 3] [4] rfl (by decide +kernel) rfl rfl rfl hl rfl (Nat.le_of_ble_eq_true rfl) dX12_costOf__50 ⟨Nat.le_of_ble_eq_true rfl, Nat.le_of_ble_eq_true rfl⟩ (fun r_2 H locs hB hJ hSn => ?_)
        refine hB _ (fun hPD9 hf2_0 hf2_1 => ?_)
        clear hB
        obtain ⟨hPn, hDn⟩ := hJ _ hPD9.1 hPD9.2 [(rw, .inl (cI, cw, .inl fr)), (oM, .inr (12, [.ref mT, .int zt, .ref mS, .ref mX, .int zp, .int zf, .ref mL, .ref mB, .ref mD, .ref m1, .ref m2, .int zh, .ref mR, .int zr, .ref x1, .ref x2, .ref x3, .int zc, .ref mH, .int zy, .int za, .int zb, .int zs, .int zq, .int zw, .int ze, .ref mY, .int zn, .ref mE, .int zm, .int zl, .ref mW, .int zk, .ref mO, .int zd, .ref y1, .ref y2, .ref y3, .ref y4, .ref mZ])), (x1, .inl (cI, 300, .inl ec1)), (x2, .inl (cI, 300, .inl ec2)), (x3, .inl (cI, 300, .inl ec3))] rfl
        clear hP hD hS hJ hPD9
        have hP := hPn
        have hD := hDn
        have hS := hSn
        clear hPn hDn hSn
        refine lv_iadd hx hb dX12_costOf__53 ?_
        refine lv_topi (fun x_3 ex_3 => ?_)
        have tx_3 : x_3.toInt = su.toInt + r_2.toInt := v_addR ex_3 g_su hf2_0 (by decide) (by decide)
        exact kl_i (v := x_3) hQQ hx hb hr hlocks hS dX12_costOf__54 (fun PZ9 kZ9 => kZ9 (kPD_sub hP hD [1, 2, 3, 4, 0] (by decide +kernel) rfl) (v_rr (v_sumR (l := 0) (h := 60400) tx_3 g_su hf2_0 (by decide) (by decide)) (by decide) (by decide)) (cT_of hsu hbe hf2_1 (by omega) (by omega) (by omega)))
      · have tc_1 : k.toInt < to_.toInt := v_nle c_1
        refine lv_iload hx hb dX12_costOf__16 (lv_at hl 2 rfl) ?_
        refine lv_aload_n hx hb dX12_costOf__18 rfl (lv_at hl 3 rfl) ?_
        refine lv_iload hx hb dX12_costOf__19 (lv_at hl 1 rfl) ?_
        refine lv_aload_n hx hb dX12_costOf__21 rfl (lv_at hl 4 rfl) ?_
        refine lv_iload hx hb dX12_costOf__22 (lv_at hl 0 rfl) ?_
        refine va_iald hx hb hK hP 4 0 rfl rfl (v_in (by omega)) dX12_costOf__24 ?_
        refine lv_topi (fun x_4 ex_4 => ?_)
        have tp_x_4 := prg_at hrow ex_4 (by omega) (by omega)
        refine kV_i (rest := [.int su]) (q0 := 0) (ci := 12) hcf (f_X12_costOf l dC dI cI cS H.size oM mT mS mX mL mB mD m1 m2 mR x1 x2 x3 mH mY mE mW mO y1 y2 y3 y4 mZ zt zp zf zh zr zc zy za zb zs zq zw ze zn zm zl zk zd ec1 ec2 ec3 be x_4 (g_zt) (g_zp) (g_zf) (g_zh) (g_zr) (g_zc) (g_zy) (g_za) (g_zb) (g_zs) (g_zq) (g_zn) (g_zm) (g_zk) (g_be) (by omega) (hV)) kc_X12_costOf gX12_costOf__X12_costOf rfl rfl rfl ⟨Nat.le_of_ble_eq_true rfl, Nat.le_of_ble_eq_true rfl⟩ kX_t hK hP hD hS hA [0, 1, 2, 3] [4] rfl (by decide +kernel) rfl rfl rfl hl rfl (Nat.le_of_ble_eq_true rfl) dX12_costOf__25 ⟨Nat.le_of_ble_eq_true rfl, Nat.le_of_ble_eq_true rfl⟩ (fun r_5 H locs hB hJ hSn => ?_)
        refine hB _ (fun hPD9 hf5_0 hf5_1 => ?_)
        clear hB
        obtain ⟨hPn, hDn⟩ := hJ _ hPD9.1 hPD9.2 [(rw, .inl (cI, cw, .inl fr)), (oM, .inr (12, [.ref mT, .int zt, .ref mS, .ref mX, .int zp, .int zf, .ref mL, .ref mB, .ref mD, .ref m1, .ref m2, .int zh, .ref mR, .int zr, .ref x1, .ref x2, .ref x3, .int zc, .ref mH, .int zy, .int za, .int zb, .int zs, .int zq, .int zw, .int ze, .ref mY, .int zn, .ref mE, .int zm, .int zl, .ref mW, .int zk, .ref mO, .int zd, .ref y1, .ref y2, .ref y3, .ref y4, .ref mZ])), (x1, .inl (cI, 300, .inl ec1)), (x2, .inl (cI, 300, .inl ec2)), (x3, .inl (cI, 300, .inl ec3))] rfl
        clear hP hD hS hJ hPD9
        have hP := hPn
        have hD := hDn
        have hS := hSn
        clear hPn hDn hSn
        refine lv_iadd hx hb dX12_costOf__28 ?_
        refine lv_topi (fun x_6 ex_6 => ?_)
        have tx_6 : x_6.toInt = su.toInt + r_5.toInt := v_addR ex_6 g_su hf5_0 (by decide) (by decide)
        refine lv_istore (lv' := [(4, .int x_6), (6, .int k), (5, .int be), (0, .ref oM), (1, .ref rw), (2, .int fo), (3, .int to_)]) hx hb dX12_costOf__29 hl (by decide) rfl (fun ls hl => ?_)
        refine lv_aload_n hx hb dX12_costOf__31 rfl (lv_at hl 4 rfl) ?_
        refine lv_iload hx hb dX12_costOf__32 (lv_at hl 1 rfl) ?_
        refine va_iald hx hb hK hP 0 0 rfl rfl (v_in (by omega)) dX12_costOf__34 ?_
        refine k_i (y := x_4) ex_4.symm ?_
        refine lv_istore (lv' := [(5, .int x_4), (4, .int x_6), (6, .int k), (0, .ref oM), (1, .ref rw), (2, .int fo), (3, .int to_)]) hx hb dX12_costOf__35 hl (by decide) rfl (fun ls hl => ?_)
        obtain ⟨x_7, ex_7⟩ : ∃ y : Int32, y = k + 1 := ⟨_, rfl⟩
        have tx_7 : x_7.toInt = k.toInt + 1 := v_addR (l2 := 1) (h2 := 1) ex_7 g_k (by decide) (by decide) (by decide)
        refine lv_iinc (v := x_7) (lv' := [(6, .int x_7), (5, .int x_4), (4, .int x_6), (0, .ref oM), (1, .ref rw), (2, .int fo), (3, .int to_)]) hx hb dX12_costOf__37 hl (k := 2) rfl (by rw [ex_7]; rfl) (by decide) rfl (fun ls hl => ?_)
        refine lv_goto (tgt := 10) hx hb dX12_costOf__40 (by decide) ?_
        exact ih_10 x_6 x_4 x_7 _ _ _ (ms_lt hm_10 (by show ((300 - x_7.toInt : Int)) < 300 - k.toInt; omega) (by show (0 : Int) < 300 - k.toInt; omega)) (by show 0 ≤ x_6.toInt ∧ x_6.toInt ≤ 60200; omega) (by show 0 ≤ x_4.toInt ∧ x_4.toInt ≤ 65535; omega) (by show 0 ≤ x_7.toInt ∧ x_7.toInt ≤ 300; omega) (by show x_7.toInt ≤ to_.toInt; omega) (by show x_6.toInt ≤ 200 * x_7.toInt; omega) ((cs_s hsu hbe ex_4 hf5_1 (by omega) (by omega) (by omega)).1) ((cs_s hsu hbe ex_4 hf5_1 (by omega) (by omega) (by omega)).2) (hP.sub [1, 2, 3, 4, 0] rfl) (hD.sub [1, 2, 3, 4, 0] (by decide +kernel) rfl) hS (lv_sub hl [0, 1, 2, 3, 4, 5, 6] rfl)
  exact LOOP_10 _ 0 32 fo _ _ _ (ms_s _) (by decide) (by decide) (v_rr g_fo (by decide) (by decide)) (by show fo.toInt ≤ to_.toInt; omega) (by show 0 ≤ 200 * fo.toInt; omega) (by rw [ix_eq (x := fo) (N := 0) (by omega)]; rfl) (by rw [ix_eq (x := fo) (N := 0) (by omega)]; rfl) hP hD hS (lv_sub hl [0, 1, 2, 3, 4, 5, 6] rfl)

end

/-! 59n.a.rows -/
section
set_option maxRecDepth 100000 in
theorem dA239_cX7_passRoughly : kDec cX7_passRoughly [(0, .aload_n 0, 1), (1, .iload_n 1, 1), (2, .aload_n 3, 1), (3, .invokevirtual 65, 3), (6, .ifCond .eq 16, 3), (22, .iconst (-1), 1), (23, .ireturn, 1), (9, .aload_n 0, 1), (10, .getfield 14, 3), (13, .invokevirtual 31, 3), (16, .sipush 900, 3), (19, .if_icmp .le 5, 3), (24, .aload 4, 2), (26, .iconst 0, 1), (27, .invokevirtual 28, 3), (30, .iconst 0, 1), (31, .istore 5, 2), (33, .iconst 0, 1), (34, .istore 6, 2), (36, .iload 6, 2), (38, .aload_n 0, 1), (39, .getfield 14, 3), (42, .invokevirtual 31, 3), (45, .if_icmp .ge 95, 3)] = true := by decide +kernel
theorem dX7_passRoughly_0 : decode cX7_passRoughly 0 = .ok (.aload_n 0, 1) := kDec_at dA239_cX7_passRoughly 0 rfl
theorem dX7_passRoughly_1 : decode cX7_passRoughly 1 = .ok (.iload_n 1, 1) := kDec_at dA239_cX7_passRoughly 1 rfl
theorem dX7_passRoughly_2 : decode cX7_passRoughly 2 = .ok (.aload_n 3, 1) := kDec_at dA239_cX7_passRoughly 2 rfl
theorem dX7_passRoughly_3 : decode cX7_passRoughly 3 = .ok (.invokevirtual 65, 3) := kDec_at dA239_cX7_passRoughly 3 rfl
theorem dX7_passRoughly_6 : decode cX7_passRoughly 6 = .ok (.ifCond .eq 16, 3) := kDec_at dA239_cX7_passRoughly 4 rfl
theorem dX7_passRoughly_22 : decode cX7_passRoughly 22 = .ok (.iconst (-1), 1) := kDec_at dA239_cX7_passRoughly 5 rfl
theorem dX7_passRoughly_23 : decode cX7_passRoughly 23 = .ok (.ireturn, 1) := kDec_at dA239_cX7_passRoughly 6 rfl
theorem dX7_passRoughly_9 : decode cX7_passRoughly 9 = .ok (.aload_n 0, 1) := kDec_at dA239_cX7_passRoughly 7 rfl
theorem dX7_passRoughly_10 : decode cX7_passRoughly 10 = .ok (.getfield 14, 3) := kDec_at dA239_cX7_passRoughly 8 rfl
theorem dX7_passRoughly_13 : decode cX7_passRoughly 13 = .ok (.invokevirtual 31, 3) := kDec_at dA239_cX7_passRoughly 9 rfl
theorem dX7_passRoughly_16 : decode cX7_passRoughly 16 = .ok (.sipush 900, 3) := kDec_at dA239_cX7_passRoughly 10 rfl
theorem dX7_passRoughly_19 : decode cX7_passRoughly 19 = .ok (.if_icmp .le 5, 3) := kDec_at dA239_cX7_passRoughly 11 rfl
theorem dX7_passRoughly_24 : decode cX7_passRoughly 24 = .ok (.aload 4, 2) := kDec_at dA239_cX7_passRoughly 12 rfl
theorem dX7_passRoughly_26 : decode cX7_passRoughly 26 = .ok (.iconst 0, 1) := kDec_at dA239_cX7_passRoughly 13 rfl
theorem dX7_passRoughly_27 : decode cX7_passRoughly 27 = .ok (.invokevirtual 28, 3) := kDec_at dA239_cX7_passRoughly 14 rfl
theorem dX7_passRoughly_30 : decode cX7_passRoughly 30 = .ok (.iconst 0, 1) := kDec_at dA239_cX7_passRoughly 15 rfl
theorem dX7_passRoughly_31 : decode cX7_passRoughly 31 = .ok (.istore 5, 2) := kDec_at dA239_cX7_passRoughly 16 rfl
theorem dX7_passRoughly_33 : decode cX7_passRoughly 33 = .ok (.iconst 0, 1) := kDec_at dA239_cX7_passRoughly 17 rfl
theorem dX7_passRoughly_34 : decode cX7_passRoughly 34 = .ok (.istore 6, 2) := kDec_at dA239_cX7_passRoughly 18 rfl
theorem dX7_passRoughly_36 : decode cX7_passRoughly 36 = .ok (.iload 6, 2) := kDec_at dA239_cX7_passRoughly 19 rfl
theorem dX7_passRoughly_38 : decode cX7_passRoughly 38 = .ok (.aload_n 0, 1) := kDec_at dA239_cX7_passRoughly 20 rfl
theorem dX7_passRoughly_39 : decode cX7_passRoughly 39 = .ok (.getfield 14, 3) := kDec_at dA239_cX7_passRoughly 21 rfl
theorem dX7_passRoughly_42 : decode cX7_passRoughly 42 = .ok (.invokevirtual 31, 3) := kDec_at dA239_cX7_passRoughly 22 rfl
theorem dX7_passRoughly_45 : decode cX7_passRoughly 45 = .ok (.if_icmp .ge 95, 3) := kDec_at dA239_cX7_passRoughly 23 rfl
set_option maxRecDepth 20000 in
theorem ggX7_passRoughly_X7_write : GoodIn wsX7_passRoughly wsX7_write := goodIn_sub (fun _ h => List.mem_cons_of_mem _ (List.mem_append_left _ (List.mem_append_left _ (List.mem_append_left _ (List.mem_append_left _ (List.mem_append_left _ (List.mem_append_left _ (List.mem_append_right _ (h))))))))) gX7_write_all
set_option maxRecDepth 20000 in
theorem gX7_passRoughly_X7_write : GoodIn wsX7_passRoughly (wsV RX7 65 RX7 yX7_write wsX7_write) := goodIn_app (goodIn_r _ [8, 9, 10, 11] rfl (by decide +kernel)) ggX7_passRoughly_X7_write
set_option maxRecDepth 20000 in
theorem ggX7_passRoughly_X5_length : GoodIn wsX7_passRoughly wsX5_length := goodIn_sub (fun _ h => List.mem_cons_of_mem _ (List.mem_append_left _ (List.mem_append_left _ (List.mem_append_left _ (List.mem_append_left _ (List.mem_append_left _ (List.mem_append_right _ (h)))))))) gX5_length_all
set_option maxRecDepth 20000 in
theorem gX7_passRoughly_X5_length : GoodIn wsX7_passRoughly (wsV RX7 31 RX5 yX5_length wsX5_length) := goodIn_app (goodIn_r _ [16, 17, 18, 15] rfl (by decide +kernel)) ggX7_passRoughly_X5_length
set_option maxRecDepth 20000 in
theorem ggX7_passRoughly_X5_cut : GoodIn wsX7_passRoughly wsX5_cut := goodIn_sub (fun _ h => List.mem_cons_of_mem _ (List.mem_append_left _ (List.mem_append_left _ (List.mem_append_left _ (List.mem_append_left _ (List.mem_append_right _ (h))))))) gX5_cut_all
set_option maxRecDepth 20000 in
theorem gX7_passRoughly_X5_cut : GoodIn wsX7_passRoughly (wsV RX7 28 RX5 yX5_cut wsX5_cut) := goodIn_app (goodIn_r _ [12, 13, 14, 15] rfl (by decide +kernel)) ggX7_passRoughly_X5_cut
set_option maxRecDepth 100000 in
theorem dA240_cX7_passRoughly : kDec cX7_passRoughly [(140, .iload 5, 2), (142, .ireturn, 1), (48, .aload_n 0, 1), (49, .getfield 20, 3), (52, .iload_n 2, 1), (53, .aload_n 0, 1), (54, .getfield 14, 3), (57, .iload 6, 2), (59, .aload_n 0, 1), (60, .getfield 14, 3), (63, .invokevirtual 31, 3), (66, .invokevirtual 45, 3), (69, .istore 7, 2), (71, .aload 4, 2), (73, .iload 7, 2), (75, .iconst (-1), 1), (76, .if_icmp .ne 8, 3), (84, .iload 7, 2), (86, .invokestatic 49, 3), (89, .invokevirtual 52, 3), (92, .ifCond .ne 5, 3), (97, .iload 5, 2), (99, .iload 7, 2), (101, .iconst (-1), 1)] = true := by decide +kernel
theorem dX7_passRoughly_140 : decode cX7_passRoughly 140 = .ok (.iload 5, 2) := kDec_at dA240_cX7_passRoughly 0 rfl
theorem dX7_passRoughly_142 : decode cX7_passRoughly 142 = .ok (.ireturn, 1) := kDec_at dA240_cX7_passRoughly 1 rfl
theorem dX7_passRoughly_48 : decode cX7_passRoughly 48 = .ok (.aload_n 0, 1) := kDec_at dA240_cX7_passRoughly 2 rfl
theorem dX7_passRoughly_49 : decode cX7_passRoughly 49 = .ok (.getfield 20, 3) := kDec_at dA240_cX7_passRoughly 3 rfl
theorem dX7_passRoughly_52 : decode cX7_passRoughly 52 = .ok (.iload_n 2, 1) := kDec_at dA240_cX7_passRoughly 4 rfl
theorem dX7_passRoughly_53 : decode cX7_passRoughly 53 = .ok (.aload_n 0, 1) := kDec_at dA240_cX7_passRoughly 5 rfl
theorem dX7_passRoughly_54 : decode cX7_passRoughly 54 = .ok (.getfield 14, 3) := kDec_at dA240_cX7_passRoughly 6 rfl
theorem dX7_passRoughly_57 : decode cX7_passRoughly 57 = .ok (.iload 6, 2) := kDec_at dA240_cX7_passRoughly 7 rfl
theorem dX7_passRoughly_59 : decode cX7_passRoughly 59 = .ok (.aload_n 0, 1) := kDec_at dA240_cX7_passRoughly 8 rfl
theorem dX7_passRoughly_60 : decode cX7_passRoughly 60 = .ok (.getfield 14, 3) := kDec_at dA240_cX7_passRoughly 9 rfl
theorem dX7_passRoughly_63 : decode cX7_passRoughly 63 = .ok (.invokevirtual 31, 3) := kDec_at dA240_cX7_passRoughly 10 rfl
theorem dX7_passRoughly_66 : decode cX7_passRoughly 66 = .ok (.invokevirtual 45, 3) := kDec_at dA240_cX7_passRoughly 11 rfl
theorem dX7_passRoughly_69 : decode cX7_passRoughly 69 = .ok (.istore 7, 2) := kDec_at dA240_cX7_passRoughly 12 rfl
theorem dX7_passRoughly_71 : decode cX7_passRoughly 71 = .ok (.aload 4, 2) := kDec_at dA240_cX7_passRoughly 13 rfl
theorem dX7_passRoughly_73 : decode cX7_passRoughly 73 = .ok (.iload 7, 2) := kDec_at dA240_cX7_passRoughly 14 rfl
theorem dX7_passRoughly_75 : decode cX7_passRoughly 75 = .ok (.iconst (-1), 1) := kDec_at dA240_cX7_passRoughly 15 rfl
theorem dX7_passRoughly_76 : decode cX7_passRoughly 76 = .ok (.if_icmp .ne 8, 3) := kDec_at dA240_cX7_passRoughly 16 rfl
theorem dX7_passRoughly_84 : decode cX7_passRoughly 84 = .ok (.iload 7, 2) := kDec_at dA240_cX7_passRoughly 17 rfl
theorem dX7_passRoughly_86 : decode cX7_passRoughly 86 = .ok (.invokestatic 49, 3) := kDec_at dA240_cX7_passRoughly 18 rfl
theorem dX7_passRoughly_89 : decode cX7_passRoughly 89 = .ok (.invokevirtual 52, 3) := kDec_at dA240_cX7_passRoughly 19 rfl
theorem dX7_passRoughly_92 : decode cX7_passRoughly 92 = .ok (.ifCond .ne 5, 3) := kDec_at dA240_cX7_passRoughly 20 rfl
theorem dX7_passRoughly_97 : decode cX7_passRoughly 97 = .ok (.iload 5, 2) := kDec_at dA240_cX7_passRoughly 21 rfl
theorem dX7_passRoughly_99 : decode cX7_passRoughly 99 = .ok (.iload 7, 2) := kDec_at dA240_cX7_passRoughly 22 rfl
theorem dX7_passRoughly_101 : decode cX7_passRoughly 101 = .ok (.iconst (-1), 1) := kDec_at dA240_cX7_passRoughly 23 rfl
set_option maxRecDepth 20000 in
theorem ggX7_passRoughly_X2_decode : GoodIn wsX7_passRoughly wsX2_decode := goodIn_sub (fun _ h => List.mem_cons_of_mem _ (List.mem_append_left _ (List.mem_append_left _ (List.mem_append_left _ (List.mem_append_right _ (h)))))) gX2_decode_all
set_option maxRecDepth 20000 in
theorem gX7_passRoughly_X2_decode : GoodIn wsX7_passRoughly (wsV RX7 45 RX2 yX2_decode wsX2_decode) := goodIn_app (goodIn_r _ [22, 23, 24, 19] rfl (by decide +kernel)) ggX7_passRoughly_X2_decode
set_option maxRecDepth 20000 in
theorem ggX7_passRoughly_X2_letterIn : GoodIn wsX7_passRoughly wsX2_letterIn := goodIn_sub (fun _ h => List.mem_cons_of_mem _ (List.mem_append_left _ (List.mem_append_left _ (List.mem_append_right _ (h))))) gX2_letterIn_all
set_option maxRecDepth 20000 in
theorem gX7_passRoughly_X2_letterIn : GoodIn wsX7_passRoughly (va_wsS RX7 49 yX2_letterIn wsX2_letterIn) := goodIn_app (goodIn_r _ [25, 26, 19] rfl (by decide +kernel)) ggX7_passRoughly_X2_letterIn
set_option maxRecDepth 20000 in
theorem ggX7_passRoughly_X5_add : GoodIn wsX7_passRoughly wsX5_add := goodIn_sub (fun _ h => List.mem_cons_of_mem _ (List.mem_append_left _ (List.mem_append_right _ (h)))) gX5_add_all
set_option maxRecDepth 20000 in
theorem gX7_passRoughly_X5_add : GoodIn wsX7_passRoughly (wsV RX7 52 RX5 yX5_add wsX5_add) := goodIn_app (goodIn_r _ [27, 20, 21, 15] rfl (by decide +kernel)) ggX7_passRoughly_X5_add
set_option maxRecDepth 100000 in
theorem dA241_cX7_passRoughly : kDec cX7_passRoughly [(102, .if_icmp .ne 7, 3), (109, .iconst 0, 1), (110, .iadd, 1), (111, .istore 5, 2), (113, .iload 6, 2), (115, .iload 7, 2), (117, .iconst (-1), 1), (118, .if_icmp .ne 7, 3), (125, .iconst 1, 1), (126, .iload 7, 2), (128, .invokestatic 56, 3), (131, .invokestatic 59, 3), (134, .iadd, 1), (135, .istore 6, 2), (137, .goto (-101), 3), (95, .iconst (-1), 1), (96, .ireturn, 1), (79, .ldc 73, 2), (81, .goto 8, 3), (105, .iconst 1, 1), (106, .goto 4, 3), (121, .iconst 1, 1), (122, .goto 12, 3)] = true := by decide +kernel
theorem dX7_passRoughly_102 : decode cX7_passRoughly 102 = .ok (.if_icmp .ne 7, 3) := kDec_at dA241_cX7_passRoughly 0 rfl
theorem dX7_passRoughly_109 : decode cX7_passRoughly 109 = .ok (.iconst 0, 1) := kDec_at dA241_cX7_passRoughly 1 rfl
theorem dX7_passRoughly_110 : decode cX7_passRoughly 110 = .ok (.iadd, 1) := kDec_at dA241_cX7_passRoughly 2 rfl
theorem dX7_passRoughly_111 : decode cX7_passRoughly 111 = .ok (.istore 5, 2) := kDec_at dA241_cX7_passRoughly 3 rfl
theorem dX7_passRoughly_113 : decode cX7_passRoughly 113 = .ok (.iload 6, 2) := kDec_at dA241_cX7_passRoughly 4 rfl
theorem dX7_passRoughly_115 : decode cX7_passRoughly 115 = .ok (.iload 7, 2) := kDec_at dA241_cX7_passRoughly 5 rfl
theorem dX7_passRoughly_117 : decode cX7_passRoughly 117 = .ok (.iconst (-1), 1) := kDec_at dA241_cX7_passRoughly 6 rfl
theorem dX7_passRoughly_118 : decode cX7_passRoughly 118 = .ok (.if_icmp .ne 7, 3) := kDec_at dA241_cX7_passRoughly 7 rfl
theorem dX7_passRoughly_125 : decode cX7_passRoughly 125 = .ok (.iconst 1, 1) := kDec_at dA241_cX7_passRoughly 8 rfl
theorem dX7_passRoughly_126 : decode cX7_passRoughly 126 = .ok (.iload 7, 2) := kDec_at dA241_cX7_passRoughly 9 rfl
theorem dX7_passRoughly_128 : decode cX7_passRoughly 128 = .ok (.invokestatic 56, 3) := kDec_at dA241_cX7_passRoughly 10 rfl
theorem dX7_passRoughly_131 : decode cX7_passRoughly 131 = .ok (.invokestatic 59, 3) := kDec_at dA241_cX7_passRoughly 11 rfl
theorem dX7_passRoughly_134 : decode cX7_passRoughly 134 = .ok (.iadd, 1) := kDec_at dA241_cX7_passRoughly 12 rfl
theorem dX7_passRoughly_135 : decode cX7_passRoughly 135 = .ok (.istore 6, 2) := kDec_at dA241_cX7_passRoughly 13 rfl
theorem dX7_passRoughly_137 : decode cX7_passRoughly 137 = .ok (.goto (-101), 3) := kDec_at dA241_cX7_passRoughly 14 rfl
theorem dX7_passRoughly_95 : decode cX7_passRoughly 95 = .ok (.iconst (-1), 1) := kDec_at dA241_cX7_passRoughly 15 rfl
theorem dX7_passRoughly_96 : decode cX7_passRoughly 96 = .ok (.ireturn, 1) := kDec_at dA241_cX7_passRoughly 16 rfl
theorem dX7_passRoughly_79 : decode cX7_passRoughly 79 = .ok (.ldc 73, 2) := kDec_at dA241_cX7_passRoughly 17 rfl
theorem dX7_passRoughly_81 : decode cX7_passRoughly 81 = .ok (.goto 8, 3) := kDec_at dA241_cX7_passRoughly 18 rfl
theorem dX7_passRoughly_105 : decode cX7_passRoughly 105 = .ok (.iconst 1, 1) := kDec_at dA241_cX7_passRoughly 19 rfl
theorem dX7_passRoughly_106 : decode cX7_passRoughly 106 = .ok (.goto 4, 3) := kDec_at dA241_cX7_passRoughly 20 rfl
theorem dX7_passRoughly_121 : decode cX7_passRoughly 121 = .ok (.iconst 1, 1) := kDec_at dA241_cX7_passRoughly 21 rfl
theorem dX7_passRoughly_122 : decode cX7_passRoughly 122 = .ok (.goto 12, 3) := kDec_at dA241_cX7_passRoughly 22 rfl
set_option maxRecDepth 20000 in
theorem ggX7_passRoughly_X2_bytesIn : GoodIn wsX7_passRoughly wsX2_bytesIn := goodIn_sub (fun _ h => List.mem_cons_of_mem _ (List.mem_append_right _ (h))) gX2_bytesIn_all
set_option maxRecDepth 20000 in
theorem gX7_passRoughly_X2_bytesIn : GoodIn wsX7_passRoughly (va_wsS RX7 56 yX2_bytesIn wsX2_bytesIn) := goodIn_app (goodIn_r _ [28, 29, 19] rfl (by decide +kernel)) ggX7_passRoughly_X2_bytesIn
set_option maxRecDepth 100000 in
theorem dA242_cX11_rough : kDec cX11_rough [(0, .aload_n 0, 1), (1, .iconst (-1), 1), (2, .putfield 90, 3), (5, .iload_n 1, 1), (6, .invokestatic 117, 3), (9, .ifCond .eq 10, 3), (19, .iconst (-1), 1), (20, .ireturn, 1), (12, .iload_n 2, 1), (13, .invokestatic 117, 3), (16, .ifCond .ne 5, 3), (21, .aload_n 0, 1), (22, .getfield 44, 3), (25, .iload_n 1, 1), (26, .iload_n 2, 1), (27, .aload_n 0, 1), (28, .getfield 34, 3), (31, .aload_n 0, 1), (32, .getfield 37, 3), (35, .invokevirtual 181, 3), (38, .istore_n 3, 1), (39, .aload_n 0, 1), (40, .aload_n 0, 1), (41, .getfield 44, 3)] = true := by decide +kernel
theorem dX11_rough_0 : decode cX11_rough 0 = .ok (.aload_n 0, 1) := kDec_at dA242_cX11_rough 0 rfl
theorem dX11_rough_1 : decode cX11_rough 1 = .ok (.iconst (-1), 1) := kDec_at dA242_cX11_rough 1 rfl
theorem dX11_rough_2 : decode cX11_rough 2 = .ok (.putfield 90, 3) := kDec_at dA242_cX11_rough 2 rfl
theorem dX11_rough_5 : decode cX11_rough 5 = .ok (.iload_n 1, 1) := kDec_at dA242_cX11_rough 3 rfl
theorem dX11_rough_6 : decode cX11_rough 6 = .ok (.invokestatic 117, 3) := kDec_at dA242_cX11_rough 4 rfl
theorem dX11_rough_9 : decode cX11_rough 9 = .ok (.ifCond .eq 10, 3) := kDec_at dA242_cX11_rough 5 rfl
theorem dX11_rough_19 : decode cX11_rough 19 = .ok (.iconst (-1), 1) := kDec_at dA242_cX11_rough 6 rfl
theorem dX11_rough_20 : decode cX11_rough 20 = .ok (.ireturn, 1) := kDec_at dA242_cX11_rough 7 rfl
theorem dX11_rough_12 : decode cX11_rough 12 = .ok (.iload_n 2, 1) := kDec_at dA242_cX11_rough 8 rfl
theorem dX11_rough_13 : decode cX11_rough 13 = .ok (.invokestatic 117, 3) := kDec_at dA242_cX11_rough 9 rfl
theorem dX11_rough_16 : decode cX11_rough 16 = .ok (.ifCond .ne 5, 3) := kDec_at dA242_cX11_rough 10 rfl
theorem dX11_rough_21 : decode cX11_rough 21 = .ok (.aload_n 0, 1) := kDec_at dA242_cX11_rough 11 rfl
theorem dX11_rough_22 : decode cX11_rough 22 = .ok (.getfield 44, 3) := kDec_at dA242_cX11_rough 12 rfl
theorem dX11_rough_25 : decode cX11_rough 25 = .ok (.iload_n 1, 1) := kDec_at dA242_cX11_rough 13 rfl
theorem dX11_rough_26 : decode cX11_rough 26 = .ok (.iload_n 2, 1) := kDec_at dA242_cX11_rough 14 rfl
theorem dX11_rough_27 : decode cX11_rough 27 = .ok (.aload_n 0, 1) := kDec_at dA242_cX11_rough 15 rfl
theorem dX11_rough_28 : decode cX11_rough 28 = .ok (.getfield 34, 3) := kDec_at dA242_cX11_rough 16 rfl
theorem dX11_rough_31 : decode cX11_rough 31 = .ok (.aload_n 0, 1) := kDec_at dA242_cX11_rough 17 rfl
theorem dX11_rough_32 : decode cX11_rough 32 = .ok (.getfield 37, 3) := kDec_at dA242_cX11_rough 18 rfl
theorem dX11_rough_35 : decode cX11_rough 35 = .ok (.invokevirtual 181, 3) := kDec_at dA242_cX11_rough 19 rfl
theorem dX11_rough_38 : decode cX11_rough 38 = .ok (.istore_n 3, 1) := kDec_at dA242_cX11_rough 20 rfl
theorem dX11_rough_39 : decode cX11_rough 39 = .ok (.aload_n 0, 1) := kDec_at dA242_cX11_rough 21 rfl
theorem dX11_rough_40 : decode cX11_rough 40 = .ok (.aload_n 0, 1) := kDec_at dA242_cX11_rough 22 rfl
theorem dX11_rough_41 : decode cX11_rough 41 = .ok (.getfield 44, 3) := kDec_at dA242_cX11_rough 23 rfl
set_option maxRecDepth 20000 in
theorem ggX11_rough_X2_known : GoodIn wsX11_rough wsX2_known := goodIn_sub (fun _ h => List.mem_cons_of_mem _ (List.mem_append_left _ (List.mem_append_left _ (List.mem_append_left _ (List.mem_append_right _ (h)))))) gX2_known_all
set_option maxRecDepth 20000 in
theorem gX11_rough_X2_known : GoodIn wsX11_rough (va_wsS RX11 117 yX2_known wsX2_known) := goodIn_app (goodIn_r _ [5, 6, 7] rfl (by decide +kernel)) ggX11_rough_X2_known
set_option maxRecDepth 20000 in
theorem gX7_passRoughly_all : wsX7_passRoughly.all goodWord = true := by
  unfold wsX7_passRoughly
  exact good_c (by decide +kernel) (good_a (good_a (good_a (good_a (good_a (good_a (good_a (good_a (good_a (good_a (good_a ((by decide +kernel)) gX7_clsall) gX5_clsall) gX2_clsall) gX10_clsall) gX7_write_all) gX5_length_all) gX5_cut_all) gX2_decode_all) gX2_letterIn_all) gX5_add_all) gX2_bytesIn_all)
set_option maxRecDepth 20000 in
theorem ggX11_rough_X7_passRoughly : GoodIn wsX11_rough wsX7_passRoughly := goodIn_sub (fun _ h => List.mem_cons_of_mem _ (List.mem_append_left _ (List.mem_append_left _ (List.mem_append_right _ (h))))) gX7_passRoughly_all
set_option maxRecDepth 20000 in
theorem gX11_rough_X7_passRoughly : GoodIn wsX11_rough (wsV RX11 181 RX7 yX7_passRoughly wsX7_passRoughly) := goodIn_app (goodIn_r _ [8, 9, 10, 11] rfl (by decide +kernel)) ggX11_rough_X7_passRoughly
set_option maxRecDepth 20000 in
theorem ggX11_rough_X7_fault : GoodIn wsX11_rough wsX7_fault := goodIn_sub (fun _ h => List.mem_cons_of_mem _ (List.mem_append_left _ (List.mem_append_right _ (h)))) gX7_fault_all
set_option maxRecDepth 20000 in
theorem gX11_rough_X7_fault : GoodIn wsX11_rough (wsV RX11 127 RX7 yX7_fault wsX7_fault) := goodIn_app (goodIn_r _ [13, 14, 15, 11] rfl (by decide +kernel)) ggX11_rough_X7_fault
set_option maxRecDepth 100000 in
theorem dA243_cX11_rough : kDec cX11_rough [(44, .invokevirtual 127, 3), (47, .putfield 90, 3), (50, .iload_n 3, 1), (51, .iconst (-1), 1), (52, .if_icmp .ne 5, 3), (57, .aload_n 0, 1), (58, .aload_n 0, 1), (59, .getfield 37, 3), (62, .invokevirtual 113, 3), (65, .pop, 1), (66, .iload_n 3, 1), (67, .ireturn, 1), (55, .iconst (-1), 1), (56, .ireturn, 1)] = true := by decide +kernel
theorem dX11_rough_44 : decode cX11_rough 44 = .ok (.invokevirtual 127, 3) := kDec_at dA243_cX11_rough 0 rfl
theorem dX11_rough_47 : decode cX11_rough 47 = .ok (.putfield 90, 3) := kDec_at dA243_cX11_rough 1 rfl
theorem dX11_rough_50 : decode cX11_rough 50 = .ok (.iload_n 3, 1) := kDec_at dA243_cX11_rough 2 rfl
theorem dX11_rough_51 : decode cX11_rough 51 = .ok (.iconst (-1), 1) := kDec_at dA243_cX11_rough 3 rfl
theorem dX11_rough_52 : decode cX11_rough 52 = .ok (.if_icmp .ne 5, 3) := kDec_at dA243_cX11_rough 4 rfl
theorem dX11_rough_57 : decode cX11_rough 57 = .ok (.aload_n 0, 1) := kDec_at dA243_cX11_rough 5 rfl
theorem dX11_rough_58 : decode cX11_rough 58 = .ok (.aload_n 0, 1) := kDec_at dA243_cX11_rough 6 rfl
theorem dX11_rough_59 : decode cX11_rough 59 = .ok (.getfield 37, 3) := kDec_at dA243_cX11_rough 7 rfl
theorem dX11_rough_62 : decode cX11_rough 62 = .ok (.invokevirtual 113, 3) := kDec_at dA243_cX11_rough 8 rfl
theorem dX11_rough_65 : decode cX11_rough 65 = .ok (.pop, 1) := kDec_at dA243_cX11_rough 9 rfl
theorem dX11_rough_66 : decode cX11_rough 66 = .ok (.iload_n 3, 1) := kDec_at dA243_cX11_rough 10 rfl
theorem dX11_rough_67 : decode cX11_rough 67 = .ok (.ireturn, 1) := kDec_at dA243_cX11_rough 11 rfl
theorem dX11_rough_55 : decode cX11_rough 55 = .ok (.iconst (-1), 1) := kDec_at dA243_cX11_rough 12 rfl
theorem dX11_rough_56 : decode cX11_rough 56 = .ok (.ireturn, 1) := kDec_at dA243_cX11_rough 13 rfl
set_option maxRecDepth 20000 in
theorem ggX11_rough_X11_become : GoodIn wsX11_rough wsX11_become := goodIn_sub (fun _ h => List.mem_cons_of_mem _ (List.mem_append_right _ (h))) gX11_become_all
set_option maxRecDepth 20000 in
theorem gX11_rough_X11_become : GoodIn wsX11_rough (wsV RX11 113 RX11 yX11_become wsX11_become) := goodIn_app (goodIn_r _ [16, 17, 18, 12] rfl (by decide +kernel)) ggX11_rough_X11_become

end

/-! 59n.rough -/
section
theorem F_add_c {cap : Nat} {l l' r : Int32} {f f' : Nat → Int32} {v : Int32} (h : F_add cap l l' r f f' v) : (l.toInt < cap ∧ r.toInt = 1 ∧ l'.toInt = l.toInt + 1) ∨ ((cap : Int) ≤ l.toInt ∧ r.toInt = 0 ∧ l'.toInt = l.toInt) := by
  rcases h with ⟨a1, a2, a3, _⟩ | ⟨a1, a2, a3, _⟩
  · exact Or.inl ⟨a1, by rw [a3]; rfl, a2⟩
  · exact Or.inr ⟨a1, by rw [a3]; rfl, by rw [a2]⟩

set_option maxHeartbeats 40000000 in
set_option maxRecDepth 100000 in
theorem f_X7_passRoughly (l : Launch) (dC : Nat → ClassId) (dI : Nat → Nat → Nat) (cI cS : ClassId) (sz : Nat) (oP : Nat) (nx : Nat) (nd : Nat) (oC : Nat) (nB : Nat) (aB : Nat) (ax : Nat) (ad : Nat) (o4 : Nat) (o5 : Nat) (a41 : Nat) (a42 : Nat) (a43 : Nat) (a51 : Nat) (a52 : Nat) (a53 : Nat) (ft : Int32) (lB : Int32) (fB : Nat → Int32) (lx : Int32) (fx : Nat → Int32) (ld : Int32) (fd : Nat → Int32) (l4 : Int32) (f41 : Nat → Int32) (f42 : Nat → Int32) (f43 : Nat → Int32) (l5 : Int32) (f51 : Nat → Int32) (f52 : Nat → Int32) (f53 : Nat → Int32) (a : Int32) (b : Int32) (g_lB : 0 ≤ lB.toInt ∧ lB.toInt ≤ 2400) (g_lx : 0 ≤ lx.toInt ∧ lx.toInt ≤ 300) (g_ld : 0 ≤ ld.toInt ∧ ld.toInt ≤ 300) (hlt : prg lx.toInt 0 65535 fx) (hT4 : HT 512 511 hsT f42 f43) (ho4 : (occ f43 512 : Int) ≤ 511) (hT5 : HT 512 511 hsT f52 f53) (ho5 : (occ f53 512 : Int) ≤ 511) (hL4 : prg 256 (-1) 65535 f41) (hL5 : prg 256 (-1) 65535 f51) (hBr : okB (Bc a f42 f43 f52 f53)) : kMi l yX7_passRoughly wsX7_passRoughly ({ frames := 4, cells := 0, slots := 0, locals := 94 } : Room) [.ref oP, .int a, .int b, .ref nx, .ref nd] sz (dC, dI) vwCl [(cI, .int), (cS, .short)] [(oP, .inr (7, [.ref oC, .ref nB, .int ft])), (nB, .inr (5, [.ref aB, .int lB])), (aB, .inl (cI, 2400, .inl fB)), (nx, .inr (5, [.ref ax, .int lx])), (ax, .inl (cI, 300, .inl fx)), (nd, .inr (5, [.ref ad, .int ld])), (ad, .inl (cI, 300, .inl fd)), (oC, .inr (2, [.ref o4, .ref o5])), (o4, .inr (10, [.ref a41, .ref a42, .ref a43, .int l4])), (a41, .inl (cI, 256, .inl f41)), (a42, .inl (cI, 512, .inl f42)), (a43, .inl (cI, 512, .inl f43)), (o5, .inr (10, [.ref a51, .ref a52, .ref a53, .int l5])), (a51, .inl (cI, 256, .inl f51)), (a52, .inl (cI, 512, .inl f52)), (a53, .inl (cI, 512, .inl f53))] (va_Nw (.methodLinkNest RX2 52 yX11_isLetter "TextMender")) 0 0 (fun (A : Nat → Prop) (r : Int32) (hh9 : Heap) => ∀ PZ9 : Prop, (∀ (ft' : Int32) (lB' : Int32) (fB' : Nat → Int32) (ld' : Int32) (fd' : Nat → Int32), kPD (dC, dI) vwCl A [(oP, .inr (7, [.ref oC, .ref nB, .int ft'])), (nB, .inr (5, [.ref aB, .int lB'])), (aB, .inl (cI, 2400, .inl fB')), (nx, .inr (5, [.ref ax, .int lx])), (ax, .inl (cI, 300, .inl fx)), (nd, .inr (5, [.ref ad, .int ld'])), (ad, .inl (cI, 300, .inl fd')), (oC, .inr (2, [.ref o4, .ref o5])), (o4, .inr (10, [.ref a41, .ref a42, .ref a43, .int l4])), (a41, .inl (cI, 256, .inl f41)), (a42, .inl (cI, 512, .inl f42)), (a43, .inl (cI, 512, .inl f43)), (o5, .inr (10, [.ref a51, .ref a52, .ref a53, .int l5])), (a51, .inl (cI, 256, .inl f51)), (a52, .inl (cI, 512, .inl f52)), (a53, .inl (cI, 512, .inl f53))] hh9 → (0 ≤ lB'.toInt ∧ lB'.toInt ≤ 2400) → (0 ≤ ld'.toInt ∧ ld'.toInt ≤ 300) → (F_pr r ld' fd' a b f41 f51 (Bc a f42 f43 f52 f53) lx.toInt fx) → PZ9) → PZ9) := by
  refine kMi_of (cc := cX7_passRoughly) (maxL := 8) (ret := (some .int)) (lv := [(0, .ref oP), (1, .int a), (2, .int b), (3, .ref nx), (4, .ref nd)]) (by decide +kernel) rfl rfl (Nat.le_of_ble_eq_true rfl) ?_
  intro p e s m below meth c A QQ ls hx hb hr hts hml hown hlocks hA hQQ hK hX hP hD hS hl
  have hown : s.vm.findClass RX7 = some m.cls := hown
  have hcf := k_cf hx hb hml hown hts
  have hN52 := hX
  have in_X7 : ∀ w ∈ wsX70, w ∈ wsX7_passRoughly := fun _ h => List.mem_cons_of_mem _ (List.mem_append_left _ (List.mem_append_left _ (List.mem_append_left _ (List.mem_append_left _ (List.mem_append_left _ (List.mem_append_left _ (List.mem_append_left _ (List.mem_append_left _ (List.mem_append_left _ (List.mem_append_left _ (List.mem_append_right _ (h))))))))))))
  replace g_lB := hid g_lB
  refine lv_aload_n hx hb dX7_passRoughly_0 rfl (lv_at hl 0 rfl) ?_
  refine lv_iload_n hx hb dX7_passRoughly_1 rfl (lv_at hl 1 rfl) ?_
  refine lv_aload_n hx hb dX7_passRoughly_2 rfl (lv_at hl 3 rfl) ?_
  refine kV_i (rest := []) (q0 := 0) (ci := 7) hcf (f_X7_write l dC dI cI cS s.heap.size oP nx oC nB aB o4 o5 a41 a42 a43 a51 a52 a53 ax ft lB fB l4 f42 f43 l5 f52 f53 lx fx a (g_lB) (g_lx) (hlt) (hT4) (by omega) (hT5) (by omega)) kc_X7_write gX7_passRoughly_X7_write rfl rfl rfl ⟨Nat.le_of_ble_eq_true rfl, Nat.le_of_ble_eq_true rfl⟩ kX_t hK hP hD hS hA ([0, 1, 2, 5, 6, 7, 8, 9, 10, 11, 3, 4].filterMap (fun j => (posT mk_17 0)[j]?)) (posF mk_17 0) (kCp (ws := [(oP, .inr (7, [.ref oC, .ref nB, .int ft])), (nB, .inr (5, [.ref aB, .int lB])), (aB, .inl (cI, 2400, .inl fB)), (nx, .inr (5, [.ref ax, .int lx])), (ax, .inl (cI, 300, .inl fx)), (oC, .inr (2, [.ref o4, .ref o5])), (o4, .inr (10, [.ref a41, .ref a42, .ref a43, .int l4])), (a42, .inl (cI, 512, .inl f42)), (a43, .inl (cI, 512, .inl f43)), (o5, .inr (10, [.ref a51, .ref a52, .ref a53, .int l5])), (a52, .inl (cI, 512, .inl f52)), (a53, .inl (cI, 512, .inl f53))]) (kC_of mk_17 rfl rfl) rfl) (by decide +kernel) rfl rfl rfl hl rfl (Nat.le_of_ble_eq_true rfl) dX7_passRoughly_3 ⟨Nat.le_of_ble_eq_true rfl, Nat.le_of_ble_eq_true rfl⟩ (fun r_1 H locs hB hJ hSn => ?_)
  refine hB _ (fun ft_1 lB_1 fB_1 hPD9 hf1_0 hf1_1 hf1_2 => ?_)
  clear hB
  obtain ⟨hPn, hDn⟩ := kJm (m := mk_17) hJ rfl hPD9.1 hPD9.2 [0, 1, 2, 10, 11, 3, 4, 5, 6, 7, 8, 9] (by decide +kernel) (ws := [(oP, .inr (7, [.ref oC, .ref nB, .int ft_1])), (nB, .inr (5, [.ref aB, .int lB_1])), (aB, .inl (cI, 2400, .inl fB_1)), (nx, .inr (5, [.ref ax, .int lx])), (ax, .inl (cI, 300, .inl fx)), (oC, .inr (2, [.ref o4, .ref o5])), (o4, .inr (10, [.ref a41, .ref a42, .ref a43, .int l4])), (a42, .inl (cI, 512, .inl f42)), (a43, .inl (cI, 512, .inl f43)), (o5, .inr (10, [.ref a51, .ref a52, .ref a53, .int l5])), (a52, .inl (cI, 512, .inl f52)), (a53, .inl (cI, 512, .inl f53))]) rfl (wn := [(oP, .inr (7, [.ref oC, .ref nB, .int ft_1])), (nB, .inr (5, [.ref aB, .int lB_1])), (aB, .inl (cI, 2400, .inl fB_1)), (nx, .inr (5, [.ref ax, .int lx])), (ax, .inl (cI, 300, .inl fx)), (nd, .inr (5, [.ref ad, .int ld])), (ad, .inl (cI, 300, .inl fd)), (oC, .inr (2, [.ref o4, .ref o5])), (o4, .inr (10, [.ref a41, .ref a42, .ref a43, .int l4])), (a41, .inl (cI, 256, .inl f41)), (a42, .inl (cI, 512, .inl f42)), (a43, .inl (cI, 512, .inl f43)), (o5, .inr (10, [.ref a51, .ref a52, .ref a53, .int l5])), (a51, .inl (cI, 256, .inl f51)), (a52, .inl (cI, 512, .inl f52)), (a53, .inl (cI, 512, .inl f53))]) rfl
  clear hP hD hS hJ hPD9
  have hP := hPn
  have hD := hDn
  have hS := hSn
  clear hPn hDn hSn
  refine lv_if_eq (tgt := 22) hx hb dX7_passRoughly_6 (by decide) (fun c_2 => ?_) (fun c_2 => ?_)
  · have tc_2 : r_1.toInt = 0 := v_eq c_2
    refine lv_iconst (v := (-1)) hx hb dX7_passRoughly_22 (by decide) ?_
    exact kl_i (v := (-1)) hQQ hx hb hr hlocks hS dX7_passRoughly_23 (fun PZ9 kZ9 => kZ9 ft_1 lB_1 fB_1 ld fd (⟨hP, hD⟩) (hf1_0) (g_ld) (by first | exact Or.inr ⟨rfl, rg_w0 (Bf := Bc a f42 f43 f52 f53) hf1_2 (by omega)⟩ | exact Or.inr ⟨rfl, rg_no (Bf := Bc a f42 f43 f52 f53) hwr9 hby9 (fun z => by omega)⟩))
  · have tc_2 : ¬ r_1.toInt = 0 := v_ne c_2
    have hwr9 := wr_WR (E := fun j => enc a (fx j) (Bc a f42 f43 f52 f53 (fx j))) hf1_2 (by omega)
    have hby9 := WR_b hwr9 (fun j hj => hlt j (by omega)) hBr
    refine lv_aload_n hx hb dX7_passRoughly_9 rfl (lv_at hl 0 rfl) ?_
    refine va_get (D := (dC, dI)) (ci := 7) (v := .ref nB) (C := RX7) (T := TX7) (N := 3) hx hb hts in_X7 hown hK hP 0 rfl rfl 1 (Nat.le_of_ble_eq_true rfl) (hts (.fieldLink RX7 14 "TextMender$Passage" "bytes" "LTextMender$Numbers;") (List.mem_of_getElem? (i := 1) rfl)) (fun _ h9 => h9) rfl dX7_passRoughly_10 ?_
    refine kV_i (rest := []) (q0 := 0) (ci := 5) hcf (m_X5_length l dC dI cI cS H.size nB aB lB_1 ) kc_X5_length gX7_passRoughly_X5_length rfl rfl rfl ⟨Nat.le_of_ble_eq_true rfl, Nat.le_of_ble_eq_true rfl⟩ kX_t hK hP hD hS hA (posT mk_19 0) (posF mk_19 0) (kC_of mk_19 rfl rfl) (by decide +kernel) rfl rfl rfl hl rfl (Nat.le_of_ble_eq_true rfl) dX7_passRoughly_13 ⟨Nat.le_of_ble_eq_true rfl, Nat.le_of_ble_eq_true rfl⟩ (fun r_3 H locs hB hJ hSn => ?_)
    refine hB _ (fun hPD9 hf3_0 => ?_)
    clear hB
    obtain ⟨hPn, hDn⟩ := kJi (m := mk_19) hJ rfl hPD9.1 hPD9.2 (wn := [(oP, .inr (7, [.ref oC, .ref nB, .int ft_1])), (nB, .inr (5, [.ref aB, .int lB_1])), (aB, .inl (cI, 2400, .inl fB_1)), (nx, .inr (5, [.ref ax, .int lx])), (ax, .inl (cI, 300, .inl fx)), (nd, .inr (5, [.ref ad, .int ld])), (ad, .inl (cI, 300, .inl fd)), (oC, .inr (2, [.ref o4, .ref o5])), (o4, .inr (10, [.ref a41, .ref a42, .ref a43, .int l4])), (a41, .inl (cI, 256, .inl f41)), (a42, .inl (cI, 512, .inl f42)), (a43, .inl (cI, 512, .inl f43)), (o5, .inr (10, [.ref a51, .ref a52, .ref a53, .int l5])), (a51, .inl (cI, 256, .inl f51)), (a52, .inl (cI, 512, .inl f52)), (a53, .inl (cI, 512, .inl f53))]) rfl
    clear hP hD hS hJ hPD9
    have hP := hPn
    have hD := hDn
    have hS := hSn
    clear hPn hDn hSn
    rw [hf3_0]
    refine lv_sipush (v := 900) hx hb dX7_passRoughly_16 (by decide) ?_
    refine lv_icmp_le (tgt := 24) hx hb dX7_passRoughly_19 (by decide) (fun c_4 => ?_) (fun c_4 => ?_)
    · have tc_4 : lB_1.toInt ≤ 900 := v_le c_4
      refine lv_aload hx hb dX7_passRoughly_24 (lv_at hl 4 rfl) ?_
      refine lv_iconst (v := 0) hx hb dX7_passRoughly_26 (by decide) ?_
      refine kV_v (rest := []) (q0 := 0) (ci := 5) hcf (m_X5_cut l dC dI cI cS H.size nd ad ld 0 (v_rr g_ld (by decide) (by decide))) kc_X5_cut gX7_passRoughly_X5_cut rfl rfl rfl ⟨Nat.le_of_ble_eq_true rfl, Nat.le_of_ble_eq_true rfl⟩ kX_t hK hP hD hS hA (posT mk_20 0) (posF mk_20 0) (kC_of mk_20 rfl rfl) (by decide +kernel) rfl rfl rfl hl rfl (Nat.le_of_ble_eq_true rfl) dX7_passRoughly_27 ⟨Nat.le_of_ble_eq_true rfl, Nat.le_of_ble_eq_true rfl⟩ (fun H locs hB hJ hSn => ?_)
      refine hB _ (fun lu_5 hPD9 hf5_0 hf5_1 hf5_2 => ?_)
      clear hB
      obtain ⟨hPn, hDn⟩ := kJi (m := mk_20) hJ rfl hPD9.1 hPD9.2 (wn := [(oP, .inr (7, [.ref oC, .ref nB, .int ft_1])), (nB, .inr (5, [.ref aB, .int lB_1])), (aB, .inl (cI, 2400, .inl fB_1)), (nx, .inr (5, [.ref ax, .int lx])), (ax, .inl (cI, 300, .inl fx)), (nd, .inr (5, [.ref ad, .int lu_5])), (ad, .inl (cI, 300, .inl fd)), (oC, .inr (2, [.ref o4, .ref o5])), (o4, .inr (10, [.ref a41, .ref a42, .ref a43, .int l4])), (a41, .inl (cI, 256, .inl f41)), (a42, .inl (cI, 512, .inl f42)), (a43, .inl (cI, 512, .inl f43)), (o5, .inr (10, [.ref a51, .ref a52, .ref a53, .int l5])), (a51, .inl (cI, 256, .inl f51)), (a52, .inl (cI, 512, .inl f52)), (a53, .inl (cI, 512, .inl f53))]) rfl
      clear hP hD hS hJ hPD9
      have hP := hPn
      have hD := hDn
      have hS := hSn
      clear hPn hDn hSn
      have ha5 : lu_5.toInt = 0 := F_cut_l hf5_2 (by first | decide | omega) (by first | omega | (show (0 : Int) ≤ _; omega))
      refine lv_iconst (v := 0) hx hb dX7_passRoughly_30 (by decide) ?_
      refine lv_istore (lv' := [(5, .int 0), (0, .ref oP), (1, .int a), (2, .int b), (3, .ref nx), (4, .ref nd)]) hx hb dX7_passRoughly_31 hl (by decide) rfl (fun ls hl => ?_)
      refine lv_iconst (v := 0) hx hb dX7_passRoughly_33 (by decide) ?_
      refine lv_istore (lv' := [(6, .int 0), (5, .int 0), (0, .ref oP), (1, .int a), (2, .int b), (3, .ref nx), (4, .ref nd)]) hx hb dX7_passRoughly_34 hl (by decide) rfl (fun ls hl => ?_)
      have LOOP_36 : ∀ (k_36 : Nat) (mk : Int32) (p_ : Int32) (l2 : Int32) (f2 : Nat → Int32) (H : Heap) (locs : List Loc) (ls : Array Slot), MSd (900 - p_.toInt : Int) k_36 → (0 ≤ mk.toInt ∧ mk.toInt ≤ 300) → (0 ≤ p_.toInt ∧ p_.toInt ≤ 900) → (0 ≤ l2.toInt ∧ l2.toInt ≤ 300) → (p_.toInt ≤ lB_1.toInt) → (RQ p_ l2 mk f2 (dl b f41 f51 fB_1 lB_1.toInt) (dx b f41 f51 fB_1 lB_1.toInt)) → (0 ≤ mk.toInt ∧ mk.toInt ≤ l2.toInt) → va_P (dC, dI) vwCl [(oP, .inr (7, [.ref oC, .ref nB, .int ft_1])), (nB, .inr (5, [.ref aB, .int lB_1])), (aB, .inl (cI, 2400, .inl fB_1)), (nx, .inr (5, [.ref ax, .int lx])), (ax, .inl (cI, 300, .inl fx)), (nd, .inr (5, [.ref ad, .int l2])), (ad, .inl (cI, 300, .inl f2)), (oC, .inr (2, [.ref o4, .ref o5])), (o4, .inr (10, [.ref a41, .ref a42, .ref a43, .int l4])), (a41, .inl (cI, 256, .inl f41)), (a42, .inl (cI, 512, .inl f42)), (a43, .inl (cI, 512, .inl f43)), (o5, .inr (10, [.ref a51, .ref a52, .ref a53, .int l5])), (a51, .inl (cI, 256, .inl f51)), (a52, .inl (cI, 512, .inl f52)), (a53, .inl (cI, 512, .inl f53))] H → va_D A [(oP, .inr (7, [.ref oC, .ref nB, .int ft_1])), (nB, .inr (5, [.ref aB, .int lB_1])), (aB, .inl (cI, 2400, .inl fB_1)), (nx, .inr (5, [.ref ax, .int lx])), (ax, .inl (cI, 300, .inl fx)), (nd, .inr (5, [.ref ad, .int l2])), (ad, .inl (cI, 300, .inl f2)), (oC, .inr (2, [.ref o4, .ref o5])), (o4, .inr (10, [.ref a41, .ref a42, .ref a43, .int l4])), (a41, .inl (cI, 256, .inl f41)), (a42, .inl (cI, 512, .inl f42)), (a43, .inl (cI, 512, .inl f43)), (o5, .inr (10, [.ref a51, .ref a52, .ref a53, .int l5])), (a51, .inl (cI, 256, .inl f51)), (a52, .inl (cI, 512, .inl f52)), (a53, .inl (cI, 512, .inl f53))] → va_S A s.heap H locs → lv_has ls 8 [(6, .int p_), (5, .int mk), (0, .ref oP), (1, .int a), (2, .int b), (3, .ref nx), (4, .ref nd)] → W p l e (headSpec wsX7_passRoughly ({ frames := 4, cells := 0, slots := 0, locals := 94 } : Room)).room s m ([.ref oP, .int a, .int b, .ref nx, .ref nd] : List Value).toArray below meth c H locs 0 0 (MQ below QQ ([.ref oP, .int a, .int b, .ref nx, .ref nd] : List Value).toArray s 0 0 A) (F0 m 36 ls []) := by
        clear hP hD hS hl
        try (clear ha5 hf5_0 hf5_1 hf5_2 g_ld)
        intro k_36
        induction k_36 with
        | zero =>
          intro mk p_ l2 f2 H locs ls hm_36 g_mk g_p_ g_l2 hpl hrq hmk hP hD hS hl
          exact ms_0 hm_36
        | succ k_36 ih_36 =>
          intro mk p_ l2 f2 H locs ls hm_36 g_mk g_p_ g_l2 hpl hrq hmk hP hD hS hl
          refine lv_iload hx hb dX7_passRoughly_36 (lv_at hl 0 rfl) ?_
          refine lv_aload_n hx hb dX7_passRoughly_38 rfl (lv_at hl 2 rfl) ?_
          refine va_get (D := (dC, dI)) (ci := 7) (v := .ref nB) (C := RX7) (T := TX7) (N := 3) hx hb hts in_X7 hown hK hP 0 rfl rfl 1 (Nat.le_of_ble_eq_true rfl) (hts (.fieldLink RX7 14 "TextMender$Passage" "bytes" "LTextMender$Numbers;") (List.mem_of_getElem? (i := 1) rfl)) (fun _ h9 => h9) rfl dX7_passRoughly_39 ?_
          refine kV_i (rest := [.int p_]) (q0 := 0) (ci := 5) hcf (m_X5_length l dC dI cI cS H.size nB aB lB_1 ) kc_X5_length gX7_passRoughly_X5_length rfl rfl rfl ⟨Nat.le_of_ble_eq_true rfl, Nat.le_of_ble_eq_true rfl⟩ kX_t hK hP hD hS hA (posT mk_19 0) (posF mk_19 0) (kC_of mk_19 rfl rfl) (by decide +kernel) rfl rfl rfl hl rfl (Nat.le_of_ble_eq_true rfl) dX7_passRoughly_42 ⟨Nat.le_of_ble_eq_true rfl, Nat.le_of_ble_eq_true rfl⟩ (fun r_6 H locs hB hJ hSn => ?_)
          refine hB _ (fun hPD9 hf6_0 => ?_)
          clear hB
          obtain ⟨hPn, hDn⟩ := kJi (m := mk_19) hJ rfl hPD9.1 hPD9.2 (wn := [(oP, .inr (7, [.ref oC, .ref nB, .int ft_1])), (nB, .inr (5, [.ref aB, .int lB_1])), (aB, .inl (cI, 2400, .inl fB_1)), (nx, .inr (5, [.ref ax, .int lx])), (ax, .inl (cI, 300, .inl fx)), (nd, .inr (5, [.ref ad, .int l2])), (ad, .inl (cI, 300, .inl f2)), (oC, .inr (2, [.ref o4, .ref o5])), (o4, .inr (10, [.ref a41, .ref a42, .ref a43, .int l4])), (a41, .inl (cI, 256, .inl f41)), (a42, .inl (cI, 512, .inl f42)), (a43, .inl (cI, 512, .inl f43)), (o5, .inr (10, [.ref a51, .ref a52, .ref a53, .int l5])), (a51, .inl (cI, 256, .inl f51)), (a52, .inl (cI, 512, .inl f52)), (a53, .inl (cI, 512, .inl f53))]) rfl
          clear hP hD hS hJ hPD9
          have hP := hPn
          have hD := hDn
          have hS := hSn
          clear hPn hDn hSn
          rw [hf6_0]
          refine lv_icmp_ge (tgt := 140) hx hb dX7_passRoughly_45 (by decide) (fun c_7 => ?_) (fun c_7 => ?_)
          · have tc_7 : lB_1.toInt ≤ p_.toInt := v_le c_7
            refine lv_iload hx hb dX7_passRoughly_140 (lv_at hl 1 rfl) ?_
            exact kl_i (v := mk) hQQ hx hb hr hlocks hS dX7_passRoughly_142 (fun PZ9 kZ9 => kZ9 ft_1 lB_1 fB_1 l2 f2 (⟨hP, hD⟩) (hf1_0) (g_l2) (Or.inl ⟨(RQ_mk hrq).1, rg_yes (Bf := Bc a f42 f43 f52 f53) hwr9 (by omega) hrq (by omega) (by omega)⟩))
          · have tc_7 : p_.toInt < lB_1.toInt := v_nle c_7
            refine lv_aload_n hx hb dX7_passRoughly_48 rfl (lv_at hl 2 rfl) ?_
            refine va_get (D := (dC, dI)) (ci := 7) (v := .ref oC) (C := RX7) (T := TX7) (N := 3) hx hb hts in_X7 hown hK hP 0 rfl rfl 0 (Nat.le_of_ble_eq_true rfl) (hts (.fieldLink RX7 20 "TextMender$Passage" "codes" "LTextMender$Codes;") (List.mem_of_getElem? (i := 2) rfl)) (fun _ h9 => h9) rfl dX7_passRoughly_49 ?_
            refine lv_iload_n hx hb dX7_passRoughly_52 rfl (lv_at hl 4 rfl) ?_
            refine lv_aload_n hx hb dX7_passRoughly_53 rfl (lv_at hl 2 rfl) ?_
            refine va_get (D := (dC, dI)) (ci := 7) (v := .ref nB) (C := RX7) (T := TX7) (N := 3) hx hb hts in_X7 hown hK hP 0 rfl rfl 1 (Nat.le_of_ble_eq_true rfl) (hts (.fieldLink RX7 14 "TextMender$Passage" "bytes" "LTextMender$Numbers;") (List.mem_of_getElem? (i := 1) rfl)) (fun _ h9 => h9) rfl dX7_passRoughly_54 ?_
            refine lv_iload hx hb dX7_passRoughly_57 (lv_at hl 0 rfl) ?_
            refine lv_aload_n hx hb dX7_passRoughly_59 rfl (lv_at hl 2 rfl) ?_
            refine va_get (D := (dC, dI)) (ci := 7) (v := .ref nB) (C := RX7) (T := TX7) (N := 3) hx hb hts in_X7 hown hK hP 0 rfl rfl 1 (Nat.le_of_ble_eq_true rfl) (hts (.fieldLink RX7 14 "TextMender$Passage" "bytes" "LTextMender$Numbers;") (List.mem_of_getElem? (i := 1) rfl)) (fun _ h9 => h9) rfl dX7_passRoughly_60 ?_
            refine kV_i (rest := [.int p_, .ref nB, .int b, .ref oC]) (q0 := 0) (ci := 5) hcf (m_X5_length l dC dI cI cS H.size nB aB lB_1 ) kc_X5_length gX7_passRoughly_X5_length rfl rfl rfl ⟨Nat.le_of_ble_eq_true rfl, Nat.le_of_ble_eq_true rfl⟩ kX_t hK hP hD hS hA (posT mk_19 0) (posF mk_19 0) (kC_of mk_19 rfl rfl) (by decide +kernel) rfl rfl rfl hl rfl (Nat.le_of_ble_eq_true rfl) dX7_passRoughly_63 ⟨Nat.le_of_ble_eq_true rfl, Nat.le_of_ble_eq_true rfl⟩ (fun r_8 H locs hB hJ hSn => ?_)
            refine hB _ (fun hPD9 hf8_0 => ?_)
            clear hB
            obtain ⟨hPn, hDn⟩ := kJi (m := mk_19) hJ rfl hPD9.1 hPD9.2 (wn := [(oP, .inr (7, [.ref oC, .ref nB, .int ft_1])), (nB, .inr (5, [.ref aB, .int lB_1])), (aB, .inl (cI, 2400, .inl fB_1)), (nx, .inr (5, [.ref ax, .int lx])), (ax, .inl (cI, 300, .inl fx)), (nd, .inr (5, [.ref ad, .int l2])), (ad, .inl (cI, 300, .inl f2)), (oC, .inr (2, [.ref o4, .ref o5])), (o4, .inr (10, [.ref a41, .ref a42, .ref a43, .int l4])), (a41, .inl (cI, 256, .inl f41)), (a42, .inl (cI, 512, .inl f42)), (a43, .inl (cI, 512, .inl f43)), (o5, .inr (10, [.ref a51, .ref a52, .ref a53, .int l5])), (a51, .inl (cI, 256, .inl f51)), (a52, .inl (cI, 512, .inl f52)), (a53, .inl (cI, 512, .inl f53))]) rfl
            clear hP hD hS hJ hPD9
            have hP := hPn
            have hD := hDn
            have hS := hSn
            clear hPn hDn hSn
            rw [hf8_0]
            refine kV_i (rest := []) (q0 := 0) (ci := 2) hcf (f_X2_decode l dC dI cI cS H.size oC nB o4 o5 a41 a42 a43 a51 a52 a53 aB 2400 l4 f41 l5 f51 lB_1 fB_1 b p_ lB_1 (by omega) (by omega) (by omega) (by omega) (hby9) (hL4) (hL5)) kc_X2_decode gX7_passRoughly_X2_decode rfl rfl rfl ⟨Nat.le_of_ble_eq_true rfl, Nat.le_of_ble_eq_true rfl⟩ (kX_1 hN52) hK hP hD hS hA ([2, 3, 4, 5, 6, 0, 1].filterMap (fun j => (posT mk_21 0)[j]?)) (posF mk_21 0) (kCp (ws := [(nB, .inr (5, [.ref aB, .int lB_1])), (aB, .inl (cI, 2400, .inl fB_1)), (oC, .inr (2, [.ref o4, .ref o5])), (o4, .inr (10, [.ref a41, .ref a42, .ref a43, .int l4])), (a41, .inl (cI, 256, .inl f41)), (o5, .inr (10, [.ref a51, .ref a52, .ref a53, .int l5])), (a51, .inl (cI, 256, .inl f51))]) (kC_of mk_21 rfl rfl) rfl) (by decide +kernel) rfl rfl rfl hl rfl (Nat.le_of_ble_eq_true rfl) dX7_passRoughly_66 ⟨Nat.le_of_ble_eq_true rfl, Nat.le_of_ble_eq_true rfl⟩ (fun r_9 H locs hB hJ hSn => ?_)
            refine hB _ (fun hPD9 hf9_0 => ?_)
            clear hB
            obtain ⟨hPn, hDn⟩ := kJm (m := mk_21) hJ rfl hPD9.1 hPD9.2 [5, 6, 0, 1, 2, 3, 4] (by decide +kernel) (ws := [(nB, .inr (5, [.ref aB, .int lB_1])), (aB, .inl (cI, 2400, .inl fB_1)), (oC, .inr (2, [.ref o4, .ref o5])), (o4, .inr (10, [.ref a41, .ref a42, .ref a43, .int l4])), (a41, .inl (cI, 256, .inl f41)), (o5, .inr (10, [.ref a51, .ref a52, .ref a53, .int l5])), (a51, .inl (cI, 256, .inl f51))]) rfl (wn := [(oP, .inr (7, [.ref oC, .ref nB, .int ft_1])), (nB, .inr (5, [.ref aB, .int lB_1])), (aB, .inl (cI, 2400, .inl fB_1)), (nx, .inr (5, [.ref ax, .int lx])), (ax, .inl (cI, 300, .inl fx)), (nd, .inr (5, [.ref ad, .int l2])), (ad, .inl (cI, 300, .inl f2)), (oC, .inr (2, [.ref o4, .ref o5])), (o4, .inr (10, [.ref a41, .ref a42, .ref a43, .int l4])), (a41, .inl (cI, 256, .inl f41)), (a42, .inl (cI, 512, .inl f42)), (a43, .inl (cI, 512, .inl f43)), (o5, .inr (10, [.ref a51, .ref a52, .ref a53, .int l5])), (a51, .inl (cI, 256, .inl f51)), (a52, .inl (cI, 512, .inl f52)), (a53, .inl (cI, 512, .inl f53))]) rfl
            clear hP hD hS hJ hPD9
            have hP := hPn
            have hD := hDn
            have hS := hSn
            clear hPn hDn hSn
            refine lv_istore (lv' := [(7, .int r_9), (6, .int p_), (5, .int mk), (0, .ref oP), (1, .int a), (2, .int b), (3, .ref nx), (4, .ref nd)]) hx hb dX7_passRoughly_69 hl (by decide) rfl (fun ls hl => ?_)
            refine lv_aload hx hb dX7_passRoughly_71 (lv_at hl 7 rfl) ?_
            refine lv_iload hx hb dX7_passRoughly_73 (lv_at hl 0 rfl) ?_
            refine lv_iconst (v := (-1)) hx hb dX7_passRoughly_75 (by decide) ?_
            refine lv_icmp_ne (tgt := 84) hx hb dX7_passRoughly_76 (by decide) (fun c_10 => ?_) (fun c_10 => ?_)
            · have tc_10 : ¬ r_9.toInt = (-1) := v_ne c_10
              obtain ⟨l9, x9, hD9, hr9, hx9, hy9⟩ := F_dc_1 hf9_0 c_10
              have cp9 := v_clamp (x := p_) (by omega)
              have hp9 := Dec_pos hD9
              have hd9 := dl_of hD9
              refine lv_iload hx hb dX7_passRoughly_84 (lv_at hl 0 rfl) ?_
              refine kS_i (rest := [.ref nd]) hcf (f_X2_letterIn l dC dI cI cS H.size r_9 ) kc_X2_letterIn gX7_passRoughly_X2_letterIn rfl rfl ⟨Nat.le_of_ble_eq_true rfl, Nat.le_of_ble_eq_true rfl⟩ kX_t hK hP hD hS hA (posT mk_22 0) (posF mk_22 0) (kC_of mk_22 rfl rfl) (by decide +kernel) rfl hl rfl (Nat.le_of_ble_eq_true rfl) dX7_passRoughly_86 ⟨Nat.le_of_ble_eq_true rfl, Nat.le_of_ble_eq_true rfl⟩ (fun r_11 H locs hB hJ hSn => ?_)
              refine hB _ (fun hPD9 hf11_0 => ?_)
              clear hB
              obtain ⟨hPn, hDn⟩ := kJi (m := mk_22) hJ rfl hPD9.1 hPD9.2 (wn := [(oP, .inr (7, [.ref oC, .ref nB, .int ft_1])), (nB, .inr (5, [.ref aB, .int lB_1])), (aB, .inl (cI, 2400, .inl fB_1)), (nx, .inr (5, [.ref ax, .int lx])), (ax, .inl (cI, 300, .inl fx)), (nd, .inr (5, [.ref ad, .int l2])), (ad, .inl (cI, 300, .inl f2)), (oC, .inr (2, [.ref o4, .ref o5])), (o4, .inr (10, [.ref a41, .ref a42, .ref a43, .int l4])), (a41, .inl (cI, 256, .inl f41)), (a42, .inl (cI, 512, .inl f42)), (a43, .inl (cI, 512, .inl f43)), (o5, .inr (10, [.ref a51, .ref a52, .ref a53, .int l5])), (a51, .inl (cI, 256, .inl f51)), (a52, .inl (cI, 512, .inl f52)), (a53, .inl (cI, 512, .inl f53))]) rfl
              clear hP hD hS hJ hPD9
              have hP := hPn
              have hD := hDn
              have hS := hSn
              clear hPn hDn hSn
              refine kV_i (rest := []) (q0 := 0) (ci := 5) hcf (m_X5_add l dC dI cI cS H.size nd ad 300 l2 f2 r_11 (by omega) (by omega)) kc_X5_add gX7_passRoughly_X5_add rfl rfl rfl ⟨Nat.le_of_ble_eq_true rfl, Nat.le_of_ble_eq_true rfl⟩ kX_t hK hP hD hS hA (posT mk_23 0) (posF mk_23 0) (kC_of mk_23 rfl rfl) (by decide +kernel) rfl rfl rfl hl rfl (Nat.le_of_ble_eq_true rfl) dX7_passRoughly_89 ⟨Nat.le_of_ble_eq_true rfl, Nat.le_of_ble_eq_true rfl⟩ (fun r_12 H locs hB hJ hSn => ?_)
              refine hB _ (fun lu_12 fu_12 hPD9 hf12_0 hf12_1 hf12_2 => ?_)
              clear hB
              obtain ⟨hPn, hDn⟩ := kJi (m := mk_23) hJ rfl hPD9.1 hPD9.2 (wn := [(oP, .inr (7, [.ref oC, .ref nB, .int ft_1])), (nB, .inr (5, [.ref aB, .int lB_1])), (aB, .inl (cI, 2400, .inl fB_1)), (nx, .inr (5, [.ref ax, .int lx])), (ax, .inl (cI, 300, .inl fx)), (nd, .inr (5, [.ref ad, .int lu_12])), (ad, .inl (cI, 300, .inl fu_12)), (oC, .inr (2, [.ref o4, .ref o5])), (o4, .inr (10, [.ref a41, .ref a42, .ref a43, .int l4])), (a41, .inl (cI, 256, .inl f41)), (a42, .inl (cI, 512, .inl f42)), (a43, .inl (cI, 512, .inl f43)), (o5, .inr (10, [.ref a51, .ref a52, .ref a53, .int l5])), (a51, .inl (cI, 256, .inl f51)), (a52, .inl (cI, 512, .inl f52)), (a53, .inl (cI, 512, .inl f53))]) rfl
              clear hP hD hS hJ hPD9
              have hP := hPn
              have hD := hDn
              have hS := hSn
              clear hPn hDn hSn
              have hfl12 := F_add_c hf12_2
              refine lv_if_ne (tgt := 97) hx hb dX7_passRoughly_92 (by decide) (fun c_13 => ?_) (fun c_13 => ?_)
              · have tc_13 : ¬ r_12.toInt = 0 := v_ne c_13
                refine lv_iload hx hb dX7_passRoughly_97 (lv_at hl 2 rfl) ?_
                refine lv_iload hx hb dX7_passRoughly_99 (lv_at hl 0 rfl) ?_
                refine lv_iconst (v := (-1)) hx hb dX7_passRoughly_101 (by decide) ?_
                refine lv_icmp_ne (tgt := 109) hx hb dX7_passRoughly_102 (by decide) (fun c_14 => ?_) (fun c_14 => by exfalso; have tc_14 : r_9.toInt = (-1) := v_eq c_14; omega)
                have tc_14 : ¬ r_9.toInt = (-1) := v_ne c_14
                refine lv_iconst (v := 0) hx hb dX7_passRoughly_109 (by decide) ?_
                refine lv_iadd hx hb dX7_passRoughly_110 ?_
                refine lv_topi (fun x_15 ex_15 => ?_)
                have tx_15 : x_15.toInt = mk.toInt + 0 := v_addR (l2 := 0) (h2 := 0) ex_15 g_mk (by decide) (by decide) (by decide)
                refine lv_istore (lv' := [(5, .int x_15), (7, .int r_9), (6, .int p_), (0, .ref oP), (1, .int a), (2, .int b), (3, .ref nx), (4, .ref nd)]) hx hb dX7_passRoughly_111 hl (by decide) rfl (fun ls hl => ?_)
                refine lv_iload hx hb dX7_passRoughly_113 (lv_at hl 2 rfl) ?_
                refine lv_iload hx hb dX7_passRoughly_115 (lv_at hl 1 rfl) ?_
                refine lv_iconst (v := (-1)) hx hb dX7_passRoughly_117 (by decide) ?_
                refine lv_icmp_ne (tgt := 125) hx hb dX7_passRoughly_118 (by decide) (fun c_16 => ?_) (fun c_16 => by exfalso; have tc_16 : r_9.toInt = (-1) := v_eq c_16; omega)
                have tc_16 : ¬ r_9.toInt = (-1) := v_ne c_16
                refine lv_iconst (v := 1) hx hb dX7_passRoughly_125 (by decide) ?_
                refine lv_iload hx hb dX7_passRoughly_126 (lv_at hl 1 rfl) ?_
                refine kS_i (rest := [.int 1, .int p_]) hcf (f_X2_bytesIn l dC dI cI cS H.size r_9 (by omega)) kc_X2_bytesIn gX7_passRoughly_X2_bytesIn rfl rfl ⟨Nat.le_of_ble_eq_true rfl, Nat.le_of_ble_eq_true rfl⟩ kX_t hK hP hD hS hA (posT mk_22 0) (posF mk_22 0) (kC_of mk_22 rfl rfl) (by decide +kernel) rfl hl rfl (Nat.le_of_ble_eq_true rfl) dX7_passRoughly_128 ⟨Nat.le_of_ble_eq_true rfl, Nat.le_of_ble_eq_true rfl⟩ (fun r_17 H locs hB hJ hSn => ?_)
                refine hB _ (fun hPD9 hf17_0 hf17_1 => ?_)
                clear hB
                obtain ⟨hPn, hDn⟩ := kJi (m := mk_22) hJ rfl hPD9.1 hPD9.2 (wn := [(oP, .inr (7, [.ref oC, .ref nB, .int ft_1])), (nB, .inr (5, [.ref aB, .int lB_1])), (aB, .inl (cI, 2400, .inl fB_1)), (nx, .inr (5, [.ref ax, .int lx])), (ax, .inl (cI, 300, .inl fx)), (nd, .inr (5, [.ref ad, .int lu_12])), (ad, .inl (cI, 300, .inl fu_12)), (oC, .inr (2, [.ref o4, .ref o5])), (o4, .inr (10, [.ref a41, .ref a42, .ref a43, .int l4])), (a41, .inl (cI, 256, .inl f41)), (a42, .inl (cI, 512, .inl f42)), (a43, .inl (cI, 512, .inl f43)), (o5, .inr (10, [.ref a51, .ref a52, .ref a53, .int l5])), (a51, .inl (cI, 256, .inl f51)), (a52, .inl (cI, 512, .inl f52)), (a53, .inl (cI, 512, .inl f53))]) rfl
                clear hP hD hS hJ hPD9
                have hP := hPn
                have hD := hDn
                have hS := hSn
                clear hPn hDn hSn
                refine va_mmax hx hb (by rw [hml]; exact hl.1.symm) hown (hts (.methodLink RX7 59 Lib.Math.max.name) (List.mem_of_getElem? (i := 4) rfl)) (hts (.static Lib.Math.max.name) (List.mem_of_getElem? (i := 5) rfl)) (hts (.initialized "java/lang/Math") (List.mem_of_getElem? (i := 6) rfl)) (hts (.code Lib.Math.max.name Lib.Math.max.code 2 (some .int)) (List.mem_of_getElem? (i := 7) rfl)) (Nat.le_of_ble_eq_true rfl) (Nat.le_of_ble_eq_true rfl) (Nat.zero_le _) (Nat.zero_le _) dX7_passRoughly_131 ?_
                refine lv_topi (fun x_18 ex_18 => ?_)
                have tx_18 : 1 ≤ x_18.toInt ∧ r_17.toInt ≤ x_18.toInt ∧ (x_18.toInt = 1 ∨ x_18.toInt = r_17.toInt) := v_max ex_18
                refine lv_iadd hx hb dX7_passRoughly_134 ?_
                refine lv_topi (fun x_19 ex_19 => ?_)
                have tx_19 : x_19.toInt = p_.toInt + x_18.toInt := v_add ex_19 (by show -2147483648 ≤ p_.toInt + x_18.toInt; omega) (by show p_.toInt + x_18.toInt < 2147483648; omega)
                refine lv_istore (lv' := [(6, .int x_19), (5, .int x_15), (7, .int r_9), (0, .ref oP), (1, .int a), (2, .int b), (3, .ref nx), (4, .ref nd)]) hx hb dX7_passRoughly_135 hl (by decide) rfl (fun ls hl => ?_)
                refine lv_goto (tgt := 36) hx hb dX7_passRoughly_137 (by decide) ?_
                exact ih_36 x_15 x_19 lu_12 fu_12 _ _ _ (ms_lt hm_36 (by show ((900 - x_19.toInt : Int)) < 900 - p_.toInt; omega) (by show (0 : Int) < 900 - p_.toInt; omega)) (v_rr (v_sumR (l := 0) (h := 300) (l2 := 0) (h2 := 0) tx_15 g_mk (by decide) (by decide) (by decide)) (by decide) (by decide)) (by show 0 ≤ x_19.toInt ∧ x_19.toInt ≤ 900; omega) (by show 0 ≤ lu_12.toInt ∧ lu_12.toInt ≤ 300; omega) (by show x_19.toInt ≤ lB_1.toInt; omega) (RQ_s hrq (F_add_l hf12_2 (by omega)) (F_add_f hf12_2 (by omega)) (Or.inr ⟨by rw [hd9.1]; omega, by rw [hd9.2]; exact v_inj (by omega), by omega, by rw [hd9.1]; omega⟩)) (by show 0 ≤ x_15.toInt ∧ x_15.toInt ≤ lu_12.toInt; omega) hP hD hS (lv_sub hl [0, 1, 3, 4, 5, 6, 7] rfl)
              · have tc_13 : r_12.toInt = 0 := v_eq c_13
                refine lv_iconst (v := (-1)) hx hb dX7_passRoughly_95 (by decide) ?_
                exact kl_i (v := (-1)) hQQ hx hb hr hlocks hS dX7_passRoughly_96 (fun PZ9 kZ9 => kZ9 ft_1 lB_1 fB_1 lu_12 fu_12 (⟨hP, hD⟩) (hf1_0) (by omega) (Or.inr ⟨rfl, rg_no (Bf := Bc a f42 f43 f52 f53) hwr9 hby9 (fun _ => RQ_full hrq (by omega) (by omega))⟩))
            · have tc_10 : r_9.toInt = (-1) := v_eq c_10
              refine lv_ldc hx hb hown (hts (.constant RX7 73 (65533)) (List.mem_of_getElem? (i := 3) rfl)) dX7_passRoughly_79 ?_
              refine lv_goto (tgt := 89) hx hb dX7_passRoughly_81 (by decide) ?_
              refine kV_i (rest := []) (q0 := 0) (ci := 5) hcf (m_X5_add l dC dI cI cS H.size nd ad 300 l2 f2 65533 (by omega) (by omega)) kc_X5_add gX7_passRoughly_X5_add rfl rfl rfl ⟨Nat.le_of_ble_eq_true rfl, Nat.le_of_ble_eq_true rfl⟩ kX_t hK hP hD hS hA (posT mk_23 0) (posF mk_23 0) (kC_of mk_23 rfl rfl) (by decide +kernel) rfl rfl rfl hl rfl (Nat.le_of_ble_eq_true rfl) dX7_passRoughly_89 ⟨Nat.le_of_ble_eq_true rfl, Nat.le_of_ble_eq_true rfl⟩ (fun r_20 H locs hB hJ hSn => ?_)
              refine hB _ (fun lu_20 fu_20 hPD9 hf20_0 hf20_1 hf20_2 => ?_)
              clear hB
              obtain ⟨hPn, hDn⟩ := kJi (m := mk_23) hJ rfl hPD9.1 hPD9.2 (wn := [(oP, .inr (7, [.ref oC, .ref nB, .int ft_1])), (nB, .inr (5, [.ref aB, .int lB_1])), (aB, .inl (cI, 2400, .inl fB_1)), (nx, .inr (5, [.ref ax, .int lx])), (ax, .inl (cI, 300, .inl fx)), (nd, .inr (5, [.ref ad, .int lu_20])), (ad, .inl (cI, 300, .inl fu_20)), (oC, .inr (2, [.ref o4, .ref o5])), (o4, .inr (10, [.ref a41, .ref a42, .ref a43, .int l4])), (a41, .inl (cI, 256, .inl f41)), (a42, .inl (cI, 512, .inl f42)), (a43, .inl (cI, 512, .inl f43)), (o5, .inr (10, [.ref a51, .ref a52, .ref a53, .int l5])), (a51, .inl (cI, 256, .inl f51)), (a52, .inl (cI, 512, .inl f52)), (a53, .inl (cI, 512, .inl f53))]) rfl
              clear hP hD hS hJ hPD9
              have hP := hPn
              have hD := hDn
              have hS := hSn
              clear hPn hDn hSn
              have hfl20 := F_add_c hf20_2
              refine lv_if_ne (tgt := 97) hx hb dX7_passRoughly_92 (by decide) (fun c_21 => ?_) (fun c_21 => ?_)
              · have tc_21 : ¬ r_20.toInt = 0 := v_ne c_21
                refine lv_iload hx hb dX7_passRoughly_97 (lv_at hl 2 rfl) ?_
                refine lv_iload hx hb dX7_passRoughly_99 (lv_at hl 0 rfl) ?_
                refine lv_iconst (v := (-1)) hx hb dX7_passRoughly_101 (by decide) ?_
                refine lv_icmp_ne (tgt := 109) hx hb dX7_passRoughly_102 (by decide) (fun c_22 => by exfalso; have tc_22 : ¬ r_9.toInt = (-1) := v_ne c_22; omega) (fun c_22 => ?_)
                have tc_22 : r_9.toInt = (-1) := v_eq c_22
                refine lv_iconst (v := 1) hx hb dX7_passRoughly_105 (by decide) ?_
                refine lv_goto (tgt := 110) hx hb dX7_passRoughly_106 (by decide) ?_
                refine lv_iadd hx hb dX7_passRoughly_110 ?_
                refine lv_topi (fun x_23 ex_23 => ?_)
                have tx_23 : x_23.toInt = mk.toInt + 1 := v_addR (l2 := 1) (h2 := 1) ex_23 g_mk (by decide) (by decide) (by decide)
                refine lv_istore (lv' := [(5, .int x_23), (7, .int r_9), (6, .int p_), (0, .ref oP), (1, .int a), (2, .int b), (3, .ref nx), (4, .ref nd)]) hx hb dX7_passRoughly_111 hl (by decide) rfl (fun ls hl => ?_)
                refine lv_iload hx hb dX7_passRoughly_113 (lv_at hl 2 rfl) ?_
                refine lv_iload hx hb dX7_passRoughly_115 (lv_at hl 1 rfl) ?_
                refine lv_iconst (v := (-1)) hx hb dX7_passRoughly_117 (by decide) ?_
                refine lv_icmp_ne (tgt := 125) hx hb dX7_passRoughly_118 (by decide) (fun c_24 => by exfalso; have tc_24 : ¬ r_9.toInt = (-1) := v_ne c_24; omega) (fun c_24 => ?_)
                have tc_24 : r_9.toInt = (-1) := v_eq c_24
                refine lv_iconst (v := 1) hx hb dX7_passRoughly_121 (by decide) ?_
                refine lv_goto (tgt := 134) hx hb dX7_passRoughly_122 (by decide) ?_
                refine lv_iadd hx hb dX7_passRoughly_134 ?_
                refine lv_topi (fun x_25 ex_25 => ?_)
                have tx_25 : x_25.toInt = p_.toInt + 1 := v_addR (l2 := 1) (h2 := 1) ex_25 g_p_ (by decide) (by decide) (by decide)
                refine lv_istore (lv' := [(6, .int x_25), (5, .int x_23), (7, .int r_9), (0, .ref oP), (1, .int a), (2, .int b), (3, .ref nx), (4, .ref nd)]) hx hb dX7_passRoughly_135 hl (by decide) rfl (fun ls hl => ?_)
                refine lv_goto (tgt := 36) hx hb dX7_passRoughly_137 (by decide) ?_
                exact ih_36 x_23 x_25 lu_20 fu_20 _ _ _ (ms_lt hm_36 (by show ((900 - x_25.toInt : Int)) < 900 - p_.toInt; omega) (by show (0 : Int) < 900 - p_.toInt; omega)) (by show 0 ≤ x_23.toInt ∧ x_23.toInt ≤ 300; omega) (by show 0 ≤ x_25.toInt ∧ x_25.toInt ≤ 900; omega) (by show 0 ≤ lu_20.toInt ∧ lu_20.toInt ≤ 300; omega) (by show x_25.toInt ≤ lB_1.toInt; omega) (RQ_s hrq (F_add_l hf20_2 (by omega)) (F_add_f hf20_2 (by omega)) (Or.inl ⟨F_dc_0 hf9_0 c_24, rfl, by omega, by omega⟩)) (by show 0 ≤ x_23.toInt ∧ x_23.toInt ≤ lu_20.toInt; omega) hP hD hS (lv_sub hl [0, 1, 3, 4, 5, 6, 7] rfl)
              · have tc_21 : r_20.toInt = 0 := v_eq c_21
                refine lv_iconst (v := (-1)) hx hb dX7_passRoughly_95 (by decide) ?_
                exact kl_i (v := (-1)) hQQ hx hb hr hlocks hS dX7_passRoughly_96 (fun PZ9 kZ9 => kZ9 ft_1 lB_1 fB_1 lu_20 fu_20 (⟨hP, hD⟩) (hf1_0) (by omega) (Or.inr ⟨rfl, rg_no (Bf := Bc a f42 f43 f52 f53) hwr9 hby9 (fun _ => RQ_full hrq (by omega) (by omega))⟩))
      exact LOOP_36 _ 0 0 lu_5 fd _ _ _ (ms_s _) (by decide) (by decide) (by show 0 ≤ lu_5.toInt ∧ lu_5.toInt ≤ 300; omega) (by show 0 ≤ lB_1.toInt; omega) (RQ_0 rfl (by omega) rfl) (by show 0 ≤ 0 ∧ 0 ≤ lu_5.toInt; omega) hP hD hS (lv_sub hl [0, 1, 2, 3, 4, 5, 6] rfl)
    · have tc_4 : 900 < lB_1.toInt := v_nle c_4
      refine lv_iconst (v := (-1)) hx hb dX7_passRoughly_22 (by decide) ?_
      exact kl_i (v := (-1)) hQQ hx hb hr hlocks hS dX7_passRoughly_23 (fun PZ9 kZ9 => kZ9 ft_1 lB_1 fB_1 ld fd (⟨hP, hD⟩) (hf1_0) (g_ld) (by first | exact Or.inr ⟨rfl, rg_w0 (Bf := Bc a f42 f43 f52 f53) hf1_2 (by omega)⟩ | exact Or.inr ⟨rfl, rg_no (Bf := Bc a f42 f43 f52 f53) hwr9 hby9 (fun z => by omega)⟩))

theorem pr_1 {r l a b : Int32} {f f' L4 L5 : Nat → Int32} {Bf : Int32 → Int32} {n : Int} (h : F_pr r l f' a b L4 L5 Bf n f) (h0 : ¬ r = -1) (ha : okd a) (hb : okd b) : ∃ c : Nat, l.toInt = c ∧ rgP a b L4 L5 Bf n f c f' r.toInt := by
  rcases h with ⟨_, c, c1, c2⟩ | ⟨e, _⟩
  · exact ⟨c, c1, ha, hb, c2⟩
  · exact absurd e h0
theorem pr_0 {r l a b : Int32} {f f' L4 L5 : Nat → Int32} {Bf : Int32 → Int32} {n : Int} (h : F_pr r l f' a b L4 L5 Bf n f) (h0 : r = -1) : ∀ c fm v, ¬ rgP a b L4 L5 Bf n f c fm v := by
  rintro c fm v ⟨_, _, b4⟩
  rcases h with ⟨a1, _⟩ | ⟨_, a3⟩
  · exact v_nn a1 h0
  · exact a3 _ _ _ b4

set_option maxHeartbeats 40000000 in
set_option maxRecDepth 100000 in
theorem f_X11_rough (l : Launch) (dC : Nat → ClassId) (dI : Nat → Nat → Nat) (cI cS : ClassId) (sz : Nat) (oX : Nat) (nT : Nat) (nL : Nat) (nM : Nat) (oC : Nat) (oP : Nat) (oH : Nat) (oK : Nat) (oG : Nat) (oR : Nat) (oQ : Nat) (oW : Nat) (aL : Nat) (aM : Nat) (nB : Nat) (aB : Nat) (o4 : Nat) (o5 : Nat) (a41 : Nat) (a42 : Nat) (a43 : Nat) (a51 : Nat) (a52 : Nat) (a53 : Nat) (g1 : Nat) (g2 : Nat) (nw : Nat) (w1 : Nat) (w2 : Nat) (w3 : Nat) (o7 : Nat) (o8 : Nat) (o9 : Nat) (w4 : Nat) (w5 : Nat) (w6 : Nat) (w7 : Nat) (fa : Int32) (lL : Int32) (fL : Nat → Int32) (lM : Int32) (fM : Nat → Int32) (ft : Int32) (lB : Int32) (fB : Nat → Int32) (l4 : Int32) (f41 : Nat → Int32) (f42 : Nat → Int32) (f43 : Nat → Int32) (l5 : Int32) (f51 : Nat → Int32) (f52 : Nat → Int32) (f53 : Nat → Int32) (gn : Int32) (lG : Int32) (fG1 : Nat → Int32) (fG2 : Nat → Int32) (ke : Int32) (tl : Int32) (fsh : Int32) (wi : Int32) (ri : Int32) (fm : Int32) (lm : Int32) (a : Int32) (b : Int32) (g_lL : 0 ≤ lL.toInt ∧ lL.toInt ≤ 300) (g_lM : 0 ≤ lM.toInt ∧ lM.toInt ≤ 300) (g_lB : 0 ≤ lB.toInt ∧ lB.toInt ≤ 2400) (g_gn : 0 ≤ gn.toInt ∧ gn.toInt ≤ 19) (g_lG : 0 ≤ lG.toInt ∧ lG.toInt ≤ 20) (g_fG2 : rg 0 300 fG2) (g_ke : 0 ≤ ke.toInt ∧ ke.toInt ≤ 200) (g_fsh : 0 ≤ fsh.toInt ∧ fsh.toInt ≤ 1) (g_fm : -1 ≤ fm.toInt ∧ fm.toInt ≤ 800) (g_lm : -1 ≤ lm.toInt ∧ lm.toInt ≤ 800) (hlt : prg lL.toInt 0 65535 fL) (hT4 : HT 512 511 hsT f42 f43) (ho4 : (occ f43 512 : Int) ≤ 511) (hT5 : HT 512 511 hsT f52 f53) (ho5 : (occ f53 512 : Int) ≤ 511) (hL4 : prg 256 (-1) 65535 f41) (hL5 : prg 256 (-1) 65535 f51) (hBr : ∀ cd : Int32, okB (Bc cd f42 f43 f52 f53)) : kMi l yX11_rough wsX11_rough ({ frames := 5, cells := 0, slots := 0, locals := 121 } : Room) [.ref oX, .int a, .int b] sz (dC, dI) vwCl [(cI, .int), (cS, .short)] [(oX, .inr (11, [.ref nT, .ref nL, .ref nM, .ref oC, .ref oP, .ref oH, .ref oK, .ref oG, .ref oR, .ref oQ, .ref oW, .int fa])), (nL, .inr (5, [.ref aL, .int lL])), (aL, .inl (cI, 300, .inl fL)), (nM, .inr (5, [.ref aM, .int lM])), (aM, .inl (cI, 300, .inl fM)), (oP, .inr (7, [.ref oC, .ref nB, .int ft])), (nB, .inr (5, [.ref aB, .int lB])), (aB, .inl (cI, 2400, .inl fB)), (oC, .inr (2, [.ref o4, .ref o5])), (o4, .inr (10, [.ref a41, .ref a42, .ref a43, .int l4])), (a41, .inl (cI, 256, .inl f41)), (a42, .inl (cI, 512, .inl f42)), (a43, .inl (cI, 512, .inl f43)), (o5, .inr (10, [.ref a51, .ref a52, .ref a53, .int l5])), (a51, .inl (cI, 256, .inl f51)), (a52, .inl (cI, 512, .inl f52)), (a53, .inl (cI, 512, .inl f53)), (oG, .inr (0, [.ref g1, .ref g2, .int gn, .int lG])), (g1, .inl (cI, 6000, .inl fG1)), (g2, .inl (cI, 20, .inl fG2)), (oW, .inr (1, [.ref oC, .ref oK, .ref nw, .ref w1, .ref w2, .ref w3, .ref o7, .ref o8, .ref o9, .ref w4, .ref w5, .ref w6, .ref w7, .int ke, .int tl, .int fsh, .int wi, .int ri, .int fm, .int lm]))] (va_Nw (.methodLinkNest RX2 52 yX11_isLetter "TextMender")) 0 0 (fun (A : Nat → Prop) (r : Int32) (hh9 : Heap) => ∀ PZ9 : Prop, (∀ (fa' : Int32) (ft' : Int32) (lB' : Int32) (fB' : Nat → Int32) (lM' : Int32) (fM' : Nat → Int32) (lL' : Int32) (fL' : Nat → Int32) (fsh' : Int32) (gn' : Int32) (lG' : Int32) (fG1' : Nat → Int32) (fG2' : Nat → Int32), kPD (dC, dI) vwCl A [(oX, .inr (11, [.ref nT, .ref nL, .ref nM, .ref oC, .ref oP, .ref oH, .ref oK, .ref oG, .ref oR, .ref oQ, .ref oW, .int fa'])), (nL, .inr (5, [.ref aL, .int lL'])), (aL, .inl (cI, 300, .inl fL')), (nM, .inr (5, [.ref aM, .int lM'])), (aM, .inl (cI, 300, .inl fM')), (oP, .inr (7, [.ref oC, .ref nB, .int ft'])), (nB, .inr (5, [.ref aB, .int lB'])), (aB, .inl (cI, 2400, .inl fB')), (oC, .inr (2, [.ref o4, .ref o5])), (o4, .inr (10, [.ref a41, .ref a42, .ref a43, .int l4])), (a41, .inl (cI, 256, .inl f41)), (a42, .inl (cI, 512, .inl f42)), (a43, .inl (cI, 512, .inl f43)), (o5, .inr (10, [.ref a51, .ref a52, .ref a53, .int l5])), (a51, .inl (cI, 256, .inl f51)), (a52, .inl (cI, 512, .inl f52)), (a53, .inl (cI, 512, .inl f53)), (oG, .inr (0, [.ref g1, .ref g2, .int gn', .int lG'])), (g1, .inl (cI, 6000, .inl fG1')), (g2, .inl (cI, 20, .inl fG2')), (oW, .inr (1, [.ref oC, .ref oK, .ref nw, .ref w1, .ref w2, .ref w3, .ref o7, .ref o8, .ref o9, .ref w4, .ref w5, .ref w6, .ref w7, .int ke, .int tl, .int fsh', .int wi, .int ri, .int fm, .int lm]))] hh9 → (0 ≤ lB'.toInt ∧ lB'.toInt ≤ 2400) → (0 ≤ lM'.toInt ∧ lM'.toInt ≤ 300) → (0 ≤ lL'.toInt ∧ lL'.toInt ≤ 300) → (0 ≤ fsh'.toInt ∧ fsh'.toInt ≤ 1) → (0 ≤ gn'.toInt ∧ gn'.toInt ≤ 19) → (0 ≤ lG'.toInt ∧ lG'.toInt ≤ 20) → (rg 0 300 fG2') → (OC (-1) r fsh fsh' gn gn' lG lG' lL lL' fG1 fG1' fG2 fG2' fL fL' (rgP a b f41 f51 (Bc a f42 f43 f52 f53) lL.toInt fL)) → PZ9) → PZ9) := by
  refine kMi_of (cc := cX11_rough) (maxL := 4) (ret := (some .int)) (lv := [(0, .ref oX), (1, .int a), (2, .int b)]) (by decide +kernel) rfl rfl (Nat.le_of_ble_eq_true rfl) ?_
  intro p e s m below meth c A QQ ls hx hb hr hts hml hown hlocks hA hQQ hK hX hP hD hS hl
  have hown : s.vm.findClass RX11 = some m.cls := hown
  have hcf := k_cf hx hb hml hown hts
  have hN52 := hX
  have in_X11 : ∀ w ∈ wsX110, w ∈ wsX11_rough := fun _ h => List.mem_cons_of_mem _ (List.mem_append_left _ (List.mem_append_left _ (List.mem_append_left _ (List.mem_append_left _ (List.mem_append_left _ (List.mem_append_left _ (List.mem_append_left _ (List.mem_append_left _ (List.mem_append_left _ (List.mem_append_left _ (List.mem_append_right _ (h))))))))))))
  replace g_lM := hid g_lM
  replace g_lB := hid g_lB
  replace g_ke := hid g_ke
  replace g_lm := hid g_lm
  refine lv_aload_n hx hb dX11_rough_0 rfl (lv_at hl 0 rfl) ?_
  refine lv_iconst (v := (-1)) hx hb dX11_rough_1 (by decide) ?_
  refine va_put (D := (dC, dI)) (ci := 11) (v := .int (-1)) (ty := .int) (C := RX11) (T := TX11) (N := 12) hx hb hts in_X11 tyX11 tyX11_ok nmX11 hown hK hP hD hS 0 rfl rfl 11 (Nat.le_of_ble_eq_true rfl) (hts (.fieldLink RX11 90 "TextMender" "fault" "I") (List.mem_of_getElem? (i := 1) rfl)) (fun _ h9 => h9) rfl (tyX11_ok 11 (Nat.le_of_ble_eq_true rfl)) rfl rfl (Nat.le_of_ble_eq_true rfl) dX11_rough_2 (kW (wn := [(oX, .inr (11, [.ref nT, .ref nL, .ref nM, .ref oC, .ref oP, .ref oH, .ref oK, .ref oG, .ref oR, .ref oQ, .ref oW, .int (-1)])), (nL, .inr (5, [.ref aL, .int lL])), (aL, .inl (cI, 300, .inl fL)), (nM, .inr (5, [.ref aM, .int lM])), (aM, .inl (cI, 300, .inl fM)), (oP, .inr (7, [.ref oC, .ref nB, .int ft])), (nB, .inr (5, [.ref aB, .int lB])), (aB, .inl (cI, 2400, .inl fB)), (oC, .inr (2, [.ref o4, .ref o5])), (o4, .inr (10, [.ref a41, .ref a42, .ref a43, .int l4])), (a41, .inl (cI, 256, .inl f41)), (a42, .inl (cI, 512, .inl f42)), (a43, .inl (cI, 512, .inl f43)), (o5, .inr (10, [.ref a51, .ref a52, .ref a53, .int l5])), (a51, .inl (cI, 256, .inl f51)), (a52, .inl (cI, 512, .inl f52)), (a53, .inl (cI, 512, .inl f53)), (oG, .inr (0, [.ref g1, .ref g2, .int gn, .int lG])), (g1, .inl (cI, 6000, .inl fG1)), (g2, .inl (cI, 20, .inl fG2)), (oW, .inr (1, [.ref oC, .ref oK, .ref nw, .ref w1, .ref w2, .ref w3, .ref o7, .ref o8, .ref o9, .ref w4, .ref w5, .ref w6, .ref w7, .int ke, .int tl, .int fsh, .int wi, .int ri, .int fm, .int lm]))]) rfl (fun H locs hPn hDn hSn => ?_))
  clear hP hD hS
  have hP := hPn
  have hD := hDn
  have hS := hSn
  clear hPn hDn hSn
  refine lv_iload_n hx hb dX11_rough_5 rfl (lv_at hl 1 rfl) ?_
  refine kS_i (rest := []) hcf (m_X2_known l dC dI cI cS H.size a ) kc_X2_known gX11_rough_X2_known rfl rfl ⟨Nat.le_of_ble_eq_true rfl, Nat.le_of_ble_eq_true rfl⟩ kX_t hK hP hD hS hA (posT mk_132 0) (posF mk_132 0) (kC_of mk_132 rfl rfl) (by decide +kernel) rfl hl rfl (Nat.le_of_ble_eq_true rfl) dX11_rough_6 ⟨Nat.le_of_ble_eq_true rfl, Nat.le_of_ble_eq_true rfl⟩ (fun r_1 H locs hB hJ hSn => ?_)
  refine hB _ (fun hPD9 hf1_0 hf1_1 => ?_)
  clear hB
  obtain ⟨hPn, hDn⟩ := kJi (m := mk_132) hJ rfl hPD9.1 hPD9.2 (wn := [(oX, .inr (11, [.ref nT, .ref nL, .ref nM, .ref oC, .ref oP, .ref oH, .ref oK, .ref oG, .ref oR, .ref oQ, .ref oW, .int (-1)])), (nL, .inr (5, [.ref aL, .int lL])), (aL, .inl (cI, 300, .inl fL)), (nM, .inr (5, [.ref aM, .int lM])), (aM, .inl (cI, 300, .inl fM)), (oP, .inr (7, [.ref oC, .ref nB, .int ft])), (nB, .inr (5, [.ref aB, .int lB])), (aB, .inl (cI, 2400, .inl fB)), (oC, .inr (2, [.ref o4, .ref o5])), (o4, .inr (10, [.ref a41, .ref a42, .ref a43, .int l4])), (a41, .inl (cI, 256, .inl f41)), (a42, .inl (cI, 512, .inl f42)), (a43, .inl (cI, 512, .inl f43)), (o5, .inr (10, [.ref a51, .ref a52, .ref a53, .int l5])), (a51, .inl (cI, 256, .inl f51)), (a52, .inl (cI, 512, .inl f52)), (a53, .inl (cI, 512, .inl f53)), (oG, .inr (0, [.ref g1, .ref g2, .int gn, .int lG])), (g1, .inl (cI, 6000, .inl fG1)), (g2, .inl (cI, 20, .inl fG2)), (oW, .inr (1, [.ref oC, .ref oK, .ref nw, .ref w1, .ref w2, .ref w3, .ref o7, .ref o8, .ref o9, .ref w4, .ref w5, .ref w6, .ref w7, .int ke, .int tl, .int fsh, .int wi, .int ri, .int fm, .int lm]))]) rfl
  clear hP hD hS hJ hPD9
  have hP := hPn
  have hD := hDn
  have hS := hSn
  clear hPn hDn hSn
  refine lv_if_eq (tgt := 19) hx hb dX11_rough_9 (by decide) (fun c_2 => ?_) (fun c_2 => ?_)
  · have tc_2 : r_1.toInt = 0 := v_eq c_2
    refine lv_iconst (v := (-1)) hx hb dX11_rough_19 (by decide) ?_
    exact kl_i (v := (-1)) hQQ hx hb hr hlocks hS dX11_rough_20 (fun PZ9 kZ9 => kZ9 (-1) ft lB fB lM fM lL fL fsh gn lG fG1 fG2 (⟨hP, hD⟩) (g_lB) (g_lM) (g_lL) (g_fsh) (g_gn) (g_lG) (g_fG2) (OC_n rfl (fun c fm v h => by have h1 := h.1; have h2 := h.2.1; unfold okd at h1 h2; omega)))
  · have tc_2 : ¬ r_1.toInt = 0 := v_ne c_2
    refine lv_iload_n hx hb dX11_rough_12 rfl (lv_at hl 2 rfl) ?_
    refine kS_i (rest := []) hcf (m_X2_known l dC dI cI cS H.size b ) kc_X2_known gX11_rough_X2_known rfl rfl ⟨Nat.le_of_ble_eq_true rfl, Nat.le_of_ble_eq_true rfl⟩ kX_t hK hP hD hS hA (posT mk_132 0) (posF mk_132 0) (kC_of mk_132 rfl rfl) (by decide +kernel) rfl hl rfl (Nat.le_of_ble_eq_true rfl) dX11_rough_13 ⟨Nat.le_of_ble_eq_true rfl, Nat.le_of_ble_eq_true rfl⟩ (fun r_3 H locs hB hJ hSn => ?_)
    refine hB _ (fun hPD9 hf3_0 hf3_1 => ?_)
    clear hB
    obtain ⟨hPn, hDn⟩ := kJi (m := mk_132) hJ rfl hPD9.1 hPD9.2 (wn := [(oX, .inr (11, [.ref nT, .ref nL, .ref nM, .ref oC, .ref oP, .ref oH, .ref oK, .ref oG, .ref oR, .ref oQ, .ref oW, .int (-1)])), (nL, .inr (5, [.ref aL, .int lL])), (aL, .inl (cI, 300, .inl fL)), (nM, .inr (5, [.ref aM, .int lM])), (aM, .inl (cI, 300, .inl fM)), (oP, .inr (7, [.ref oC, .ref nB, .int ft])), (nB, .inr (5, [.ref aB, .int lB])), (aB, .inl (cI, 2400, .inl fB)), (oC, .inr (2, [.ref o4, .ref o5])), (o4, .inr (10, [.ref a41, .ref a42, .ref a43, .int l4])), (a41, .inl (cI, 256, .inl f41)), (a42, .inl (cI, 512, .inl f42)), (a43, .inl (cI, 512, .inl f43)), (o5, .inr (10, [.ref a51, .ref a52, .ref a53, .int l5])), (a51, .inl (cI, 256, .inl f51)), (a52, .inl (cI, 512, .inl f52)), (a53, .inl (cI, 512, .inl f53)), (oG, .inr (0, [.ref g1, .ref g2, .int gn, .int lG])), (g1, .inl (cI, 6000, .inl fG1)), (g2, .inl (cI, 20, .inl fG2)), (oW, .inr (1, [.ref oC, .ref oK, .ref nw, .ref w1, .ref w2, .ref w3, .ref o7, .ref o8, .ref o9, .ref w4, .ref w5, .ref w6, .ref w7, .int ke, .int tl, .int fsh, .int wi, .int ri, .int fm, .int lm]))]) rfl
    clear hP hD hS hJ hPD9
    have hP := hPn
    have hD := hDn
    have hS := hSn
    clear hPn hDn hSn
    refine lv_if_ne (tgt := 21) hx hb dX11_rough_16 (by decide) (fun c_4 => ?_) (fun c_4 => ?_)
    · have tc_4 : ¬ r_3.toInt = 0 := v_ne c_4
      refine lv_aload_n hx hb dX11_rough_21 rfl (lv_at hl 0 rfl) ?_
      refine va_get (D := (dC, dI)) (ci := 11) (v := .ref oP) (C := RX11) (T := TX11) (N := 12) hx hb hts in_X11 hown hK hP 0 rfl rfl 4 (Nat.le_of_ble_eq_true rfl) (hts (.fieldLink RX11 44 "TextMender" "passage" "LTextMender$Passage;") (List.mem_of_getElem? (i := 2) rfl)) (fun _ h9 => h9) rfl dX11_rough_22 ?_
      refine lv_iload_n hx hb dX11_rough_25 rfl (lv_at hl 1 rfl) ?_
      refine lv_iload_n hx hb dX11_rough_26 rfl (lv_at hl 2 rfl) ?_
      refine lv_aload_n hx hb dX11_rough_27 rfl (lv_at hl 0 rfl) ?_
      refine va_get (D := (dC, dI)) (ci := 11) (v := .ref nL) (C := RX11) (T := TX11) (N := 12) hx hb hts in_X11 hown hK hP 0 rfl rfl 1 (Nat.le_of_ble_eq_true rfl) (hts (.fieldLink RX11 34 "TextMender" "letters" "LTextMender$Numbers;") (List.mem_of_getElem? (i := 3) rfl)) (fun _ h9 => h9) rfl dX11_rough_28 ?_
      refine lv_aload_n hx hb dX11_rough_31 rfl (lv_at hl 0 rfl) ?_
      refine va_get (D := (dC, dI)) (ci := 11) (v := .ref nM) (C := RX11) (T := TX11) (N := 12) hx hb hts in_X11 hown hK hP 0 rfl rfl 2 (Nat.le_of_ble_eq_true rfl) (hts (.fieldLink RX11 37 "TextMender" "made" "LTextMender$Numbers;") (List.mem_of_getElem? (i := 4) rfl)) (fun _ h9 => h9) rfl dX11_rough_32 ?_
      refine kV_i (rest := []) (q0 := 0) (ci := 7) hcf (f_X7_passRoughly l dC dI cI cS H.size oP nL nM oC nB aB aL aM o4 o5 a41 a42 a43 a51 a52 a53 ft lB fB lL fL lM fM l4 f41 f42 f43 l5 f51 f52 f53 a b (g_lB) (g_lL) (g_lM) (hlt) (hT4) (by omega) (hT5) (by omega) (hL4) (hL5) (hBr a)) kc_X7_passRoughly gX11_rough_X7_passRoughly rfl rfl rfl ⟨Nat.le_of_ble_eq_true rfl, Nat.le_of_ble_eq_true rfl⟩ (kX_1 hN52) hK hP hD hS hA ([4, 5, 6, 0, 1, 2, 3, 7, 8, 9, 10, 11, 12, 13, 14, 15].filterMap (fun j => (posT mk_133 0)[j]?)) (posF mk_133 0) (kCp (ws := [(nL, .inr (5, [.ref aL, .int lL])), (aL, .inl (cI, 300, .inl fL)), (nM, .inr (5, [.ref aM, .int lM])), (aM, .inl (cI, 300, .inl fM)), (oP, .inr (7, [.ref oC, .ref nB, .int ft])), (nB, .inr (5, [.ref aB, .int lB])), (aB, .inl (cI, 2400, .inl fB)), (oC, .inr (2, [.ref o4, .ref o5])), (o4, .inr (10, [.ref a41, .ref a42, .ref a43, .int l4])), (a41, .inl (cI, 256, .inl f41)), (a42, .inl (cI, 512, .inl f42)), (a43, .inl (cI, 512, .inl f43)), (o5, .inr (10, [.ref a51, .ref a52, .ref a53, .int l5])), (a51, .inl (cI, 256, .inl f51)), (a52, .inl (cI, 512, .inl f52)), (a53, .inl (cI, 512, .inl f53))]) (kC_of mk_133 rfl rfl) rfl) (by decide +kernel) rfl rfl rfl hl rfl (Nat.le_of_ble_eq_true rfl) dX11_rough_35 ⟨Nat.le_of_ble_eq_true rfl, Nat.le_of_ble_eq_true rfl⟩ (fun r_5 H locs hB hJ hSn => ?_)
      refine hB _ (fun ft_5 lB_5 fB_5 ld_5 fd_5 hPD9 hf5_0 hf5_1 hf5_2 => ?_)
      clear hB
      obtain ⟨hPn, hDn⟩ := kJm (m := mk_133) hJ rfl hPD9.1 hPD9.2 [3, 4, 5, 6, 0, 1, 2, 7, 8, 9, 10, 11, 12, 13, 14, 15] (by decide +kernel) (ws := [(nL, .inr (5, [.ref aL, .int lL])), (aL, .inl (cI, 300, .inl fL)), (nM, .inr (5, [.ref aM, .int ld_5])), (aM, .inl (cI, 300, .inl fd_5)), (oP, .inr (7, [.ref oC, .ref nB, .int ft_5])), (nB, .inr (5, [.ref aB, .int lB_5])), (aB, .inl (cI, 2400, .inl fB_5)), (oC, .inr (2, [.ref o4, .ref o5])), (o4, .inr (10, [.ref a41, .ref a42, .ref a43, .int l4])), (a41, .inl (cI, 256, .inl f41)), (a42, .inl (cI, 512, .inl f42)), (a43, .inl (cI, 512, .inl f43)), (o5, .inr (10, [.ref a51, .ref a52, .ref a53, .int l5])), (a51, .inl (cI, 256, .inl f51)), (a52, .inl (cI, 512, .inl f52)), (a53, .inl (cI, 512, .inl f53))]) rfl (wn := [(oX, .inr (11, [.ref nT, .ref nL, .ref nM, .ref oC, .ref oP, .ref oH, .ref oK, .ref oG, .ref oR, .ref oQ, .ref oW, .int (-1)])), (nL, .inr (5, [.ref aL, .int lL])), (aL, .inl (cI, 300, .inl fL)), (nM, .inr (5, [.ref aM, .int ld_5])), (aM, .inl (cI, 300, .inl fd_5)), (oP, .inr (7, [.ref oC, .ref nB, .int ft_5])), (nB, .inr (5, [.ref aB, .int lB_5])), (aB, .inl (cI, 2400, .inl fB_5)), (oC, .inr (2, [.ref o4, .ref o5])), (o4, .inr (10, [.ref a41, .ref a42, .ref a43, .int l4])), (a41, .inl (cI, 256, .inl f41)), (a42, .inl (cI, 512, .inl f42)), (a43, .inl (cI, 512, .inl f43)), (o5, .inr (10, [.ref a51, .ref a52, .ref a53, .int l5])), (a51, .inl (cI, 256, .inl f51)), (a52, .inl (cI, 512, .inl f52)), (a53, .inl (cI, 512, .inl f53)), (oG, .inr (0, [.ref g1, .ref g2, .int gn, .int lG])), (g1, .inl (cI, 6000, .inl fG1)), (g2, .inl (cI, 20, .inl fG2)), (oW, .inr (1, [.ref oC, .ref oK, .ref nw, .ref w1, .ref w2, .ref w3, .ref o7, .ref o8, .ref o9, .ref w4, .ref w5, .ref w6, .ref w7, .int ke, .int tl, .int fsh, .int wi, .int ri, .int fm, .int lm]))]) rfl
      clear hP hD hS hJ hPD9
      have hP := hPn
      have hD := hDn
      have hS := hSn
      clear hPn hDn hSn
      refine lv_istore_n (lv' := [(3, .int r_5), (0, .ref oX), (1, .int a), (2, .int b)]) hx hb dX11_rough_38 rfl hl (by decide) rfl (fun ls hl => ?_)
      refine lv_aload_n hx hb dX11_rough_39 rfl (lv_at hl 1 rfl) ?_
      refine lv_aload_n hx hb dX11_rough_40 rfl (lv_at hl 1 rfl) ?_
      refine va_get (D := (dC, dI)) (ci := 11) (v := .ref oP) (C := RX11) (T := TX11) (N := 12) hx hb hts in_X11 hown hK hP 0 rfl rfl 4 (Nat.le_of_ble_eq_true rfl) (hts (.fieldLink RX11 44 "TextMender" "passage" "LTextMender$Passage;") (List.mem_of_getElem? (i := 2) rfl)) (fun _ h9 => h9) rfl dX11_rough_41 ?_
      refine kV_i (rest := [.ref oX]) (q0 := 0) (ci := 7) hcf (m_X7_fault l dC dI cI cS H.size oP oC nB ft_5 ) kc_X7_fault gX11_rough_X7_fault rfl rfl rfl ⟨Nat.le_of_ble_eq_true rfl, Nat.le_of_ble_eq_true rfl⟩ kX_t hK hP hD hS hA (posT mk_134 0) (posF mk_134 0) (kC_of mk_134 rfl rfl) (by decide +kernel) rfl rfl rfl hl rfl (Nat.le_of_ble_eq_true rfl) dX11_rough_44 ⟨Nat.le_of_ble_eq_true rfl, Nat.le_of_ble_eq_true rfl⟩ (fun r_6 H locs hB hJ hSn => ?_)
      refine hB _ (fun hPD9 hf6_0 => ?_)
      clear hB
      obtain ⟨hPn, hDn⟩ := kJi (m := mk_134) hJ rfl hPD9.1 hPD9.2 (wn := [(oX, .inr (11, [.ref nT, .ref nL, .ref nM, .ref oC, .ref oP, .ref oH, .ref oK, .ref oG, .ref oR, .ref oQ, .ref oW, .int (-1)])), (nL, .inr (5, [.ref aL, .int lL])), (aL, .inl (cI, 300, .inl fL)), (nM, .inr (5, [.ref aM, .int ld_5])), (aM, .inl (cI, 300, .inl fd_5)), (oP, .inr (7, [.ref oC, .ref nB, .int ft_5])), (nB, .inr (5, [.ref aB, .int lB_5])), (aB, .inl (cI, 2400, .inl fB_5)), (oC, .inr (2, [.ref o4, .ref o5])), (o4, .inr (10, [.ref a41, .ref a42, .ref a43, .int l4])), (a41, .inl (cI, 256, .inl f41)), (a42, .inl (cI, 512, .inl f42)), (a43, .inl (cI, 512, .inl f43)), (o5, .inr (10, [.ref a51, .ref a52, .ref a53, .int l5])), (a51, .inl (cI, 256, .inl f51)), (a52, .inl (cI, 512, .inl f52)), (a53, .inl (cI, 512, .inl f53)), (oG, .inr (0, [.ref g1, .ref g2, .int gn, .int lG])), (g1, .inl (cI, 6000, .inl fG1)), (g2, .inl (cI, 20, .inl fG2)), (oW, .inr (1, [.ref oC, .ref oK, .ref nw, .ref w1, .ref w2, .ref w3, .ref o7, .ref o8, .ref o9, .ref w4, .ref w5, .ref w6, .ref w7, .int ke, .int tl, .int fsh, .int wi, .int ri, .int fm, .int lm]))]) rfl
      clear hP hD hS hJ hPD9
      have hP := hPn
      have hD := hDn
      have hS := hSn
      clear hPn hDn hSn
      rw [hf6_0]
      refine va_put (D := (dC, dI)) (ci := 11) (v := .int ft_5) (ty := .int) (C := RX11) (T := TX11) (N := 12) hx hb hts in_X11 tyX11 tyX11_ok nmX11 hown hK hP hD hS 0 rfl rfl 11 (Nat.le_of_ble_eq_true rfl) (hts (.fieldLink RX11 90 "TextMender" "fault" "I") (List.mem_of_getElem? (i := 1) rfl)) (fun _ h9 => h9) rfl (tyX11_ok 11 (Nat.le_of_ble_eq_true rfl)) rfl rfl (Nat.le_of_ble_eq_true rfl) dX11_rough_47 (kW (wn := [(oX, .inr (11, [.ref nT, .ref nL, .ref nM, .ref oC, .ref oP, .ref oH, .ref oK, .ref oG, .ref oR, .ref oQ, .ref oW, .int ft_5])), (nL, .inr (5, [.ref aL, .int lL])), (aL, .inl (cI, 300, .inl fL)), (nM, .inr (5, [.ref aM, .int ld_5])), (aM, .inl (cI, 300, .inl fd_5)), (oP, .inr (7, [.ref oC, .ref nB, .int ft_5])), (nB, .inr (5, [.ref aB, .int lB_5])), (aB, .inl (cI, 2400, .inl fB_5)), (oC, .inr (2, [.ref o4, .ref o5])), (o4, .inr (10, [.ref a41, .ref a42, .ref a43, .int l4])), (a41, .inl (cI, 256, .inl f41)), (a42, .inl (cI, 512, .inl f42)), (a43, .inl (cI, 512, .inl f43)), (o5, .inr (10, [.ref a51, .ref a52, .ref a53, .int l5])), (a51, .inl (cI, 256, .inl f51)), (a52, .inl (cI, 512, .inl f52)), (a53, .inl (cI, 512, .inl f53)), (oG, .inr (0, [.ref g1, .ref g2, .int gn, .int lG])), (g1, .inl (cI, 6000, .inl fG1)), (g2, .inl (cI, 20, .inl fG2)), (oW, .inr (1, [.ref oC, .ref oK, .ref nw, .ref w1, .ref w2, .ref w3, .ref o7, .ref o8, .ref o9, .ref w4, .ref w5, .ref w6, .ref w7, .int ke, .int tl, .int fsh, .int wi, .int ri, .int fm, .int lm]))]) rfl (fun H locs hPn hDn hSn => ?_))
      clear hP hD hS
      have hP := hPn
      have hD := hDn
      have hS := hSn
      clear hPn hDn hSn
      refine lv_iload_n hx hb dX11_rough_50 rfl (lv_at hl 0 rfl) ?_
      refine lv_iconst (v := (-1)) hx hb dX11_rough_51 (by decide) ?_
      refine lv_icmp_ne (tgt := 57) hx hb dX11_rough_52 (by decide) (fun c_7 => ?_) (fun c_7 => ?_)
      · have tc_7 : ¬ r_5.toInt = (-1) := v_ne c_7
        refine lv_aload_n hx hb dX11_rough_57 rfl (lv_at hl 1 rfl) ?_
        refine lv_aload_n hx hb dX11_rough_58 rfl (lv_at hl 1 rfl) ?_
        refine va_get (D := (dC, dI)) (ci := 11) (v := .ref nM) (C := RX11) (T := TX11) (N := 12) hx hb hts in_X11 hown hK hP 0 rfl rfl 2 (Nat.le_of_ble_eq_true rfl) (hts (.fieldLink RX11 37 "TextMender" "made" "LTextMender$Numbers;") (List.mem_of_getElem? (i := 4) rfl)) (fun _ h9 => h9) rfl dX11_rough_59 ?_
        refine kV_i (rest := []) (q0 := 0) (ci := 11) hcf (f_X11_bec l dC dI cI cS H.size oX nM nT nL oC oP oH oK oG oR oQ oW aL aM g1 g2 nw w1 w2 w3 o7 o8 o9 w4 w5 w6 w7 ft_5 lL fL ld_5 fd_5 gn lG fG1 fG2 ke tl fsh wi ri fm lm (g_lL) (hf5_1) (g_gn) (g_lG) (g_fG2) (g_ke) (g_fsh) (g_fm) (g_lm)) kc_X11_become gX11_rough_X11_become rfl rfl rfl ⟨Nat.le_of_ble_eq_true rfl, Nat.le_of_ble_eq_true rfl⟩ kX_t hK hP hD hS hA (posT mk_131 0) (posF mk_131 0) (kC_of mk_131 rfl rfl) (by decide +kernel) rfl rfl rfl hl rfl (Nat.le_of_ble_eq_true rfl) dX11_rough_62 ⟨Nat.le_of_ble_eq_true rfl, Nat.le_of_ble_eq_true rfl⟩ (fun r_8 H locs hB hJ hSn => ?_)
        refine hB _ (fun lL_8 fL_8 fsh_8 gn_8 lG_8 fG1_8 fG2_8 hPD9 hf8_0 hf8_1 hf8_2 hf8_3 hf8_4 hf8_5 hf8_6 hf8_7 => ?_)
        clear hB
        obtain ⟨hPn, hDn⟩ := kJi (m := mk_131) hJ rfl hPD9.1 hPD9.2 (wn := [(oX, .inr (11, [.ref nT, .ref nL, .ref nM, .ref oC, .ref oP, .ref oH, .ref oK, .ref oG, .ref oR, .ref oQ, .ref oW, .int ft_5])), (nL, .inr (5, [.ref aL, .int lL_8])), (aL, .inl (cI, 300, .inl fL_8)), (nM, .inr (5, [.ref aM, .int ld_5])), (aM, .inl (cI, 300, .inl fd_5)), (oP, .inr (7, [.ref oC, .ref nB, .int ft_5])), (nB, .inr (5, [.ref aB, .int lB_5])), (aB, .inl (cI, 2400, .inl fB_5)), (oC, .inr (2, [.ref o4, .ref o5])), (o4, .inr (10, [.ref a41, .ref a42, .ref a43, .int l4])), (a41, .inl (cI, 256, .inl f41)), (a42, .inl (cI, 512, .inl f42)), (a43, .inl (cI, 512, .inl f43)), (o5, .inr (10, [.ref a51, .ref a52, .ref a53, .int l5])), (a51, .inl (cI, 256, .inl f51)), (a52, .inl (cI, 512, .inl f52)), (a53, .inl (cI, 512, .inl f53)), (oG, .inr (0, [.ref g1, .ref g2, .int gn_8, .int lG_8])), (g1, .inl (cI, 6000, .inl fG1_8)), (g2, .inl (cI, 20, .inl fG2_8)), (oW, .inr (1, [.ref oC, .ref oK, .ref nw, .ref w1, .ref w2, .ref w3, .ref o7, .ref o8, .ref o9, .ref w4, .ref w5, .ref w6, .ref w7, .int ke, .int tl, .int fsh_8, .int wi, .int ri, .int fm, .int lm]))]) rfl
        clear hP hD hS hJ hPD9
        have hP := hPn
        have hD := hDn
        have hS := hSn
        clear hPn hDn hSn
        refine lv_pop hx hb dX11_rough_65 rfl ?_
        refine lv_iload_n hx hb dX11_rough_66 rfl (lv_at hl 0 rfl) ?_
        exact kl_i (v := r_5) hQQ hx hb hr hlocks hS dX11_rough_67 (fun PZ9 kZ9 => kZ9 ft_5 ft_5 lB_5 fB_5 ld_5 fd_5 lL_8 fL_8 fsh_8 gn_8 lG_8 fG1_8 fG2_8 (⟨hP, hD⟩) (hf5_0) (hf5_1) (hf8_0) (hf8_1) (hf8_2) (hf8_3) (hf8_4) (OC_y (pr_1 hf5_2 c_7 (by unfold okd; omega) (by unfold okd; omega)) hf8_6 hf8_7))
      · have tc_7 : r_5.toInt = (-1) := v_eq c_7
        refine lv_iconst (v := (-1)) hx hb dX11_rough_55 (by decide) ?_
        exact kl_i (v := (-1)) hQQ hx hb hr hlocks hS dX11_rough_56 (fun PZ9 kZ9 => kZ9 ft_5 ft_5 lB_5 fB_5 ld_5 fd_5 lL fL fsh gn lG fG1 fG2 (⟨hP, hD⟩) (hf5_0) (hf5_1) (g_lL) (g_fsh) (g_gn) (g_lG) (g_fG2) (OC_n rfl (pr_0 hf5_2 c_7)))
    · have tc_4 : r_3.toInt = 0 := v_eq c_4
      refine lv_iconst (v := (-1)) hx hb dX11_rough_19 (by decide) ?_
      exact kl_i (v := (-1)) hQQ hx hb hr hlocks hS dX11_rough_20 (fun PZ9 kZ9 => kZ9 (-1) ft lB fB lM fM lL fL fsh gn lG fG1 fG2 (⟨hP, hD⟩) (g_lB) (g_lM) (g_lL) (g_fsh) (g_gn) (g_lG) (g_fG2) (OC_n rfl (fun c fm v h => by have h1 := h.1; have h2 := h.2.1; unfold okd at h1 h2; omega)))

end

/-! 59o.a.rows -/
section
set_option maxRecDepth 100000 in
theorem dA244_cX12_rough : kDec cX12_rough [(0, .aload_n 0, 1), (1, .iconst 0, 1), (2, .putfield 85, 3), (5, .aload_n 0, 1), (6, .iconst (-1), 1), (7, .putfield 55, 3), (10, .iload_n 1, 1), (11, .invokestatic 158, 3), (14, .ifCond .eq 10, 3), (24, .iconst (-1), 1), (25, .ireturn, 1), (17, .iload_n 2, 1), (18, .invokestatic 158, 3), (21, .ifCond .ne 5, 3), (26, .aload_n 0, 1), (27, .iload_n 1, 1), (28, .aload_n 0, 1), (29, .getfield 16, 3), (32, .aload_n 0, 1), (33, .getfield 13, 3), (36, .iconst 0, 1), (37, .iaload, 1), (38, .invokevirtual 127, 3), (41, .ifCond .ne 13, 3)] = true := by decide +kernel
theorem dX12_rough_0 : decode cX12_rough 0 = .ok (.aload_n 0, 1) := kDec_at dA244_cX12_rough 0 rfl
theorem dX12_rough_1 : decode cX12_rough 1 = .ok (.iconst 0, 1) := kDec_at dA244_cX12_rough 1 rfl
theorem dX12_rough_2 : decode cX12_rough 2 = .ok (.putfield 85, 3) := kDec_at dA244_cX12_rough 2 rfl
theorem dX12_rough_5 : decode cX12_rough 5 = .ok (.aload_n 0, 1) := kDec_at dA244_cX12_rough 3 rfl
theorem dX12_rough_6 : decode cX12_rough 6 = .ok (.iconst (-1), 1) := kDec_at dA244_cX12_rough 4 rfl
theorem dX12_rough_7 : decode cX12_rough 7 = .ok (.putfield 55, 3) := kDec_at dA244_cX12_rough 5 rfl
theorem dX12_rough_10 : decode cX12_rough 10 = .ok (.iload_n 1, 1) := kDec_at dA244_cX12_rough 6 rfl
theorem dX12_rough_11 : decode cX12_rough 11 = .ok (.invokestatic 158, 3) := kDec_at dA244_cX12_rough 7 rfl
theorem dX12_rough_14 : decode cX12_rough 14 = .ok (.ifCond .eq 10, 3) := kDec_at dA244_cX12_rough 8 rfl
theorem dX12_rough_24 : decode cX12_rough 24 = .ok (.iconst (-1), 1) := kDec_at dA244_cX12_rough 9 rfl
theorem dX12_rough_25 : decode cX12_rough 25 = .ok (.ireturn, 1) := kDec_at dA244_cX12_rough 10 rfl
theorem dX12_rough_17 : decode cX12_rough 17 = .ok (.iload_n 2, 1) := kDec_at dA244_cX12_rough 11 rfl
theorem dX12_rough_18 : decode cX12_rough 18 = .ok (.invokestatic 158, 3) := kDec_at dA244_cX12_rough 12 rfl
theorem dX12_rough_21 : decode cX12_rough 21 = .ok (.ifCond .ne 5, 3) := kDec_at dA244_cX12_rough 13 rfl
theorem dX12_rough_26 : decode cX12_rough 26 = .ok (.aload_n 0, 1) := kDec_at dA244_cX12_rough 14 rfl
theorem dX12_rough_27 : decode cX12_rough 27 = .ok (.iload_n 1, 1) := kDec_at dA244_cX12_rough 15 rfl
theorem dX12_rough_28 : decode cX12_rough 28 = .ok (.aload_n 0, 1) := kDec_at dA244_cX12_rough 16 rfl
theorem dX12_rough_29 : decode cX12_rough 29 = .ok (.getfield 16, 3) := kDec_at dA244_cX12_rough 17 rfl
theorem dX12_rough_32 : decode cX12_rough 32 = .ok (.aload_n 0, 1) := kDec_at dA244_cX12_rough 18 rfl
theorem dX12_rough_33 : decode cX12_rough 33 = .ok (.getfield 13, 3) := kDec_at dA244_cX12_rough 19 rfl
theorem dX12_rough_36 : decode cX12_rough 36 = .ok (.iconst 0, 1) := kDec_at dA244_cX12_rough 20 rfl
theorem dX12_rough_37 : decode cX12_rough 37 = .ok (.iaload, 1) := kDec_at dA244_cX12_rough 21 rfl
theorem dX12_rough_38 : decode cX12_rough 38 = .ok (.invokevirtual 127, 3) := kDec_at dA244_cX12_rough 22 rfl
theorem dX12_rough_41 : decode cX12_rough 41 = .ok (.ifCond .ne 13, 3) := kDec_at dA244_cX12_rough 23 rfl
set_option maxRecDepth 20000 in
theorem ggX12_rough_X12_isCode : GoodIn wsX12_rough wsX12_isCode := goodIn_sub (fun _ h => List.mem_cons_of_mem _ (List.mem_append_left _ (List.mem_append_left _ (List.mem_append_left _ (List.mem_append_right _ (h)))))) gX12_isCode_all
set_option maxRecDepth 20000 in
theorem gX12_rough_X12_isCode : GoodIn wsX12_rough (va_wsS RX12 158 yX12_isCode wsX12_isCode) := goodIn_app (goodIn_r _ [11, 12, 13] rfl (by decide +kernel)) ggX12_rough_X12_isCode
set_option maxRecDepth 20000 in
theorem ggX12_rough_X12_write : GoodIn wsX12_rough wsX12_write := goodIn_sub (fun _ h => List.mem_cons_of_mem _ (List.mem_append_left _ (List.mem_append_left _ (List.mem_append_right _ (h))))) gX12_write_all
set_option maxRecDepth 20000 in
theorem gX12_rough_X12_write : GoodIn wsX12_rough (wsV RX12 127 RX12 yX12_write wsX12_write) := goodIn_app (goodIn_r _ [14, 15, 16, 13] rfl (by decide +kernel)) ggX12_rough_X12_write
set_option maxRecDepth 100000 in
theorem dA245_cX12_rough : kDec cX12_rough [(54, .aload_n 0, 1), (55, .getfield 91, 3), (58, .sipush 900, 3), (61, .if_icmp .le 5, 3), (66, .iconst 0, 1), (67, .istore_n 3, 1), (68, .iconst 0, 1), (69, .istore 4, 2), (71, .aload_n 0, 1), (72, .iconst 0, 1), (73, .putfield 119, 3), (76, .iload 4, 2), (78, .aload_n 0, 1), (79, .getfield 91, 3), (82, .if_icmp .ge 77, 3), (159, .aload_n 0, 1), (160, .getfield 119, 3), (163, .sipush 300, 3), (166, .if_icmp .le 5, 3), (171, .aload_n 0, 1), (172, .aload_n 0, 1), (173, .getfield 61, 3), (176, .aload_n 0, 1), (177, .getfield 119, 3)] = true := by decide +kernel
theorem dX12_rough_54 : decode cX12_rough 54 = .ok (.aload_n 0, 1) := kDec_at dA245_cX12_rough 0 rfl
theorem dX12_rough_55 : decode cX12_rough 55 = .ok (.getfield 91, 3) := kDec_at dA245_cX12_rough 1 rfl
theorem dX12_rough_58 : decode cX12_rough 58 = .ok (.sipush 900, 3) := kDec_at dA245_cX12_rough 2 rfl
theorem dX12_rough_61 : decode cX12_rough 61 = .ok (.if_icmp .le 5, 3) := kDec_at dA245_cX12_rough 3 rfl
theorem dX12_rough_66 : decode cX12_rough 66 = .ok (.iconst 0, 1) := kDec_at dA245_cX12_rough 4 rfl
theorem dX12_rough_67 : decode cX12_rough 67 = .ok (.istore_n 3, 1) := kDec_at dA245_cX12_rough 5 rfl
theorem dX12_rough_68 : decode cX12_rough 68 = .ok (.iconst 0, 1) := kDec_at dA245_cX12_rough 6 rfl
theorem dX12_rough_69 : decode cX12_rough 69 = .ok (.istore 4, 2) := kDec_at dA245_cX12_rough 7 rfl
theorem dX12_rough_71 : decode cX12_rough 71 = .ok (.aload_n 0, 1) := kDec_at dA245_cX12_rough 8 rfl
theorem dX12_rough_72 : decode cX12_rough 72 = .ok (.iconst 0, 1) := kDec_at dA245_cX12_rough 9 rfl
theorem dX12_rough_73 : decode cX12_rough 73 = .ok (.putfield 119, 3) := kDec_at dA245_cX12_rough 10 rfl
theorem dX12_rough_76 : decode cX12_rough 76 = .ok (.iload 4, 2) := kDec_at dA245_cX12_rough 11 rfl
theorem dX12_rough_78 : decode cX12_rough 78 = .ok (.aload_n 0, 1) := kDec_at dA245_cX12_rough 12 rfl
theorem dX12_rough_79 : decode cX12_rough 79 = .ok (.getfield 91, 3) := kDec_at dA245_cX12_rough 13 rfl
theorem dX12_rough_82 : decode cX12_rough 82 = .ok (.if_icmp .ge 77, 3) := kDec_at dA245_cX12_rough 14 rfl
theorem dX12_rough_159 : decode cX12_rough 159 = .ok (.aload_n 0, 1) := kDec_at dA245_cX12_rough 15 rfl
theorem dX12_rough_160 : decode cX12_rough 160 = .ok (.getfield 119, 3) := kDec_at dA245_cX12_rough 16 rfl
theorem dX12_rough_163 : decode cX12_rough 163 = .ok (.sipush 300, 3) := kDec_at dA245_cX12_rough 17 rfl
theorem dX12_rough_166 : decode cX12_rough 166 = .ok (.if_icmp .le 5, 3) := kDec_at dA245_cX12_rough 18 rfl
theorem dX12_rough_171 : decode cX12_rough 171 = .ok (.aload_n 0, 1) := kDec_at dA245_cX12_rough 19 rfl
theorem dX12_rough_172 : decode cX12_rough 172 = .ok (.aload_n 0, 1) := kDec_at dA245_cX12_rough 20 rfl
theorem dX12_rough_173 : decode cX12_rough 173 = .ok (.getfield 61, 3) := kDec_at dA245_cX12_rough 21 rfl
theorem dX12_rough_176 : decode cX12_rough 176 = .ok (.aload_n 0, 1) := kDec_at dA245_cX12_rough 22 rfl
theorem dX12_rough_177 : decode cX12_rough 177 = .ok (.getfield 119, 3) := kDec_at dA245_cX12_rough 23 rfl
set_option maxRecDepth 20000 in
theorem ggX12_rough_X12_become : GoodIn wsX12_rough wsX12_become := goodIn_sub (fun _ h => List.mem_cons_of_mem _ (List.mem_append_right _ (h))) gX12_become_all
set_option maxRecDepth 20000 in
theorem gX12_rough_X12_become : GoodIn wsX12_rough (wsV RX12 154 RX12 yX12_become wsX12_become) := goodIn_app (goodIn_r _ [20, 21, 22, 13] rfl (by decide +kernel)) ggX12_rough_X12_become
set_option maxRecDepth 100000 in
theorem dA246_cX12_rough : kDec cX12_rough [(180, .invokevirtual 154, 3), (183, .iload_n 3, 1), (184, .ireturn, 1), (169, .iconst (-1), 1), (170, .ireturn, 1), (85, .aload_n 0, 1), (86, .iload_n 2, 1), (87, .iload 4, 2), (89, .invokevirtual 122, 3), (92, .istore 5, 2), (94, .aload_n 0, 1), (95, .getfield 61, 3), (98, .aload_n 0, 1), (99, .getfield 119, 3), (102, .iload 5, 2), (104, .ifCond .ne 8, 3), (112, .aload_n 0, 1), (113, .getfield 105, 3), (116, .iastore, 1), (117, .aload_n 0, 1), (118, .dup, 1), (119, .getfield 119, 3), (122, .iconst 1, 1), (123, .iadd, 1)] = true := by decide +kernel
theorem dX12_rough_180 : decode cX12_rough 180 = .ok (.invokevirtual 154, 3) := kDec_at dA246_cX12_rough 0 rfl
theorem dX12_rough_183 : decode cX12_rough 183 = .ok (.iload_n 3, 1) := kDec_at dA246_cX12_rough 1 rfl
theorem dX12_rough_184 : decode cX12_rough 184 = .ok (.ireturn, 1) := kDec_at dA246_cX12_rough 2 rfl
theorem dX12_rough_169 : decode cX12_rough 169 = .ok (.iconst (-1), 1) := kDec_at dA246_cX12_rough 3 rfl
theorem dX12_rough_170 : decode cX12_rough 170 = .ok (.ireturn, 1) := kDec_at dA246_cX12_rough 4 rfl
theorem dX12_rough_85 : decode cX12_rough 85 = .ok (.aload_n 0, 1) := kDec_at dA246_cX12_rough 5 rfl
theorem dX12_rough_86 : decode cX12_rough 86 = .ok (.iload_n 2, 1) := kDec_at dA246_cX12_rough 6 rfl
theorem dX12_rough_87 : decode cX12_rough 87 = .ok (.iload 4, 2) := kDec_at dA246_cX12_rough 7 rfl
theorem dX12_rough_89 : decode cX12_rough 89 = .ok (.invokevirtual 122, 3) := kDec_at dA246_cX12_rough 8 rfl
theorem dX12_rough_92 : decode cX12_rough 92 = .ok (.istore 5, 2) := kDec_at dA246_cX12_rough 9 rfl
theorem dX12_rough_94 : decode cX12_rough 94 = .ok (.aload_n 0, 1) := kDec_at dA246_cX12_rough 10 rfl
theorem dX12_rough_95 : decode cX12_rough 95 = .ok (.getfield 61, 3) := kDec_at dA246_cX12_rough 11 rfl
theorem dX12_rough_98 : decode cX12_rough 98 = .ok (.aload_n 0, 1) := kDec_at dA246_cX12_rough 12 rfl
theorem dX12_rough_99 : decode cX12_rough 99 = .ok (.getfield 119, 3) := kDec_at dA246_cX12_rough 13 rfl
theorem dX12_rough_102 : decode cX12_rough 102 = .ok (.iload 5, 2) := kDec_at dA246_cX12_rough 14 rfl
theorem dX12_rough_104 : decode cX12_rough 104 = .ok (.ifCond .ne 8, 3) := kDec_at dA246_cX12_rough 15 rfl
theorem dX12_rough_112 : decode cX12_rough 112 = .ok (.aload_n 0, 1) := kDec_at dA246_cX12_rough 16 rfl
theorem dX12_rough_113 : decode cX12_rough 113 = .ok (.getfield 105, 3) := kDec_at dA246_cX12_rough 17 rfl
theorem dX12_rough_116 : decode cX12_rough 116 = .ok (.iastore, 1) := kDec_at dA246_cX12_rough 18 rfl
theorem dX12_rough_117 : decode cX12_rough 117 = .ok (.aload_n 0, 1) := kDec_at dA246_cX12_rough 19 rfl
theorem dX12_rough_118 : decode cX12_rough 118 = .ok (.dup, 1) := kDec_at dA246_cX12_rough 20 rfl
theorem dX12_rough_119 : decode cX12_rough 119 = .ok (.getfield 119, 3) := kDec_at dA246_cX12_rough 21 rfl
theorem dX12_rough_122 : decode cX12_rough 122 = .ok (.iconst 1, 1) := kDec_at dA246_cX12_rough 22 rfl
theorem dX12_rough_123 : decode cX12_rough 123 = .ok (.iadd, 1) := kDec_at dA246_cX12_rough 23 rfl
set_option maxRecDepth 20000 in
theorem ggX12_rough_X12_readAt : GoodIn wsX12_rough wsX12_readAt := goodIn_sub (fun _ h => List.mem_cons_of_mem _ (List.mem_append_left _ (List.mem_append_right _ (h)))) gX12_readAt_all
set_option maxRecDepth 20000 in
theorem gX12_rough_X12_readAt : GoodIn wsX12_rough (wsV RX12 122 RX12 yX12_readAt wsX12_readAt) := goodIn_app (goodIn_r _ [17, 18, 19, 13] rfl (by decide +kernel)) ggX12_rough_X12_readAt
set_option maxRecDepth 100000 in
theorem dA247_cX12_rough : kDec cX12_rough [(124, .putfield 119, 3), (127, .iload_n 3, 1), (128, .iload 5, 2), (130, .ifCond .ne 7, 3), (137, .iconst 0, 1), (138, .iadd, 1), (139, .istore_n 3, 1), (140, .iload 4, 2), (142, .iload 5, 2), (144, .ifCond .ne 7, 3), (151, .iload 5, 2), (153, .iadd, 1), (154, .istore 4, 2), (156, .goto (-80), 3), (107, .ldc 126, 2), (109, .goto 7, 3), (133, .iconst 1, 1), (134, .goto 4, 3), (147, .iconst 1, 1), (148, .goto 5, 3), (64, .iconst (-1), 1), (65, .ireturn, 1), (44, .aload_n 0, 1), (45, .aload_n 0, 1)] = true := by decide +kernel
theorem dX12_rough_124 : decode cX12_rough 124 = .ok (.putfield 119, 3) := kDec_at dA247_cX12_rough 0 rfl
theorem dX12_rough_127 : decode cX12_rough 127 = .ok (.iload_n 3, 1) := kDec_at dA247_cX12_rough 1 rfl
theorem dX12_rough_128 : decode cX12_rough 128 = .ok (.iload 5, 2) := kDec_at dA247_cX12_rough 2 rfl
theorem dX12_rough_130 : decode cX12_rough 130 = .ok (.ifCond .ne 7, 3) := kDec_at dA247_cX12_rough 3 rfl
theorem dX12_rough_137 : decode cX12_rough 137 = .ok (.iconst 0, 1) := kDec_at dA247_cX12_rough 4 rfl
theorem dX12_rough_138 : decode cX12_rough 138 = .ok (.iadd, 1) := kDec_at dA247_cX12_rough 5 rfl
theorem dX12_rough_139 : decode cX12_rough 139 = .ok (.istore_n 3, 1) := kDec_at dA247_cX12_rough 6 rfl
theorem dX12_rough_140 : decode cX12_rough 140 = .ok (.iload 4, 2) := kDec_at dA247_cX12_rough 7 rfl
theorem dX12_rough_142 : decode cX12_rough 142 = .ok (.iload 5, 2) := kDec_at dA247_cX12_rough 8 rfl
theorem dX12_rough_144 : decode cX12_rough 144 = .ok (.ifCond .ne 7, 3) := kDec_at dA247_cX12_rough 9 rfl
theorem dX12_rough_151 : decode cX12_rough 151 = .ok (.iload 5, 2) := kDec_at dA247_cX12_rough 10 rfl
theorem dX12_rough_153 : decode cX12_rough 153 = .ok (.iadd, 1) := kDec_at dA247_cX12_rough 11 rfl
theorem dX12_rough_154 : decode cX12_rough 154 = .ok (.istore 4, 2) := kDec_at dA247_cX12_rough 12 rfl
theorem dX12_rough_156 : decode cX12_rough 156 = .ok (.goto (-80), 3) := kDec_at dA247_cX12_rough 13 rfl
theorem dX12_rough_107 : decode cX12_rough 107 = .ok (.ldc 126, 2) := kDec_at dA247_cX12_rough 14 rfl
theorem dX12_rough_109 : decode cX12_rough 109 = .ok (.goto 7, 3) := kDec_at dA247_cX12_rough 15 rfl
theorem dX12_rough_133 : decode cX12_rough 133 = .ok (.iconst 1, 1) := kDec_at dA247_cX12_rough 16 rfl
theorem dX12_rough_134 : decode cX12_rough 134 = .ok (.goto 4, 3) := kDec_at dA247_cX12_rough 17 rfl
theorem dX12_rough_147 : decode cX12_rough 147 = .ok (.iconst 1, 1) := kDec_at dA247_cX12_rough 18 rfl
theorem dX12_rough_148 : decode cX12_rough 148 = .ok (.goto 5, 3) := kDec_at dA247_cX12_rough 19 rfl
theorem dX12_rough_64 : decode cX12_rough 64 = .ok (.iconst (-1), 1) := kDec_at dA247_cX12_rough 20 rfl
theorem dX12_rough_65 : decode cX12_rough 65 = .ok (.ireturn, 1) := kDec_at dA247_cX12_rough 21 rfl
theorem dX12_rough_44 : decode cX12_rough 44 = .ok (.aload_n 0, 1) := kDec_at dA247_cX12_rough 22 rfl
theorem dX12_rough_45 : decode cX12_rough 45 = .ok (.aload_n 0, 1) := kDec_at dA247_cX12_rough 23 rfl
set_option maxRecDepth 100000 in
theorem dA248_cX12_rough : kDec cX12_rough [(46, .getfield 102, 3), (49, .putfield 55, 3), (52, .iconst (-1), 1), (53, .ireturn, 1)] = true := by decide +kernel
theorem dX12_rough_46 : decode cX12_rough 46 = .ok (.getfield 102, 3) := kDec_at dA248_cX12_rough 0 rfl
theorem dX12_rough_49 : decode cX12_rough 49 = .ok (.putfield 55, 3) := kDec_at dA248_cX12_rough 1 rfl
theorem dX12_rough_52 : decode cX12_rough 52 = .ok (.iconst (-1), 1) := kDec_at dA248_cX12_rough 2 rfl
theorem dX12_rough_53 : decode cX12_rough 53 = .ok (.ireturn, 1) := kDec_at dA248_cX12_rough 3 rfl

end

/-! 59o.rough -/
section
theorem rg_x {a b : Int32} {f L4 L5 : Nat → Int32} {Bf : Int32 → Int32} {n n' : Int} (h : ∀ c fm v, ¬ RG a b L4 L5 Bf n.toNat f c fm v) (e : n = n') : ∀ c fm v, ¬ RG a b L4 L5 Bf n'.toNat f c fm v := by rw [← e]; exact h
theorem rg_y2 {a b l mk : Int32} {f f' L4 L5 : Nat → Int32} {Bf : Int32 → Int32} {n n' : Int} (h : ∃ c : Nat, l.toInt = c ∧ RG a b L4 L5 Bf n.toNat f c f' mk.toInt) (ha : okd a) (hb : okd b) (e : n = n') : ∃ c : Nat, l.toInt = c ∧ rgP a b L4 L5 Bf n' f c f' mk.toInt := by
  obtain ⟨c, c1, c2⟩ := h
  rw [e] at c2
  exact ⟨c, c1, ha, hb, c2⟩

set_option maxHeartbeats 40000000 in
set_option maxRecDepth 100000 in
theorem f_X12_rough (l : Launch) (dC : Nat → ClassId) (dI : Nat → Nat → Nat) (cI cS : ClassId) (sz : Nat) (oM : Nat) (mT : Nat) (mS : Nat) (mX : Nat) (mL : Nat) (mB : Nat) (mD : Nat) (m1 : Nat) (m2 : Nat) (mR : Nat) (x1 : Nat) (x2 : Nat) (x3 : Nat) (mH : Nat) (mY : Nat) (mE : Nat) (mW : Nat) (mO : Nat) (y1 : Nat) (y2 : Nat) (y3 : Nat) (y4 : Nat) (mZ : Nat) (zt : Int32) (zp : Int32) (zf : Int32) (zh : Int32) (zr : Int32) (zc : Int32) (zy : Int32) (za : Int32) (zb : Int32) (zs : Int32) (zq : Int32) (zw : Int32) (ze : Int32) (zn : Int32) (zm : Int32) (zl : Int32) (zk : Int32) (zd : Int32) (eY : Nat → Int32) (eB : Nat → Int32) (eL : Nat → Int32) (eE : Nat → Int32) (eS : Nat → Int32) (eX : Nat → Int32) (a : Int32) (b : Int32) (g_zt : 0 ≤ zt.toInt ∧ zt.toInt ≤ 900) (g_zp : 0 ≤ zp.toInt ∧ zp.toInt ≤ 20) (g_zf : 0 ≤ zf.toInt ∧ zf.toInt ≤ 19) (g_zh : 0 ≤ zh.toInt ∧ zh.toInt ≤ 6) (g_zr : 0 ≤ zr.toInt ∧ zr.toInt ≤ 258) (g_zc : 0 ≤ zc.toInt ∧ zc.toInt ≤ 300) (g_zy : 0 ≤ zy.toInt ∧ zy.toInt ≤ 65536) (g_za : 0 ≤ za.toInt ∧ za.toInt ≤ 5) (g_zb : 0 ≤ zb.toInt ∧ zb.toInt ≤ 5) (g_zs : 0 ≤ zs.toInt ∧ zs.toInt ≤ 2000000) (g_zq : -1 ≤ zq.toInt ∧ zq.toInt ≤ 2000000) (g_zn : 0 ≤ zn.toInt ∧ zn.toInt ≤ 2600) (g_zm : 0 ≤ zm.toInt ∧ zm.toInt ≤ 2600) (g_zk : 0 ≤ zk.toInt ∧ zk.toInt ≤ 300) (g_eY : rg 0 255 eY) (g_eB : rg (-1) 255 eB) (g_eL : rg (-1) 65535 eL) (g_eE : rg 0 65535 eE) (g_eS : rg 0 300 eS) (g_eX : rg 0 65535 eX) (hzs : zs.toInt ≤ 1000000) : kMi l yX12_rough wsX12_rough ({ frames := 3, cells := 0, slots := 0, locals := 68 } : Room) [.ref oM, .int a, .int b] sz (dC, dI) vwCl [(cI, .int), (cS, .short)] [(oM, .inr (12, [.ref mT, .int zt, .ref mS, .ref mX, .int zp, .int zf, .ref mL, .ref mB, .ref mD, .ref m1, .ref m2, .int zh, .ref mR, .int zr, .ref x1, .ref x2, .ref x3, .int zc, .ref mH, .int zy, .int za, .int zb, .int zs, .int zq, .int zw, .int ze, .ref mY, .int zn, .ref mE, .int zm, .int zl, .ref mW, .int zk, .ref mO, .int zd, .ref y1, .ref y2, .ref y3, .ref y4, .ref mZ])), (mY, .inl (cI, 2600, .inl eY)), (mB, .inl (cS, 131072, .inl eB)), (mL, .inl (cI, 512, .inl eL)), (mE, .inl (cI, 2600, .inl eE)), (mS, .inl (cI, 21, .inl eS)), (mX, .inl (cI, 6300, .inl eX))] (fun _ => True) 0 0 (fun (A : Nat → Prop) (r : Int32) (hh9 : Heap) => ∀ PZ9 : Prop, (∀ (ze' : Int32) (zw' : Int32) (zn' : Int32) (eY' : Nat → Int32) (zd' : Int32) (zm' : Int32) (zl' : Int32) (eE' : Nat → Int32) (zp' : Int32) (zf' : Int32) (zs' : Int32) (eS' : Nat → Int32) (eX' : Nat → Int32), kPD (dC, dI) vwCl A [(oM, .inr (12, [.ref mT, .int zt, .ref mS, .ref mX, .int zp', .int zf', .ref mL, .ref mB, .ref mD, .ref m1, .ref m2, .int zh, .ref mR, .int zr, .ref x1, .ref x2, .ref x3, .int zc, .ref mH, .int zy, .int za, .int zb, .int zs', .int zq, .int zw', .int ze', .ref mY, .int zn', .ref mE, .int zm', .int zl', .ref mW, .int zk, .ref mO, .int zd', .ref y1, .ref y2, .ref y3, .ref y4, .ref mZ])), (mY, .inl (cI, 2600, .inl eY')), (mB, .inl (cS, 131072, .inl eB)), (mL, .inl (cI, 512, .inl eL)), (mE, .inl (cI, 2600, .inl eE')), (mS, .inl (cI, 21, .inl eS')), (mX, .inl (cI, 6300, .inl eX'))] hh9 → (0 ≤ zn'.toInt ∧ zn'.toInt ≤ 2600) → (rg 0 255 eY') → (0 ≤ zm'.toInt ∧ zm'.toInt ≤ 2600) → (rg 0 65535 eE') → (0 ≤ zp'.toInt ∧ zp'.toInt ≤ 20) → (0 ≤ zf'.toInt ∧ zf'.toInt ≤ 19) → (0 ≤ zs'.toInt ∧ zs'.toInt ≤ 2000000) → (rg 0 300 eS') → (rg 0 65535 eX') → (zs'.toInt ≤ zs.toInt + 1 ∧ zs.toInt ≤ zs'.toInt) → (F_st zs zs' eX eX' eS eS') → (OR (-1) r zs zs' zp zp' zf zf' eS eS' eX eX' (rgP a b (fun k => eL k) (fun k => eL (256 + k)) (Br a eB) (eS 0).toInt eX)) → PZ9) → PZ9) := by
  refine kMi_of (cc := cX12_rough) (maxL := 6) (ret := (some .int)) (lv := [(0, .ref oM), (1, .int a), (2, .int b)]) (by decide +kernel) rfl rfl (Nat.le_of_ble_eq_true rfl) ?_
  intro p e s m below meth c A QQ ls hx hb hr hts hml hown hlocks hA hQQ hK hX hP hD hS hl
  have hown : s.vm.findClass RX12 = some m.cls := hown
  have hcf := k_cf hx hb hml hown hts
  have in_X12 : ∀ w ∈ wsX120, w ∈ wsX12_rough := fun _ h => List.mem_cons_of_mem _ (List.mem_append_left _ (List.mem_append_left _ (List.mem_append_left _ (List.mem_append_left _ (List.mem_append_right _ (h))))))
  replace g_zt := hid g_zt
  replace g_zh := hid g_zh
  replace g_zr := hid g_zr
  replace g_zc := hid g_zc
  replace g_zy := hid g_zy
  replace g_za := hid g_za
  replace g_zb := hid g_zb
  replace g_zq := hid g_zq
  replace g_zn := hid g_zn
  replace g_zm := hid g_zm
  replace g_zk := hid g_zk
  refine lv_aload_n hx hb dX12_rough_0 rfl (lv_at hl 0 rfl) ?_
  refine lv_iconst (v := 0) hx hb dX12_rough_1 (by decide) ?_
  refine va_put (D := (dC, dI)) (ci := 12) (v := .int 0) (ty := .int) (C := RX12) (T := TX12) (N := 40) hx hb hts in_X12 tyX12 tyX12_ok nmX12 hown hK hP hD hS 0 rfl rfl 25 (Nat.le_of_ble_eq_true rfl) (hts (.fieldLink RX12 85 "TextMenderModel" "thrown" "I") (List.mem_of_getElem? (i := 1) rfl)) (fun _ h9 => h9) rfl (tyX12_ok 25 (Nat.le_of_ble_eq_true rfl)) rfl rfl (Nat.le_of_ble_eq_true rfl) dX12_rough_2 (kW (wn := [(oM, .inr (12, [.ref mT, .int zt, .ref mS, .ref mX, .int zp, .int zf, .ref mL, .ref mB, .ref mD, .ref m1, .ref m2, .int zh, .ref mR, .int zr, .ref x1, .ref x2, .ref x3, .int zc, .ref mH, .int zy, .int za, .int zb, .int zs, .int zq, .int zw, .int 0, .ref mY, .int zn, .ref mE, .int zm, .int zl, .ref mW, .int zk, .ref mO, .int zd, .ref y1, .ref y2, .ref y3, .ref y4, .ref mZ])), (mY, .inl (cI, 2600, .inl eY)), (mB, .inl (cS, 131072, .inl eB)), (mL, .inl (cI, 512, .inl eL)), (mE, .inl (cI, 2600, .inl eE)), (mS, .inl (cI, 21, .inl eS)), (mX, .inl (cI, 6300, .inl eX))]) rfl (fun H locs hPn hDn hSn => ?_))
  clear hP hD hS
  have hP := hPn
  have hD := hDn
  have hS := hSn
  clear hPn hDn hSn
  refine lv_aload_n hx hb dX12_rough_5 rfl (lv_at hl 0 rfl) ?_
  refine lv_iconst (v := (-1)) hx hb dX12_rough_6 (by decide) ?_
  refine va_put (D := (dC, dI)) (ci := 12) (v := .int (-1)) (ty := .int) (C := RX12) (T := TX12) (N := 40) hx hb hts in_X12 tyX12 tyX12_ok nmX12 hown hK hP hD hS 0 rfl rfl 24 (Nat.le_of_ble_eq_true rfl) (hts (.fieldLink RX12 55 "TextMenderModel" "where" "I") (List.mem_of_getElem? (i := 2) rfl)) (fun _ h9 => h9) rfl (tyX12_ok 24 (Nat.le_of_ble_eq_true rfl)) rfl rfl (Nat.le_of_ble_eq_true rfl) dX12_rough_7 (kW (wn := [(oM, .inr (12, [.ref mT, .int zt, .ref mS, .ref mX, .int zp, .int zf, .ref mL, .ref mB, .ref mD, .ref m1, .ref m2, .int zh, .ref mR, .int zr, .ref x1, .ref x2, .ref x3, .int zc, .ref mH, .int zy, .int za, .int zb, .int zs, .int zq, .int (-1), .int 0, .ref mY, .int zn, .ref mE, .int zm, .int zl, .ref mW, .int zk, .ref mO, .int zd, .ref y1, .ref y2, .ref y3, .ref y4, .ref mZ])), (mY, .inl (cI, 2600, .inl eY)), (mB, .inl (cS, 131072, .inl eB)), (mL, .inl (cI, 512, .inl eL)), (mE, .inl (cI, 2600, .inl eE)), (mS, .inl (cI, 21, .inl eS)), (mX, .inl (cI, 6300, .inl eX))]) rfl (fun H locs hPn hDn hSn => ?_))
  clear hP hD hS
  have hP := hPn
  have hD := hDn
  have hS := hSn
  clear hPn hDn hSn
  refine lv_iload_n hx hb dX12_rough_10 rfl (lv_at hl 1 rfl) ?_
  refine kS_i (rest := []) hcf (m_X12_isCode l dC dI cI cS H.size a ) kc_X12_isCode gX12_rough_X12_isCode rfl rfl ⟨Nat.le_of_ble_eq_true rfl, Nat.le_of_ble_eq_true rfl⟩ kX_t hK hP hD hS hA (posT mk_2 0) (posF mk_2 0) (kC_of mk_2 rfl rfl) (by decide +kernel) rfl hl rfl (Nat.le_of_ble_eq_true rfl) dX12_rough_11 ⟨Nat.le_of_ble_eq_true rfl, Nat.le_of_ble_eq_true rfl⟩ (fun r_1 H locs hB hJ hSn => ?_)
  refine hB _ (fun hPD9 hf1_0 hf1_1 => ?_)
  clear hB
  obtain ⟨hPn, hDn⟩ := kJi (m := mk_2) hJ rfl hPD9.1 hPD9.2 (wn := [(oM, .inr (12, [.ref mT, .int zt, .ref mS, .ref mX, .int zp, .int zf, .ref mL, .ref mB, .ref mD, .ref m1, .ref m2, .int zh, .ref mR, .int zr, .ref x1, .ref x2, .ref x3, .int zc, .ref mH, .int zy, .int za, .int zb, .int zs, .int zq, .int (-1), .int 0, .ref mY, .int zn, .ref mE, .int zm, .int zl, .ref mW, .int zk, .ref mO, .int zd, .ref y1, .ref y2, .ref y3, .ref y4, .ref mZ])), (mY, .inl (cI, 2600, .inl eY)), (mB, .inl (cS, 131072, .inl eB)), (mL, .inl (cI, 512, .inl eL)), (mE, .inl (cI, 2600, .inl eE)), (mS, .inl (cI, 21, .inl eS)), (mX, .inl (cI, 6300, .inl eX))]) rfl
  clear hP hD hS hJ hPD9
  have hP := hPn
  have hD := hDn
  have hS := hSn
  clear hPn hDn hSn
  refine lv_if_eq (tgt := 24) hx hb dX12_rough_14 (by decide) (fun c_2 => ?_) (fun c_2 => ?_)
  · have tc_2 : r_1.toInt = 0 := v_eq c_2
    refine lv_iconst (v := (-1)) hx hb dX12_rough_24 (by decide) ?_
    exact kl_i (v := (-1)) hQQ hx hb hr hlocks hS dX12_rough_25 (fun PZ9 kZ9 => kZ9 0 (-1) zn eY zd zm zl eE zp zf zs eS eX (⟨hP, hD⟩) (g_zn) (g_eY) (g_zm) (g_eE) (g_zp) (g_zf) (g_zs) (g_eS) (g_eX) (by show zs.toInt ≤ zs.toInt + 1 ∧ zs.toInt ≤ zs.toInt; omega) (by first | exact Or.inl (by omega) | exact Or.inr ⟨rfl, rfl, rfl⟩) (OR_n rfl (fun c fm v h => by have h1 := h.1; have h2 := h.2.1; unfold okd at h1 h2; omega)))
  · have tc_2 : ¬ r_1.toInt = 0 := v_ne c_2
    refine lv_iload_n hx hb dX12_rough_17 rfl (lv_at hl 2 rfl) ?_
    refine kS_i (rest := []) hcf (m_X12_isCode l dC dI cI cS H.size b ) kc_X12_isCode gX12_rough_X12_isCode rfl rfl ⟨Nat.le_of_ble_eq_true rfl, Nat.le_of_ble_eq_true rfl⟩ kX_t hK hP hD hS hA (posT mk_2 0) (posF mk_2 0) (kC_of mk_2 rfl rfl) (by decide +kernel) rfl hl rfl (Nat.le_of_ble_eq_true rfl) dX12_rough_18 ⟨Nat.le_of_ble_eq_true rfl, Nat.le_of_ble_eq_true rfl⟩ (fun r_3 H locs hB hJ hSn => ?_)
    refine hB _ (fun hPD9 hf3_0 hf3_1 => ?_)
    clear hB
    obtain ⟨hPn, hDn⟩ := kJi (m := mk_2) hJ rfl hPD9.1 hPD9.2 (wn := [(oM, .inr (12, [.ref mT, .int zt, .ref mS, .ref mX, .int zp, .int zf, .ref mL, .ref mB, .ref mD, .ref m1, .ref m2, .int zh, .ref mR, .int zr, .ref x1, .ref x2, .ref x3, .int zc, .ref mH, .int zy, .int za, .int zb, .int zs, .int zq, .int (-1), .int 0, .ref mY, .int zn, .ref mE, .int zm, .int zl, .ref mW, .int zk, .ref mO, .int zd, .ref y1, .ref y2, .ref y3, .ref y4, .ref mZ])), (mY, .inl (cI, 2600, .inl eY)), (mB, .inl (cS, 131072, .inl eB)), (mL, .inl (cI, 512, .inl eL)), (mE, .inl (cI, 2600, .inl eE)), (mS, .inl (cI, 21, .inl eS)), (mX, .inl (cI, 6300, .inl eX))]) rfl
    clear hP hD hS hJ hPD9
    have hP := hPn
    have hD := hDn
    have hS := hSn
    clear hPn hDn hSn
    refine lv_if_ne (tgt := 26) hx hb dX12_rough_21 (by decide) (fun c_4 => ?_) (fun c_4 => ?_)
    · have tc_4 : ¬ r_3.toInt = 0 := v_ne c_4
      refine lv_aload_n hx hb dX12_rough_26 rfl (lv_at hl 0 rfl) ?_
      refine lv_iload_n hx hb dX12_rough_27 rfl (lv_at hl 1 rfl) ?_
      refine lv_aload_n hx hb dX12_rough_28 rfl (lv_at hl 0 rfl) ?_
      refine va_get (D := (dC, dI)) (ci := 12) (v := .ref mX) (C := RX12) (T := TX12) (N := 40) hx hb hts in_X12 hown hK hP 0 rfl rfl 3 (Nat.le_of_ble_eq_true rfl) (hts (.fieldLink RX12 16 "TextMenderModel" "texts" "[I") (List.mem_of_getElem? (i := 3) rfl)) (fun _ h9 => h9) rfl dX12_rough_29 ?_
      refine lv_aload_n hx hb dX12_rough_32 rfl (lv_at hl 0 rfl) ?_
      refine va_get (D := (dC, dI)) (ci := 12) (v := .ref mS) (C := RX12) (T := TX12) (N := 40) hx hb hts in_X12 hown hK hP 0 rfl rfl 2 (Nat.le_of_ble_eq_true rfl) (hts (.fieldLink RX12 13 "TextMenderModel" "sizes" "[I") (List.mem_of_getElem? (i := 4) rfl)) (fun _ h9 => h9) rfl dX12_rough_33 ?_
      refine lv_iconst (v := 0) hx hb dX12_rough_36 (by decide) ?_
      refine va_iald hx hb hK hP 5 0 rfl rfl (by unfold vp_in; decide) dX12_rough_37 ?_
      refine lv_topi (fun x_5 ex_5 => ?_)
      have tx_5 : 0 ≤ x_5.toInt ∧ x_5.toInt ≤ 300 := rg_at g_eS ex_5
      refine kV_i (rest := []) (q0 := 0) (ci := 12) hcf (f_X12_write l dC dI cI cS H.size oM mX mT mS mX mL mB mD m1 m2 mR x1 x2 x3 mH mY mE mW mO y1 y2 y3 y4 mZ 6300 zt zp zf zh zr zc zy za zb zs zq (-1) 0 zn zm zl zk zd eY eB eX a x_5 (g_zt) (g_zp) (g_zf) (g_zh) (g_zr) (g_zc) (g_zy) (g_za) (g_zb) (g_zs) (g_zq) (g_zn) (g_zm) (g_zk) (g_eY) (g_eB) (g_eX) (by omega) (v_rr tx_5 (by decide) (by decide)) (by omega) (by omega)) kc_X12_write gX12_rough_X12_write rfl rfl rfl ⟨Nat.le_of_ble_eq_true rfl, Nat.le_of_ble_eq_true rfl⟩ kX_t hK hP hD hS hA (posT mk_165 0) (posF mk_165 0) (kC_of mk_165 rfl rfl) (by decide +kernel) rfl rfl rfl hl rfl (Nat.le_of_ble_eq_true rfl) dX12_rough_38 ⟨Nat.le_of_ble_eq_true rfl, Nat.le_of_ble_eq_true rfl⟩ (fun r_6 H locs hB hJ hSn => ?_)
      refine hB _ (fun zn_6 eY_6 zl_6 hPD9 hf6_0 hf6_1 hf6_2 hf6_3 => ?_)
      clear hB
      obtain ⟨hPn, hDn⟩ := kJi (m := mk_165) hJ rfl hPD9.1 hPD9.2 (wn := [(oM, .inr (12, [.ref mT, .int zt, .ref mS, .ref mX, .int zp, .int zf, .ref mL, .ref mB, .ref mD, .ref m1, .ref m2, .int zh, .ref mR, .int zr, .ref x1, .ref x2, .ref x3, .int zc, .ref mH, .int zy, .int za, .int zb, .int zs, .int zq, .int (-1), .int 0, .ref mY, .int zn_6, .ref mE, .int zm, .int zl_6, .ref mW, .int zk, .ref mO, .int zd, .ref y1, .ref y2, .ref y3, .ref y4, .ref mZ])), (mY, .inl (cI, 2600, .inl eY_6)), (mB, .inl (cS, 131072, .inl eB)), (mL, .inl (cI, 512, .inl eL)), (mE, .inl (cI, 2600, .inl eE)), (mS, .inl (cI, 21, .inl eS)), (mX, .inl (cI, 6300, .inl eX))]) rfl
      clear hP hD hS hJ hPD9
      have hP := hPn
      have hD := hDn
      have hS := hSn
      clear hPn hDn hSn
      refine lv_if_ne (tgt := 54) hx hb dX12_rough_41 (by decide) (fun c_7 => ?_) (fun c_7 => ?_)
      · have tc_7 : ¬ r_6.toInt = 0 := v_ne c_7
        have hwr9 := wr_WR (E := fun j => enc a (eX j) (Br a eB (eX j))) hf6_3 (by omega)
        have hby9 := WR_b (Bf := Br a eB) hwr9 (fun j hj => g_eX j) (okB_r g_eB)
        refine lv_aload_n hx hb dX12_rough_54 rfl (lv_at hl 0 rfl) ?_
        refine va_get (D := (dC, dI)) (ci := 12) (v := .int zn_6) (C := RX12) (T := TX12) (N := 40) hx hb hts in_X12 hown hK hP 0 rfl rfl 27 (Nat.le_of_ble_eq_true rfl) (hts (.fieldLink RX12 91 "TextMenderModel" "byteMany" "I") (List.mem_of_getElem? (i := 6) rfl)) (fun _ h9 => h9) rfl dX12_rough_55 ?_
        refine lv_sipush (v := 900) hx hb dX12_rough_58 (by decide) ?_
        refine lv_icmp_le (tgt := 66) hx hb dX12_rough_61 (by decide) (fun c_8 => ?_) (fun c_8 => ?_)
        · have tc_8 : zn_6.toInt ≤ 900 := v_le c_8
          refine lv_iconst (v := 0) hx hb dX12_rough_66 (by decide) ?_
          refine lv_istore_n (lv' := [(3, .int 0), (0, .ref oM), (1, .int a), (2, .int b)]) hx hb dX12_rough_67 rfl hl (by decide) rfl (fun ls hl => ?_)
          refine lv_iconst (v := 0) hx hb dX12_rough_68 (by decide) ?_
          refine lv_istore (lv' := [(4, .int 0), (3, .int 0), (0, .ref oM), (1, .int a), (2, .int b)]) hx hb dX12_rough_69 hl (by decide) rfl (fun ls hl => ?_)
          refine lv_aload_n hx hb dX12_rough_71 rfl (lv_at hl 2 rfl) ?_
          refine lv_iconst (v := 0) hx hb dX12_rough_72 (by decide) ?_
          refine va_put (D := (dC, dI)) (ci := 12) (v := .int 0) (ty := .int) (C := RX12) (T := TX12) (N := 40) hx hb hts in_X12 tyX12 tyX12_ok nmX12 hown hK hP hD hS 0 rfl rfl 29 (Nat.le_of_ble_eq_true rfl) (hts (.fieldLink RX12 119 "TextMenderModel" "cameMany" "I") (List.mem_of_getElem? (i := 7) rfl)) (fun _ h9 => h9) rfl (tyX12_ok 29 (Nat.le_of_ble_eq_true rfl)) rfl rfl (Nat.le_of_ble_eq_true rfl) dX12_rough_73 (kW (wn := [(oM, .inr (12, [.ref mT, .int zt, .ref mS, .ref mX, .int zp, .int zf, .ref mL, .ref mB, .ref mD, .ref m1, .ref m2, .int zh, .ref mR, .int zr, .ref x1, .ref x2, .ref x3, .int zc, .ref mH, .int zy, .int za, .int zb, .int zs, .int zq, .int (-1), .int 0, .ref mY, .int zn_6, .ref mE, .int 0, .int zl_6, .ref mW, .int zk, .ref mO, .int zd, .ref y1, .ref y2, .ref y3, .ref y4, .ref mZ])), (mY, .inl (cI, 2600, .inl eY_6)), (mB, .inl (cS, 131072, .inl eB)), (mL, .inl (cI, 512, .inl eL)), (mE, .inl (cI, 2600, .inl eE)), (mS, .inl (cI, 21, .inl eS)), (mX, .inl (cI, 6300, .inl eX))]) rfl (fun H locs hPn hDn hSn => ?_))
          clear hP hD hS
          have hP := hPn
          have hD := hDn
          have hS := hSn
          clear hPn hDn hSn
          have LOOP_76 : ∀ (k_76 : Nat) (mr : Int32) (p_ : Int32) (zma : Int32) (zda : Int32) (eEa : Nat → Int32) (H : Heap) (locs : List Loc) (ls : Array Slot), MSd (900 - p_.toInt : Int) k_76 → (0 ≤ mr.toInt ∧ mr.toInt ≤ 900) → (0 ≤ p_.toInt ∧ p_.toInt ≤ 900) → (0 ≤ zma.toInt ∧ zma.toInt ≤ p_.toInt) → (rg 0 65535 eEa) → (p_.toInt ≤ zn_6.toInt) → (RQ p_ zma mr eEa (dl b (fun k => eL k) (fun k => eL (256 + k)) eY_6 zn_6.toInt) (dx b (fun k => eL k) (fun k => eL (256 + k)) eY_6 zn_6.toInt)) → (0 ≤ mr.toInt ∧ mr.toInt ≤ zma.toInt) → va_P (dC, dI) vwCl [(oM, .inr (12, [.ref mT, .int zt, .ref mS, .ref mX, .int zp, .int zf, .ref mL, .ref mB, .ref mD, .ref m1, .ref m2, .int zh, .ref mR, .int zr, .ref x1, .ref x2, .ref x3, .int zc, .ref mH, .int zy, .int za, .int zb, .int zs, .int zq, .int (-1), .int 0, .ref mY, .int zn_6, .ref mE, .int zma, .int zl_6, .ref mW, .int zk, .ref mO, .int zda, .ref y1, .ref y2, .ref y3, .ref y4, .ref mZ])), (mY, .inl (cI, 2600, .inl eY_6)), (mB, .inl (cS, 131072, .inl eB)), (mL, .inl (cI, 512, .inl eL)), (mE, .inl (cI, 2600, .inl eEa)), (mS, .inl (cI, 21, .inl eS)), (mX, .inl (cI, 6300, .inl eX))] H → va_D A [(oM, .inr (12, [.ref mT, .int zt, .ref mS, .ref mX, .int zp, .int zf, .ref mL, .ref mB, .ref mD, .ref m1, .ref m2, .int zh, .ref mR, .int zr, .ref x1, .ref x2, .ref x3, .int zc, .ref mH, .int zy, .int za, .int zb, .int zs, .int zq, .int (-1), .int 0, .ref mY, .int zn_6, .ref mE, .int zma, .int zl_6, .ref mW, .int zk, .ref mO, .int zda, .ref y1, .ref y2, .ref y3, .ref y4, .ref mZ])), (mY, .inl (cI, 2600, .inl eY_6)), (mB, .inl (cS, 131072, .inl eB)), (mL, .inl (cI, 512, .inl eL)), (mE, .inl (cI, 2600, .inl eEa)), (mS, .inl (cI, 21, .inl eS)), (mX, .inl (cI, 6300, .inl eX))] → va_S A s.heap H locs → lv_has ls 6 [(4, .int p_), (3, .int mr), (0, .ref oM), (1, .int a), (2, .int b)] → W p l e (headSpec wsX12_rough ({ frames := 3, cells := 0, slots := 0, locals := 68 } : Room)).room s m ([.ref oM, .int a, .int b] : List Value).toArray below meth c H locs 0 0 (MQ below QQ ([.ref oM, .int a, .int b] : List Value).toArray s 0 0 A) (F0 m 76 ls []) := by
            clear hP hD hS hl
            intro k_76
            induction k_76 with
            | zero =>
              intro mr p_ zma zda eEa H locs ls hm_76 g_mr g_p_ g_zma g_eEa hpl hrq hmk hP hD hS hl
              exact ms_0 hm_76
            | succ k_76 ih_76 =>
              intro mr p_ zma zda eEa H locs ls hm_76 g_mr g_p_ g_zma g_eEa hpl hrq hmk hP hD hS hl
              refine lv_iload hx hb dX12_rough_76 (lv_at hl 0 rfl) ?_
              refine lv_aload_n hx hb dX12_rough_78 rfl (lv_at hl 2 rfl) ?_
              refine va_get (D := (dC, dI)) (ci := 12) (v := .int zn_6) (C := RX12) (T := TX12) (N := 40) hx hb hts in_X12 hown hK hP 0 rfl rfl 27 (Nat.le_of_ble_eq_true rfl) (hts (.fieldLink RX12 91 "TextMenderModel" "byteMany" "I") (List.mem_of_getElem? (i := 6) rfl)) (fun _ h9 => h9) rfl dX12_rough_79 ?_
              refine lv_icmp_ge (tgt := 159) hx hb dX12_rough_82 (by decide) (fun c_9 => ?_) (fun c_9 => ?_)
              · have tc_9 : zn_6.toInt ≤ p_.toInt := v_le c_9
                refine lv_aload_n hx hb dX12_rough_159 rfl (lv_at hl 2 rfl) ?_
                refine va_get (D := (dC, dI)) (ci := 12) (v := .int zma) (C := RX12) (T := TX12) (N := 40) hx hb hts in_X12 hown hK hP 0 rfl rfl 29 (Nat.le_of_ble_eq_true rfl) (hts (.fieldLink RX12 119 "TextMenderModel" "cameMany" "I") (List.mem_of_getElem? (i := 7) rfl)) (fun _ h9 => h9) rfl dX12_rough_160 ?_
                refine lv_sipush (v := 300) hx hb dX12_rough_163 (by decide) ?_
                refine lv_icmp_le (tgt := 171) hx hb dX12_rough_166 (by decide) (fun c_10 => ?_) (fun c_10 => ?_)
                · have tc_10 : zma.toInt ≤ 300 := v_le c_10
                  refine lv_aload_n hx hb dX12_rough_171 rfl (lv_at hl 2 rfl) ?_
                  refine lv_aload_n hx hb dX12_rough_172 rfl (lv_at hl 2 rfl) ?_
                  refine va_get (D := (dC, dI)) (ci := 12) (v := .ref mE) (C := RX12) (T := TX12) (N := 40) hx hb hts in_X12 hown hK hP 0 rfl rfl 28 (Nat.le_of_ble_eq_true rfl) (hts (.fieldLink RX12 61 "TextMenderModel" "came" "[I") (List.mem_of_getElem? (i := 8) rfl)) (fun _ h9 => h9) rfl dX12_rough_173 ?_
                  refine lv_aload_n hx hb dX12_rough_176 rfl (lv_at hl 2 rfl) ?_
                  refine va_get (D := (dC, dI)) (ci := 12) (v := .int zma) (C := RX12) (T := TX12) (N := 40) hx hb hts in_X12 hown hK hP 0 rfl rfl 29 (Nat.le_of_ble_eq_true rfl) (hts (.fieldLink RX12 119 "TextMenderModel" "cameMany" "I") (List.mem_of_getElem? (i := 7) rfl)) (fun _ h9 => h9) rfl dX12_rough_177 ?_
                  refine kV_v (rest := []) (q0 := 0) (ci := 12) hcf (f_X12_bec l dC dI cI cS H.size oM mE mT mS mX mL mB mD m1 m2 mR x1 x2 x3 mH mY mE mW mO y1 y2 y3 y4 mZ 2600 zt zp zf zh zr zc zy za zb zs zq (-1) 0 zn_6 zma zl_6 zk zda eS eX eEa zma (g_zt) (g_zp) (g_zf) (g_zh) (g_zr) (g_zc) (g_zy) (g_za) (g_zb) (g_zs) (g_zq) (hf6_0) (by omega) (g_zk) (g_eS) (g_eX) (by omega) (by omega) (by omega) (prg_of g_eEa) (by omega)) kc_X12_become gX12_rough_X12_become rfl rfl rfl ⟨Nat.le_of_ble_eq_true rfl, Nat.le_of_ble_eq_true rfl⟩ kX_t hK hP hD hS hA ([0, 2, 3, 1].filterMap (fun j => (posT mk_164 0)[j]?)) (posF mk_164 0) (kCp (ws := [(oM, .inr (12, [.ref mT, .int zt, .ref mS, .ref mX, .int zp, .int zf, .ref mL, .ref mB, .ref mD, .ref m1, .ref m2, .int zh, .ref mR, .int zr, .ref x1, .ref x2, .ref x3, .int zc, .ref mH, .int zy, .int za, .int zb, .int zs, .int zq, .int (-1), .int 0, .ref mY, .int zn_6, .ref mE, .int zma, .int zl_6, .ref mW, .int zk, .ref mO, .int zda, .ref y1, .ref y2, .ref y3, .ref y4, .ref mZ])), (mE, .inl (cI, 2600, .inl eEa)), (mS, .inl (cI, 21, .inl eS)), (mX, .inl (cI, 6300, .inl eX))]) (kC_of mk_164 rfl rfl) rfl) (by decide +kernel) rfl rfl rfl hl rfl (Nat.le_of_ble_eq_true rfl) dX12_rough_180 ⟨Nat.le_of_ble_eq_true rfl, Nat.le_of_ble_eq_true rfl⟩ (fun H locs hB hJ hSn => ?_)
                  refine hB _ (fun zp_11 zf_11 zs_11 eS_11 eX_11 hPD9 hf11_0 hf11_1 hf11_2 hf11_3 hf11_4 hf11_5 hf11_6 => ?_)
                  clear hB
                  obtain ⟨hPn, hDn⟩ := kJm (m := mk_164) hJ rfl hPD9.1 hPD9.2 [0, 3, 1, 2] (by decide +kernel) (ws := [(oM, .inr (12, [.ref mT, .int zt, .ref mS, .ref mX, .int zp_11, .int zf_11, .ref mL, .ref mB, .ref mD, .ref m1, .ref m2, .int zh, .ref mR, .int zr, .ref x1, .ref x2, .ref x3, .int zc, .ref mH, .int zy, .int za, .int zb, .int zs_11, .int zq, .int (-1), .int 0, .ref mY, .int zn_6, .ref mE, .int zma, .int zl_6, .ref mW, .int zk, .ref mO, .int zda, .ref y1, .ref y2, .ref y3, .ref y4, .ref mZ])), (mE, .inl (cI, 2600, .inl eEa)), (mS, .inl (cI, 21, .inl eS_11)), (mX, .inl (cI, 6300, .inl eX_11))]) rfl (wn := [(oM, .inr (12, [.ref mT, .int zt, .ref mS, .ref mX, .int zp_11, .int zf_11, .ref mL, .ref mB, .ref mD, .ref m1, .ref m2, .int zh, .ref mR, .int zr, .ref x1, .ref x2, .ref x3, .int zc, .ref mH, .int zy, .int za, .int zb, .int zs_11, .int zq, .int (-1), .int 0, .ref mY, .int zn_6, .ref mE, .int zma, .int zl_6, .ref mW, .int zk, .ref mO, .int zda, .ref y1, .ref y2, .ref y3, .ref y4, .ref mZ])), (mY, .inl (cI, 2600, .inl eY_6)), (mB, .inl (cS, 131072, .inl eB)), (mL, .inl (cI, 512, .inl eL)), (mE, .inl (cI, 2600, .inl eEa)), (mS, .inl (cI, 21, .inl eS_11)), (mX, .inl (cI, 6300, .inl eX_11))]) rfl
                  clear hP hD hS hJ hPD9
                  have hP := hPn
                  have hD := hDn
                  have hS := hSn
                  clear hPn hDn hSn
                  refine lv_iload_n hx hb dX12_rough_183 rfl (lv_at hl 1 rfl) ?_
                  exact kl_i (v := mr) hQQ hx hb hr hlocks hS dX12_rough_184 (fun PZ9 kZ9 => kZ9 0 (-1) zn_6 eY_6 zda zma zl_6 eEa zp_11 zf_11 zs_11 eS_11 eX_11 (⟨hP, hD⟩) (hf6_0) (hf6_1) (by omega) (g_eEa) (hf11_0) (hf11_1) (hf11_2) (hf11_3) (hf11_4) (by show zs_11.toInt ≤ zs.toInt + 1 ∧ zs.toInt ≤ zs_11.toInt; omega) (by first | exact Or.inl (by omega) | exact Or.inr ⟨rfl, rfl, rfl⟩) (OR_y (rg_y2 (rg_yes (Bf := Br a eB) hwr9 (by omega) hrq (by omega) (by omega)) (by unfold okd; omega) (by unfold okd; omega) (by rw [ex_5]; rfl)) hf11_6 (by omega)))
                · have tc_10 : 300 < zma.toInt := v_nle c_10
                  refine lv_iconst (v := (-1)) hx hb dX12_rough_169 (by decide) ?_
                  exact kl_i (v := (-1)) hQQ hx hb hr hlocks hS dX12_rough_170 (fun PZ9 kZ9 => kZ9 0 (-1) zn_6 eY_6 zda zma zl_6 eEa zp zf zs eS eX (⟨hP, hD⟩) (hf6_0) (hf6_1) (by omega) (g_eEa) (g_zp) (g_zf) (g_zs) (g_eS) (g_eX) (by show zs.toInt ≤ zs.toInt + 1 ∧ zs.toInt ≤ zs.toInt; omega) (by first | exact Or.inl (by omega) | exact Or.inr ⟨rfl, rfl, rfl⟩) (OR_n rfl (fun c fm v h => (rg_x (rg_no (Bf := Br a eB) hwr9 hby9 (fun _ => RQ_end hrq (by omega) (by omega))) (by rw [ex_5]; rfl)) c fm v h.2.2)))
              · have tc_9 : p_.toInt < zn_6.toInt := v_nle c_9
                refine lv_aload_n hx hb dX12_rough_85 rfl (lv_at hl 2 rfl) ?_
                refine lv_iload_n hx hb dX12_rough_86 rfl (lv_at hl 4 rfl) ?_
                refine lv_iload hx hb dX12_rough_87 (lv_at hl 0 rfl) ?_
                refine kV_i (rest := []) (q0 := 0) (ci := 12) hcf (f_X12_readAt l dC dI cI cS H.size oM mT mS mX mL mB mD m1 m2 mR x1 x2 x3 mH mY mE mW mO y1 y2 y3 y4 mZ zt zp zf zh zr zc zy za zb zs zq (-1) 0 zn_6 zma zl_6 zk zda eY_6 eL b p_ (g_zt) (g_zp) (g_zf) (g_zh) (g_zr) (g_zc) (g_zy) (g_za) (g_zb) (g_zs) (g_zq) (hf6_0) (by omega) (g_zk) (hf6_1) (g_eL) (by omega) (v_rr g_p_ (by decide) (by decide)) (by omega)) kc_X12_readAt gX12_rough_X12_readAt rfl rfl rfl ⟨Nat.le_of_ble_eq_true rfl, Nat.le_of_ble_eq_true rfl⟩ kX_t hK hP hD hS hA (posT mk_166 0) (posF mk_166 0) (kC_of mk_166 rfl rfl) (by decide +kernel) rfl rfl rfl hl rfl (Nat.le_of_ble_eq_true rfl) dX12_rough_89 ⟨Nat.le_of_ble_eq_true rfl, Nat.le_of_ble_eq_true rfl⟩ (fun r_12 H locs hB hJ hSn => ?_)
                refine hB _ (fun zd_12 hPD9 hf12_0 hf12_1 hf12_2 => ?_)
                clear hB
                obtain ⟨hPn, hDn⟩ := kJi (m := mk_166) hJ rfl hPD9.1 hPD9.2 (wn := [(oM, .inr (12, [.ref mT, .int zt, .ref mS, .ref mX, .int zp, .int zf, .ref mL, .ref mB, .ref mD, .ref m1, .ref m2, .int zh, .ref mR, .int zr, .ref x1, .ref x2, .ref x3, .int zc, .ref mH, .int zy, .int za, .int zb, .int zs, .int zq, .int (-1), .int 0, .ref mY, .int zn_6, .ref mE, .int zma, .int zl_6, .ref mW, .int zk, .ref mO, .int zd_12, .ref y1, .ref y2, .ref y3, .ref y4, .ref mZ])), (mY, .inl (cI, 2600, .inl eY_6)), (mB, .inl (cS, 131072, .inl eB)), (mL, .inl (cI, 512, .inl eL)), (mE, .inl (cI, 2600, .inl eEa)), (mS, .inl (cI, 21, .inl eS)), (mX, .inl (cI, 6300, .inl eX))]) rfl
                clear hP hD hS hJ hPD9
                have hP := hPn
                have hD := hDn
                have hS := hSn
                clear hPn hDn hSn
                refine lv_istore (lv' := [(5, .int r_12), (4, .int p_), (3, .int mr), (0, .ref oM), (1, .int a), (2, .int b)]) hx hb dX12_rough_92 hl (by decide) rfl (fun ls hl => ?_)
                have cp9 := v_clamp (x := p_) (by omega)
                have hu9 : ¬ r_12.toInt = 0 → (p_.toNatClampNeg : Int) + r_12.toInt ≤ _ := fun z => (F_ra_1 hf12_2 z).2.2.2
                refine lv_aload_n hx hb dX12_rough_94 rfl (lv_at hl 3 rfl) ?_
                refine va_get (D := (dC, dI)) (ci := 12) (v := .ref mE) (C := RX12) (T := TX12) (N := 40) hx hb hts in_X12 hown hK hP 0 rfl rfl 28 (Nat.le_of_ble_eq_true rfl) (hts (.fieldLink RX12 61 "TextMenderModel" "came" "[I") (List.mem_of_getElem? (i := 8) rfl)) (fun _ h9 => h9) rfl dX12_rough_95 ?_
                refine lv_aload_n hx hb dX12_rough_98 rfl (lv_at hl 3 rfl) ?_
                refine va_get (D := (dC, dI)) (ci := 12) (v := .int zma) (C := RX12) (T := TX12) (N := 40) hx hb hts in_X12 hown hK hP 0 rfl rfl 29 (Nat.le_of_ble_eq_true rfl) (hts (.fieldLink RX12 119 "TextMenderModel" "cameMany" "I") (List.mem_of_getElem? (i := 7) rfl)) (fun _ h9 => h9) rfl dX12_rough_99 ?_
                refine lv_iload hx hb dX12_rough_102 (lv_at hl 0 rfl) ?_
                refine lv_if_ne (tgt := 112) hx hb dX12_rough_104 (by decide) (fun c_13 => ?_) (fun c_13 => ?_)
                · have tc_13 : ¬ r_12.toInt = 0 := v_ne c_13
                  refine lv_aload_n hx hb dX12_rough_112 rfl (lv_at hl 3 rfl) ?_
                  refine va_get (D := (dC, dI)) (ci := 12) (v := .int zd_12) (C := RX12) (T := TX12) (N := 40) hx hb hts in_X12 hown hK hP 0 rfl rfl 34 (Nat.le_of_ble_eq_true rfl) (hts (.fieldLink RX12 105 "TextMenderModel" "readLetter" "I") (List.mem_of_getElem? (i := 10) rfl)) (fun _ h9 => h9) rfl dX12_rough_113 ?_
                  obtain ⟨f_14, ef_14⟩ : ∃ g : Nat → Int32, g = upd eEa (zma : Int32).toNatClampNeg zd_12 := ⟨_, rfl⟩
                  refine va_iast hx hb hK hP hD hS 4 0 rfl rfl (v_in (by omega)) dX12_rough_116 (kWf (g := f_14) (F := fun f_14 => [(oM, .inr (12, [.ref mT, .int zt, .ref mS, .ref mX, .int zp, .int zf, .ref mL, .ref mB, .ref mD, .ref m1, .ref m2, .int zh, .ref mR, .int zr, .ref x1, .ref x2, .ref x3, .int zc, .ref mH, .int zy, .int za, .int zb, .int zs, .int zq, .int (-1), .int 0, .ref mY, .int zn_6, .ref mE, .int zma, .int zl_6, .ref mW, .int zk, .ref mO, .int zd_12, .ref y1, .ref y2, .ref y3, .ref y4, .ref mZ])), (mY, .inl (cI, 2600, .inl eY_6)), (mB, .inl (cS, 131072, .inl eB)), (mL, .inl (cI, 512, .inl eL)), (mE, .inl (cI, 2600, .inl f_14)), (mS, .inl (cI, 21, .inl eS)), (mX, .inl (cI, 6300, .inl eX))]) ef_14 rfl (fun H locs hPn hDn hSn => ?_))
                  clear hP hD hS
                  have hP := hPn
                  have hD := hDn
                  have hS := hSn
                  clear hPn hDn hSn
                  have g_f14 : rg 0 65535 f_14 := rg_upd ef_14 g_eEa (by omega)
                  refine lv_aload_n hx hb dX12_rough_117 rfl (lv_at hl 3 rfl) ?_
                  refine lv_dup hx hb dX12_rough_118 rfl ?_
                  refine va_get (D := (dC, dI)) (ci := 12) (v := .int zma) (C := RX12) (T := TX12) (N := 40) hx hb hts in_X12 hown hK hP 0 rfl rfl 29 (Nat.le_of_ble_eq_true rfl) (hts (.fieldLink RX12 119 "TextMenderModel" "cameMany" "I") (List.mem_of_getElem? (i := 7) rfl)) (fun _ h9 => h9) rfl dX12_rough_119 ?_
                  refine lv_iconst (v := 1) hx hb dX12_rough_122 (by decide) ?_
                  refine lv_iadd hx hb dX12_rough_123 ?_
                  refine lv_topi (fun x_15 ex_15 => ?_)
                  have tx_15 : x_15.toInt = zma.toInt + 1 := v_add ex_15 (by show -2147483648 ≤ zma.toInt + 1; omega) (by show zma.toInt + 1 < 2147483648; omega)
                  refine va_put (D := (dC, dI)) (ci := 12) (v := .int x_15) (ty := .int) (C := RX12) (T := TX12) (N := 40) hx hb hts in_X12 tyX12 tyX12_ok nmX12 hown hK hP hD hS 0 rfl rfl 29 (Nat.le_of_ble_eq_true rfl) (hts (.fieldLink RX12 119 "TextMenderModel" "cameMany" "I") (List.mem_of_getElem? (i := 7) rfl)) (fun _ h9 => h9) rfl (tyX12_ok 29 (Nat.le_of_ble_eq_true rfl)) rfl rfl (Nat.le_of_ble_eq_true rfl) dX12_rough_124 (kW (wn := [(oM, .inr (12, [.ref mT, .int zt, .ref mS, .ref mX, .int zp, .int zf, .ref mL, .ref mB, .ref mD, .ref m1, .ref m2, .int zh, .ref mR, .int zr, .ref x1, .ref x2, .ref x3, .int zc, .ref mH, .int zy, .int za, .int zb, .int zs, .int zq, .int (-1), .int 0, .ref mY, .int zn_6, .ref mE, .int x_15, .int zl_6, .ref mW, .int zk, .ref mO, .int zd_12, .ref y1, .ref y2, .ref y3, .ref y4, .ref mZ])), (mY, .inl (cI, 2600, .inl eY_6)), (mB, .inl (cS, 131072, .inl eB)), (mL, .inl (cI, 512, .inl eL)), (mE, .inl (cI, 2600, .inl f_14)), (mS, .inl (cI, 21, .inl eS)), (mX, .inl (cI, 6300, .inl eX))]) rfl (fun H locs hPn hDn hSn => ?_))
                  clear hP hD hS
                  have hP := hPn
                  have hD := hDn
                  have hS := hSn
                  clear hPn hDn hSn
                  refine lv_iload_n hx hb dX12_rough_127 rfl (lv_at hl 2 rfl) ?_
                  refine lv_iload hx hb dX12_rough_128 (lv_at hl 0 rfl) ?_
                  refine lv_if_ne (tgt := 137) hx hb dX12_rough_130 (by decide) (fun c_16 => ?_) (fun c_16 => by exfalso; have tc_16 : r_12.toInt = 0 := v_eq c_16; omega)
                  have tc_16 : ¬ r_12.toInt = 0 := v_ne c_16
                  refine lv_iconst (v := 0) hx hb dX12_rough_137 (by decide) ?_
                  refine lv_iadd hx hb dX12_rough_138 ?_
                  refine lv_topi (fun x_17 ex_17 => ?_)
                  have tx_17 : x_17.toInt = mr.toInt + 0 := v_addR (l2 := 0) (h2 := 0) ex_17 g_mr (by decide) (by decide) (by decide)
                  refine lv_istore_n (lv' := [(3, .int x_17), (5, .int r_12), (4, .int p_), (0, .ref oM), (1, .int a), (2, .int b)]) hx hb dX12_rough_139 rfl hl (by decide) rfl (fun ls hl => ?_)
                  refine lv_iload hx hb dX12_rough_140 (lv_at hl 2 rfl) ?_
                  refine lv_iload hx hb dX12_rough_142 (lv_at hl 1 rfl) ?_
                  refine lv_if_ne (tgt := 151) hx hb dX12_rough_144 (by decide) (fun c_18 => ?_) (fun c_18 => by exfalso; have tc_18 : r_12.toInt = 0 := v_eq c_18; omega)
                  have tc_18 : ¬ r_12.toInt = 0 := v_ne c_18
                  refine lv_iload hx hb dX12_rough_151 (lv_at hl 1 rfl) ?_
                  refine lv_iadd hx hb dX12_rough_153 ?_
                  refine lv_topi (fun x_19 ex_19 => ?_)
                  have tx_19 : x_19.toInt = p_.toInt + r_12.toInt := v_addR ex_19 g_p_ hf12_0 (by decide) (by decide)
                  refine lv_istore (lv' := [(4, .int x_19), (3, .int x_17), (5, .int r_12), (0, .ref oM), (1, .int a), (2, .int b)]) hx hb dX12_rough_154 hl (by decide) rfl (fun ls hl => ?_)
                  refine lv_goto (tgt := 76) hx hb dX12_rough_156 (by decide) ?_
                  exact ih_76 x_17 x_19 x_15 zd_12 f_14 _ _ _ (ms_lt hm_76 (by show ((900 - x_19.toInt : Int)) < 900 - p_.toInt; omega) (by show (0 : Int) < 900 - p_.toInt; omega)) (v_rr (v_sumR (l := 0) (h := 900) (l2 := 0) (h2 := 0) tx_17 g_mr (by decide) (by decide) (by decide)) (by decide) (by decide)) (by show 0 ≤ x_19.toInt ∧ x_19.toInt ≤ 900; omega) (by show 0 ≤ x_15.toInt ∧ x_15.toInt ≤ x_19.toInt; omega) (g_f14) (by show x_19.toInt ≤ zn_6.toInt; omega) (RQ_s hrq (by omega) ef_14 (Or.inr ⟨fun e9 => by have u9 := (F_ra_1 hf12_2 (by omega)).2.2.1; omega, (F_ra_1 hf12_2 (by omega)).2.1.symm, by omega, by have u9 := (F_ra_1 hf12_2 (by omega)).1; omega⟩)) (by show 0 ≤ x_17.toInt ∧ x_17.toInt ≤ x_15.toInt; omega) hP hD hS (lv_sub hl [0, 1, 3, 4, 5] rfl)
                · have tc_13 : r_12.toInt = 0 := v_eq c_13
                  refine lv_ldc hx hb hown (hts (.constant RX12 126 (65533)) (List.mem_of_getElem? (i := 9) rfl)) dX12_rough_107 ?_
                  refine lv_goto (tgt := 116) hx hb dX12_rough_109 (by decide) ?_
                  obtain ⟨f_20, ef_20⟩ : ∃ g : Nat → Int32, g = upd eEa (zma : Int32).toNatClampNeg 65533 := ⟨_, rfl⟩
                  refine va_iast hx hb hK hP hD hS 4 0 rfl rfl (v_in (by omega)) dX12_rough_116 (kWf (g := f_20) (F := fun f_20 => [(oM, .inr (12, [.ref mT, .int zt, .ref mS, .ref mX, .int zp, .int zf, .ref mL, .ref mB, .ref mD, .ref m1, .ref m2, .int zh, .ref mR, .int zr, .ref x1, .ref x2, .ref x3, .int zc, .ref mH, .int zy, .int za, .int zb, .int zs, .int zq, .int (-1), .int 0, .ref mY, .int zn_6, .ref mE, .int zma, .int zl_6, .ref mW, .int zk, .ref mO, .int zd_12, .ref y1, .ref y2, .ref y3, .ref y4, .ref mZ])), (mY, .inl (cI, 2600, .inl eY_6)), (mB, .inl (cS, 131072, .inl eB)), (mL, .inl (cI, 512, .inl eL)), (mE, .inl (cI, 2600, .inl f_20)), (mS, .inl (cI, 21, .inl eS)), (mX, .inl (cI, 6300, .inl eX))]) ef_20 rfl (fun H locs hPn hDn hSn => ?_))
                  clear hP hD hS
                  have hP := hPn
                  have hD := hDn
                  have hS := hSn
                  clear hPn hDn hSn
                  have g_f20 : rg 0 65535 f_20 := rg_upd ef_20 g_eEa (by decide)
                  refine lv_aload_n hx hb dX12_rough_117 rfl (lv_at hl 3 rfl) ?_
                  refine lv_dup hx hb dX12_rough_118 rfl ?_
                  refine va_get (D := (dC, dI)) (ci := 12) (v := .int zma) (C := RX12) (T := TX12) (N := 40) hx hb hts in_X12 hown hK hP 0 rfl rfl 29 (Nat.le_of_ble_eq_true rfl) (hts (.fieldLink RX12 119 "TextMenderModel" "cameMany" "I") (List.mem_of_getElem? (i := 7) rfl)) (fun _ h9 => h9) rfl dX12_rough_119 ?_
                  refine lv_iconst (v := 1) hx hb dX12_rough_122 (by decide) ?_
                  refine lv_iadd hx hb dX12_rough_123 ?_
                  refine lv_topi (fun x_21 ex_21 => ?_)
                  have tx_21 : x_21.toInt = zma.toInt + 1 := v_add ex_21 (by show -2147483648 ≤ zma.toInt + 1; omega) (by show zma.toInt + 1 < 2147483648; omega)
                  refine va_put (D := (dC, dI)) (ci := 12) (v := .int x_21) (ty := .int) (C := RX12) (T := TX12) (N := 40) hx hb hts in_X12 tyX12 tyX12_ok nmX12 hown hK hP hD hS 0 rfl rfl 29 (Nat.le_of_ble_eq_true rfl) (hts (.fieldLink RX12 119 "TextMenderModel" "cameMany" "I") (List.mem_of_getElem? (i := 7) rfl)) (fun _ h9 => h9) rfl (tyX12_ok 29 (Nat.le_of_ble_eq_true rfl)) rfl rfl (Nat.le_of_ble_eq_true rfl) dX12_rough_124 (kW (wn := [(oM, .inr (12, [.ref mT, .int zt, .ref mS, .ref mX, .int zp, .int zf, .ref mL, .ref mB, .ref mD, .ref m1, .ref m2, .int zh, .ref mR, .int zr, .ref x1, .ref x2, .ref x3, .int zc, .ref mH, .int zy, .int za, .int zb, .int zs, .int zq, .int (-1), .int 0, .ref mY, .int zn_6, .ref mE, .int x_21, .int zl_6, .ref mW, .int zk, .ref mO, .int zd_12, .ref y1, .ref y2, .ref y3, .ref y4, .ref mZ])), (mY, .inl (cI, 2600, .inl eY_6)), (mB, .inl (cS, 131072, .inl eB)), (mL, .inl (cI, 512, .inl eL)), (mE, .inl (cI, 2600, .inl f_20)), (mS, .inl (cI, 21, .inl eS)), (mX, .inl (cI, 6300, .inl eX))]) rfl (fun H locs hPn hDn hSn => ?_))
                  clear hP hD hS
                  have hP := hPn
                  have hD := hDn
                  have hS := hSn
                  clear hPn hDn hSn
                  refine lv_iload_n hx hb dX12_rough_127 rfl (lv_at hl 2 rfl) ?_
                  refine lv_iload hx hb dX12_rough_128 (lv_at hl 0 rfl) ?_
                  refine lv_if_ne (tgt := 137) hx hb dX12_rough_130 (by decide) (fun c_22 => by exfalso; have tc_22 : ¬ r_12.toInt = 0 := v_ne c_22; omega) (fun c_22 => ?_)
                  have tc_22 : r_12.toInt = 0 := v_eq c_22
                  refine lv_iconst (v := 1) hx hb dX12_rough_133 (by decide) ?_
                  refine lv_goto (tgt := 138) hx hb dX12_rough_134 (by decide) ?_
                  refine lv_iadd hx hb dX12_rough_138 ?_
                  refine lv_topi (fun x_23 ex_23 => ?_)
                  have tx_23 : x_23.toInt = mr.toInt + 1 := v_addR (l2 := 1) (h2 := 1) ex_23 g_mr (by decide) (by decide) (by decide)
                  refine lv_istore_n (lv' := [(3, .int x_23), (5, .int r_12), (4, .int p_), (0, .ref oM), (1, .int a), (2, .int b)]) hx hb dX12_rough_139 rfl hl (by decide) rfl (fun ls hl => ?_)
                  refine lv_iload hx hb dX12_rough_140 (lv_at hl 2 rfl) ?_
                  refine lv_iload hx hb dX12_rough_142 (lv_at hl 1 rfl) ?_
                  refine lv_if_ne (tgt := 151) hx hb dX12_rough_144 (by decide) (fun c_24 => by exfalso; have tc_24 : ¬ r_12.toInt = 0 := v_ne c_24; omega) (fun c_24 => ?_)
                  have tc_24 : r_12.toInt = 0 := v_eq c_24
                  refine lv_iconst (v := 1) hx hb dX12_rough_147 (by decide) ?_
                  refine lv_goto (tgt := 153) hx hb dX12_rough_148 (by decide) ?_
                  refine lv_iadd hx hb dX12_rough_153 ?_
                  refine lv_topi (fun x_25 ex_25 => ?_)
                  have tx_25 : x_25.toInt = p_.toInt + 1 := v_addR (l2 := 1) (h2 := 1) ex_25 g_p_ (by decide) (by decide) (by decide)
                  refine lv_istore (lv' := [(4, .int x_25), (3, .int x_23), (5, .int r_12), (0, .ref oM), (1, .int a), (2, .int b)]) hx hb dX12_rough_154 hl (by decide) rfl (fun ls hl => ?_)
                  refine lv_goto (tgt := 76) hx hb dX12_rough_156 (by decide) ?_
                  exact ih_76 x_23 x_25 x_21 zd_12 f_20 _ _ _ (ms_lt hm_76 (by show ((900 - x_25.toInt : Int)) < 900 - p_.toInt; omega) (by show (0 : Int) < 900 - p_.toInt; omega)) (by show 0 ≤ x_23.toInt ∧ x_23.toInt ≤ 900; omega) (by show 0 ≤ x_25.toInt ∧ x_25.toInt ≤ 900; omega) (by show 0 ≤ x_21.toInt ∧ x_21.toInt ≤ x_25.toInt; omega) (g_f20) (by show x_25.toInt ≤ zn_6.toInt; omega) (RQ_s hrq (by omega) ef_20 (Or.inl ⟨F_ra_0 hf12_2 (by omega), rfl, by omega, by omega⟩)) (by show 0 ≤ x_23.toInt ∧ x_23.toInt ≤ x_21.toInt; omega) hP hD hS (lv_sub hl [0, 1, 3, 4, 5] rfl)
          exact LOOP_76 _ 0 0 0 zd eE _ _ _ (ms_s _) (by decide) (by decide) (by show 0 ≤ (0 : Int) ∧ (0 : Int) ≤ 0; omega) (g_eE) (by show 0 ≤ zn_6.toInt; omega) (RQ_0 rfl rfl rfl) (by show 0 ≤ 0 ∧ 0 ≤ 0; omega) hP hD hS (lv_sub hl [0, 1, 2, 3, 4] rfl)
        · have tc_8 : 900 < zn_6.toInt := v_nle c_8
          refine lv_iconst (v := (-1)) hx hb dX12_rough_64 (by decide) ?_
          exact kl_i (v := (-1)) hQQ hx hb hr hlocks hS dX12_rough_65 (fun PZ9 kZ9 => kZ9 0 (-1) zn_6 eY_6 zd zm zl_6 eE zp zf zs eS eX (⟨hP, hD⟩) (hf6_0) (hf6_1) (g_zm) (g_eE) (g_zp) (g_zf) (g_zs) (g_eS) (g_eX) (by show zs.toInt ≤ zs.toInt + 1 ∧ zs.toInt ≤ zs.toInt; omega) (by first | exact Or.inl (by omega) | exact Or.inr ⟨rfl, rfl, rfl⟩) (by first | exact OR_n rfl (fun c fm v h => (rg_x (rg_w0 (Bf := Br a eB) hf6_3 (by omega)) (by rw [ex_5]; rfl)) c fm v h.2.2) | exact OR_n rfl (fun c fm v h => (rg_x (rg_no (Bf := Br a eB) hwr9 hby9 (fun z => by omega)) (by rw [ex_5]; rfl)) c fm v h.2.2)))
      · have tc_7 : r_6.toInt = 0 := v_eq c_7
        refine lv_aload_n hx hb dX12_rough_44 rfl (lv_at hl 0 rfl) ?_
        refine lv_aload_n hx hb dX12_rough_45 rfl (lv_at hl 0 rfl) ?_
        refine va_get (D := (dC, dI)) (ci := 12) (v := .int zl_6) (C := RX12) (T := TX12) (N := 40) hx hb hts in_X12 hown hK hP 0 rfl rfl 30 (Nat.le_of_ble_eq_true rfl) (hts (.fieldLink RX12 102 "TextMenderModel" "faultAt" "I") (List.mem_of_getElem? (i := 5) rfl)) (fun _ h9 => h9) rfl dX12_rough_46 ?_
        refine va_put (D := (dC, dI)) (ci := 12) (v := .int zl_6) (ty := .int) (C := RX12) (T := TX12) (N := 40) hx hb hts in_X12 tyX12 tyX12_ok nmX12 hown hK hP hD hS 0 rfl rfl 24 (Nat.le_of_ble_eq_true rfl) (hts (.fieldLink RX12 55 "TextMenderModel" "where" "I") (List.mem_of_getElem? (i := 2) rfl)) (fun _ h9 => h9) rfl (tyX12_ok 24 (Nat.le_of_ble_eq_true rfl)) rfl rfl (Nat.le_of_ble_eq_true rfl) dX12_rough_49 (kW (wn := [(oM, .inr (12, [.ref mT, .int zt, .ref mS, .ref mX, .int zp, .int zf, .ref mL, .ref mB, .ref mD, .ref m1, .ref m2, .int zh, .ref mR, .int zr, .ref x1, .ref x2, .ref x3, .int zc, .ref mH, .int zy, .int za, .int zb, .int zs, .int zq, .int zl_6, .int 0, .ref mY, .int zn_6, .ref mE, .int zm, .int zl_6, .ref mW, .int zk, .ref mO, .int zd, .ref y1, .ref y2, .ref y3, .ref y4, .ref mZ])), (mY, .inl (cI, 2600, .inl eY_6)), (mB, .inl (cS, 131072, .inl eB)), (mL, .inl (cI, 512, .inl eL)), (mE, .inl (cI, 2600, .inl eE)), (mS, .inl (cI, 21, .inl eS)), (mX, .inl (cI, 6300, .inl eX))]) rfl (fun H locs hPn hDn hSn => ?_))
        clear hP hD hS
        have hP := hPn
        have hD := hDn
        have hS := hSn
        clear hPn hDn hSn
        refine lv_iconst (v := (-1)) hx hb dX12_rough_52 (by decide) ?_
        exact kl_i (v := (-1)) hQQ hx hb hr hlocks hS dX12_rough_53 (fun PZ9 kZ9 => kZ9 0 zl_6 zn_6 eY_6 zd zm zl_6 eE zp zf zs eS eX (⟨hP, hD⟩) (hf6_0) (hf6_1) (g_zm) (g_eE) (g_zp) (g_zf) (g_zs) (g_eS) (g_eX) (by show zs.toInt ≤ zs.toInt + 1 ∧ zs.toInt ≤ zs.toInt; omega) (by first | exact Or.inl (by omega) | exact Or.inr ⟨rfl, rfl, rfl⟩) (by first | exact OR_n rfl (fun c fm v h => (rg_x (rg_w0 (Bf := Br a eB) hf6_3 (by omega)) (by rw [ex_5]; rfl)) c fm v h.2.2) | exact OR_n rfl (fun c fm v h => (rg_x (rg_no (Bf := Br a eB) hwr9 hby9 (fun z => by omega)) (by rw [ex_5]; rfl)) c fm v h.2.2)))
    · have tc_4 : r_3.toInt = 0 := v_eq c_4
      refine lv_iconst (v := (-1)) hx hb dX12_rough_24 (by decide) ?_
      exact kl_i (v := (-1)) hQQ hx hb hr hlocks hS dX12_rough_25 (fun PZ9 kZ9 => kZ9 0 (-1) zn eY zd zm zl eE zp zf zs eS eX (⟨hP, hD⟩) (g_zn) (g_eY) (g_zm) (g_eE) (g_zp) (g_zf) (g_zs) (g_eS) (g_eX) (by show zs.toInt ≤ zs.toInt + 1 ∧ zs.toInt ≤ zs.toInt; omega) (by first | exact Or.inl (by omega) | exact Or.inr ⟨rfl, rfl, rfl⟩) (OR_n rfl (fun c fm v h => by have h1 := h.1; have h2 := h.2.1; unfold okd at h1 h2; omega)))

end
