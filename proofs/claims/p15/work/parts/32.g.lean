/-! 59x.parts -/
section
set_option maxHeartbeats 40000000 in
set_option maxRecDepth 100000 in
theorem f_X8_step (l : Launch) (dC : Nat → ClassId) (dI : Nat → Nat → Nat) (cI cS : ClassId) (sz : Nat) (oE : Nat) (nu : Nat) (oC : Nat) (oK : Nat) (o4 : Nat) (o5 : Nat) (a41 : Nat) (a42 : Nat) (a43 : Nat) (a51 : Nat) (a52 : Nat) (a53 : Nat) (k1 : Nat) (k2 : Nat) (au : Nat) (cap : Nat) (reE : Int32) (laE : Int32) (suE : Int32) (leE : Int32) (l4 : Int32) (f41 : Nat → Int32) (l5 : Int32) (f51 : Nat → Int32) (lK : Int32) (fK1 : Nat → Int32) (fK2 : Nat → Int32) (lu : Int32) (fu : Nat → Int32) (cd : Int32) (en : Int32) (g_laE : 0 ≤ laE.toInt ∧ laE.toInt ≤ 65535) (g_lK : 0 ≤ lK.toInt ∧ lK.toInt ≤ 300) (g_lu : 0 ≤ lu.toInt ∧ lu.toInt ≤ (cap : Int)) (hcap : cap ≤ 2400) (hen : en.toInt ≤ lu.toInt) (hby : prg en.toInt 0 255 fu) (hL4 : prg 256 (-1) 65535 f41) (hL5 : prg 256 (-1) 65535 f51) (hT : HT 1024 1023 hsK fK1 fK2) (ho : (occ fK2 1024 : Int) ≤ lK.toInt) (hV : prg 1024 (-1) 200 fK2) (hn8E : 0 ≤ suE.toInt ∧ suE.toInt ≤ 200 * leE.toInt ∧ 0 ≤ leE.toInt ∧ leE.toInt ≤ reE.toInt ∧ reE.toInt ≤ en.toInt) : kMi l yX8_step wsX8_step ({ frames := 3, cells := 0, slots := 0, locals := 74 } : Room) [.ref oE, .int cd, .ref nu, .int en] sz (dC, dI) vwCl [(cI, .int), (cS, .short)] [(oE, .inr (8, [.ref oC, .ref oK, .int reE, .int laE, .int suE, .int leE])), (oC, .inr (2, [.ref o4, .ref o5])), (o4, .inr (10, [.ref a41, .ref a42, .ref a43, .int l4])), (a41, .inl (cI, 256, .inl f41)), (o5, .inr (10, [.ref a51, .ref a52, .ref a53, .int l5])), (a51, .inl (cI, 256, .inl f51)), (oK, .inr (3, [.ref k1, .ref k2, .int lK])), (k1, .inl (cI, 1024, .inl fK1)), (k2, .inl (cI, 1024, .inl fK2)), (nu, .inr (5, [.ref au, .int lu])), (au, .inl (cI, cap, .inl fu))] (va_Nw (.methodLinkNest RX2 52 yX11_isLetter "TextMender")) 0 0 (fun (A : Nat → Prop) (r : Int32) (hh9 : Heap) => ∃ (reE' : Int32) (laE' : Int32) (suE' : Int32) (leE' : Int32), kPD (dC, dI) vwCl A [(oE, .inr (8, [.ref oC, .ref oK, .int reE', .int laE', .int suE', .int leE'])), (oC, .inr (2, [.ref o4, .ref o5])), (o4, .inr (10, [.ref a41, .ref a42, .ref a43, .int l4])), (a41, .inl (cI, 256, .inl f41)), (o5, .inr (10, [.ref a51, .ref a52, .ref a53, .int l5])), (a51, .inl (cI, 256, .inl f51)), (oK, .inr (3, [.ref k1, .ref k2, .int lK])), (k1, .inl (cI, 1024, .inl fK1)), (k2, .inl (cI, 1024, .inl fK2)), (nu, .inr (5, [.ref au, .int lu])), (au, .inl (cI, cap, .inl fu))] hh9 ∧ (0 ≤ laE'.toInt ∧ laE'.toInt ≤ 65535) ∧ (0 ≤ r.toInt ∧ r.toInt ≤ 1) ∧ (0 ≤ suE'.toInt ∧ suE'.toInt ≤ 200 * leE'.toInt ∧ 0 ≤ leE'.toInt ∧ leE'.toInt ≤ reE'.toInt ∧ reE'.toInt ≤ en.toInt) ∧ (F_s8 r reE reE' laE laE' suE suE' leE leE' (tcC fK1 fK2) (dl cd f41 f51 fu en.toInt) (dx cd f41 f51 fu en.toInt))) := by
  refine kMi_of (cc := cX8_step) (maxL := 6) (ret := (some .boolean)) (lv := [(0, .ref oE), (1, .int cd), (2, .ref nu), (3, .int en)]) (by decide +kernel) rfl rfl (Nat.le_of_ble_eq_true rfl) ?_
  intro p e s m below meth c A QQ ls hx hb hr hts hml hown hlocks hA hQQ hK hX hP hD hS hl
  have hown : s.vm.findClass RX8 = some m.cls := hown
  have hcf := k_cf hx hb hml hown hts
  have hN52 := hX
  have in_X8 : ∀ w ∈ wsX80, w ∈ wsX8_step := fun _ h => List.mem_cons_of_mem _ (List.mem_append_left _ (List.mem_append_left _ (List.mem_append_left _ (List.mem_append_left _ (List.mem_append_right _ (h))))))
  refine lv_aload_n hx hb dX8_step_0 rfl (lv_at hl 0 rfl) ?_
  refine va_get (D := (dC, dI)) (ci := 8) (v := .ref oC) (C := RX8) (T := TX8) (N := 6) hx hb hts in_X8 hown hK hP 0 rfl rfl 0 (by decide) (hts (.fieldLink RX8 9 "TextMender$Reading" "codes" "LTextMender$Codes;") (List.mem_of_getElem? (i := 1) rfl)) (fun _ h9 => h9) rfl dX8_step_1 ?_
  refine lv_iload_n hx hb dX8_step_4 rfl (lv_at hl 1 rfl) ?_
  refine lv_aload_n hx hb dX8_step_5 rfl (lv_at hl 2 rfl) ?_
  refine lv_aload_n hx hb dX8_step_6 rfl (lv_at hl 0 rfl) ?_
  refine va_get (D := (dC, dI)) (ci := 8) (v := .int reE) (C := RX8) (T := TX8) (N := 6) hx hb hts in_X8 hown hK hP 0 rfl rfl 2 (by decide) (hts (.fieldLink RX8 19 "TextMender$Reading" "reached" "I") (List.mem_of_getElem? (i := 2) rfl)) (fun _ h9 => h9) rfl dX8_step_7 ?_
  refine lv_iload_n hx hb dX8_step_10 rfl (lv_at hl 3 rfl) ?_
  refine kV_i (rest := []) (q0 := 0) (ci := 2) hcf (f_X2_decode l dC dI cI cS s.heap.size oC nu o4 o5 a41 a42 a43 a51 a52 a53 au cap l4 f41 l5 f51 lu fu cd reE en (g_lu) (by omega) (by omega) (by omega) (hby) (hL4) (hL5)) kc_X2_decode gX8_step_X2_decode rfl rfl rfl ⟨Nat.le_of_ble_eq_true rfl, Nat.le_of_ble_eq_true rfl⟩ (kX_1 hN52) hK hP hD hS hA [1, 2, 3, 4, 5, 9, 10] [0, 6, 7, 8] rfl (by decide +kernel) rfl rfl rfl hl rfl (Nat.le_of_ble_eq_true rfl) dX8_step_11 ⟨Nat.le_of_ble_eq_true rfl, Nat.le_of_ble_eq_true rfl⟩ (fun r_1 H locs hB hJ hSn => ?_)
  obtain ⟨⟨hP1, hD1⟩, hf1_0⟩ := hB
  obtain ⟨hPn, hDn⟩ := hJ _ hP1 hD1 [(oE, .inr (8, [.ref oC, .ref oK, .int reE, .int laE, .int suE, .int leE])), (oK, .inr (3, [.ref k1, .ref k2, .int lK])), (k1, .inl (cI, 1024, .inl fK1)), (k2, .inl (cI, 1024, .inl fK2)), (oC, .inr (2, [.ref o4, .ref o5])), (o4, .inr (10, [.ref a41, .ref a42, .ref a43, .int l4])), (a41, .inl (cI, 256, .inl f41)), (o5, .inr (10, [.ref a51, .ref a52, .ref a53, .int l5])), (a51, .inl (cI, 256, .inl f51)), (nu, .inr (5, [.ref au, .int lu])), (au, .inl (cI, cap, .inl fu))] rfl
  clear hP hD hS hJ hP1 hD1
  have hP := hPn
  have hD := hDn
  have hS := hSn
  clear hPn hDn hSn
  refine lv_istore (lv' := [(4, .int r_1), (0, .ref oE), (1, .int cd), (2, .ref nu), (3, .int en)]) hx hb dX8_step_14 hl (by decide) rfl (fun ls hl => ?_)
  refine lv_iload hx hb dX8_step_16 (lv_at hl 0 rfl) ?_
  refine lv_iconst (v := (-1)) hx hb dX8_step_18 (by decide) ?_
  refine lv_icmp_ne (tgt := 24) hx hb dX8_step_19 (by decide) (fun c_2 => ?_) (fun c_2 => ?_)
  · have tc_2 : ¬ r_1.toInt = (-1) := v_ne c_2
    obtain ⟨l9, x9, hD9, hr9, hx9, hy9⟩ := F_dc_1 hf1_0 c_2
    have cp9 := v_clamp (x := reE) (by omega)
    have hp9 := Dec_pos hD9
    have hd9 := dl_of hD9
    refine lv_iload hx hb dX8_step_24 (lv_at hl 0 rfl) ?_
    refine kS_i (rest := []) hcf (f_X2_letterIn l dC dI cI cS H.size r_1 ) kc_X2_letterIn gX8_step_X2_letterIn rfl rfl ⟨Nat.le_of_ble_eq_true rfl, Nat.le_of_ble_eq_true rfl⟩ kX_t hK hP hD hS hA [] [0, 1, 2, 3, 4, 5, 6, 7, 8, 9, 10] rfl (by decide +kernel) rfl hl rfl (Nat.le_of_ble_eq_true rfl) dX8_step_26 ⟨Nat.le_of_ble_eq_true rfl, Nat.le_of_ble_eq_true rfl⟩ (fun r_3 H locs hB hJ hSn => ?_)
    obtain ⟨⟨hP1, hD1⟩, hf3_0⟩ := hB
    obtain ⟨hPn, hDn⟩ := hJ _ hP1 hD1 [(oE, .inr (8, [.ref oC, .ref oK, .int reE, .int laE, .int suE, .int leE])), (oK, .inr (3, [.ref k1, .ref k2, .int lK])), (k1, .inl (cI, 1024, .inl fK1)), (k2, .inl (cI, 1024, .inl fK2)), (oC, .inr (2, [.ref o4, .ref o5])), (o4, .inr (10, [.ref a41, .ref a42, .ref a43, .int l4])), (a41, .inl (cI, 256, .inl f41)), (o5, .inr (10, [.ref a51, .ref a52, .ref a53, .int l5])), (a51, .inl (cI, 256, .inl f51)), (nu, .inr (5, [.ref au, .int lu])), (au, .inl (cI, cap, .inl fu))] rfl
    clear hP hD hS hJ hP1 hD1
    have hP := hPn
    have hD := hDn
    have hS := hSn
    clear hPn hDn hSn
    refine lv_istore (lv' := [(5, .int r_3), (4, .int r_1), (0, .ref oE), (1, .int cd), (2, .ref nu), (3, .int en)]) hx hb dX8_step_29 hl (by decide) rfl (fun ls hl => ?_)
    refine lv_aload_n hx hb dX8_step_31 rfl (lv_at hl 2 rfl) ?_
    refine lv_dup hx hb dX8_step_32 rfl ?_
    refine va_get (D := (dC, dI)) (ci := 8) (v := .int suE) (C := RX8) (T := TX8) (N := 6) hx hb hts in_X8 hown hK hP 0 rfl rfl 4 (by decide) (hts (.fieldLink RX8 26 "TextMender$Reading" "sum" "I") (List.mem_of_getElem? (i := 3) rfl)) (fun _ h9 => h9) rfl dX8_step_33 ?_
    refine lv_aload_n hx hb dX8_step_36 rfl (lv_at hl 2 rfl) ?_
    refine va_get (D := (dC, dI)) (ci := 8) (v := .ref oK) (C := RX8) (T := TX8) (N := 6) hx hb hts in_X8 hown hK hP 0 rfl rfl 1 (by decide) (hts (.fieldLink RX8 15 "TextMender$Reading" "costs" "LTextMender$Costs;") (List.mem_of_getElem? (i := 4) rfl)) (fun _ h9 => h9) rfl dX8_step_37 ?_
    refine lv_aload_n hx hb dX8_step_40 rfl (lv_at hl 2 rfl) ?_
    refine va_get (D := (dC, dI)) (ci := 8) (v := .int laE) (C := RX8) (T := TX8) (N := 6) hx hb hts in_X8 hown hK hP 0 rfl rfl 3 (by decide) (hts (.fieldLink RX8 23 "TextMender$Reading" "latest" "I") (List.mem_of_getElem? (i := 5) rfl)) (fun _ h9 => h9) rfl dX8_step_41 ?_
    refine lv_iload hx hb dX8_step_44 (lv_at hl 0 rfl) ?_
    refine kV_i (rest := [.int suE, .ref oE]) (q0 := 0) (ci := 3) hcf (f_X3_of l dC dI cI cS H.size oK k1 k2 lK fK1 fK2 laE r_3 (g_lK) (g_laE) (by omega) (hT) (ho) (hV)) kc_X3_of gX8_step_X3_of rfl rfl rfl ⟨Nat.le_of_ble_eq_true rfl, Nat.le_of_ble_eq_true rfl⟩ kX_t hK hP hD hS hA [1, 2, 3] [0, 4, 5, 6, 7, 8, 9, 10] rfl (by decide +kernel) rfl rfl rfl hl rfl (Nat.le_of_ble_eq_true rfl) dX8_step_46 ⟨Nat.le_of_ble_eq_true rfl, Nat.le_of_ble_eq_true rfl⟩ (fun r_4 H locs hB hJ hSn => ?_)
    obtain ⟨⟨hP1, hD1⟩, hf4_0, hf4_1⟩ := hB
    obtain ⟨hPn, hDn⟩ := hJ _ hP1 hD1 [(oE, .inr (8, [.ref oC, .ref oK, .int reE, .int laE, .int suE, .int leE])), (oC, .inr (2, [.ref o4, .ref o5])), (o4, .inr (10, [.ref a41, .ref a42, .ref a43, .int l4])), (a41, .inl (cI, 256, .inl f41)), (o5, .inr (10, [.ref a51, .ref a52, .ref a53, .int l5])), (a51, .inl (cI, 256, .inl f51)), (nu, .inr (5, [.ref au, .int lu])), (au, .inl (cI, cap, .inl fu)), (oK, .inr (3, [.ref k1, .ref k2, .int lK])), (k1, .inl (cI, 1024, .inl fK1)), (k2, .inl (cI, 1024, .inl fK2))] rfl
    clear hP hD hS hJ hP1 hD1
    have hP := hPn
    have hD := hDn
    have hS := hSn
    clear hPn hDn hSn
    refine lv_iadd hx hb dX8_step_49 ?_
    refine lv_topi (fun x_5 ex_5 => ?_)
    have tx_5 : x_5.toInt = suE.toInt + r_4.toInt := v_add ex_5 (by show -2147483648 ≤ suE.toInt + r_4.toInt; omega) (by show suE.toInt + r_4.toInt < 2147483648; omega)
    refine va_put (D := (dC, dI)) (ci := 8) (v := .int x_5) (ty := .int) (C := RX8) (T := TX8) (N := 6) hx hb hts in_X8 tyX8 tyX8_ok nmX8 hown hK hP hD hS 0 rfl rfl 4 (by decide) (hts (.fieldLink RX8 26 "TextMender$Reading" "sum" "I") (List.mem_of_getElem? (i := 3) rfl)) (fun _ h9 => h9) rfl (by decide +kernel) rfl rfl (Nat.le_of_ble_eq_true rfl) dX8_step_50 (kW (wn := [(oE, .inr (8, [.ref oC, .ref oK, .int reE, .int laE, .int x_5, .int leE])), (oC, .inr (2, [.ref o4, .ref o5])), (o4, .inr (10, [.ref a41, .ref a42, .ref a43, .int l4])), (a41, .inl (cI, 256, .inl f41)), (o5, .inr (10, [.ref a51, .ref a52, .ref a53, .int l5])), (a51, .inl (cI, 256, .inl f51)), (nu, .inr (5, [.ref au, .int lu])), (au, .inl (cI, cap, .inl fu)), (oK, .inr (3, [.ref k1, .ref k2, .int lK])), (k1, .inl (cI, 1024, .inl fK1)), (k2, .inl (cI, 1024, .inl fK2))]) rfl (fun H locs hPn hDn hSn => ?_))
    clear hP hD hS
    have hP := hPn
    have hD := hDn
    have hS := hSn
    clear hPn hDn hSn
    refine lv_aload_n hx hb dX8_step_53 rfl (lv_at hl 2 rfl) ?_
    refine lv_iload hx hb dX8_step_54 (lv_at hl 0 rfl) ?_
    refine va_put (D := (dC, dI)) (ci := 8) (v := .int r_3) (ty := .int) (C := RX8) (T := TX8) (N := 6) hx hb hts in_X8 tyX8 tyX8_ok nmX8 hown hK hP hD hS 0 rfl rfl 3 (by decide) (hts (.fieldLink RX8 23 "TextMender$Reading" "latest" "I") (List.mem_of_getElem? (i := 5) rfl)) (fun _ h9 => h9) rfl (by decide +kernel) rfl rfl (Nat.le_of_ble_eq_true rfl) dX8_step_56 (kW (wn := [(oE, .inr (8, [.ref oC, .ref oK, .int reE, .int r_3, .int x_5, .int leE])), (oC, .inr (2, [.ref o4, .ref o5])), (o4, .inr (10, [.ref a41, .ref a42, .ref a43, .int l4])), (a41, .inl (cI, 256, .inl f41)), (o5, .inr (10, [.ref a51, .ref a52, .ref a53, .int l5])), (a51, .inl (cI, 256, .inl f51)), (nu, .inr (5, [.ref au, .int lu])), (au, .inl (cI, cap, .inl fu)), (oK, .inr (3, [.ref k1, .ref k2, .int lK])), (k1, .inl (cI, 1024, .inl fK1)), (k2, .inl (cI, 1024, .inl fK2))]) rfl (fun H locs hPn hDn hSn => ?_))
    clear hP hD hS
    have hP := hPn
    have hD := hDn
    have hS := hSn
    clear hPn hDn hSn
    refine lv_aload_n hx hb dX8_step_59 rfl (lv_at hl 2 rfl) ?_
    refine lv_dup hx hb dX8_step_60 rfl ?_
    refine va_get (D := (dC, dI)) (ci := 8) (v := .int leE) (C := RX8) (T := TX8) (N := 6) hx hb hts in_X8 hown hK hP 0 rfl rfl 5 (by decide) (hts (.fieldLink RX8 29 "TextMender$Reading" "letters" "I") (List.mem_of_getElem? (i := 6) rfl)) (fun _ h9 => h9) rfl dX8_step_61 ?_
    refine lv_iconst (v := 1) hx hb dX8_step_64 (by decide) ?_
    refine lv_iadd hx hb dX8_step_65 ?_
    refine lv_topi (fun x_6 ex_6 => ?_)
    have tx_6 : x_6.toInt = leE.toInt + 1 := v_add ex_6 (by show -2147483648 ≤ leE.toInt + 1; omega) (by show leE.toInt + 1 < 2147483648; omega)
    refine va_put (D := (dC, dI)) (ci := 8) (v := .int x_6) (ty := .int) (C := RX8) (T := TX8) (N := 6) hx hb hts in_X8 tyX8 tyX8_ok nmX8 hown hK hP hD hS 0 rfl rfl 5 (by decide) (hts (.fieldLink RX8 29 "TextMender$Reading" "letters" "I") (List.mem_of_getElem? (i := 6) rfl)) (fun _ h9 => h9) rfl (by decide +kernel) rfl rfl (Nat.le_of_ble_eq_true rfl) dX8_step_66 (kW (wn := [(oE, .inr (8, [.ref oC, .ref oK, .int reE, .int r_3, .int x_5, .int x_6])), (oC, .inr (2, [.ref o4, .ref o5])), (o4, .inr (10, [.ref a41, .ref a42, .ref a43, .int l4])), (a41, .inl (cI, 256, .inl f41)), (o5, .inr (10, [.ref a51, .ref a52, .ref a53, .int l5])), (a51, .inl (cI, 256, .inl f51)), (nu, .inr (5, [.ref au, .int lu])), (au, .inl (cI, cap, .inl fu)), (oK, .inr (3, [.ref k1, .ref k2, .int lK])), (k1, .inl (cI, 1024, .inl fK1)), (k2, .inl (cI, 1024, .inl fK2))]) rfl (fun H locs hPn hDn hSn => ?_))
    clear hP hD hS
    have hP := hPn
    have hD := hDn
    have hS := hSn
    clear hPn hDn hSn
    refine lv_aload_n hx hb dX8_step_69 rfl (lv_at hl 2 rfl) ?_
    refine lv_dup hx hb dX8_step_70 rfl ?_
    refine va_get (D := (dC, dI)) (ci := 8) (v := .int reE) (C := RX8) (T := TX8) (N := 6) hx hb hts in_X8 hown hK hP 0 rfl rfl 2 (by decide) (hts (.fieldLink RX8 19 "TextMender$Reading" "reached" "I") (List.mem_of_getElem? (i := 2) rfl)) (fun _ h9 => h9) rfl dX8_step_71 ?_
    refine lv_iconst (v := 1) hx hb dX8_step_74 (by decide) ?_
    refine lv_iload hx hb dX8_step_75 (lv_at hl 1 rfl) ?_
    refine kS_i (rest := [.int 1, .int reE, .ref oE]) hcf (f_X2_bytesIn l dC dI cI cS H.size r_1 (by omega)) kc_X2_bytesIn gX8_step_X2_bytesIn rfl rfl ⟨Nat.le_of_ble_eq_true rfl, Nat.le_of_ble_eq_true rfl⟩ kX_t hK hP hD hS hA [] [0, 1, 2, 3, 4, 5, 6, 7, 8, 9, 10] rfl (by decide +kernel) rfl hl rfl (Nat.le_of_ble_eq_true rfl) dX8_step_77 ⟨Nat.le_of_ble_eq_true rfl, Nat.le_of_ble_eq_true rfl⟩ (fun r_7 H locs hB hJ hSn => ?_)
    obtain ⟨⟨hP1, hD1⟩, hf7_0, hf7_1⟩ := hB
    obtain ⟨hPn, hDn⟩ := hJ _ hP1 hD1 [(oE, .inr (8, [.ref oC, .ref oK, .int reE, .int r_3, .int x_5, .int x_6])), (oC, .inr (2, [.ref o4, .ref o5])), (o4, .inr (10, [.ref a41, .ref a42, .ref a43, .int l4])), (a41, .inl (cI, 256, .inl f41)), (o5, .inr (10, [.ref a51, .ref a52, .ref a53, .int l5])), (a51, .inl (cI, 256, .inl f51)), (nu, .inr (5, [.ref au, .int lu])), (au, .inl (cI, cap, .inl fu)), (oK, .inr (3, [.ref k1, .ref k2, .int lK])), (k1, .inl (cI, 1024, .inl fK1)), (k2, .inl (cI, 1024, .inl fK2))] rfl
    clear hP hD hS hJ hP1 hD1
    have hP := hPn
    have hD := hDn
    have hS := hSn
    clear hPn hDn hSn
    refine va_mmax hx hb (by rw [hml]; exact hl.1.symm) hown (hts (.methodLink RX8 51 Lib.Math.max.name) (List.mem_of_getElem? (i := 7) rfl)) (hts (.static Lib.Math.max.name) (List.mem_of_getElem? (i := 8) rfl)) (hts (.initialized "java/lang/Math") (List.mem_of_getElem? (i := 9) rfl)) (hts (.code Lib.Math.max.name Lib.Math.max.code 2 (some .int)) (List.mem_of_getElem? (i := 10) rfl)) (Nat.le_of_ble_eq_true rfl) (Nat.le_of_ble_eq_true rfl) (Nat.zero_le _) (Nat.zero_le _) dX8_step_80 ?_
    refine lv_topi (fun x_8 ex_8 => ?_)
    have tx_8 : 1 ≤ x_8.toInt ∧ r_7.toInt ≤ x_8.toInt ∧ (x_8.toInt = 1 ∨ x_8.toInt = r_7.toInt) := v_max ex_8
    refine lv_iadd hx hb dX8_step_83 ?_
    refine lv_topi (fun x_9 ex_9 => ?_)
    have tx_9 : x_9.toInt = reE.toInt + x_8.toInt := v_add ex_9 (by show -2147483648 ≤ reE.toInt + x_8.toInt; omega) (by show reE.toInt + x_8.toInt < 2147483648; omega)
    refine va_put (D := (dC, dI)) (ci := 8) (v := .int x_9) (ty := .int) (C := RX8) (T := TX8) (N := 6) hx hb hts in_X8 tyX8 tyX8_ok nmX8 hown hK hP hD hS 0 rfl rfl 2 (by decide) (hts (.fieldLink RX8 19 "TextMender$Reading" "reached" "I") (List.mem_of_getElem? (i := 2) rfl)) (fun _ h9 => h9) rfl (by decide +kernel) rfl rfl (Nat.le_of_ble_eq_true rfl) dX8_step_84 (kW (wn := [(oE, .inr (8, [.ref oC, .ref oK, .int x_9, .int r_3, .int x_5, .int x_6])), (oC, .inr (2, [.ref o4, .ref o5])), (o4, .inr (10, [.ref a41, .ref a42, .ref a43, .int l4])), (a41, .inl (cI, 256, .inl f41)), (o5, .inr (10, [.ref a51, .ref a52, .ref a53, .int l5])), (a51, .inl (cI, 256, .inl f51)), (nu, .inr (5, [.ref au, .int lu])), (au, .inl (cI, cap, .inl fu)), (oK, .inr (3, [.ref k1, .ref k2, .int lK])), (k1, .inl (cI, 1024, .inl fK1)), (k2, .inl (cI, 1024, .inl fK2))]) rfl (fun H locs hPn hDn hSn => ?_))
    clear hP hD hS
    have hP := hPn
    have hD := hDn
    have hS := hSn
    clear hPn hDn hSn
    refine lv_iconst (v := 1) hx hb dX8_step_87 (by decide) ?_
    exact kl_z (v := 1) hQQ hx hb hr hlocks hS dX8_step_88 (rfl) ⟨x_9, r_3, x_5, x_6, kPD_sub hP hD [0, 1, 2, 3, 4, 5, 8, 9, 10, 6, 7] (by decide +kernel) rfl, by omega, by decide, by show 0 ≤ x_5.toInt ∧ x_5.toInt ≤ 200 * x_6.toInt ∧ 0 ≤ x_6.toInt ∧ x_6.toInt ≤ x_9.toInt ∧ x_9.toInt ≤ en.toInt; omega, Or.inl ⟨rfl, by rw [hd9.1]; omega, by rw [hd9.1]; omega, by rw [hd9.2]; exact (show r_3 = x9 from v_inj (by omega)), by rw [hd9.2, ← (show r_3 = x9 from v_inj (by omega))]; have q9 := hf4_1; omega, by omega⟩⟩
  · have tc_2 : r_1.toInt = (-1) := v_eq c_2
    refine lv_iconst (v := 0) hx hb dX8_step_22 (by decide) ?_
    exact kl_z (v := 0) hQQ hx hb hr hlocks hS dX8_step_23 (rfl) ⟨reE, laE, suE, leE, kPD_sub hP hD [0, 4, 5, 6, 7, 8, 1, 2, 3, 9, 10] (by decide +kernel) rfl, g_laE, by decide, by show 0 ≤ suE.toInt ∧ suE.toInt ≤ 200 * leE.toInt ∧ 0 ≤ leE.toInt ∧ leE.toInt ≤ reE.toInt ∧ reE.toInt ≤ en.toInt; omega, Or.inr ⟨rfl, F_dc_0 hf1_0 c_2, rfl, rfl, rfl, rfl⟩⟩

theorem s8_0 {r re re' la la' su su' le le' : Int32} {T : Int32 → Int32 → Int32} {D : Nat → Nat} {X : Nat → Int32} (h : F_s8 r re re' la la' su su' le le' T D X) (h0 : r.toInt = 0) : D re'.toNatClampNeg = 0 := by
  rcases h with ⟨a, _⟩ | ⟨_, a1, a2, _⟩
  · rw [a] at h0; exact absurd h0 (by decide)
  · rw [a2]; exact a1
theorem s8_1 {r re re' la la' su su' le le' : Int32} {T : Int32 → Int32 → Int32} {D : Nat → Nat} {X : Nat → Int32} (h : F_s8 r re re' la la' su su' le le' T D X) (h1 : ¬ r.toInt = 0) : re.toInt + 1 ≤ re'.toInt := by
  rcases h with ⟨_, a1, a2, _⟩ | ⟨a, _⟩
  · omega
  · exact absurd (by rw [a]; rfl) h1

set_option maxHeartbeats 40000000 in
set_option maxRecDepth 100000 in
theorem f_X8_goOn (l : Launch) (dC : Nat → ClassId) (dI : Nat → Nat → Nat) (cI cS : ClassId) (sz : Nat) (oE : Nat) (nu : Nat) (oC : Nat) (oK : Nat) (o4 : Nat) (o5 : Nat) (a41 : Nat) (a42 : Nat) (a43 : Nat) (a51 : Nat) (a52 : Nat) (a53 : Nat) (k1 : Nat) (k2 : Nat) (au : Nat) (cap : Nat) (reE : Int32) (laE : Int32) (suE : Int32) (leE : Int32) (l4 : Int32) (f41 : Nat → Int32) (l5 : Int32) (f51 : Nat → Int32) (lK : Int32) (fK1 : Nat → Int32) (fK2 : Nat → Int32) (lu : Int32) (fu : Nat → Int32) (cd : Int32) (en : Int32) (g_laE : 0 ≤ laE.toInt ∧ laE.toInt ≤ 65535) (g_lK : 0 ≤ lK.toInt ∧ lK.toInt ≤ 300) (g_lu : 0 ≤ lu.toInt ∧ lu.toInt ≤ (cap : Int)) (hcap : cap ≤ 2400) (hen : en.toInt ≤ lu.toInt) (hby : prg en.toInt 0 255 fu) (hL4 : prg 256 (-1) 65535 f41) (hL5 : prg 256 (-1) 65535 f51) (hT : HT 1024 1023 hsK fK1 fK2) (ho : (occ fK2 1024 : Int) ≤ lK.toInt) (hV : prg 1024 (-1) 200 fK2) (hn8E : 0 ≤ suE.toInt ∧ suE.toInt ≤ 200 * leE.toInt ∧ 0 ≤ leE.toInt ∧ leE.toInt ≤ reE.toInt ∧ reE.toInt ≤ en.toInt) (hrs : RS (tcC fK1 fK2) reE laE suE leE (dl cd f41 f51 fu en.toInt) (dx cd f41 f51 fu en.toInt)) : kMv l yX8_goOn wsX8_goOn ({ frames := 4, cells := 0, slots := 0, locals := 99 } : Room) [.ref oE, .int cd, .ref nu, .int en] sz (dC, dI) vwCl [(cI, .int), (cS, .short)] [(oE, .inr (8, [.ref oC, .ref oK, .int reE, .int laE, .int suE, .int leE])), (oC, .inr (2, [.ref o4, .ref o5])), (o4, .inr (10, [.ref a41, .ref a42, .ref a43, .int l4])), (a41, .inl (cI, 256, .inl f41)), (o5, .inr (10, [.ref a51, .ref a52, .ref a53, .int l5])), (a51, .inl (cI, 256, .inl f51)), (oK, .inr (3, [.ref k1, .ref k2, .int lK])), (k1, .inl (cI, 1024, .inl fK1)), (k2, .inl (cI, 1024, .inl fK2)), (nu, .inr (5, [.ref au, .int lu])), (au, .inl (cI, cap, .inl fu))] (va_Nw (.methodLinkNest RX2 52 yX11_isLetter "TextMender")) 0 0 (fun (A : Nat → Prop) (hh9 : Heap) => ∃ (reE' : Int32) (laE' : Int32) (suE' : Int32) (leE' : Int32), kPD (dC, dI) vwCl A [(oE, .inr (8, [.ref oC, .ref oK, .int reE', .int laE', .int suE', .int leE'])), (oC, .inr (2, [.ref o4, .ref o5])), (o4, .inr (10, [.ref a41, .ref a42, .ref a43, .int l4])), (a41, .inl (cI, 256, .inl f41)), (o5, .inr (10, [.ref a51, .ref a52, .ref a53, .int l5])), (a51, .inl (cI, 256, .inl f51)), (oK, .inr (3, [.ref k1, .ref k2, .int lK])), (k1, .inl (cI, 1024, .inl fK1)), (k2, .inl (cI, 1024, .inl fK2)), (nu, .inr (5, [.ref au, .int lu])), (au, .inl (cI, cap, .inl fu))] hh9 ∧ (0 ≤ laE'.toInt ∧ laE'.toInt ≤ 65535) ∧ (0 ≤ suE'.toInt ∧ suE'.toInt ≤ 200 * leE'.toInt ∧ 0 ≤ leE'.toInt ∧ leE'.toInt ≤ reE'.toInt ∧ reE'.toInt ≤ en.toInt) ∧ (RS (tcC fK1 fK2) reE' laE' suE' leE' (dl cd f41 f51 fu en.toInt) (dx cd f41 f51 fu en.toInt)) ∧ (reE'.toInt = en.toInt ∨ dl cd f41 f51 fu en.toInt reE'.toNatClampNeg = 0)) := by
  refine kMv_of (cc := cX8_goOn) (maxL := 6) (ret := none) (lv := [(0, .ref oE), (1, .int cd), (2, .ref nu), (3, .int en)]) (by decide +kernel) rfl rfl (Nat.le_of_ble_eq_true rfl) ?_
  intro p e s m below meth c A QQ ls hx hb hr hts hml hown hlocks hA hQQ hK hX hP hD hS hl
  have hown : s.vm.findClass RX8 = some m.cls := hown
  have hcf := k_cf hx hb hml hown hts
  have hN52 := hX
  have in_X8 : ∀ w ∈ wsX80, w ∈ wsX8_goOn := fun _ h => List.mem_cons_of_mem _ (List.mem_append_left _ (List.mem_append_left _ (List.mem_append_left _ (List.mem_append_left _ (List.mem_append_right _ (h))))))
  have z0 : (0 : Int32).toInt = 0 := rfl
  have z1 : (1 : Int32).toInt = 1 := rfl
  have zm1 : (-1 : Int32).toInt = -1 := rfl
  refine lv_iload_n hx hb dX8_goOn_0 rfl (lv_at hl 3 rfl) ?_
  refine lv_aload_n hx hb dX8_goOn_1 rfl (lv_at hl 0 rfl) ?_
  refine va_get (D := (dC, dI)) (ci := 8) (v := .int reE) (C := RX8) (T := TX8) (N := 6) hx hb hts in_X8 hown hK hP 0 rfl rfl 2 (by decide) (hts (.fieldLink RX8 19 "TextMender$Reading" "reached" "I") (List.mem_of_getElem? (i := 1) rfl)) (fun _ h9 => h9) rfl dX8_goOn_2 ?_
  refine lv_isub hx hb dX8_goOn_5 ?_
  refine lv_topi (fun x_1 ex_1 => ?_)
  have tx_1 : x_1.toInt = en.toInt - reE.toInt := v_sub ex_1 (by show -2147483648 ≤ en.toInt - reE.toInt; omega) (by show en.toInt - reE.toInt < 2147483648; omega)
  refine lv_istore (lv' := [(4, .int x_1), (0, .ref oE), (1, .int cd), (2, .ref nu), (3, .int en)]) hx hb dX8_goOn_6 hl (by decide) rfl (fun ls hl => ?_)
  refine lv_iconst (v := 0) hx hb dX8_goOn_8 (by decide) ?_
  refine lv_istore (lv' := [(5, .int 0), (4, .int x_1), (0, .ref oE), (1, .int cd), (2, .ref nu), (3, .int en)]) hx hb dX8_goOn_9 hl (by decide) rfl (fun ls hl => ?_)
  have LOOP_11 : ∀ (k_11 : Nat) (k : Int32) (re2 : Int32) (la2 : Int32) (su2 : Int32) (le2 : Int32) (H : Heap) (locs : List Loc) (ls : Array Slot), MSd (en.toInt - reE.toInt - k.toInt : Int) k_11 → (0 ≤ k.toInt ∧ k.toInt ≤ 2400) → (0 ≤ re2.toInt ∧ re2.toInt ≤ 2400) → (0 ≤ la2.toInt ∧ la2.toInt ≤ 65535) → (0 ≤ su2.toInt ∧ su2.toInt ≤ 480000) → (0 ≤ le2.toInt ∧ le2.toInt ≤ 2400) → (su2.toInt ≤ 200 * le2.toInt ∧ le2.toInt ≤ re2.toInt ∧ re2.toInt ≤ en.toInt) → (k.toInt ≤ re2.toInt - reE.toInt) → (RS (tcC fK1 fK2) re2 la2 su2 le2 (dl cd f41 f51 fu en.toInt) (dx cd f41 f51 fu en.toInt)) → va_P (dC, dI) vwCl [(oE, .inr (8, [.ref oC, .ref oK, .int re2, .int la2, .int su2, .int le2])), (oC, .inr (2, [.ref o4, .ref o5])), (o4, .inr (10, [.ref a41, .ref a42, .ref a43, .int l4])), (a41, .inl (cI, 256, .inl f41)), (o5, .inr (10, [.ref a51, .ref a52, .ref a53, .int l5])), (a51, .inl (cI, 256, .inl f51)), (oK, .inr (3, [.ref k1, .ref k2, .int lK])), (k1, .inl (cI, 1024, .inl fK1)), (k2, .inl (cI, 1024, .inl fK2)), (nu, .inr (5, [.ref au, .int lu])), (au, .inl (cI, cap, .inl fu))] H → va_D A [(oE, .inr (8, [.ref oC, .ref oK, .int re2, .int la2, .int su2, .int le2])), (oC, .inr (2, [.ref o4, .ref o5])), (o4, .inr (10, [.ref a41, .ref a42, .ref a43, .int l4])), (a41, .inl (cI, 256, .inl f41)), (o5, .inr (10, [.ref a51, .ref a52, .ref a53, .int l5])), (a51, .inl (cI, 256, .inl f51)), (oK, .inr (3, [.ref k1, .ref k2, .int lK])), (k1, .inl (cI, 1024, .inl fK1)), (k2, .inl (cI, 1024, .inl fK2)), (nu, .inr (5, [.ref au, .int lu])), (au, .inl (cI, cap, .inl fu))] → va_S A s.heap H locs → lv_has ls 6 [(5, .int k), (4, .int x_1), (0, .ref oE), (1, .int cd), (2, .ref nu), (3, .int en)] → W p l e (headSpec wsX8_goOn ({ frames := 4, cells := 0, slots := 0, locals := 99 } : Room)).room s m ([.ref oE, .int cd, .ref nu, .int en] : List Value).toArray below meth c H locs 0 0 (MQ below QQ ([.ref oE, .int cd, .ref nu, .int en] : List Value).toArray s 0 0 A) (F0 m 11 ls []) := by
    clear hP hD hS hl
    intro k_11
    induction k_11 with
    | zero =>
      intro k re2 la2 su2 le2 H locs ls hm_11 g_k g_re2 g_la2 g_su2 g_le2 hn2 hkr hrs2 hP hD hS hl
      exact ms_0 hm_11
    | succ k_11 ih_11 =>
      intro k re2 la2 su2 le2 H locs ls hm_11 g_k g_re2 g_la2 g_su2 g_le2 hn2 hkr hrs2 hP hD hS hl
      refine lv_iload hx hb dX8_goOn_11 (lv_at hl 0 rfl) ?_
      refine lv_iload hx hb dX8_goOn_13 (lv_at hl 1 rfl) ?_
      refine lv_icmp_ge (tgt := 35) hx hb dX8_goOn_15 (by decide) (fun c_2 => ?_) (fun c_2 => ?_)
      · have tc_2 : x_1.toInt ≤ k.toInt := v_le c_2
        exact kl_v hQQ hx hb hr hlocks hS dX8_goOn_35 ⟨re2, la2, su2, le2, ⟨hP, hD⟩, g_la2, by show 0 ≤ su2.toInt ∧ su2.toInt ≤ 200 * le2.toInt ∧ 0 ≤ le2.toInt ∧ le2.toInt ≤ re2.toInt ∧ re2.toInt ≤ en.toInt; omega, hrs2, Or.inl (by omega)⟩
      · have tc_2 : k.toInt < x_1.toInt := v_nle c_2
        refine lv_aload_n hx hb dX8_goOn_18 rfl (lv_at hl 2 rfl) ?_
        refine lv_iload_n hx hb dX8_goOn_19 rfl (lv_at hl 3 rfl) ?_
        refine lv_aload_n hx hb dX8_goOn_20 rfl (lv_at hl 4 rfl) ?_
        refine lv_iload_n hx hb dX8_goOn_21 rfl (lv_at hl 5 rfl) ?_
        refine kV_i (rest := []) (q0 := 0) (ci := 8) hcf (f_X8_step l dC dI cI cS H.size oE nu oC oK o4 o5 a41 a42 a43 a51 a52 a53 k1 k2 au cap re2 la2 su2 le2 l4 f41 l5 f51 lK fK1 fK2 lu fu cd en (g_la2) (g_lK) (g_lu) (by omega) (by omega) (hby) (hL4) (hL5) (hT) (ho) (hV) (by omega)) kc_X8_step gX8_goOn_X8_step rfl rfl rfl ⟨Nat.le_of_ble_eq_true rfl, Nat.le_of_ble_eq_true rfl⟩ (kX_1 hN52) hK hP hD hS hA [0, 1, 2, 3, 4, 5, 6, 7, 8, 9, 10] [] rfl (by decide +kernel) rfl rfl rfl hl rfl (Nat.le_of_ble_eq_true rfl) dX8_goOn_22 ⟨Nat.le_of_ble_eq_true rfl, Nat.le_of_ble_eq_true rfl⟩ (fun r_3 H locs hB hJ hSn => ?_)
        obtain ⟨reE_3, laE_3, suE_3, leE_3, ⟨hP1, hD1⟩, hf3_0, hf3_1, hf3_2, hf3_3⟩ := hB
        obtain ⟨hPn, hDn⟩ := hJ _ hP1 hD1 [(oE, .inr (8, [.ref oC, .ref oK, .int reE_3, .int laE_3, .int suE_3, .int leE_3])), (oC, .inr (2, [.ref o4, .ref o5])), (o4, .inr (10, [.ref a41, .ref a42, .ref a43, .int l4])), (a41, .inl (cI, 256, .inl f41)), (o5, .inr (10, [.ref a51, .ref a52, .ref a53, .int l5])), (a51, .inl (cI, 256, .inl f51)), (oK, .inr (3, [.ref k1, .ref k2, .int lK])), (k1, .inl (cI, 1024, .inl fK1)), (k2, .inl (cI, 1024, .inl fK2)), (nu, .inr (5, [.ref au, .int lu])), (au, .inl (cI, cap, .inl fu))] rfl
        clear hP hD hS hJ hP1 hD1
        have hP := hPn
        have hD := hDn
        have hS := hSn
        clear hPn hDn hSn
        refine lv_if_ne (tgt := 29) hx hb dX8_goOn_25 (by decide) (fun c_4 => ?_) (fun c_4 => ?_)
        · have tc_4 : ¬ r_3.toInt = 0 := v_ne c_4
          have hs19 := s8_1 hf3_3 (by omega)
          obtain ⟨x_5, ex_5⟩ : ∃ y : Int32, y = k + 1 := ⟨_, rfl⟩
          have tx_5 : x_5.toInt = k.toInt + 1 := v_addR (l2 := 1) (h2 := 1) ex_5 g_k (by decide) (by decide) (by decide)
          refine lv_iinc (v := x_5) (lv' := [(5, .int x_5), (4, .int x_1), (0, .ref oE), (1, .int cd), (2, .ref nu), (3, .int en)]) hx hb dX8_goOn_29 hl (k := 0) rfl (by rw [ex_5]; rfl) (by decide) rfl (fun ls hl => ?_)
          refine lv_goto (tgt := 11) hx hb dX8_goOn_32 (by decide) ?_
          exact ih_11 x_5 reE_3 laE_3 suE_3 leE_3 _ _ _ (ms_lt hm_11 (by show ((en.toInt - reE.toInt - x_5.toInt : Int)) < en.toInt - reE.toInt - k.toInt; omega) (by show (0 : Int) < en.toInt - reE.toInt - k.toInt; omega)) (by show 0 ≤ x_5.toInt ∧ x_5.toInt ≤ 2400; omega) (by show 0 ≤ reE_3.toInt ∧ reE_3.toInt ≤ 2400; omega) (hf3_0) (by show 0 ≤ suE_3.toInt ∧ suE_3.toInt ≤ 480000; omega) (by show 0 ≤ leE_3.toInt ∧ leE_3.toInt ≤ 2400; omega) (by show suE_3.toInt ≤ 200 * leE_3.toInt ∧ leE_3.toInt ≤ reE_3.toInt ∧ reE_3.toInt ≤ en.toInt; omega) (by show x_5.toInt ≤ reE_3.toInt - reE.toInt; omega) (RS_s hrs2 hf3_3) hP hD hS (lv_sub hl [0, 1, 2, 3, 4, 5] rfl)
        · have tc_4 : r_3.toInt = 0 := v_eq c_4
          exact kl_v hQQ hx hb hr hlocks hS dX8_goOn_28 ⟨reE_3, laE_3, suE_3, leE_3, ⟨hP, hD⟩, hf3_0, by show 0 ≤ suE_3.toInt ∧ suE_3.toInt ≤ 200 * leE_3.toInt ∧ 0 ≤ leE_3.toInt ∧ leE_3.toInt ≤ reE_3.toInt ∧ reE_3.toInt ≤ en.toInt; omega, RS_s hrs2 hf3_3, Or.inr (s8_0 hf3_3 (by omega))⟩
  exact LOOP_11 _ 0 reE laE suE leE _ _ _ (ms_s _) (by decide) (by show 0 ≤ reE.toInt ∧ reE.toInt ≤ 2400; omega) (g_laE) (by show 0 ≤ suE.toInt ∧ suE.toInt ≤ 480000; omega) (by show 0 ≤ leE.toInt ∧ leE.toInt ≤ 2400; omega) (by show suE.toInt ≤ 200 * leE.toInt ∧ leE.toInt ≤ reE.toInt ∧ reE.toInt ≤ en.toInt; omega) (by show 0 ≤ reE.toInt - reE.toInt; omega) (hrs) hP hD hS (lv_sub hl [0, 1, 2, 3, 4, 5] rfl)

set_option maxHeartbeats 40000000 in
set_option maxRecDepth 100000 in
theorem f_X8_sumWith (l : Launch) (dC : Nat → ClassId) (dI : Nat → Nat → Nat) (cI cS : ClassId) (sz : Nat) (oE : Nat) (oC : Nat) (oK : Nat) (k1 : Nat) (k2 : Nat) (reE : Int32) (laE : Int32) (suE : Int32) (leE : Int32) (lK : Int32) (fK1 : Nat → Int32) (fK2 : Nat → Int32) (nx_ : Int32) (g_laE : 0 ≤ laE.toInt ∧ laE.toInt ≤ 65535) (g_suE : 0 ≤ suE.toInt ∧ suE.toInt ≤ 480000) (g_lK : 0 ≤ lK.toInt ∧ lK.toInt ≤ 300) (g_nx_ : 0 ≤ nx_.toInt ∧ nx_.toInt ≤ 65535) (hT : HT 1024 1023 hsK fK1 fK2) (ho : (occ fK2 1024 : Int) ≤ lK.toInt) (hV : prg 1024 (-1) 200 fK2) : kMi l yX8_sumWith wsX8_sumWith ({ frames := 3, cells := 0, slots := 0, locals := 73 } : Room) [.ref oE, .int nx_] sz (dC, dI) vwCl [(cI, .int), (cS, .short)] [(oE, .inr (8, [.ref oC, .ref oK, .int reE, .int laE, .int suE, .int leE])), (oK, .inr (3, [.ref k1, .ref k2, .int lK])), (k1, .inl (cI, 1024, .inl fK1)), (k2, .inl (cI, 1024, .inl fK2))] (fun _ => True) 0 0 (fun (A : Nat → Prop) (r : Int32) (hh9 : Heap) => kPD (dC, dI) vwCl A [(oE, .inr (8, [.ref oC, .ref oK, .int reE, .int laE, .int suE, .int leE])), (oK, .inr (3, [.ref k1, .ref k2, .int lK])), (k1, .inl (cI, 1024, .inl fK1)), (k2, .inl (cI, 1024, .inl fK2))] hh9 ∧ (suE.toInt ≤ r.toInt ∧ r.toInt ≤ suE.toInt + 200) ∧ (r.toInt = suE.toInt + cF (tcC fK1 fK2 laE nx_) laE nx_)) := by
  refine kMi_of (cc := cX8_sumWith) (maxL := 2) (ret := (some .int)) (lv := [(0, .ref oE), (1, .int nx_)]) (by decide +kernel) rfl rfl (Nat.le_of_ble_eq_true rfl) ?_
  intro p e s m below meth c A QQ ls hx hb hr hts hml hown hlocks hA hQQ hK hX hP hD hS hl
  have hown : s.vm.findClass RX8 = some m.cls := hown
  have hcf := k_cf hx hb hml hown hts
  have in_X8 : ∀ w ∈ wsX80, w ∈ wsX8_sumWith := fun _ h => List.mem_cons_of_mem _ (List.mem_append_left _ (List.mem_append_right _ (h)))
  refine lv_aload_n hx hb dX8_sumWith_0 rfl (lv_at hl 0 rfl) ?_
  refine va_get (D := (dC, dI)) (ci := 8) (v := .int suE) (C := RX8) (T := TX8) (N := 6) hx hb hts in_X8 hown hK hP 0 rfl rfl 4 (by decide) (hts (.fieldLink RX8 26 "TextMender$Reading" "sum" "I") (List.mem_of_getElem? (i := 1) rfl)) (fun _ h9 => h9) rfl dX8_sumWith_1 ?_
  refine lv_aload_n hx hb dX8_sumWith_4 rfl (lv_at hl 0 rfl) ?_
  refine va_get (D := (dC, dI)) (ci := 8) (v := .ref oK) (C := RX8) (T := TX8) (N := 6) hx hb hts in_X8 hown hK hP 0 rfl rfl 1 (by decide) (hts (.fieldLink RX8 15 "TextMender$Reading" "costs" "LTextMender$Costs;") (List.mem_of_getElem? (i := 2) rfl)) (fun _ h9 => h9) rfl dX8_sumWith_5 ?_
  refine lv_aload_n hx hb dX8_sumWith_8 rfl (lv_at hl 0 rfl) ?_
  refine va_get (D := (dC, dI)) (ci := 8) (v := .int laE) (C := RX8) (T := TX8) (N := 6) hx hb hts in_X8 hown hK hP 0 rfl rfl 3 (by decide) (hts (.fieldLink RX8 23 "TextMender$Reading" "latest" "I") (List.mem_of_getElem? (i := 3) rfl)) (fun _ h9 => h9) rfl dX8_sumWith_9 ?_
  refine lv_iload_n hx hb dX8_sumWith_12 rfl (lv_at hl 1 rfl) ?_
  refine kV_i (rest := [.int suE]) (q0 := 0) (ci := 3) hcf (f_X3_of l dC dI cI cS s.heap.size oK k1 k2 lK fK1 fK2 laE nx_ (g_lK) (g_laE) (g_nx_) (hT) (ho) (hV)) kc_X3_of gX8_sumWith_X3_of rfl rfl rfl ⟨Nat.le_of_ble_eq_true rfl, Nat.le_of_ble_eq_true rfl⟩ kX_t hK hP hD hS hA [1, 2, 3] [0] rfl (by decide +kernel) rfl rfl rfl hl rfl (Nat.le_of_ble_eq_true rfl) dX8_sumWith_13 ⟨Nat.le_of_ble_eq_true rfl, Nat.le_of_ble_eq_true rfl⟩ (fun r_1 H locs hB hJ hSn => ?_)
  obtain ⟨⟨hP1, hD1⟩, hf1_0, hf1_1⟩ := hB
  obtain ⟨hPn, hDn⟩ := hJ _ hP1 hD1 [(oE, .inr (8, [.ref oC, .ref oK, .int reE, .int laE, .int suE, .int leE])), (oK, .inr (3, [.ref k1, .ref k2, .int lK])), (k1, .inl (cI, 1024, .inl fK1)), (k2, .inl (cI, 1024, .inl fK2))] rfl
  clear hP hD hS hJ hP1 hD1
  have hP := hPn
  have hD := hDn
  have hS := hSn
  clear hPn hDn hSn
  refine lv_iadd hx hb dX8_sumWith_16 ?_
  refine lv_topi (fun x_2 ex_2 => ?_)
  have tx_2 : x_2.toInt = suE.toInt + r_1.toInt := v_addR ex_2 g_suE hf1_0 (by decide) (by decide)
  exact kl_i (v := x_2) hQQ hx hb hr hlocks hS dX8_sumWith_17 ⟨⟨hP, hD⟩, by show suE.toInt ≤ x_2.toInt ∧ x_2.toInt ≤ suE.toInt + 200; omega, by have q9 := hf1_1; omega⟩

set_option maxHeartbeats 40000000 in
set_option maxRecDepth 100000 in
theorem f_X8_begin (l : Launch) (dC : Nat → ClassId) (dI : Nat → Nat → Nat) (cI cS : ClassId) (sz : Nat) (oE : Nat) (oC : Nat) (oK : Nat) (reE : Int32) (laE : Int32) (suE : Int32) (leE : Int32)  : kMv l yX8_begin wsX8_begin ({ frames := 0, cells := 0, slots := 0, locals := 0 } : Room) [.ref oE] sz (dC, dI) vwCl [(cI, .int), (cS, .short)] [(oE, .inr (8, [.ref oC, .ref oK, .int reE, .int laE, .int suE, .int leE]))] (fun _ => True) 0 0 (fun (A : Nat → Prop) (hh9 : Heap) => ∃ (reE' : Int32) (laE' : Int32) (suE' : Int32) (leE' : Int32), kPD (dC, dI) vwCl A [(oE, .inr (8, [.ref oC, .ref oK, .int reE', .int laE', .int suE', .int leE']))] hh9 ∧ (reE' = 0 ∧ laE' = 32 ∧ suE' = 0 ∧ leE' = 0)) := by
  refine kMv_of (cc := cX8_begin) (maxL := 1) (ret := none) (lv := [(0, .ref oE)]) (by decide +kernel) rfl rfl (Nat.le_of_ble_eq_true rfl) ?_
  intro p e s m below meth c A QQ ls hx hb hr hts hml hown hlocks hA hQQ hK hX hP hD hS hl
  have hown : s.vm.findClass RX8 = some m.cls := hown
  have hcf := k_cf hx hb hml hown hts
  have in_X8 : ∀ w ∈ wsX80, w ∈ wsX8_begin := fun _ h => List.mem_cons_of_mem _ (List.mem_append_right _ (h))
  refine lv_aload_n hx hb dX8_begin_0 rfl (lv_at hl 0 rfl) ?_
  refine lv_iconst (v := 0) hx hb dX8_begin_1 (by decide) ?_
  refine va_put (D := (dC, dI)) (ci := 8) (v := .int 0) (ty := .int) (C := RX8) (T := TX8) (N := 6) hx hb hts in_X8 tyX8 tyX8_ok nmX8 hown hK hP hD hS 0 rfl rfl 2 (by decide) (hts (.fieldLink RX8 19 "TextMender$Reading" "reached" "I") (List.mem_of_getElem? (i := 1) rfl)) (fun _ h9 => h9) rfl (by decide +kernel) rfl rfl (Nat.le_of_ble_eq_true rfl) dX8_begin_2 (kW (wn := [(oE, .inr (8, [.ref oC, .ref oK, .int 0, .int laE, .int suE, .int leE]))]) rfl (fun H locs hPn hDn hSn => ?_))
  clear hP hD hS
  have hP := hPn
  have hD := hDn
  have hS := hSn
  clear hPn hDn hSn
  refine lv_aload_n hx hb dX8_begin_5 rfl (lv_at hl 0 rfl) ?_
  refine lv_bipush (v := 32) hx hb dX8_begin_6 (by decide) ?_
  refine va_put (D := (dC, dI)) (ci := 8) (v := .int 32) (ty := .int) (C := RX8) (T := TX8) (N := 6) hx hb hts in_X8 tyX8 tyX8_ok nmX8 hown hK hP hD hS 0 rfl rfl 3 (by decide) (hts (.fieldLink RX8 23 "TextMender$Reading" "latest" "I") (List.mem_of_getElem? (i := 2) rfl)) (fun _ h9 => h9) rfl (by decide +kernel) rfl rfl (Nat.le_of_ble_eq_true rfl) dX8_begin_8 (kW (wn := [(oE, .inr (8, [.ref oC, .ref oK, .int 0, .int 32, .int suE, .int leE]))]) rfl (fun H locs hPn hDn hSn => ?_))
  clear hP hD hS
  have hP := hPn
  have hD := hDn
  have hS := hSn
  clear hPn hDn hSn
  refine lv_aload_n hx hb dX8_begin_11 rfl (lv_at hl 0 rfl) ?_
  refine lv_iconst (v := 0) hx hb dX8_begin_12 (by decide) ?_
  refine va_put (D := (dC, dI)) (ci := 8) (v := .int 0) (ty := .int) (C := RX8) (T := TX8) (N := 6) hx hb hts in_X8 tyX8 tyX8_ok nmX8 hown hK hP hD hS 0 rfl rfl 4 (by decide) (hts (.fieldLink RX8 26 "TextMender$Reading" "sum" "I") (List.mem_of_getElem? (i := 3) rfl)) (fun _ h9 => h9) rfl (by decide +kernel) rfl rfl (Nat.le_of_ble_eq_true rfl) dX8_begin_13 (kW (wn := [(oE, .inr (8, [.ref oC, .ref oK, .int 0, .int 32, .int 0, .int leE]))]) rfl (fun H locs hPn hDn hSn => ?_))
  clear hP hD hS
  have hP := hPn
  have hD := hDn
  have hS := hSn
  clear hPn hDn hSn
  refine lv_aload_n hx hb dX8_begin_16 rfl (lv_at hl 0 rfl) ?_
  refine lv_iconst (v := 0) hx hb dX8_begin_17 (by decide) ?_
  refine va_put (D := (dC, dI)) (ci := 8) (v := .int 0) (ty := .int) (C := RX8) (T := TX8) (N := 6) hx hb hts in_X8 tyX8 tyX8_ok nmX8 hown hK hP hD hS 0 rfl rfl 5 (by decide) (hts (.fieldLink RX8 29 "TextMender$Reading" "letters" "I") (List.mem_of_getElem? (i := 4) rfl)) (fun _ h9 => h9) rfl (by decide +kernel) rfl rfl (Nat.le_of_ble_eq_true rfl) dX8_begin_18 (kW (wn := [(oE, .inr (8, [.ref oC, .ref oK, .int 0, .int 32, .int 0, .int 0]))]) rfl (fun H locs hPn hDn hSn => ?_))
  clear hP hD hS
  have hP := hPn
  have hD := hDn
  have hS := hSn
  clear hPn hDn hSn
  exact kl_v hQQ hx hb hr hlocks hS dX8_begin_21 ⟨0, 32, 0, 0, ⟨hP, hD⟩, ⟨rfl, rfl, rfl, rfl⟩⟩

set_option maxHeartbeats 40000000 in
set_option maxRecDepth 100000 in
theorem f_X8_takeAll (l : Launch) (dC : Nat → ClassId) (dI : Nat → Nat → Nat) (cI cS : ClassId) (sz : Nat) (oE : Nat) (oD : Nat) (oC : Nat) (oK : Nat) (reE : Int32) (laE : Int32) (suE : Int32) (leE : Int32) (reD : Int32) (laD : Int32) (suD : Int32) (leD : Int32)  : kMv l yX8_takeAll wsX8_takeAll ({ frames := 0, cells := 0, slots := 0, locals := 0 } : Room) [.ref oE, .ref oD] sz (dC, dI) vwCl [(cI, .int), (cS, .short)] [(oE, .inr (8, [.ref oC, .ref oK, .int reE, .int laE, .int suE, .int leE])), (oD, .inr (8, [.ref oC, .ref oK, .int reD, .int laD, .int suD, .int leD]))] (fun _ => True) 0 0 (fun (A : Nat → Prop) (hh9 : Heap) => ∃ (reE' : Int32) (laE' : Int32) (suE' : Int32) (leE' : Int32), kPD (dC, dI) vwCl A [(oE, .inr (8, [.ref oC, .ref oK, .int reE', .int laE', .int suE', .int leE'])), (oD, .inr (8, [.ref oC, .ref oK, .int reD, .int laD, .int suD, .int leD]))] hh9 ∧ (reE' = reD ∧ laE' = laD ∧ suE' = suD ∧ leE' = leD)) := by
  refine kMv_of (cc := cX8_takeAll) (maxL := 2) (ret := none) (lv := [(0, .ref oE), (1, .ref oD)]) (by decide +kernel) rfl rfl (Nat.le_of_ble_eq_true rfl) ?_
  intro p e s m below meth c A QQ ls hx hb hr hts hml hown hlocks hA hQQ hK hX hP hD hS hl
  have hown : s.vm.findClass RX8 = some m.cls := hown
  have hcf := k_cf hx hb hml hown hts
  have in_X8 : ∀ w ∈ wsX80, w ∈ wsX8_takeAll := fun _ h => List.mem_cons_of_mem _ (List.mem_append_right _ (h))
  refine lv_aload_n hx hb dX8_takeAll_0 rfl (lv_at hl 0 rfl) ?_
  refine lv_aload_n hx hb dX8_takeAll_1 rfl (lv_at hl 1 rfl) ?_
  refine va_get (D := (dC, dI)) (ci := 8) (v := .int reD) (C := RX8) (T := TX8) (N := 6) hx hb hts in_X8 hown hK hP 1 rfl rfl 2 (by decide) (hts (.fieldLink RX8 19 "TextMender$Reading" "reached" "I") (List.mem_of_getElem? (i := 1) rfl)) (fun _ h9 => h9) rfl dX8_takeAll_2 ?_
  refine va_put (D := (dC, dI)) (ci := 8) (v := .int reD) (ty := .int) (C := RX8) (T := TX8) (N := 6) hx hb hts in_X8 tyX8 tyX8_ok nmX8 hown hK hP hD hS 0 rfl rfl 2 (by decide) (hts (.fieldLink RX8 19 "TextMender$Reading" "reached" "I") (List.mem_of_getElem? (i := 1) rfl)) (fun _ h9 => h9) rfl (by decide +kernel) rfl rfl (Nat.le_of_ble_eq_true rfl) dX8_takeAll_5 (kW (wn := [(oE, .inr (8, [.ref oC, .ref oK, .int reD, .int laE, .int suE, .int leE])), (oD, .inr (8, [.ref oC, .ref oK, .int reD, .int laD, .int suD, .int leD]))]) rfl (fun H locs hPn hDn hSn => ?_))
  clear hP hD hS
  have hP := hPn
  have hD := hDn
  have hS := hSn
  clear hPn hDn hSn
  refine lv_aload_n hx hb dX8_takeAll_8 rfl (lv_at hl 0 rfl) ?_
  refine lv_aload_n hx hb dX8_takeAll_9 rfl (lv_at hl 1 rfl) ?_
  refine va_get (D := (dC, dI)) (ci := 8) (v := .int laD) (C := RX8) (T := TX8) (N := 6) hx hb hts in_X8 hown hK hP 1 rfl rfl 3 (by decide) (hts (.fieldLink RX8 23 "TextMender$Reading" "latest" "I") (List.mem_of_getElem? (i := 2) rfl)) (fun _ h9 => h9) rfl dX8_takeAll_10 ?_
  refine va_put (D := (dC, dI)) (ci := 8) (v := .int laD) (ty := .int) (C := RX8) (T := TX8) (N := 6) hx hb hts in_X8 tyX8 tyX8_ok nmX8 hown hK hP hD hS 0 rfl rfl 3 (by decide) (hts (.fieldLink RX8 23 "TextMender$Reading" "latest" "I") (List.mem_of_getElem? (i := 2) rfl)) (fun _ h9 => h9) rfl (by decide +kernel) rfl rfl (Nat.le_of_ble_eq_true rfl) dX8_takeAll_13 (kW (wn := [(oE, .inr (8, [.ref oC, .ref oK, .int reD, .int laD, .int suE, .int leE])), (oD, .inr (8, [.ref oC, .ref oK, .int reD, .int laD, .int suD, .int leD]))]) rfl (fun H locs hPn hDn hSn => ?_))
  clear hP hD hS
  have hP := hPn
  have hD := hDn
  have hS := hSn
  clear hPn hDn hSn
  refine lv_aload_n hx hb dX8_takeAll_16 rfl (lv_at hl 0 rfl) ?_
  refine lv_aload_n hx hb dX8_takeAll_17 rfl (lv_at hl 1 rfl) ?_
  refine va_get (D := (dC, dI)) (ci := 8) (v := .int suD) (C := RX8) (T := TX8) (N := 6) hx hb hts in_X8 hown hK hP 1 rfl rfl 4 (by decide) (hts (.fieldLink RX8 26 "TextMender$Reading" "sum" "I") (List.mem_of_getElem? (i := 3) rfl)) (fun _ h9 => h9) rfl dX8_takeAll_18 ?_
  refine va_put (D := (dC, dI)) (ci := 8) (v := .int suD) (ty := .int) (C := RX8) (T := TX8) (N := 6) hx hb hts in_X8 tyX8 tyX8_ok nmX8 hown hK hP hD hS 0 rfl rfl 4 (by decide) (hts (.fieldLink RX8 26 "TextMender$Reading" "sum" "I") (List.mem_of_getElem? (i := 3) rfl)) (fun _ h9 => h9) rfl (by decide +kernel) rfl rfl (Nat.le_of_ble_eq_true rfl) dX8_takeAll_21 (kW (wn := [(oE, .inr (8, [.ref oC, .ref oK, .int reD, .int laD, .int suD, .int leE])), (oD, .inr (8, [.ref oC, .ref oK, .int reD, .int laD, .int suD, .int leD]))]) rfl (fun H locs hPn hDn hSn => ?_))
  clear hP hD hS
  have hP := hPn
  have hD := hDn
  have hS := hSn
  clear hPn hDn hSn
  refine lv_aload_n hx hb dX8_takeAll_24 rfl (lv_at hl 0 rfl) ?_
  refine lv_aload_n hx hb dX8_takeAll_25 rfl (lv_at hl 1 rfl) ?_
  refine va_get (D := (dC, dI)) (ci := 8) (v := .int leD) (C := RX8) (T := TX8) (N := 6) hx hb hts in_X8 hown hK hP 1 rfl rfl 5 (by decide) (hts (.fieldLink RX8 29 "TextMender$Reading" "letters" "I") (List.mem_of_getElem? (i := 4) rfl)) (fun _ h9 => h9) rfl dX8_takeAll_26 ?_
  refine va_put (D := (dC, dI)) (ci := 8) (v := .int leD) (ty := .int) (C := RX8) (T := TX8) (N := 6) hx hb hts in_X8 tyX8 tyX8_ok nmX8 hown hK hP hD hS 0 rfl rfl 5 (by decide) (hts (.fieldLink RX8 29 "TextMender$Reading" "letters" "I") (List.mem_of_getElem? (i := 4) rfl)) (fun _ h9 => h9) rfl (by decide +kernel) rfl rfl (Nat.le_of_ble_eq_true rfl) dX8_takeAll_29 (kW (wn := [(oE, .inr (8, [.ref oC, .ref oK, .int reD, .int laD, .int suD, .int leD])), (oD, .inr (8, [.ref oC, .ref oK, .int reD, .int laD, .int suD, .int leD]))]) rfl (fun H locs hPn hDn hSn => ?_))
  clear hP hD hS
  have hP := hPn
  have hD := hDn
  have hS := hSn
  clear hPn hDn hSn
  exact kl_v hQQ hx hb hr hlocks hS dX8_takeAll_32 ⟨reD, laD, suD, leD, ⟨hP, hD⟩, ⟨rfl, rfl, rfl, rfl⟩⟩

set_option maxHeartbeats 40000000 in
set_option maxRecDepth 100000 in
theorem f_X4_writtenIn (l : Launch) (dC : Nat → ClassId) (dI : Nat → Nat → Nat) (cI cS : ClassId) (sz : Nat) (oH : Nat) (oP : Nat) (h1 : Nat) (h2 : Nat) (lH : Int32) (fH1 : Nat → Int32) (h : Int32) (g_lH : 0 ≤ lH.toInt ∧ lH.toInt ≤ 6) (g_h : 0 ≤ h.toInt ∧ h.toInt ≤ 5) (hh : h.toInt < lH.toInt) : kMi l yX4_writtenIn wsX4_writtenIn ({ frames := 0, cells := 0, slots := 0, locals := 0 } : Room) [.ref oH, .int h] sz (dC, dI) vwCl [(cI, .int), (cS, .short)] [(oH, .inr (4, [.ref oP, .ref h1, .ref h2, .int lH])), (h1, .inl (cI, 6, .inl fH1))] (fun _ => True) 0 0 (fun (A : Nat → Prop) (r : Int32) (hh9 : Heap) => kPD (dC, dI) vwCl A [(oH, .inr (4, [.ref oP, .ref h1, .ref h2, .int lH])), (h1, .inl (cI, 6, .inl fH1))] hh9 ∧ (r = fH1 h.toNatClampNeg)) := by
  refine kMi_of (cc := cX4_writtenIn) (maxL := 2) (ret := (some .int)) (lv := [(0, .ref oH), (1, .int h)]) (by decide +kernel) rfl rfl (Nat.le_of_ble_eq_true rfl) ?_
  intro p e s m below meth c A QQ ls hx hb hr hts hml hown hlocks hA hQQ hK hX hP hD hS hl
  have hown : s.vm.findClass RX4 = some m.cls := hown
  have hcf := k_cf hx hb hml hown hts
  have in_X4 : ∀ w ∈ wsX40, w ∈ wsX4_writtenIn := fun _ h => List.mem_cons_of_mem _ (List.mem_append_right _ (h))
  refine lv_iload_n hx hb dX4_writtenIn_0 rfl (lv_at hl 1 rfl) ?_
  refine lv_if_lt (tgt := 21) hx hb dX4_writtenIn_1 (by decide) (fun c_1 => by exfalso; have tc_1 : h.toInt < 0 := v_lt c_1; omega) (fun c_1 => ?_)
  have tc_1 : 0 ≤ h.toInt := v_nlt c_1
  refine lv_iload_n hx hb dX4_writtenIn_4 rfl (lv_at hl 1 rfl) ?_
  refine lv_aload_n hx hb dX4_writtenIn_5 rfl (lv_at hl 0 rfl) ?_
  refine va_get (D := (dC, dI)) (ci := 4) (v := .int lH) (C := RX4) (T := TX4) (N := 4) hx hb hts in_X4 hown hK hP 0 rfl rfl 3 (by decide) (hts (.fieldLink RX4 22 "TextMender$Harms" "length" "I") (List.mem_of_getElem? (i := 1) rfl)) (fun _ h9 => h9) rfl dX4_writtenIn_6 ?_
  refine lv_icmp_ge (tgt := 21) hx hb dX4_writtenIn_9 (by decide) (fun c_2 => by exfalso; have tc_2 : lH.toInt ≤ h.toInt := v_le c_2; omega) (fun c_2 => ?_)
  have tc_2 : h.toInt < lH.toInt := v_nle c_2
  refine lv_aload_n hx hb dX4_writtenIn_12 rfl (lv_at hl 0 rfl) ?_
  refine va_get (D := (dC, dI)) (ci := 4) (v := .ref h1) (C := RX4) (T := TX4) (N := 4) hx hb hts in_X4 hown hK hP 0 rfl rfl 1 (by decide) (hts (.fieldLink RX4 9 "TextMender$Harms" "writtenIn" "[I") (List.mem_of_getElem? (i := 2) rfl)) (fun _ h9 => h9) rfl dX4_writtenIn_13 ?_
  refine lv_iload_n hx hb dX4_writtenIn_16 rfl (lv_at hl 1 rfl) ?_
  refine va_iald hx hb hK hP 1 0 rfl rfl (v_inR g_h (by decide) (by decide)) dX4_writtenIn_17 ?_
  refine lv_topi (fun x_3 ex_3 => ?_)
  refine lv_goto (tgt := 22) hx hb dX4_writtenIn_18 (by decide) ?_
  exact kl_i (v := x_3) hQQ hx hb hr hlocks hS dX4_writtenIn_22 ⟨⟨hP, hD⟩, ex_3⟩

set_option maxHeartbeats 40000000 in
set_option maxRecDepth 100000 in
theorem f_X4_readIn (l : Launch) (dC : Nat → ClassId) (dI : Nat → Nat → Nat) (cI cS : ClassId) (sz : Nat) (oH : Nat) (oP : Nat) (h1 : Nat) (h2 : Nat) (lH : Int32) (fH2 : Nat → Int32) (h : Int32) (g_lH : 0 ≤ lH.toInt ∧ lH.toInt ≤ 6) (g_h : 0 ≤ h.toInt ∧ h.toInt ≤ 5) (hh : h.toInt < lH.toInt) : kMi l yX4_readIn wsX4_readIn ({ frames := 0, cells := 0, slots := 0, locals := 0 } : Room) [.ref oH, .int h] sz (dC, dI) vwCl [(cI, .int), (cS, .short)] [(oH, .inr (4, [.ref oP, .ref h1, .ref h2, .int lH])), (h2, .inl (cI, 6, .inl fH2))] (fun _ => True) 0 0 (fun (A : Nat → Prop) (r : Int32) (hh9 : Heap) => kPD (dC, dI) vwCl A [(oH, .inr (4, [.ref oP, .ref h1, .ref h2, .int lH])), (h2, .inl (cI, 6, .inl fH2))] hh9 ∧ (r = fH2 h.toNatClampNeg)) := by
  refine kMi_of (cc := cX4_readIn) (maxL := 2) (ret := (some .int)) (lv := [(0, .ref oH), (1, .int h)]) (by decide +kernel) rfl rfl (Nat.le_of_ble_eq_true rfl) ?_
  intro p e s m below meth c A QQ ls hx hb hr hts hml hown hlocks hA hQQ hK hX hP hD hS hl
  have hown : s.vm.findClass RX4 = some m.cls := hown
  have hcf := k_cf hx hb hml hown hts
  have in_X4 : ∀ w ∈ wsX40, w ∈ wsX4_readIn := fun _ h => List.mem_cons_of_mem _ (List.mem_append_right _ (h))
  refine lv_iload_n hx hb dX4_readIn_0 rfl (lv_at hl 1 rfl) ?_
  refine lv_if_lt (tgt := 21) hx hb dX4_readIn_1 (by decide) (fun c_1 => by exfalso; have tc_1 : h.toInt < 0 := v_lt c_1; omega) (fun c_1 => ?_)
  have tc_1 : 0 ≤ h.toInt := v_nlt c_1
  refine lv_iload_n hx hb dX4_readIn_4 rfl (lv_at hl 1 rfl) ?_
  refine lv_aload_n hx hb dX4_readIn_5 rfl (lv_at hl 0 rfl) ?_
  refine va_get (D := (dC, dI)) (ci := 4) (v := .int lH) (C := RX4) (T := TX4) (N := 4) hx hb hts in_X4 hown hK hP 0 rfl rfl 3 (by decide) (hts (.fieldLink RX4 22 "TextMender$Harms" "length" "I") (List.mem_of_getElem? (i := 1) rfl)) (fun _ h9 => h9) rfl dX4_readIn_6 ?_
  refine lv_icmp_ge (tgt := 21) hx hb dX4_readIn_9 (by decide) (fun c_2 => by exfalso; have tc_2 : lH.toInt ≤ h.toInt := v_le c_2; omega) (fun c_2 => ?_)
  have tc_2 : h.toInt < lH.toInt := v_nle c_2
  refine lv_aload_n hx hb dX4_readIn_12 rfl (lv_at hl 0 rfl) ?_
  refine va_get (D := (dC, dI)) (ci := 4) (v := .ref h2) (C := RX4) (T := TX4) (N := 4) hx hb hts in_X4 hown hK hP 0 rfl rfl 2 (by decide) (hts (.fieldLink RX4 15 "TextMender$Harms" "readIn" "[I") (List.mem_of_getElem? (i := 2) rfl)) (fun _ h9 => h9) rfl dX4_readIn_13 ?_
  refine lv_iload_n hx hb dX4_readIn_16 rfl (lv_at hl 1 rfl) ?_
  refine va_iald hx hb hK hP 1 0 rfl rfl (v_inR g_h (by decide) (by decide)) dX4_readIn_17 ?_
  refine lv_topi (fun x_3 ex_3 => ?_)
  refine lv_goto (tgt := 22) hx hb dX4_readIn_18 (by decide) ?_
  exact kl_i (v := x_3) hQQ hx hb hr hlocks hS dX4_readIn_22 ⟨⟨hP, hD⟩, ex_3⟩

set_option maxHeartbeats 40000000 in
set_option maxRecDepth 100000 in
theorem f_X6_isBetter (l : Launch) (dC : Nat → ClassId) (dI : Nat → Nat → Nat) (cI cS : ClassId) (sz : Nat) (oQ : Nat) (oC : Nat) (oH : Nat) (oK : Nat) (oE : Nat) (nq : Nat) (np : Nat) (nv : Nat) (q1 : Nat) (q2 : Nat) (q3 : Nat) (q4 : Nat) (pr : Int32) (fQ1 : Nat → Int32) (fQ2 : Nat → Int32) (fQ3 : Nat → Int32) (fr : Int32) (sm : Int32) (sp : Int32) (en : Int32) (g_fr : 0 ≤ fr.toInt ∧ fr.toInt ≤ 60) : kMi l yX6_isBetter wsX6_isBetter ({ frames := 0, cells := 0, slots := 0, locals := 0 } : Room) [.ref oQ, .int fr, .int sm, .int sp, .int en] sz (dC, dI) vwCl [(cI, .int), (cS, .short)] [(oQ, .inr (6, [.ref oC, .ref oH, .ref oK, .ref oE, .ref nq, .ref np, .ref nv, .ref q1, .ref q2, .ref q3, .ref q4, .int pr])), (q1, .inl (cI, 61, .inl fQ1)), (q2, .inl (cI, 61, .inl fQ2)), (q3, .inl (cI, 61, .inl fQ3))] (fun _ => True) 0 0 (fun (A : Nat → Prop) (r : Int32) (hh9 : Heap) => kPD (dC, dI) vwCl A [(oQ, .inr (6, [.ref oC, .ref oH, .ref oK, .ref oE, .ref nq, .ref np, .ref nv, .ref q1, .ref q2, .ref q3, .ref q4, .int pr])), (q1, .inl (cI, 61, .inl fQ1)), (q2, .inl (cI, 61, .inl fQ2)), (q3, .inl (cI, 61, .inl fQ3))] hh9 ∧ (0 ≤ r.toInt ∧ r.toInt ≤ 1) ∧ (F_ib r sm.toInt sp.toInt en.toInt (fQ1 fr.toNatClampNeg).toInt (fQ2 fr.toNatClampNeg).toInt (fQ3 fr.toNatClampNeg).toInt)) := by
  refine kMi_of (cc := cX6_isBetter) (maxL := 5) (ret := (some .boolean)) (lv := [(0, .ref oQ), (1, .int fr), (2, .int sm), (3, .int sp), (4, .int en)]) (by decide +kernel) rfl rfl (Nat.le_of_ble_eq_true rfl) ?_
  intro p e s m below meth c A QQ ls hx hb hr hts hml hown hlocks hA hQQ hK hX hP hD hS hl
  have hown : s.vm.findClass RX6 = some m.cls := hown
  have hcf := k_cf hx hb hml hown hts
  have in_X6 : ∀ w ∈ wsX60, w ∈ wsX6_isBetter := fun _ h => List.mem_cons_of_mem _ (List.mem_append_right _ (h))
  refine lv_iload_n hx hb dX6_isBetter_0 rfl (lv_at hl 2 rfl) ?_
  refine lv_aload_n hx hb dX6_isBetter_1 rfl (lv_at hl 0 rfl) ?_
  refine va_get (D := (dC, dI)) (ci := 6) (v := .ref q1) (C := RX6) (T := TX6) (N := 12) hx hb hts in_X6 hown hK hP 0 rfl rfl 7 (by decide) (hts (.fieldLink RX6 26 "TextMender$Parting" "leastCost" "[I") (List.mem_of_getElem? (i := 1) rfl)) (fun _ h9 => h9) rfl dX6_isBetter_2 ?_
  refine lv_iload_n hx hb dX6_isBetter_5 rfl (lv_at hl 1 rfl) ?_
  refine va_iald hx hb hK hP 1 0 rfl rfl (v_inR g_fr (by decide) (by decide)) dX6_isBetter_6 ?_
  refine lv_topi (fun x_1 ex_1 => ?_)
  refine lv_icmp_eq (tgt := 26) hx hb dX6_isBetter_7 (by decide) (fun c_2 => ?_) (fun c_2 => ?_)
  · have tc_2 : sm.toInt = x_1.toInt := v_eq c_2
    have rw2_0 := v_rng sm
    have rw2_1 := v_rng x_1
    refine lv_iload_n hx hb dX6_isBetter_26 rfl (lv_at hl 3 rfl) ?_
    refine lv_aload_n hx hb dX6_isBetter_27 rfl (lv_at hl 0 rfl) ?_
    refine va_get (D := (dC, dI)) (ci := 6) (v := .ref q2) (C := RX6) (T := TX6) (N := 12) hx hb hts in_X6 hown hK hP 0 rfl rfl 8 (by decide) (hts (.fieldLink RX6 30 "TextMender$Parting" "spansFrom" "[I") (List.mem_of_getElem? (i := 2) rfl)) (fun _ h9 => h9) rfl dX6_isBetter_28 ?_
    refine lv_iload_n hx hb dX6_isBetter_31 rfl (lv_at hl 1 rfl) ?_
    refine va_iald hx hb hK hP 2 0 rfl rfl (v_inR g_fr (by decide) (by decide)) dX6_isBetter_32 ?_
    refine lv_topi (fun x_3 ex_3 => ?_)
    refine lv_icmp_eq (tgt := 52) hx hb dX6_isBetter_33 (by decide) (fun c_4 => ?_) (fun c_4 => ?_)
    · have tc_4 : sp.toInt = x_3.toInt := v_eq c_4
      have rw4_0 := v_rng sp
      have rw4_1 := v_rng x_3
      refine lv_iload hx hb dX6_isBetter_52 (lv_at hl 4 rfl) ?_
      refine lv_aload_n hx hb dX6_isBetter_54 rfl (lv_at hl 0 rfl) ?_
      refine va_get (D := (dC, dI)) (ci := 6) (v := .ref q3) (C := RX6) (T := TX6) (N := 12) hx hb hts in_X6 hown hK hP 0 rfl rfl 9 (by decide) (hts (.fieldLink RX6 33 "TextMender$Parting" "endOf" "[I") (List.mem_of_getElem? (i := 3) rfl)) (fun _ h9 => h9) rfl dX6_isBetter_55 ?_
      refine lv_iload_n hx hb dX6_isBetter_58 rfl (lv_at hl 1 rfl) ?_
      refine va_iald hx hb hK hP 3 0 rfl rfl (v_inR g_fr (by decide) (by decide)) dX6_isBetter_59 ?_
      refine lv_topi (fun x_5 ex_5 => ?_)
      refine lv_icmp_le (tgt := 67) hx hb dX6_isBetter_60 (by decide) (fun c_6 => ?_) (fun c_6 => ?_)
      · have tc_6 : en.toInt ≤ x_5.toInt := v_le c_6
        have rw6_0 := v_rng en
        have rw6_1 := v_rng x_5
        refine lv_iconst (v := 0) hx hb dX6_isBetter_67 (by decide) ?_
        exact kl_z (v := 0) hQQ hx hb hr hlocks hS dX6_isBetter_68 (rfl) ⟨⟨hP, hD⟩, by decide, by unfold F_ib lxl; rw [← ex_1, ← ex_3, ← ex_5]; first | exact Or.inl ⟨rfl, by omega⟩ | exact Or.inr ⟨rfl, by omega⟩⟩
      · have tc_6 : x_5.toInt < en.toInt := v_nle c_6
        have rw6_0 := v_rng en
        have rw6_1 := v_rng x_5
        refine lv_iconst (v := 1) hx hb dX6_isBetter_63 (by decide) ?_
        refine lv_goto (tgt := 68) hx hb dX6_isBetter_64 (by decide) ?_
        exact kl_z (v := 1) hQQ hx hb hr hlocks hS dX6_isBetter_68 (rfl) ⟨⟨hP, hD⟩, by decide, by unfold F_ib lxl; rw [← ex_1, ← ex_3, ← ex_5]; first | exact Or.inl ⟨rfl, by omega⟩ | exact Or.inr ⟨rfl, by omega⟩⟩
    · have tc_4 : ¬ sp.toInt = x_3.toInt := v_ne c_4
      have rw4_0 := v_rng sp
      have rw4_1 := v_rng x_3
      refine lv_iload_n hx hb dX6_isBetter_36 rfl (lv_at hl 3 rfl) ?_
      refine lv_aload_n hx hb dX6_isBetter_37 rfl (lv_at hl 0 rfl) ?_
      refine va_get (D := (dC, dI)) (ci := 6) (v := .ref q2) (C := RX6) (T := TX6) (N := 12) hx hb hts in_X6 hown hK hP 0 rfl rfl 8 (by decide) (hts (.fieldLink RX6 30 "TextMender$Parting" "spansFrom" "[I") (List.mem_of_getElem? (i := 2) rfl)) (fun _ h9 => h9) rfl dX6_isBetter_38 ?_
      refine lv_iload_n hx hb dX6_isBetter_41 rfl (lv_at hl 1 rfl) ?_
      refine va_iald hx hb hK hP 2 0 rfl rfl (v_inR g_fr (by decide) (by decide)) dX6_isBetter_42 ?_
      refine k_i (y := x_3) ex_3.symm ?_
      refine lv_icmp_ge (tgt := 50) hx hb dX6_isBetter_43 (by decide) (fun c_7 => ?_) (fun c_7 => ?_)
      · have tc_7 : x_3.toInt ≤ sp.toInt := v_le c_7
        refine lv_iconst (v := 0) hx hb dX6_isBetter_50 (by decide) ?_
        exact kl_z (v := 0) hQQ hx hb hr hlocks hS dX6_isBetter_51 (rfl) ⟨⟨hP, hD⟩, by decide, by unfold F_ib lxl; rw [← ex_1, ← ex_3]; first | exact Or.inl ⟨rfl, by omega⟩ | exact Or.inr ⟨rfl, by omega⟩⟩
      · have tc_7 : sp.toInt < x_3.toInt := v_nle c_7
        refine lv_iconst (v := 1) hx hb dX6_isBetter_46 (by decide) ?_
        refine lv_goto (tgt := 51) hx hb dX6_isBetter_47 (by decide) ?_
        exact kl_z (v := 1) hQQ hx hb hr hlocks hS dX6_isBetter_51 (rfl) ⟨⟨hP, hD⟩, by decide, by unfold F_ib lxl; rw [← ex_1, ← ex_3]; first | exact Or.inl ⟨rfl, by omega⟩ | exact Or.inr ⟨rfl, by omega⟩⟩
  · have tc_2 : ¬ sm.toInt = x_1.toInt := v_ne c_2
    have rw2_0 := v_rng sm
    have rw2_1 := v_rng x_1
    refine lv_iload_n hx hb dX6_isBetter_10 rfl (lv_at hl 2 rfl) ?_
    refine lv_aload_n hx hb dX6_isBetter_11 rfl (lv_at hl 0 rfl) ?_
    refine va_get (D := (dC, dI)) (ci := 6) (v := .ref q1) (C := RX6) (T := TX6) (N := 12) hx hb hts in_X6 hown hK hP 0 rfl rfl 7 (by decide) (hts (.fieldLink RX6 26 "TextMender$Parting" "leastCost" "[I") (List.mem_of_getElem? (i := 1) rfl)) (fun _ h9 => h9) rfl dX6_isBetter_12 ?_
    refine lv_iload_n hx hb dX6_isBetter_15 rfl (lv_at hl 1 rfl) ?_
    refine va_iald hx hb hK hP 1 0 rfl rfl (v_inR g_fr (by decide) (by decide)) dX6_isBetter_16 ?_
    refine k_i (y := x_1) ex_1.symm ?_
    refine lv_icmp_ge (tgt := 24) hx hb dX6_isBetter_17 (by decide) (fun c_8 => ?_) (fun c_8 => ?_)
    · have tc_8 : x_1.toInt ≤ sm.toInt := v_le c_8
      refine lv_iconst (v := 0) hx hb dX6_isBetter_24 (by decide) ?_
      exact kl_z (v := 0) hQQ hx hb hr hlocks hS dX6_isBetter_25 (rfl) ⟨⟨hP, hD⟩, by decide, by unfold F_ib lxl; rw [← ex_1]; first | exact Or.inl ⟨rfl, by omega⟩ | exact Or.inr ⟨rfl, by omega⟩⟩
    · have tc_8 : sm.toInt < x_1.toInt := v_nle c_8
      refine lv_iconst (v := 1) hx hb dX6_isBetter_20 (by decide) ?_
      refine lv_goto (tgt := 25) hx hb dX6_isBetter_21 (by decide) ?_
      exact kl_z (v := 1) hQQ hx hb hr hlocks hS dX6_isBetter_25 (rfl) ⟨⟨hP, hD⟩, by decide, by unfold F_ib lxl; rw [← ex_1]; first | exact Or.inl ⟨rfl, by omega⟩ | exact Or.inr ⟨rfl, by omega⟩⟩

theorem ib_1 {r : Int32} {sm sp en c s e : Int} (h : F_ib r sm sp en c s e) (h1 : ¬ r.toInt = 0) : lxl sm sp en c s e := h.elim (fun z => z.2) (fun z => absurd z.1 h1)
theorem ib_0 {r : Int32} {sm sp en c s e : Int} (h : F_ib r sm sp en c s e) (h0 : r.toInt = 0) : ¬ lxl sm sp en c s e := h.elim (fun z => by have := z.1; omega) (fun z => z.2)

set_option maxHeartbeats 40000000 in
set_option maxRecDepth 100000 in
theorem f_X6_offer (l : Launch) (dC : Nat → ClassId) (dI : Nat → Nat → Nat) (cI cS : ClassId) (sz : Nat) (oQ : Nat) (oC : Nat) (oH : Nat) (oK : Nat) (oE : Nat) (nq : Nat) (np : Nat) (nv : Nat) (q1 : Nat) (q2 : Nat) (q3 : Nat) (q4 : Nat) (pr : Int32) (fQ1 : Nat → Int32) (fQ2 : Nat → Int32) (fQ3 : Nat → Int32) (fQ4 : Nat → Int32) (fr : Int32) (en : Int32) (h : Int32) (cs : Int32) (g_pr : 0 ≤ pr.toInt ∧ pr.toInt ≤ 1000) (g_fr : 0 ≤ fr.toInt ∧ fr.toInt ≤ 59) (g_en : 1 ≤ en.toInt ∧ en.toInt ≤ 60) (g_cs : 0 ≤ cs.toInt ∧ cs.toInt ≤ 62000) (hfe : fr.toInt < en.toInt) (he1 : 0 ≤ (fQ1 en.toNatClampNeg).toInt ∧ (fQ1 en.toNatClampNeg).toInt ≤ 5000000) (he2 : 0 ≤ (fQ2 en.toNatClampNeg).toInt ∧ (fQ2 en.toNatClampNeg).toInt ≤ 60) : kMv l yX6_offer wsX6_offer ({ frames := 1, cells := 0, slots := 0, locals := 24 } : Room) [.ref oQ, .int fr, .int en, .int h, .int cs] sz (dC, dI) vwCl [(cI, .int), (cS, .short)] [(oQ, .inr (6, [.ref oC, .ref oH, .ref oK, .ref oE, .ref nq, .ref np, .ref nv, .ref q1, .ref q2, .ref q3, .ref q4, .int pr])), (q1, .inl (cI, 61, .inl fQ1)), (q2, .inl (cI, 61, .inl fQ2)), (q3, .inl (cI, 61, .inl fQ3)), (q4, .inl (cI, 61, .inl fQ4))] (fun _ => True) 0 0 (fun (A : Nat → Prop) (hh9 : Heap) => ∃ (fQ1' : Nat → Int32) (fQ2' : Nat → Int32) (fQ3' : Nat → Int32) (fQ4' : Nat → Int32), kPD (dC, dI) vwCl A [(oQ, .inr (6, [.ref oC, .ref oH, .ref oK, .ref oE, .ref nq, .ref np, .ref nv, .ref q1, .ref q2, .ref q3, .ref q4, .int pr])), (q1, .inl (cI, 61, .inl fQ1')), (q2, .inl (cI, 61, .inl fQ2')), (q3, .inl (cI, 61, .inl fQ3')), (q4, .inl (cI, 61, .inl fQ4'))] hh9 ∧ (F_of pr fr en h cs fQ1 fQ1' fQ2 fQ2' fQ3 fQ3' fQ4 fQ4')) := by
  refine kMv_of (cc := cX6_offer) (maxL := 7) (ret := none) (lv := [(0, .ref oQ), (1, .int fr), (2, .int en), (3, .int h), (4, .int cs)]) (by decide +kernel) rfl rfl (Nat.le_of_ble_eq_true rfl) ?_
  intro p e s m below meth c A QQ ls hx hb hr hts hml hown hlocks hA hQQ hK hX hP hD hS hl
  have hown : s.vm.findClass RX6 = some m.cls := hown
  have hcf := k_cf hx hb hml hown hts
  have in_X6 : ∀ w ∈ wsX60, w ∈ wsX6_offer := fun _ h => List.mem_cons_of_mem _ (List.mem_append_right _ (h))
  refine lv_iload_n hx hb dX6_offer_0 rfl (lv_at hl 1 rfl) ?_
  refine lv_if_lt (tgt := 15) hx hb dX6_offer_1 (by decide) (fun c_1 => by exfalso; have tc_1 : fr.toInt < 0 := v_lt c_1; omega) (fun c_1 => ?_)
  have tc_1 : 0 ≤ fr.toInt := v_nlt c_1
  refine lv_iload_n hx hb dX6_offer_4 rfl (lv_at hl 2 rfl) ?_
  refine lv_iload_n hx hb dX6_offer_5 rfl (lv_at hl 1 rfl) ?_
  refine lv_icmp_le (tgt := 15) hx hb dX6_offer_6 (by decide) (fun c_2 => by exfalso; have tc_2 : en.toInt ≤ fr.toInt := v_le c_2; omega) (fun c_2 => ?_)
  have tc_2 : fr.toInt < en.toInt := v_nle c_2
  refine lv_iload_n hx hb dX6_offer_9 rfl (lv_at hl 2 rfl) ?_
  refine lv_bipush (v := 60) hx hb dX6_offer_10 (by decide) ?_
  refine lv_icmp_le (tgt := 16) hx hb dX6_offer_12 (by decide) (fun c_3 => ?_) (fun c_3 => by exfalso; have tc_3 : 60 < en.toInt := v_nle c_3; omega)
  have tc_3 : en.toInt ≤ 60 := v_le c_3
  refine lv_iload hx hb dX6_offer_16 (lv_at hl 4 rfl) ?_
  refine lv_aload_n hx hb dX6_offer_18 rfl (lv_at hl 0 rfl) ?_
  refine va_get (D := (dC, dI)) (ci := 6) (v := .ref q1) (C := RX6) (T := TX6) (N := 12) hx hb hts in_X6 hown hK hP 0 rfl rfl 7 (by decide) (hts (.fieldLink RX6 26 "TextMender$Parting" "leastCost" "[I") (List.mem_of_getElem? (i := 1) rfl)) (fun _ h9 => h9) rfl dX6_offer_19 ?_
  refine lv_iload_n hx hb dX6_offer_22 rfl (lv_at hl 2 rfl) ?_
  refine va_iald hx hb hK hP 1 0 rfl rfl (v_inR g_en (by decide) (by decide)) dX6_offer_23 ?_
  refine lv_topi (fun x_4 ex_4 => ?_)
  have ho_x_4 : 0 ≤ x_4.toInt ∧ x_4.toInt ≤ 5000000 := by rw [ex_4]; exact he1
  refine lv_iadd hx hb dX6_offer_24 ?_
  refine lv_topi (fun x_5 ex_5 => ?_)
  have tx_5 : x_5.toInt = cs.toInt + x_4.toInt := v_add ex_5 (by show -2147483648 ≤ cs.toInt + x_4.toInt; omega) (by show cs.toInt + x_4.toInt < 2147483648; omega)
  refine lv_aload_n hx hb dX6_offer_25 rfl (lv_at hl 0 rfl) ?_
  refine va_get (D := (dC, dI)) (ci := 6) (v := .ref q2) (C := RX6) (T := TX6) (N := 12) hx hb hts in_X6 hown hK hP 0 rfl rfl 8 (by decide) (hts (.fieldLink RX6 30 "TextMender$Parting" "spansFrom" "[I") (List.mem_of_getElem? (i := 2) rfl)) (fun _ h9 => h9) rfl dX6_offer_26 ?_
  refine lv_iload_n hx hb dX6_offer_29 rfl (lv_at hl 2 rfl) ?_
  refine va_iald hx hb hK hP 2 0 rfl rfl (v_inR g_en (by decide) (by decide)) dX6_offer_30 ?_
  refine lv_topi (fun x_6 ex_6 => ?_)
  have ho_x_6 : 0 ≤ x_6.toInt ∧ x_6.toInt ≤ 60 := by rw [ex_6]; exact he2
  refine lv_if_le (tgt := 41) hx hb dX6_offer_31 (by decide) (fun c_7 => ?_) (fun c_7 => ?_)
  · have tc_7 : x_6.toInt ≤ 0 := v_le c_7
    refine lv_iconst (v := 0) hx hb dX6_offer_41 (by decide) ?_
    refine lv_iadd hx hb dX6_offer_42 ?_
    refine lv_topi (fun x_8 ex_8 => ?_)
    have tx_8 : x_8.toInt = x_5.toInt + 0 := v_add ex_8 (by show -2147483648 ≤ x_5.toInt + 0; omega) (by show x_5.toInt + 0 < 2147483648; omega)
    refine lv_istore (lv' := [(5, .int x_8), (0, .ref oQ), (1, .int fr), (2, .int en), (3, .int h), (4, .int cs)]) hx hb dX6_offer_43 hl (by decide) rfl (fun ls hl => ?_)
    refine lv_iconst (v := 1) hx hb dX6_offer_45 (by decide) ?_
    refine lv_aload_n hx hb dX6_offer_46 rfl (lv_at hl 1 rfl) ?_
    refine va_get (D := (dC, dI)) (ci := 6) (v := .ref q2) (C := RX6) (T := TX6) (N := 12) hx hb hts in_X6 hown hK hP 0 rfl rfl 8 (by decide) (hts (.fieldLink RX6 30 "TextMender$Parting" "spansFrom" "[I") (List.mem_of_getElem? (i := 2) rfl)) (fun _ h9 => h9) rfl dX6_offer_47 ?_
    refine lv_iload_n hx hb dX6_offer_50 rfl (lv_at hl 3 rfl) ?_
    refine va_iald hx hb hK hP 2 0 rfl rfl (v_inR g_en (by decide) (by decide)) dX6_offer_51 ?_
    refine k_i (y := x_6) ex_6.symm ?_
    refine lv_iadd hx hb dX6_offer_52 ?_
    refine lv_topi (fun x_9 ex_9 => ?_)
    have tx_9 : x_9.toInt = 1 + x_6.toInt := v_add ex_9 (by show -2147483648 ≤ 1 + x_6.toInt; omega) (by show 1 + x_6.toInt < 2147483648; omega)
    refine lv_istore (lv' := [(6, .int x_9), (5, .int x_8), (0, .ref oQ), (1, .int fr), (2, .int en), (3, .int h), (4, .int cs)]) hx hb dX6_offer_53 hl (by decide) rfl (fun ls hl => ?_)
    refine lv_aload_n hx hb dX6_offer_55 rfl (lv_at hl 2 rfl) ?_
    refine va_get (D := (dC, dI)) (ci := 6) (v := .ref q1) (C := RX6) (T := TX6) (N := 12) hx hb hts in_X6 hown hK hP 0 rfl rfl 7 (by decide) (hts (.fieldLink RX6 26 "TextMender$Parting" "leastCost" "[I") (List.mem_of_getElem? (i := 1) rfl)) (fun _ h9 => h9) rfl dX6_offer_56 ?_
    refine lv_iload_n hx hb dX6_offer_59 rfl (lv_at hl 3 rfl) ?_
    refine va_iald hx hb hK hP 1 0 rfl rfl (v_inR g_fr (by decide) (by decide)) dX6_offer_60 ?_
    refine lv_topi (fun x_10 ex_10 => ?_)
    refine lv_iconst (v := (-1)) hx hb dX6_offer_61 (by decide) ?_
    refine lv_icmp_eq (tgt := 78) hx hb dX6_offer_62 (by decide) (fun c_11 => ?_) (fun c_11 => ?_)
    · have tc_11 : x_10.toInt = (-1) := v_eq c_11
      refine lv_aload_n hx hb dX6_offer_78 rfl (lv_at hl 2 rfl) ?_
      refine va_get (D := (dC, dI)) (ci := 6) (v := .ref q1) (C := RX6) (T := TX6) (N := 12) hx hb hts in_X6 hown hK hP 0 rfl rfl 7 (by decide) (hts (.fieldLink RX6 26 "TextMender$Parting" "leastCost" "[I") (List.mem_of_getElem? (i := 1) rfl)) (fun _ h9 => h9) rfl dX6_offer_79 ?_
      refine lv_iload_n hx hb dX6_offer_82 rfl (lv_at hl 3 rfl) ?_
      refine lv_iload hx hb dX6_offer_83 (lv_at hl 1 rfl) ?_
      obtain ⟨f_12, ef_12⟩ : ∃ g : Nat → Int32, g = upd fQ1 (fr : Int32).toNatClampNeg x_8 := ⟨_, rfl⟩
      refine va_iast hx hb hK hP hD hS 1 0 rfl rfl (v_inR g_fr (by decide) (by decide)) dX6_offer_85 (kWf (g := f_12) (F := fun f_12 => [(oQ, .inr (6, [.ref oC, .ref oH, .ref oK, .ref oE, .ref nq, .ref np, .ref nv, .ref q1, .ref q2, .ref q3, .ref q4, .int pr])), (q1, .inl (cI, 61, .inl f_12)), (q2, .inl (cI, 61, .inl fQ2)), (q3, .inl (cI, 61, .inl fQ3)), (q4, .inl (cI, 61, .inl fQ4))]) ef_12 rfl (fun H locs hPn hDn hSn => ?_))
      clear hP hD hS
      have hP := hPn
      have hD := hDn
      have hS := hSn
      clear hPn hDn hSn
      refine lv_aload_n hx hb dX6_offer_86 rfl (lv_at hl 2 rfl) ?_
      refine va_get (D := (dC, dI)) (ci := 6) (v := .ref q2) (C := RX6) (T := TX6) (N := 12) hx hb hts in_X6 hown hK hP 0 rfl rfl 8 (by decide) (hts (.fieldLink RX6 30 "TextMender$Parting" "spansFrom" "[I") (List.mem_of_getElem? (i := 2) rfl)) (fun _ h9 => h9) rfl dX6_offer_87 ?_
      refine lv_iload_n hx hb dX6_offer_90 rfl (lv_at hl 3 rfl) ?_
      refine lv_iload hx hb dX6_offer_91 (lv_at hl 0 rfl) ?_
      obtain ⟨f_13, ef_13⟩ : ∃ g : Nat → Int32, g = upd fQ2 (fr : Int32).toNatClampNeg x_9 := ⟨_, rfl⟩
      refine va_iast hx hb hK hP hD hS 2 0 rfl rfl (v_inR g_fr (by decide) (by decide)) dX6_offer_93 (kWf (g := f_13) (F := fun f_13 => [(oQ, .inr (6, [.ref oC, .ref oH, .ref oK, .ref oE, .ref nq, .ref np, .ref nv, .ref q1, .ref q2, .ref q3, .ref q4, .int pr])), (q1, .inl (cI, 61, .inl f_12)), (q2, .inl (cI, 61, .inl f_13)), (q3, .inl (cI, 61, .inl fQ3)), (q4, .inl (cI, 61, .inl fQ4))]) ef_13 rfl (fun H locs hPn hDn hSn => ?_))
      clear hP hD hS
      have hP := hPn
      have hD := hDn
      have hS := hSn
      clear hPn hDn hSn
      refine lv_aload_n hx hb dX6_offer_94 rfl (lv_at hl 2 rfl) ?_
      refine va_get (D := (dC, dI)) (ci := 6) (v := .ref q3) (C := RX6) (T := TX6) (N := 12) hx hb hts in_X6 hown hK hP 0 rfl rfl 9 (by decide) (hts (.fieldLink RX6 33 "TextMender$Parting" "endOf" "[I") (List.mem_of_getElem? (i := 4) rfl)) (fun _ h9 => h9) rfl dX6_offer_95 ?_
      refine lv_iload_n hx hb dX6_offer_98 rfl (lv_at hl 3 rfl) ?_
      refine lv_iload_n hx hb dX6_offer_99 rfl (lv_at hl 4 rfl) ?_
      obtain ⟨f_14, ef_14⟩ : ∃ g : Nat → Int32, g = upd fQ3 (fr : Int32).toNatClampNeg en := ⟨_, rfl⟩
      refine va_iast hx hb hK hP hD hS 3 0 rfl rfl (v_inR g_fr (by decide) (by decide)) dX6_offer_100 (kWf (g := f_14) (F := fun f_14 => [(oQ, .inr (6, [.ref oC, .ref oH, .ref oK, .ref oE, .ref nq, .ref np, .ref nv, .ref q1, .ref q2, .ref q3, .ref q4, .int pr])), (q1, .inl (cI, 61, .inl f_12)), (q2, .inl (cI, 61, .inl f_13)), (q3, .inl (cI, 61, .inl f_14)), (q4, .inl (cI, 61, .inl fQ4))]) ef_14 rfl (fun H locs hPn hDn hSn => ?_))
      clear hP hD hS
      have hP := hPn
      have hD := hDn
      have hS := hSn
      clear hPn hDn hSn
      refine lv_aload_n hx hb dX6_offer_101 rfl (lv_at hl 2 rfl) ?_
      refine va_get (D := (dC, dI)) (ci := 6) (v := .ref q4) (C := RX6) (T := TX6) (N := 12) hx hb hts in_X6 hown hK hP 0 rfl rfl 10 (by decide) (hts (.fieldLink RX6 36 "TextMender$Parting" "harmOf" "[I") (List.mem_of_getElem? (i := 5) rfl)) (fun _ h9 => h9) rfl dX6_offer_102 ?_
      refine lv_iload_n hx hb dX6_offer_105 rfl (lv_at hl 3 rfl) ?_
      refine lv_iload_n hx hb dX6_offer_106 rfl (lv_at hl 5 rfl) ?_
      obtain ⟨f_15, ef_15⟩ : ∃ g : Nat → Int32, g = upd fQ4 (fr : Int32).toNatClampNeg h := ⟨_, rfl⟩
      refine va_iast hx hb hK hP hD hS 4 0 rfl rfl (v_inR g_fr (by decide) (by decide)) dX6_offer_107 (kWf (g := f_15) (F := fun f_15 => [(oQ, .inr (6, [.ref oC, .ref oH, .ref oK, .ref oE, .ref nq, .ref np, .ref nv, .ref q1, .ref q2, .ref q3, .ref q4, .int pr])), (q1, .inl (cI, 61, .inl f_12)), (q2, .inl (cI, 61, .inl f_13)), (q3, .inl (cI, 61, .inl f_14)), (q4, .inl (cI, 61, .inl f_15))]) ef_15 rfl (fun H locs hPn hDn hSn => ?_))
      clear hP hD hS
      have hP := hPn
      have hD := hDn
      have hS := hSn
      clear hPn hDn hSn
      exact kl_v hQQ hx hb hr hlocks hS dX6_offer_108 ⟨f_12, f_13, f_14, f_15, ⟨hP, hD⟩, ⟨x_8, x_9, by rw [← ex_4, ← ex_6]; first | (rw [if_pos (by omega)]; omega) | (rw [if_neg (by omega)]; omega), by rw [← ex_6]; omega, Or.inl ⟨Or.inl (ex_10.symm.trans c_11), ef_12, ef_13, ef_14, ef_15⟩⟩⟩
    · have tc_11 : ¬ x_10.toInt = (-1) := v_ne c_11
      refine lv_aload_n hx hb dX6_offer_65 rfl (lv_at hl 2 rfl) ?_
      refine lv_iload_n hx hb dX6_offer_66 rfl (lv_at hl 3 rfl) ?_
      refine lv_iload hx hb dX6_offer_67 (lv_at hl 1 rfl) ?_
      refine lv_iload hx hb dX6_offer_69 (lv_at hl 0 rfl) ?_
      refine lv_iload_n hx hb dX6_offer_71 rfl (lv_at hl 4 rfl) ?_
      refine kV_i (rest := []) (q0 := 0) (ci := 6) hcf (f_X6_isBetter l dC dI cI cS s.heap.size oQ oC oH oK oE nq np nv q1 q2 q3 q4 pr fQ1 fQ2 fQ3 fr x_8 x_9 en (v_rr g_fr (by decide) (by decide))) kc_X6_isBetter gX6_offer_X6_isBetter rfl rfl rfl ⟨Nat.le_of_ble_eq_true rfl, Nat.le_of_ble_eq_true rfl⟩ kX_t hK hP hD hS hA [0, 1, 2, 3] [4] rfl (by decide +kernel) rfl rfl rfl hl rfl (Nat.le_of_ble_eq_true rfl) dX6_offer_72 ⟨Nat.le_of_ble_eq_true rfl, Nat.le_of_ble_eq_true rfl⟩ (fun r_16 H locs hB hJ hSn => ?_)
      obtain ⟨⟨hP1, hD1⟩, hf16_0, hf16_1⟩ := hB
      obtain ⟨hPn, hDn⟩ := hJ _ hP1 hD1 [(q4, .inl (cI, 61, .inl fQ4)), (oQ, .inr (6, [.ref oC, .ref oH, .ref oK, .ref oE, .ref nq, .ref np, .ref nv, .ref q1, .ref q2, .ref q3, .ref q4, .int pr])), (q1, .inl (cI, 61, .inl fQ1)), (q2, .inl (cI, 61, .inl fQ2)), (q3, .inl (cI, 61, .inl fQ3))] rfl
      clear hP hD hS hJ hP1 hD1
      have hP := hPn
      have hD := hDn
      have hS := hSn
      clear hPn hDn hSn
      refine lv_if_eq (tgt := 108) hx hb dX6_offer_75 (by decide) (fun c_17 => ?_) (fun c_17 => ?_)
      · have tc_17 : r_16.toInt = 0 := v_eq c_17
        exact kl_v hQQ hx hb hr hlocks hS dX6_offer_108 ⟨fQ1, fQ2, fQ3, fQ4, kPD_sub hP hD [1, 2, 3, 4, 0] (by decide +kernel) rfl, ⟨x_8, x_9, by rw [← ex_4, ← ex_6]; first | (rw [if_pos (by omega)]; omega) | (rw [if_neg (by omega)]; omega), by rw [← ex_6]; omega, Or.inr ⟨fun e9 => c_11 (ex_10.trans e9), ib_0 hf16_1 (by omega), rfl, rfl, rfl, rfl⟩⟩⟩
      · have tc_17 : ¬ r_16.toInt = 0 := v_ne c_17
        refine lv_aload_n hx hb dX6_offer_78 rfl (lv_at hl 2 rfl) ?_
        refine va_get (D := (dC, dI)) (ci := 6) (v := .ref q1) (C := RX6) (T := TX6) (N := 12) hx hb hts in_X6 hown hK hP 1 rfl rfl 7 (by decide) (hts (.fieldLink RX6 26 "TextMender$Parting" "leastCost" "[I") (List.mem_of_getElem? (i := 1) rfl)) (fun _ h9 => h9) rfl dX6_offer_79 ?_
        refine lv_iload_n hx hb dX6_offer_82 rfl (lv_at hl 3 rfl) ?_
        refine lv_iload hx hb dX6_offer_83 (lv_at hl 1 rfl) ?_
        obtain ⟨f_18, ef_18⟩ : ∃ g : Nat → Int32, g = upd fQ1 (fr : Int32).toNatClampNeg x_8 := ⟨_, rfl⟩
        refine va_iast hx hb hK hP hD hS 2 0 rfl rfl (v_inR g_fr (by decide) (by decide)) dX6_offer_85 (kWf (g := f_18) (F := fun f_18 => [(q4, .inl (cI, 61, .inl fQ4)), (oQ, .inr (6, [.ref oC, .ref oH, .ref oK, .ref oE, .ref nq, .ref np, .ref nv, .ref q1, .ref q2, .ref q3, .ref q4, .int pr])), (q1, .inl (cI, 61, .inl f_18)), (q2, .inl (cI, 61, .inl fQ2)), (q3, .inl (cI, 61, .inl fQ3))]) ef_18 rfl (fun H locs hPn hDn hSn => ?_))
        clear hP hD hS
        have hP := hPn
        have hD := hDn
        have hS := hSn
        clear hPn hDn hSn
        refine lv_aload_n hx hb dX6_offer_86 rfl (lv_at hl 2 rfl) ?_
        refine va_get (D := (dC, dI)) (ci := 6) (v := .ref q2) (C := RX6) (T := TX6) (N := 12) hx hb hts in_X6 hown hK hP 1 rfl rfl 8 (by decide) (hts (.fieldLink RX6 30 "TextMender$Parting" "spansFrom" "[I") (List.mem_of_getElem? (i := 2) rfl)) (fun _ h9 => h9) rfl dX6_offer_87 ?_
        refine lv_iload_n hx hb dX6_offer_90 rfl (lv_at hl 3 rfl) ?_
        refine lv_iload hx hb dX6_offer_91 (lv_at hl 0 rfl) ?_
        obtain ⟨f_19, ef_19⟩ : ∃ g : Nat → Int32, g = upd fQ2 (fr : Int32).toNatClampNeg x_9 := ⟨_, rfl⟩
        refine va_iast hx hb hK hP hD hS 3 0 rfl rfl (v_inR g_fr (by decide) (by decide)) dX6_offer_93 (kWf (g := f_19) (F := fun f_19 => [(q4, .inl (cI, 61, .inl fQ4)), (oQ, .inr (6, [.ref oC, .ref oH, .ref oK, .ref oE, .ref nq, .ref np, .ref nv, .ref q1, .ref q2, .ref q3, .ref q4, .int pr])), (q1, .inl (cI, 61, .inl f_18)), (q2, .inl (cI, 61, .inl f_19)), (q3, .inl (cI, 61, .inl fQ3))]) ef_19 rfl (fun H locs hPn hDn hSn => ?_))
        clear hP hD hS
        have hP := hPn
        have hD := hDn
        have hS := hSn
        clear hPn hDn hSn
        refine lv_aload_n hx hb dX6_offer_94 rfl (lv_at hl 2 rfl) ?_
        refine va_get (D := (dC, dI)) (ci := 6) (v := .ref q3) (C := RX6) (T := TX6) (N := 12) hx hb hts in_X6 hown hK hP 1 rfl rfl 9 (by decide) (hts (.fieldLink RX6 33 "TextMender$Parting" "endOf" "[I") (List.mem_of_getElem? (i := 4) rfl)) (fun _ h9 => h9) rfl dX6_offer_95 ?_
        refine lv_iload_n hx hb dX6_offer_98 rfl (lv_at hl 3 rfl) ?_
        refine lv_iload_n hx hb dX6_offer_99 rfl (lv_at hl 4 rfl) ?_
        obtain ⟨f_20, ef_20⟩ : ∃ g : Nat → Int32, g = upd fQ3 (fr : Int32).toNatClampNeg en := ⟨_, rfl⟩
        refine va_iast hx hb hK hP hD hS 4 0 rfl rfl (v_inR g_fr (by decide) (by decide)) dX6_offer_100 (kWf (g := f_20) (F := fun f_20 => [(q4, .inl (cI, 61, .inl fQ4)), (oQ, .inr (6, [.ref oC, .ref oH, .ref oK, .ref oE, .ref nq, .ref np, .ref nv, .ref q1, .ref q2, .ref q3, .ref q4, .int pr])), (q1, .inl (cI, 61, .inl f_18)), (q2, .inl (cI, 61, .inl f_19)), (q3, .inl (cI, 61, .inl f_20))]) ef_20 rfl (fun H locs hPn hDn hSn => ?_))
        clear hP hD hS
        have hP := hPn
        have hD := hDn
        have hS := hSn
        clear hPn hDn hSn
        refine lv_aload_n hx hb dX6_offer_101 rfl (lv_at hl 2 rfl) ?_
        refine va_get (D := (dC, dI)) (ci := 6) (v := .ref q4) (C := RX6) (T := TX6) (N := 12) hx hb hts in_X6 hown hK hP 1 rfl rfl 10 (by decide) (hts (.fieldLink RX6 36 "TextMender$Parting" "harmOf" "[I") (List.mem_of_getElem? (i := 5) rfl)) (fun _ h9 => h9) rfl dX6_offer_102 ?_
        refine lv_iload_n hx hb dX6_offer_105 rfl (lv_at hl 3 rfl) ?_
        refine lv_iload_n hx hb dX6_offer_106 rfl (lv_at hl 5 rfl) ?_
        obtain ⟨f_21, ef_21⟩ : ∃ g : Nat → Int32, g = upd fQ4 (fr : Int32).toNatClampNeg h := ⟨_, rfl⟩
        refine va_iast hx hb hK hP hD hS 0 0 rfl rfl (v_inR g_fr (by decide) (by decide)) dX6_offer_107 (kWf (g := f_21) (F := fun f_21 => [(q4, .inl (cI, 61, .inl f_21)), (oQ, .inr (6, [.ref oC, .ref oH, .ref oK, .ref oE, .ref nq, .ref np, .ref nv, .ref q1, .ref q2, .ref q3, .ref q4, .int pr])), (q1, .inl (cI, 61, .inl f_18)), (q2, .inl (cI, 61, .inl f_19)), (q3, .inl (cI, 61, .inl f_20))]) ef_21 rfl (fun H locs hPn hDn hSn => ?_))
        clear hP hD hS
        have hP := hPn
        have hD := hDn
        have hS := hSn
        clear hPn hDn hSn
        exact kl_v hQQ hx hb hr hlocks hS dX6_offer_108 ⟨f_18, f_19, f_20, f_21, kPD_sub hP hD [1, 2, 3, 4, 0] (by decide +kernel) rfl, ⟨x_8, x_9, by rw [← ex_4, ← ex_6]; first | (rw [if_pos (by omega)]; omega) | (rw [if_neg (by omega)]; omega), by rw [← ex_6]; omega, Or.inl ⟨Or.inr (ib_1 hf16_1 (by omega)), ef_18, ef_19, ef_20, ef_21⟩⟩⟩
  · have tc_7 : 0 < x_6.toInt := v_nle c_7
    refine lv_aload_n hx hb dX6_offer_34 rfl (lv_at hl 0 rfl) ?_
    refine va_get (D := (dC, dI)) (ci := 6) (v := .int pr) (C := RX6) (T := TX6) (N := 12) hx hb hts in_X6 hown hK hP 0 rfl rfl 11 (by decide) (hts (.fieldLink RX6 60 "TextMender$Parting" "price" "I") (List.mem_of_getElem? (i := 3) rfl)) (fun _ h9 => h9) rfl dX6_offer_35 ?_
    refine lv_goto (tgt := 42) hx hb dX6_offer_38 (by decide) ?_
    refine lv_iadd hx hb dX6_offer_42 ?_
    refine lv_topi (fun x_22 ex_22 => ?_)
    have tx_22 : x_22.toInt = x_5.toInt + pr.toInt := v_add ex_22 (by show -2147483648 ≤ x_5.toInt + pr.toInt; omega) (by show x_5.toInt + pr.toInt < 2147483648; omega)
    refine lv_istore (lv' := [(5, .int x_22), (0, .ref oQ), (1, .int fr), (2, .int en), (3, .int h), (4, .int cs)]) hx hb dX6_offer_43 hl (by decide) rfl (fun ls hl => ?_)
    refine lv_iconst (v := 1) hx hb dX6_offer_45 (by decide) ?_
    refine lv_aload_n hx hb dX6_offer_46 rfl (lv_at hl 1 rfl) ?_
    refine va_get (D := (dC, dI)) (ci := 6) (v := .ref q2) (C := RX6) (T := TX6) (N := 12) hx hb hts in_X6 hown hK hP 0 rfl rfl 8 (by decide) (hts (.fieldLink RX6 30 "TextMender$Parting" "spansFrom" "[I") (List.mem_of_getElem? (i := 2) rfl)) (fun _ h9 => h9) rfl dX6_offer_47 ?_
    refine lv_iload_n hx hb dX6_offer_50 rfl (lv_at hl 3 rfl) ?_
    refine va_iald hx hb hK hP 2 0 rfl rfl (v_inR g_en (by decide) (by decide)) dX6_offer_51 ?_
    refine k_i (y := x_6) ex_6.symm ?_
    refine lv_iadd hx hb dX6_offer_52 ?_
    refine lv_topi (fun x_23 ex_23 => ?_)
    have tx_23 : x_23.toInt = 1 + x_6.toInt := v_add ex_23 (by show -2147483648 ≤ 1 + x_6.toInt; omega) (by show 1 + x_6.toInt < 2147483648; omega)
    refine lv_istore (lv' := [(6, .int x_23), (5, .int x_22), (0, .ref oQ), (1, .int fr), (2, .int en), (3, .int h), (4, .int cs)]) hx hb dX6_offer_53 hl (by decide) rfl (fun ls hl => ?_)
    refine lv_aload_n hx hb dX6_offer_55 rfl (lv_at hl 2 rfl) ?_
    refine va_get (D := (dC, dI)) (ci := 6) (v := .ref q1) (C := RX6) (T := TX6) (N := 12) hx hb hts in_X6 hown hK hP 0 rfl rfl 7 (by decide) (hts (.fieldLink RX6 26 "TextMender$Parting" "leastCost" "[I") (List.mem_of_getElem? (i := 1) rfl)) (fun _ h9 => h9) rfl dX6_offer_56 ?_
    refine lv_iload_n hx hb dX6_offer_59 rfl (lv_at hl 3 rfl) ?_
    refine va_iald hx hb hK hP 1 0 rfl rfl (v_inR g_fr (by decide) (by decide)) dX6_offer_60 ?_
    refine lv_topi (fun x_24 ex_24 => ?_)
    refine lv_iconst (v := (-1)) hx hb dX6_offer_61 (by decide) ?_
    refine lv_icmp_eq (tgt := 78) hx hb dX6_offer_62 (by decide) (fun c_25 => ?_) (fun c_25 => ?_)
    · have tc_25 : x_24.toInt = (-1) := v_eq c_25
      refine lv_aload_n hx hb dX6_offer_78 rfl (lv_at hl 2 rfl) ?_
      refine va_get (D := (dC, dI)) (ci := 6) (v := .ref q1) (C := RX6) (T := TX6) (N := 12) hx hb hts in_X6 hown hK hP 0 rfl rfl 7 (by decide) (hts (.fieldLink RX6 26 "TextMender$Parting" "leastCost" "[I") (List.mem_of_getElem? (i := 1) rfl)) (fun _ h9 => h9) rfl dX6_offer_79 ?_
      refine lv_iload_n hx hb dX6_offer_82 rfl (lv_at hl 3 rfl) ?_
      refine lv_iload hx hb dX6_offer_83 (lv_at hl 1 rfl) ?_
      obtain ⟨f_26, ef_26⟩ : ∃ g : Nat → Int32, g = upd fQ1 (fr : Int32).toNatClampNeg x_22 := ⟨_, rfl⟩
      refine va_iast hx hb hK hP hD hS 1 0 rfl rfl (v_inR g_fr (by decide) (by decide)) dX6_offer_85 (kWf (g := f_26) (F := fun f_26 => [(oQ, .inr (6, [.ref oC, .ref oH, .ref oK, .ref oE, .ref nq, .ref np, .ref nv, .ref q1, .ref q2, .ref q3, .ref q4, .int pr])), (q1, .inl (cI, 61, .inl f_26)), (q2, .inl (cI, 61, .inl fQ2)), (q3, .inl (cI, 61, .inl fQ3)), (q4, .inl (cI, 61, .inl fQ4))]) ef_26 rfl (fun H locs hPn hDn hSn => ?_))
      clear hP hD hS
      have hP := hPn
      have hD := hDn
      have hS := hSn
      clear hPn hDn hSn
      refine lv_aload_n hx hb dX6_offer_86 rfl (lv_at hl 2 rfl) ?_
      refine va_get (D := (dC, dI)) (ci := 6) (v := .ref q2) (C := RX6) (T := TX6) (N := 12) hx hb hts in_X6 hown hK hP 0 rfl rfl 8 (by decide) (hts (.fieldLink RX6 30 "TextMender$Parting" "spansFrom" "[I") (List.mem_of_getElem? (i := 2) rfl)) (fun _ h9 => h9) rfl dX6_offer_87 ?_
      refine lv_iload_n hx hb dX6_offer_90 rfl (lv_at hl 3 rfl) ?_
      refine lv_iload hx hb dX6_offer_91 (lv_at hl 0 rfl) ?_
      obtain ⟨f_27, ef_27⟩ : ∃ g : Nat → Int32, g = upd fQ2 (fr : Int32).toNatClampNeg x_23 := ⟨_, rfl⟩
      refine va_iast hx hb hK hP hD hS 2 0 rfl rfl (v_inR g_fr (by decide) (by decide)) dX6_offer_93 (kWf (g := f_27) (F := fun f_27 => [(oQ, .inr (6, [.ref oC, .ref oH, .ref oK, .ref oE, .ref nq, .ref np, .ref nv, .ref q1, .ref q2, .ref q3, .ref q4, .int pr])), (q1, .inl (cI, 61, .inl f_26)), (q2, .inl (cI, 61, .inl f_27)), (q3, .inl (cI, 61, .inl fQ3)), (q4, .inl (cI, 61, .inl fQ4))]) ef_27 rfl (fun H locs hPn hDn hSn => ?_))
      clear hP hD hS
      have hP := hPn
      have hD := hDn
      have hS := hSn
      clear hPn hDn hSn
      refine lv_aload_n hx hb dX6_offer_94 rfl (lv_at hl 2 rfl) ?_
      refine va_get (D := (dC, dI)) (ci := 6) (v := .ref q3) (C := RX6) (T := TX6) (N := 12) hx hb hts in_X6 hown hK hP 0 rfl rfl 9 (by decide) (hts (.fieldLink RX6 33 "TextMender$Parting" "endOf" "[I") (List.mem_of_getElem? (i := 4) rfl)) (fun _ h9 => h9) rfl dX6_offer_95 ?_
      refine lv_iload_n hx hb dX6_offer_98 rfl (lv_at hl 3 rfl) ?_
      refine lv_iload_n hx hb dX6_offer_99 rfl (lv_at hl 4 rfl) ?_
      obtain ⟨f_28, ef_28⟩ : ∃ g : Nat → Int32, g = upd fQ3 (fr : Int32).toNatClampNeg en := ⟨_, rfl⟩
      refine va_iast hx hb hK hP hD hS 3 0 rfl rfl (v_inR g_fr (by decide) (by decide)) dX6_offer_100 (kWf (g := f_28) (F := fun f_28 => [(oQ, .inr (6, [.ref oC, .ref oH, .ref oK, .ref oE, .ref nq, .ref np, .ref nv, .ref q1, .ref q2, .ref q3, .ref q4, .int pr])), (q1, .inl (cI, 61, .inl f_26)), (q2, .inl (cI, 61, .inl f_27)), (q3, .inl (cI, 61, .inl f_28)), (q4, .inl (cI, 61, .inl fQ4))]) ef_28 rfl (fun H locs hPn hDn hSn => ?_))
      clear hP hD hS
      have hP := hPn
      have hD := hDn
      have hS := hSn
      clear hPn hDn hSn
      refine lv_aload_n hx hb dX6_offer_101 rfl (lv_at hl 2 rfl) ?_
      refine va_get (D := (dC, dI)) (ci := 6) (v := .ref q4) (C := RX6) (T := TX6) (N := 12) hx hb hts in_X6 hown hK hP 0 rfl rfl 10 (by decide) (hts (.fieldLink RX6 36 "TextMender$Parting" "harmOf" "[I") (List.mem_of_getElem? (i := 5) rfl)) (fun _ h9 => h9) rfl dX6_offer_102 ?_
      refine lv_iload_n hx hb dX6_offer_105 rfl (lv_at hl 3 rfl) ?_
      refine lv_iload_n hx hb dX6_offer_106 rfl (lv_at hl 5 rfl) ?_
      obtain ⟨f_29, ef_29⟩ : ∃ g : Nat → Int32, g = upd fQ4 (fr : Int32).toNatClampNeg h := ⟨_, rfl⟩
      refine va_iast hx hb hK hP hD hS 4 0 rfl rfl (v_inR g_fr (by decide) (by decide)) dX6_offer_107 (kWf (g := f_29) (F := fun f_29 => [(oQ, .inr (6, [.ref oC, .ref oH, .ref oK, .ref oE, .ref nq, .ref np, .ref nv, .ref q1, .ref q2, .ref q3, .ref q4, .int pr])), (q1, .inl (cI, 61, .inl f_26)), (q2, .inl (cI, 61, .inl f_27)), (q3, .inl (cI, 61, .inl f_28)), (q4, .inl (cI, 61, .inl f_29))]) ef_29 rfl (fun H locs hPn hDn hSn => ?_))
      clear hP hD hS
      have hP := hPn
      have hD := hDn
      have hS := hSn
      clear hPn hDn hSn
      exact kl_v hQQ hx hb hr hlocks hS dX6_offer_108 ⟨f_26, f_27, f_28, f_29, ⟨hP, hD⟩, ⟨x_22, x_23, by rw [← ex_4, ← ex_6]; first | (rw [if_pos (by omega)]; omega) | (rw [if_neg (by omega)]; omega), by rw [← ex_6]; omega, Or.inl ⟨Or.inl (ex_24.symm.trans c_25), ef_26, ef_27, ef_28, ef_29⟩⟩⟩
    · have tc_25 : ¬ x_24.toInt = (-1) := v_ne c_25
      refine lv_aload_n hx hb dX6_offer_65 rfl (lv_at hl 2 rfl) ?_
      refine lv_iload_n hx hb dX6_offer_66 rfl (lv_at hl 3 rfl) ?_
      refine lv_iload hx hb dX6_offer_67 (lv_at hl 1 rfl) ?_
      refine lv_iload hx hb dX6_offer_69 (lv_at hl 0 rfl) ?_
      refine lv_iload_n hx hb dX6_offer_71 rfl (lv_at hl 4 rfl) ?_
      refine kV_i (rest := []) (q0 := 0) (ci := 6) hcf (f_X6_isBetter l dC dI cI cS s.heap.size oQ oC oH oK oE nq np nv q1 q2 q3 q4 pr fQ1 fQ2 fQ3 fr x_22 x_23 en (v_rr g_fr (by decide) (by decide))) kc_X6_isBetter gX6_offer_X6_isBetter rfl rfl rfl ⟨Nat.le_of_ble_eq_true rfl, Nat.le_of_ble_eq_true rfl⟩ kX_t hK hP hD hS hA [0, 1, 2, 3] [4] rfl (by decide +kernel) rfl rfl rfl hl rfl (Nat.le_of_ble_eq_true rfl) dX6_offer_72 ⟨Nat.le_of_ble_eq_true rfl, Nat.le_of_ble_eq_true rfl⟩ (fun r_30 H locs hB hJ hSn => ?_)
      obtain ⟨⟨hP1, hD1⟩, hf30_0, hf30_1⟩ := hB
      obtain ⟨hPn, hDn⟩ := hJ _ hP1 hD1 [(q4, .inl (cI, 61, .inl fQ4)), (oQ, .inr (6, [.ref oC, .ref oH, .ref oK, .ref oE, .ref nq, .ref np, .ref nv, .ref q1, .ref q2, .ref q3, .ref q4, .int pr])), (q1, .inl (cI, 61, .inl fQ1)), (q2, .inl (cI, 61, .inl fQ2)), (q3, .inl (cI, 61, .inl fQ3))] rfl
      clear hP hD hS hJ hP1 hD1
      have hP := hPn
      have hD := hDn
      have hS := hSn
      clear hPn hDn hSn
      refine lv_if_eq (tgt := 108) hx hb dX6_offer_75 (by decide) (fun c_31 => ?_) (fun c_31 => ?_)
      · have tc_31 : r_30.toInt = 0 := v_eq c_31
        exact kl_v hQQ hx hb hr hlocks hS dX6_offer_108 ⟨fQ1, fQ2, fQ3, fQ4, kPD_sub hP hD [1, 2, 3, 4, 0] (by decide +kernel) rfl, ⟨x_22, x_23, by rw [← ex_4, ← ex_6]; first | (rw [if_pos (by omega)]; omega) | (rw [if_neg (by omega)]; omega), by rw [← ex_6]; omega, Or.inr ⟨fun e9 => c_25 (ex_24.trans e9), ib_0 hf30_1 (by omega), rfl, rfl, rfl, rfl⟩⟩⟩
      · have tc_31 : ¬ r_30.toInt = 0 := v_ne c_31
        refine lv_aload_n hx hb dX6_offer_78 rfl (lv_at hl 2 rfl) ?_
        refine va_get (D := (dC, dI)) (ci := 6) (v := .ref q1) (C := RX6) (T := TX6) (N := 12) hx hb hts in_X6 hown hK hP 1 rfl rfl 7 (by decide) (hts (.fieldLink RX6 26 "TextMender$Parting" "leastCost" "[I") (List.mem_of_getElem? (i := 1) rfl)) (fun _ h9 => h9) rfl dX6_offer_79 ?_
        refine lv_iload_n hx hb dX6_offer_82 rfl (lv_at hl 3 rfl) ?_
        refine lv_iload hx hb dX6_offer_83 (lv_at hl 1 rfl) ?_
        obtain ⟨f_32, ef_32⟩ : ∃ g : Nat → Int32, g = upd fQ1 (fr : Int32).toNatClampNeg x_22 := ⟨_, rfl⟩
        refine va_iast hx hb hK hP hD hS 2 0 rfl rfl (v_inR g_fr (by decide) (by decide)) dX6_offer_85 (kWf (g := f_32) (F := fun f_32 => [(q4, .inl (cI, 61, .inl fQ4)), (oQ, .inr (6, [.ref oC, .ref oH, .ref oK, .ref oE, .ref nq, .ref np, .ref nv, .ref q1, .ref q2, .ref q3, .ref q4, .int pr])), (q1, .inl (cI, 61, .inl f_32)), (q2, .inl (cI, 61, .inl fQ2)), (q3, .inl (cI, 61, .inl fQ3))]) ef_32 rfl (fun H locs hPn hDn hSn => ?_))
        clear hP hD hS
        have hP := hPn
        have hD := hDn
        have hS := hSn
        clear hPn hDn hSn
        refine lv_aload_n hx hb dX6_offer_86 rfl (lv_at hl 2 rfl) ?_
        refine va_get (D := (dC, dI)) (ci := 6) (v := .ref q2) (C := RX6) (T := TX6) (N := 12) hx hb hts in_X6 hown hK hP 1 rfl rfl 8 (by decide) (hts (.fieldLink RX6 30 "TextMender$Parting" "spansFrom" "[I") (List.mem_of_getElem? (i := 2) rfl)) (fun _ h9 => h9) rfl dX6_offer_87 ?_
        refine lv_iload_n hx hb dX6_offer_90 rfl (lv_at hl 3 rfl) ?_
        refine lv_iload hx hb dX6_offer_91 (lv_at hl 0 rfl) ?_
        obtain ⟨f_33, ef_33⟩ : ∃ g : Nat → Int32, g = upd fQ2 (fr : Int32).toNatClampNeg x_23 := ⟨_, rfl⟩
        refine va_iast hx hb hK hP hD hS 3 0 rfl rfl (v_inR g_fr (by decide) (by decide)) dX6_offer_93 (kWf (g := f_33) (F := fun f_33 => [(q4, .inl (cI, 61, .inl fQ4)), (oQ, .inr (6, [.ref oC, .ref oH, .ref oK, .ref oE, .ref nq, .ref np, .ref nv, .ref q1, .ref q2, .ref q3, .ref q4, .int pr])), (q1, .inl (cI, 61, .inl f_32)), (q2, .inl (cI, 61, .inl f_33)), (q3, .inl (cI, 61, .inl fQ3))]) ef_33 rfl (fun H locs hPn hDn hSn => ?_))
        clear hP hD hS
        have hP := hPn
        have hD := hDn
        have hS := hSn
        clear hPn hDn hSn
        refine lv_aload_n hx hb dX6_offer_94 rfl (lv_at hl 2 rfl) ?_
        refine va_get (D := (dC, dI)) (ci := 6) (v := .ref q3) (C := RX6) (T := TX6) (N := 12) hx hb hts in_X6 hown hK hP 1 rfl rfl 9 (by decide) (hts (.fieldLink RX6 33 "TextMender$Parting" "endOf" "[I") (List.mem_of_getElem? (i := 4) rfl)) (fun _ h9 => h9) rfl dX6_offer_95 ?_
        refine lv_iload_n hx hb dX6_offer_98 rfl (lv_at hl 3 rfl) ?_
        refine lv_iload_n hx hb dX6_offer_99 rfl (lv_at hl 4 rfl) ?_
        obtain ⟨f_34, ef_34⟩ : ∃ g : Nat → Int32, g = upd fQ3 (fr : Int32).toNatClampNeg en := ⟨_, rfl⟩
        refine va_iast hx hb hK hP hD hS 4 0 rfl rfl (v_inR g_fr (by decide) (by decide)) dX6_offer_100 (kWf (g := f_34) (F := fun f_34 => [(q4, .inl (cI, 61, .inl fQ4)), (oQ, .inr (6, [.ref oC, .ref oH, .ref oK, .ref oE, .ref nq, .ref np, .ref nv, .ref q1, .ref q2, .ref q3, .ref q4, .int pr])), (q1, .inl (cI, 61, .inl f_32)), (q2, .inl (cI, 61, .inl f_33)), (q3, .inl (cI, 61, .inl f_34))]) ef_34 rfl (fun H locs hPn hDn hSn => ?_))
        clear hP hD hS
        have hP := hPn
        have hD := hDn
        have hS := hSn
        clear hPn hDn hSn
        refine lv_aload_n hx hb dX6_offer_101 rfl (lv_at hl 2 rfl) ?_
        refine va_get (D := (dC, dI)) (ci := 6) (v := .ref q4) (C := RX6) (T := TX6) (N := 12) hx hb hts in_X6 hown hK hP 1 rfl rfl 10 (by decide) (hts (.fieldLink RX6 36 "TextMender$Parting" "harmOf" "[I") (List.mem_of_getElem? (i := 5) rfl)) (fun _ h9 => h9) rfl dX6_offer_102 ?_
        refine lv_iload_n hx hb dX6_offer_105 rfl (lv_at hl 3 rfl) ?_
        refine lv_iload_n hx hb dX6_offer_106 rfl (lv_at hl 5 rfl) ?_
        obtain ⟨f_35, ef_35⟩ : ∃ g : Nat → Int32, g = upd fQ4 (fr : Int32).toNatClampNeg h := ⟨_, rfl⟩
        refine va_iast hx hb hK hP hD hS 0 0 rfl rfl (v_inR g_fr (by decide) (by decide)) dX6_offer_107 (kWf (g := f_35) (F := fun f_35 => [(q4, .inl (cI, 61, .inl f_35)), (oQ, .inr (6, [.ref oC, .ref oH, .ref oK, .ref oE, .ref nq, .ref np, .ref nv, .ref q1, .ref q2, .ref q3, .ref q4, .int pr])), (q1, .inl (cI, 61, .inl f_32)), (q2, .inl (cI, 61, .inl f_33)), (q3, .inl (cI, 61, .inl f_34))]) ef_35 rfl (fun H locs hPn hDn hSn => ?_))
        clear hP hD hS
        have hP := hPn
        have hD := hDn
        have hS := hSn
        clear hPn hDn hSn
        exact kl_v hQQ hx hb hr hlocks hS dX6_offer_108 ⟨f_32, f_33, f_34, f_35, kPD_sub hP hD [1, 2, 3, 4, 0] (by decide +kernel) rfl, ⟨x_22, x_23, by rw [← ex_4, ← ex_6]; first | (rw [if_pos (by omega)]; omega) | (rw [if_neg (by omega)]; omega), by rw [← ex_6]; omega, Or.inl ⟨Or.inr (ib_1 hf30_1 (by omega)), ef_32, ef_33, ef_34, ef_35⟩⟩⟩

end

/-! 59y.a.rows -/
section
set_option maxRecDepth 100000 in
theorem dA309_cX6_tryAsItIs : kDec cX6_tryAsItIs [(0, .iconst 0, 1), (1, .istore 4, 2), (3, .bipush 32, 2), (5, .istore 5, 2), (7, .iload_n 1, 1), (8, .istore 6, 2), (10, .iload 6, 2), (12, .iload_n 3, 1), (13, .if_icmp .ge 61, 3), (74, .return_, 1), (16, .aload_n 2, 1), (17, .iload 6, 2), (19, .invokevirtual 85, 3), (22, .istore 7, 2), (24, .iload 4, 2), (26, .aload_n 0, 1), (27, .getfield 47, 3), (30, .iload 5, 2), (32, .iload 7, 2), (34, .invokevirtual 89, 3), (37, .iadd, 1), (38, .istore 4, 2), (40, .iload 7, 2), (42, .istore 5, 2)] = true := by decide +kernel
theorem dX6_tryAsItIs_0 : decode cX6_tryAsItIs 0 = .ok (.iconst 0, 1) := kDec_at dA309_cX6_tryAsItIs 0 rfl
theorem dX6_tryAsItIs_1 : decode cX6_tryAsItIs 1 = .ok (.istore 4, 2) := kDec_at dA309_cX6_tryAsItIs 1 rfl
theorem dX6_tryAsItIs_3 : decode cX6_tryAsItIs 3 = .ok (.bipush 32, 2) := kDec_at dA309_cX6_tryAsItIs 2 rfl
theorem dX6_tryAsItIs_5 : decode cX6_tryAsItIs 5 = .ok (.istore 5, 2) := kDec_at dA309_cX6_tryAsItIs 3 rfl
theorem dX6_tryAsItIs_7 : decode cX6_tryAsItIs 7 = .ok (.iload_n 1, 1) := kDec_at dA309_cX6_tryAsItIs 4 rfl
theorem dX6_tryAsItIs_8 : decode cX6_tryAsItIs 8 = .ok (.istore 6, 2) := kDec_at dA309_cX6_tryAsItIs 5 rfl
theorem dX6_tryAsItIs_10 : decode cX6_tryAsItIs 10 = .ok (.iload 6, 2) := kDec_at dA309_cX6_tryAsItIs 6 rfl
theorem dX6_tryAsItIs_12 : decode cX6_tryAsItIs 12 = .ok (.iload_n 3, 1) := kDec_at dA309_cX6_tryAsItIs 7 rfl
theorem dX6_tryAsItIs_13 : decode cX6_tryAsItIs 13 = .ok (.if_icmp .ge 61, 3) := kDec_at dA309_cX6_tryAsItIs 8 rfl
theorem dX6_tryAsItIs_74 : decode cX6_tryAsItIs 74 = .ok (.return_, 1) := kDec_at dA309_cX6_tryAsItIs 9 rfl
theorem dX6_tryAsItIs_16 : decode cX6_tryAsItIs 16 = .ok (.aload_n 2, 1) := kDec_at dA309_cX6_tryAsItIs 10 rfl
theorem dX6_tryAsItIs_17 : decode cX6_tryAsItIs 17 = .ok (.iload 6, 2) := kDec_at dA309_cX6_tryAsItIs 11 rfl
theorem dX6_tryAsItIs_19 : decode cX6_tryAsItIs 19 = .ok (.invokevirtual 85, 3) := kDec_at dA309_cX6_tryAsItIs 12 rfl
theorem dX6_tryAsItIs_22 : decode cX6_tryAsItIs 22 = .ok (.istore 7, 2) := kDec_at dA309_cX6_tryAsItIs 13 rfl
theorem dX6_tryAsItIs_24 : decode cX6_tryAsItIs 24 = .ok (.iload 4, 2) := kDec_at dA309_cX6_tryAsItIs 14 rfl
theorem dX6_tryAsItIs_26 : decode cX6_tryAsItIs 26 = .ok (.aload_n 0, 1) := kDec_at dA309_cX6_tryAsItIs 15 rfl
theorem dX6_tryAsItIs_27 : decode cX6_tryAsItIs 27 = .ok (.getfield 47, 3) := kDec_at dA309_cX6_tryAsItIs 16 rfl
theorem dX6_tryAsItIs_30 : decode cX6_tryAsItIs 30 = .ok (.iload 5, 2) := kDec_at dA309_cX6_tryAsItIs 17 rfl
theorem dX6_tryAsItIs_32 : decode cX6_tryAsItIs 32 = .ok (.iload 7, 2) := kDec_at dA309_cX6_tryAsItIs 18 rfl
theorem dX6_tryAsItIs_34 : decode cX6_tryAsItIs 34 = .ok (.invokevirtual 89, 3) := kDec_at dA309_cX6_tryAsItIs 19 rfl
theorem dX6_tryAsItIs_37 : decode cX6_tryAsItIs 37 = .ok (.iadd, 1) := kDec_at dA309_cX6_tryAsItIs 20 rfl
theorem dX6_tryAsItIs_38 : decode cX6_tryAsItIs 38 = .ok (.istore 4, 2) := kDec_at dA309_cX6_tryAsItIs 21 rfl
theorem dX6_tryAsItIs_40 : decode cX6_tryAsItIs 40 = .ok (.iload 7, 2) := kDec_at dA309_cX6_tryAsItIs 22 rfl
theorem dX6_tryAsItIs_42 : decode cX6_tryAsItIs 42 = .ok (.istore 5, 2) := kDec_at dA309_cX6_tryAsItIs 23 rfl
set_option maxRecDepth 20000 in
theorem ggX6_tryAsItIs_X5_get : GoodIn wsX6_tryAsItIs wsX5_get := goodIn_r _ [6, 7, 8, 57, 58] rfl (by decide +kernel)
set_option maxRecDepth 20000 in
theorem gX6_tryAsItIs_X5_get : GoodIn wsX6_tryAsItIs (wsV RX6 85 RX5 yX5_get wsX5_get) := goodIn_app (goodIn_r _ [2, 3, 4, 5] rfl (by decide +kernel)) ggX6_tryAsItIs_X5_get
set_option maxRecDepth 20000 in
theorem ggX6_tryAsItIs_X3_of : GoodIn wsX6_tryAsItIs wsX3_of := goodIn_r _ [13, 14, 15, 16, 17, 18, 12, 19, 20, 21, 22, 23, 24, 25, 26, 27, 28, 29, 30, 59, 60, 61] rfl (by decide +kernel)
set_option maxRecDepth 20000 in
theorem gX6_tryAsItIs_X3_of : GoodIn wsX6_tryAsItIs (wsV RX6 89 RX3 yX3_of wsX3_of) := goodIn_app (goodIn_r _ [9, 10, 11, 12] rfl (by decide +kernel)) ggX6_tryAsItIs_X3_of
set_option maxRecDepth 100000 in
theorem dA310_cX6_tryAsItIs : kDec cX6_tryAsItIs [(44, .aload_n 0, 1), (45, .iload_n 1, 1), (46, .iload 6, 2), (48, .iconst 1, 1), (49, .iadd, 1), (50, .iconst (-1), 1), (51, .iload 4, 2), (53, .aload_n 0, 1), (54, .getfield 47, 3), (57, .iload 7, 2), (59, .bipush 32, 2), (61, .invokevirtual 89, 3), (64, .iadd, 1), (65, .invokevirtual 94, 3), (68, .iinc 6 1, 3), (71, .goto (-61), 3)] = true := by decide +kernel
theorem dX6_tryAsItIs_44 : decode cX6_tryAsItIs 44 = .ok (.aload_n 0, 1) := kDec_at dA310_cX6_tryAsItIs 0 rfl
theorem dX6_tryAsItIs_45 : decode cX6_tryAsItIs 45 = .ok (.iload_n 1, 1) := kDec_at dA310_cX6_tryAsItIs 1 rfl
theorem dX6_tryAsItIs_46 : decode cX6_tryAsItIs 46 = .ok (.iload 6, 2) := kDec_at dA310_cX6_tryAsItIs 2 rfl
theorem dX6_tryAsItIs_48 : decode cX6_tryAsItIs 48 = .ok (.iconst 1, 1) := kDec_at dA310_cX6_tryAsItIs 3 rfl
theorem dX6_tryAsItIs_49 : decode cX6_tryAsItIs 49 = .ok (.iadd, 1) := kDec_at dA310_cX6_tryAsItIs 4 rfl
theorem dX6_tryAsItIs_50 : decode cX6_tryAsItIs 50 = .ok (.iconst (-1), 1) := kDec_at dA310_cX6_tryAsItIs 5 rfl
theorem dX6_tryAsItIs_51 : decode cX6_tryAsItIs 51 = .ok (.iload 4, 2) := kDec_at dA310_cX6_tryAsItIs 6 rfl
theorem dX6_tryAsItIs_53 : decode cX6_tryAsItIs 53 = .ok (.aload_n 0, 1) := kDec_at dA310_cX6_tryAsItIs 7 rfl
theorem dX6_tryAsItIs_54 : decode cX6_tryAsItIs 54 = .ok (.getfield 47, 3) := kDec_at dA310_cX6_tryAsItIs 8 rfl
theorem dX6_tryAsItIs_57 : decode cX6_tryAsItIs 57 = .ok (.iload 7, 2) := kDec_at dA310_cX6_tryAsItIs 9 rfl
theorem dX6_tryAsItIs_59 : decode cX6_tryAsItIs 59 = .ok (.bipush 32, 2) := kDec_at dA310_cX6_tryAsItIs 10 rfl
theorem dX6_tryAsItIs_61 : decode cX6_tryAsItIs 61 = .ok (.invokevirtual 89, 3) := kDec_at dA310_cX6_tryAsItIs 11 rfl
theorem dX6_tryAsItIs_64 : decode cX6_tryAsItIs 64 = .ok (.iadd, 1) := kDec_at dA310_cX6_tryAsItIs 12 rfl
theorem dX6_tryAsItIs_65 : decode cX6_tryAsItIs 65 = .ok (.invokevirtual 94, 3) := kDec_at dA310_cX6_tryAsItIs 13 rfl
theorem dX6_tryAsItIs_68 : decode cX6_tryAsItIs 68 = .ok (.iinc 6 1, 3) := kDec_at dA310_cX6_tryAsItIs 14 rfl
theorem dX6_tryAsItIs_71 : decode cX6_tryAsItIs 71 = .ok (.goto (-61), 3) := kDec_at dA310_cX6_tryAsItIs 15 rfl
set_option maxRecDepth 20000 in
theorem ggX6_tryAsItIs_X6_offer : GoodIn wsX6_tryAsItIs wsX6_offer := goodIn_r _ [35, 36, 37, 38, 39, 40, 41, 42, 43, 34, 44, 45, 46, 47, 48, 49, 50, 51, 52, 53, 54, 55, 56] rfl (by decide +kernel)
set_option maxRecDepth 20000 in
theorem gX6_tryAsItIs_X6_offer : GoodIn wsX6_tryAsItIs (wsV RX6 94 RX6 yX6_offer wsX6_offer) := goodIn_app (goodIn_r _ [31, 32, 33, 34] rfl (by decide +kernel)) ggX6_tryAsItIs_X6_offer

end

/-! 59y.parts -/
section
/-! parts() of the class: one harm undone, span by span; the parting laid together -/
theorem QOK_of {n : Int} {pr fr en h cs : Int32} {i : Nat} {Q1 Q1' Q2 Q2' Q3 Q3' Q4 Q4' : Nat → Int32} (ho : F_of pr fr en h cs Q1 Q1' Q2 Q2' Q3 Q3' Q4 Q4') (ei : fr.toInt = i) (hq : QOK n i Q1 Q2) : QOK n i Q1' Q2' := by
  have cf : fr.toNatClampNeg = i := ix_eq ei
  obtain ⟨sm, sp, s1, s2, s3⟩ := ho
  rw [cf] at s3
  rcases s3 with ⟨t1, t2, t3, t4, t5⟩ | ⟨t1, t2, t3, t4, t5, t6⟩
  · exact QOK_u hq (by omega) (Or.inl t2) (Or.inl t3)
  · rw [t3, t4]; exact hq
theorem QOK_0 {n m : Int} {k : Nat} {Q1 Q1' Q2 Q2' : Nat → Int32} (e1 : Q1' = upd Q1 k 0) (e2 : Q2' = upd Q2 k 0) (hk : (k : Int) = n) (hm : m = n - 1) : QOK n m Q1' Q2' := by
  intro j h1 h2
  have e : j = k := by omega
  have z : (0 : Int32).toInt = 0 := rfl
  rw [e1, e2, e, pk_us, pk_us, z]
  omega
theorem QOK_at {n m : Int} {Q1 Q2 : Nat → Int32} {en : Int32} (h : QOK n m Q1 Q2) (h1 : m < en.toInt) (h0 : 0 ≤ en.toInt) (h2 : en.toInt ≤ n) (h3 : n ≤ 60) (h4 : 0 ≤ m) : (0 ≤ (Q1 en.toNatClampNeg).toInt ∧ (Q1 en.toNatClampNeg).toInt ≤ 5000000) ∧ (0 ≤ (Q2 en.toNatClampNeg).toInt ∧ (Q2 en.toNatClampNeg).toInt ≤ 60) := by
  have c := v_clamp h0
  have q := h en.toNatClampNeg (by omega) (by omega)
  omega
section PR3
variable {U : Nat → Nat → (Nat → Int32) → Nat → (Nat → Int32) → Prop} {T : Int32 → Int32 → Int32}
theorem BFS_0 {z n : Nat} {f : Nat → Int32} {pr : Int} {A : Nat → Int → Prop} {i : Nat} {Q1 Q2 Q3 Q4 : Nat → Int32} (h : Q1 i = -1) (hA : ∀ (j : Nat) (h : Int), A j h → j ≤ i) : BFS U T z n f pr A i Q1 Q2 Q3 Q4 := Or.inl ⟨h, fun j h' s sp a c => by have := hA j h' a; have := c.1; omega⟩
/-- what lies behind i is bare of candidates of harm h from j on -/
theorem BFS_no {z n : Nat} {f : Nat → Int32} {pr : Int} {A A' : Nat → Int → Prop} {i : Nat} {Q1 Q2 Q3 Q4 : Nat → Int32} (b : BFS U T z n f pr A i Q1 Q2 Q3 Q4) (hA : ∀ (j : Nat) (h : Int), A j h → A' j h) (hA' : ∀ (j : Nat) (h : Int), i < j → j ≤ n → A' j h → A j h ∨ (0 ≤ h ∧ ∀ c f', ¬ U h.toNat (j - i) (fun k => f (i + k)) c f')) : BFS U T z n f pr A' i Q1 Q2 Q3 Q4 := by
  refine BFS_A b (fun j h s sp c => ⟨fun a => ?_, hA j h⟩)
  rcases hA' j h c.1 c.2.1 a with w | ⟨w1, w2⟩
  · exact w
  · obtain ⟨_, _, _, _, ⟨c', f', c5, _⟩, _⟩ := c
    rcases c5 with ⟨c5, _⟩ | ⟨_, c5⟩
    · omega
    · exact absurd c5 (w2 _ _)
end PR3
theorem hm_no {m a b : Int32} {g f L4 L5 : Nat → Int32} {Bf : Int32 → Int32} {n : Nat} (hw : WR (fun j => enc a (f j) (Bf (f j))) n m g) (hb : prg m.toInt 0 255 g) (h : ∀ c, rdOk (dl b L4 L5 g m.toInt) m.toInt c → 300 < c) : ∀ (c : Nat) (f2 : Nat → Int32), ¬ HM a b L4 L5 Bf n f c f2 := by
  have q := ps_no (r := 0) (l := 0) (f' := f) (n := (n : Int)) (b := b) (L4 := L4) (L5 := L5) (Bf := Bf) hw hb (fun _ => h) rfl
  rcases q with ⟨q, _⟩ | ⟨_, q⟩
  · exact absurd q (by decide)
  · exact q
theorem hm_enc {a b : Int32} {f L4 L5 : Nat → Int32} {Bf : Int32 → Int32} {n k : Nat} (hk : k < n) (he : enc a (f k) (Bf (f k)) = []) : ∀ (c : Nat) (f2 : Nat → Int32), ¬ HM a b L4 L5 Bf n f c f2 := by
  rintro c f2 ⟨m, g, a1, _⟩
  exact (a1.2 k hk).1 he
theorem WR_pre {E : Nat → List Int} {n n' : Nat} {l l' : Int32} {g g' : Nat → Int32} (h : WR E n l g) (hn : n ≤ n') (h' : WR E n' l' g') : l.toInt ≤ l'.toInt ∧ ∀ k : Nat, (k : Int) < l.toInt → g k = g' k := by
  have q : WR E n l g' := ⟨h.1, fun j hj => h'.2 j (by omega)⟩
  refine ⟨?_, (WR_eq h q).2⟩
  have := psE_le E n' hn
  rw [h.1, h'.1]
  omega
/-- more than 300 letters were read already -/
theorem hm_over {m a b re la su le : Int32} {g f L4 L5 : Nat → Int32} {Bf : Int32 → Int32} {n n' : Nat} {T : Int32 → Int32 → Int32} (hw : WR (fun j => enc a (f j) (Bf (f j))) n m g) (hn : n ≤ n') (hr : RS T re la su le (dl b L4 L5 g m.toInt) (dx b L4 L5 g m.toInt)) (h3 : 300 < le.toInt) (hre : re.toInt ≤ m.toInt) : ∀ (c : Nat) (f2 : Nat → Int32), ¬ HM a b L4 L5 Bf n' f c f2 := by
  rintro c f2 ⟨m', g', a1, a2, a3, a4, _⟩
  obtain ⟨e1, e2⟩ := WR_pre hw hn a1
  have up : ∀ p, ¬ dl b L4 L5 g m.toInt p = 0 → dl b L4 L5 g' m'.toInt p = dl b L4 L5 g m.toInt p ∧ dx b L4 L5 g' m'.toInt p = dx b L4 L5 g m.toInt p := fun p hp => dl_up e2 e1 hp
  obtain ⟨c0, r1, r2, r3, _⟩ := RS_up hr up
  have := psn_lt r2 c0 (show c < c0 by omega) (Nat.le_refl _)
  have := a3.1
  omega
theorem hm_yes {m a b re la su le : Int32} {g f L4 L5 : Nat → Int32} {Bf : Int32 → Int32} {n : Nat} {T : Int32 → Int32 → Int32} (hw : WR (fun j => enc a (f j) (Bf (f j))) n m g) (h9 : m.toInt ≤ 900) (hr : RS T re la su le (dl b L4 L5 g m.toInt) (dx b L4 L5 g m.toInt)) (h3 : le.toInt ≤ 300) (hre : re.toInt = m.toInt) : ∃ c f', HM a b L4 L5 Bf n f c f' ∧ ∀ s : Int32, s.toInt = su.toInt + cF (T la 32) la 32 → s.toInt = cT T c f' := by
  obtain ⟨c, r1, r2, r3, r4, r5⟩ := hr
  refine ⟨c, fun i => dx b L4 L5 g m.toInt (psn (dl b L4 L5 g m.toInt) i), ⟨m, g, hw, h9, ⟨by omega, r2⟩, by omega, fun _ _ => rfl⟩, fun s hs => ?_⟩
  unfold cT
  have e : ((c : Nat) : Int).toNat = c := by omega
  rw [e, ← r4, ← r5]
  exact hs
theorem hm_stop {m a b re la su le : Int32} {g f L4 L5 : Nat → Int32} {Bf : Int32 → Int32} {n : Nat} {T : Int32 → Int32 → Int32} (hw : WR (fun j => enc a (f j) (Bf (f j))) n m g) (hb : prg m.toInt 0 255 g) (hr : RS T re la su le (dl b L4 L5 g m.toInt) (dx b L4 L5 g m.toInt)) (h0 : dl b L4 L5 g m.toInt re.toNatClampNeg = 0) (hre : re.toInt < m.toInt) : ∀ (c : Nat) (f2 : Nat → Int32), ¬ HM a b L4 L5 Bf n f c f2 := by
  obtain ⟨c, r1, r2, r3, r4, r5⟩ := hr
  rw [ix_eq r1] at h0
  exact hm_no hw hb (fun c' w => absurd w (rd_stop r2 h0 (by omega) c'))
theorem wr_sh {E : Nat → List Int} {i i' l l' r cd x B : Int32} {g g' : Nat → Int32} {b : Nat} (h : WR E (i.toInt - b).toNat l g) (hE : E (i.toInt - b).toNat = enc cd x B) (hf : F_en r cd x B l l' g g') (hr : ¬ r.toInt = 0) (h0 : (b : Int) ≤ i.toInt) (hi' : i'.toInt = i.toInt + 1) : WR E (i'.toInt - b).toNat l' g' ∧ l.toInt ≤ l'.toInt ∧ ∀ j : Nat, (j : Int) < l.toInt → g j = g' j := by
  obtain ⟨e1, e2⟩ := F_en_1 hf hr
  have e : (i'.toInt - b).toNat = (i.toInt - b).toNat + 1 := by omega
  refine ⟨?_, by have := e2.1; omega, fun j hj => (e2.2.1 j hj).symm⟩
  rw [e]
  exact WR_s h (by rw [hE]; exact e1) (by rw [hE]; exact e2)
theorem addAll_ap {l l' lo r : Int32} {f f' g : Nat → Int32} (h : F_addAll 300 l l' lo r f f' g) (h0 : 0 ≤ l.toInt) (h1 : 0 ≤ lo.toInt) : (¬ r.toInt = 0 → l'.toInt = l.toInt + lo.toInt ∧ (∀ q : Nat, (q : Int) < l.toInt → f' q = f q) ∧ ∀ q : Nat, (q : Int) < lo.toInt → f' (l.toInt.toNat + q) = g q) ∧ (r.toInt = 0 → 300 < l.toInt + lo.toInt) := by
  have c1 := v_clamp h0
  have c2 := v_clamp h1
  rcases h with ⟨a1, a2, a3, a4⟩ | ⟨a1, a2, a3, a4⟩
  · refine ⟨fun _ => ⟨a2, fun q hq => ?_, fun q hq => ?_⟩, fun w => by rw [a3] at w; exact absurd w (by decide)⟩
    · rw [a4]
      unfold va_cpy
      rw [if_neg (by omega)]
    · rw [a4]
      unfold va_cpy
      rw [if_pos (by omega)]
      congr 1
      omega
  · exact ⟨fun w => absurd (by rw [a3]; rfl) w, fun _ => by omega⟩
section PR4
variable {U : Nat → Nat → (Nat → Int32) → Nat → (Nat → Int32) → Prop} {T : Int32 → Int32 → Int32}
/-- the spans laid together up to fr -/
def LYD (U : Nat → Nat → (Nat → Int32) → Nat → (Nat → Int32) → Prop) (n : Nat) (f E H : Nat → Int32) (fr l : Int32) (g : Nat → Int32) : Prop := ∃ k, RCH U n f E H k fr.toNatClampNeg l.toInt.toNat g
def F_lay (U : Nat → Nat → (Nat → Int32) → Nat → (Nat → Int32) → Prop) (n : Nat) (f E H : Nat → Int32) (r l : Int32) (g : Nat → Int32) : Prop := (r = 1 ∧ ∃ k, RCH U n f E H k n l.toInt.toNat g) ∨ (r = 0 ∧ ∃ (k i a : Nat) (fm : Nat → Int32), RCH U n f E H k i a fm ∧ 300 < a)
theorem lay_s {n m : Nat} {f E H g g2 g' : Nat → Int32} {fr fr' l l2 l' r : Int32} (h : LYD U n f E H fr l g) (hi : fr.toNatClampNeg < n) (hs : SPN U f fr.toNatClampNeg (E fr.toNatClampNeg).toInt.toNat (H fr.toNatClampNeg).toInt m g2) (hm : l2.toInt = m) (ha : F_addAll 300 l l' l2 r g g' g2) (h0 : 0 ≤ l.toInt) (hr : ¬ r.toInt = 0) (hf : fr'.toInt = (E fr.toNatClampNeg).toInt) (hE : 0 ≤ (E fr.toNatClampNeg).toInt) : LYD U n f E H fr' l' g' := by
  obtain ⟨k, hk⟩ := h
  obtain ⟨a1, a2, a3⟩ := (addAll_ap ha h0 (by omega)).1 hr
  have q := RCH_step hk hi hs (fm' := g') (fun q hq => a2 q (by omega)) (fun q hq => a3 q (by omega))
  have e1 : fr'.toNatClampNeg = (E fr.toNatClampNeg).toInt.toNat := ix_eq (by omega)
  have e2 : l'.toInt.toNat = l.toInt.toNat + m := by omega
  exact ⟨k + 1, by rw [e1, e2]; exact q⟩
theorem lay_no {n m : Nat} {f E H g g2 g' f' : Nat → Int32} {fr l l2 l' r q l9 : Int32} (h : LYD U n f E H fr l g) (hi : fr.toNatClampNeg < n) (hs : SPN U f fr.toNatClampNeg (E fr.toNatClampNeg).toInt.toNat (H fr.toNatClampNeg).toInt m g2) (hm : l2.toInt = m) (ha : F_addAll 300 l l' l2 r g g' g2) (h0 : 0 ≤ l.toInt) (hr : r.toInt = 0) (hq : q.toInt = 0) : F_lay U n f E H q l9 f' := by
  obtain ⟨k, hk⟩ := h
  have a := (addAll_ap ha h0 (by omega)).2 hr
  have st := RCH_step hk hi hs (fm' := fun q => if q < l.toInt.toNat then g q else g2 (q - l.toInt.toNat)) (fun q hq => if_pos hq) (fun q hq => by
    show (if l.toInt.toNat + q < l.toInt.toNat then _ else g2 (l.toInt.toNat + q - l.toInt.toNat)) = _
    rw [if_neg (by omega)]
    congr 1
    omega)
  exact Or.inr ⟨v_inj hq, _, _, _, _, st, by omega⟩
theorem lay_end {n : Nat} {f E H g : Nat → Int32} {fr l q : Int32} (h : LYD U n f E H fr l g) (hn : fr.toInt = n) (hq : q.toInt = 1) : F_lay U n f E H q l g := by
  obtain ⟨k, hk⟩ := h
  rw [ix_eq hn] at hk
  exact Or.inl ⟨v_inj hq, k, hk⟩
theorem lay_pt {z n : Nat} {f fm : Nat → Int32} {pr v : Int} {C S E H : Nat → Int32} {r l : Int32} (hB : PBK U T z n f pr 0 C S E H) (h : F_lay U n f E H r l fm) (hr : ¬ r.toInt = 0) (hl : 0 ≤ l.toInt ∧ l.toInt ≤ 300) (h0 : 1 ≤ n ∧ n ≤ 60 ∧ 0 ≤ pr ∧ pr ≤ 1000) (hv : v = (S 0).toInt) : ∃ c : Nat, l.toInt = c ∧ ptP U T z n f pr c fm v := by
  rcases h with ⟨_, k, hk⟩ | ⟨a, _⟩
  · exact ⟨l.toInt.toNat, by omega, h0, C, S, E, H, hB, hv, by omega, k, hk⟩
  · exact absurd (by rw [a]; rfl) hr
theorem lay_pn (hU : okU U) {z n : Nat} {f fm : Nat → Int32} {pr : Int} {C S E H : Nat → Int32} {r l : Int32} (hf : prg n 0 65535 f) (hB : PBK U T z n f pr 0 C S E H) (h : F_lay U n f E H r l fm) (hr : r.toInt = 0) : ∀ c fm v, ¬ ptP U T z n f pr c fm v := by
  rcases h with ⟨a, _⟩ | ⟨_, k, i, a, fm', hk, ha⟩
  · rw [a] at hr; exact absurd hr (by decide)
  · exact pt_big hU hf hB hk ha
theorem PBK_sp {z n : Nat} {f : Nat → Int32} {pr : Int} {C S E H : Nat → Int32} (a : PBK U T z n f pr 0 C S E H) : ∀ i : Nat, i < n → (i : Int) < (E i).toInt ∧ (E i).toInt ≤ n ∧ -1 ≤ (H i).toInt ∧ (H i).toInt < z ∧ ∃ c f', SPN U f i (E i).toInt.toNat (H i).toInt c f' := fun i hi => by
  obtain ⟨a0, a1, _⟩ := a i (by omega) hi
  obtain ⟨b1, b2, b3, b4, ⟨c, f', b5, _⟩, _⟩ := a1
  exact ⟨by omega, by omega, b3, b4, c, f', b5⟩
end PR4

set_option maxHeartbeats 40000000 in
set_option maxRecDepth 100000 in
theorem f_X6_tryAsItIs (l : Launch) (dC : Nat → ClassId) (dI : Nat → Nat → Nat) (cI cS : ClassId) (sz : Nat) (oQ : Nat) (nx : Nat) (oC : Nat) (oH : Nat) (oK : Nat) (oE : Nat) (nq : Nat) (np : Nat) (nv : Nat) (q1 : Nat) (q2 : Nat) (q3 : Nat) (q4 : Nat) (k1 : Nat) (k2 : Nat) (ax : Nat) (pr : Int32) (fQ1 : Nat → Int32) (fQ2 : Nat → Int32) (fQ3 : Nat → Int32) (fQ4 : Nat → Int32) (lK : Int32) (fK1 : Nat → Int32) (fK2 : Nat → Int32) (lx : Int32) (fx : Nat → Int32) (fr : Int32) (n : Int32) (g_pr : 0 ≤ pr.toInt ∧ pr.toInt ≤ 1000) (g_lK : 0 ≤ lK.toInt ∧ lK.toInt ≤ 300) (g_lx : 0 ≤ lx.toInt ∧ lx.toInt ≤ 300) (g_fr : 0 ≤ fr.toInt ∧ fr.toInt ≤ 59) (g_n : 1 ≤ n.toInt ∧ n.toInt ≤ 60) (hfn : fr.toInt < n.toInt) (hnl : n.toInt ≤ lx.toInt) (hlt : prg lx.toInt 0 65535 fx) (hq : QOK (n.toNatClampNeg : Int) (fr.toNatClampNeg : Int) fQ1 fQ2) (hm1 : fQ1 fr.toNatClampNeg = -1) (hT : HT 1024 1023 hsK fK1 fK2) (ho : (occ fK2 1024 : Int) ≤ lK.toInt) (hV : prg 1024 (-1) 200 fK2) : kMv l yX6_tryAsItIs wsX6_tryAsItIs ({ frames := 3, cells := 0, slots := 0, locals := 73 } : Room) [.ref oQ, .int fr, .ref nx, .int n] sz (dC, dI) vwCl [(cI, .int), (cS, .short)] [(oQ, .inr (6, [.ref oC, .ref oH, .ref oK, .ref oE, .ref nq, .ref np, .ref nv, .ref q1, .ref q2, .ref q3, .ref q4, .int pr])), (q1, .inl (cI, 61, .inl fQ1)), (q2, .inl (cI, 61, .inl fQ2)), (q3, .inl (cI, 61, .inl fQ3)), (q4, .inl (cI, 61, .inl fQ4)), (oK, .inr (3, [.ref k1, .ref k2, .int lK])), (k1, .inl (cI, 1024, .inl fK1)), (k2, .inl (cI, 1024, .inl fK2)), (nx, .inr (5, [.ref ax, .int lx])), (ax, .inl (cI, 300, .inl fx))] (fun _ => True) 0 0 (fun (A : Nat → Prop) (hh9 : Heap) => ∃ (fQ1' : Nat → Int32) (fQ2' : Nat → Int32) (fQ3' : Nat → Int32) (fQ4' : Nat → Int32), kPD (dC, dI) vwCl A [(oQ, .inr (6, [.ref oC, .ref oH, .ref oK, .ref oE, .ref nq, .ref np, .ref nv, .ref q1, .ref q2, .ref q3, .ref q4, .int pr])), (q1, .inl (cI, 61, .inl fQ1')), (q2, .inl (cI, 61, .inl fQ2')), (q3, .inl (cI, 61, .inl fQ3')), (q4, .inl (cI, 61, .inl fQ4')), (oK, .inr (3, [.ref k1, .ref k2, .int lK])), (k1, .inl (cI, 1024, .inl fK1)), (k2, .inl (cI, 1024, .inl fK2)), (nx, .inr (5, [.ref ax, .int lx])), (ax, .inl (cI, 300, .inl fx))] hh9 ∧ (QOK (n.toNatClampNeg : Int) (fr.toNatClampNeg : Int) fQ1' fQ2') ∧ (onlyI fr.toNatClampNeg fQ1 fQ1' fQ2 fQ2' fQ3 fQ3' fQ4 fQ4') ∧ (∀ (U : Nat → Nat → (Nat → Int32) → Nat → (Nat → Int32) → Prop) (z : Nat), okU U → BFS U (tcC fK1 fK2) z n.toNatClampNeg fx pr.toInt (fun _ h => h = -1) fr.toNatClampNeg fQ1' fQ2' fQ3' fQ4')) := by
  refine kMv_of (cc := cX6_tryAsItIs) (maxL := 8) (ret := none) (lv := [(0, .ref oQ), (1, .int fr), (2, .ref nx), (3, .int n)]) (by decide +kernel) rfl rfl (Nat.le_of_ble_eq_true rfl) ?_
  intro p e s m below meth c A QQ ls hx hb hr hts hml hown hlocks hA hQQ hK hX hP hD hS hl
  have hown : s.vm.findClass RX6 = some m.cls := hown
  have hcf := k_cf hx hb hml hown hts
  have in_X6 : ∀ w ∈ wsX60, w ∈ wsX6_tryAsItIs := fun _ h => List.mem_cons_of_mem _ (List.mem_append_left _ (List.mem_append_left _ (List.mem_append_right _ (h))))
  have z0 : (0 : Int32).toInt = 0 := rfl
  have z1 : (1 : Int32).toInt = 1 := rfl
  have zm1 : (-1 : Int32).toInt = -1 := rfl
  have cn9 := v_clamp (x := n) (by omega)
  have cf9 := v_clamp (x := fr) (by omega)
  refine lv_iconst (v := 0) hx hb dX6_tryAsItIs_0 (by decide) ?_
  refine lv_istore (lv' := [(4, .int 0), (0, .ref oQ), (1, .int fr), (2, .ref nx), (3, .int n)]) hx hb dX6_tryAsItIs_1 hl (by decide) rfl (fun ls hl => ?_)
  refine lv_bipush (v := 32) hx hb dX6_tryAsItIs_3 (by decide) ?_
  refine lv_istore (lv' := [(5, .int 32), (4, .int 0), (0, .ref oQ), (1, .int fr), (2, .ref nx), (3, .int n)]) hx hb dX6_tryAsItIs_5 hl (by decide) rfl (fun ls hl => ?_)
  refine lv_iload_n hx hb dX6_tryAsItIs_7 rfl (lv_at hl 3 rfl) ?_
  refine lv_istore (lv' := [(6, .int fr), (5, .int 32), (4, .int 0), (0, .ref oQ), (1, .int fr), (2, .ref nx), (3, .int n)]) hx hb dX6_tryAsItIs_8 hl (by decide) rfl (fun ls hl => ?_)
  have LOOP_10 : ∀ (k_10 : Nat) (su : Int32) (la : Int32) (i : Int32) (fq1a : Nat → Int32) (fq2a : Nat → Int32) (fq3a : Nat → Int32) (fq4a : Nat → Int32) (H : Heap) (locs : List Loc) (ls : Array Slot), MSd (60 - i.toInt : Int) k_10 → (0 ≤ su.toInt ∧ su.toInt ≤ 12000) → (0 ≤ la.toInt ∧ la.toInt ≤ 65535) → (0 ≤ i.toInt ∧ i.toInt ≤ 60) → (fr.toInt ≤ i.toInt ∧ i.toInt ≤ n.toInt) → (su.toInt ≤ 200 * (i.toInt - fr.toInt)) → (su.toInt = cs (tcC fK1 fK2) (fun k => fx (fr.toNatClampNeg + k)) (i.toInt - (fr.toNatClampNeg : Int)).toNat) → (la = pv (fun k => fx (fr.toNatClampNeg + k)) (i.toInt - (fr.toNatClampNeg : Int)).toNat) → (QOK (n.toNatClampNeg : Int) (fr.toNatClampNeg : Int) fq1a fq2a) → (onlyI fr.toNatClampNeg fQ1 fq1a fQ2 fq2a fQ3 fq3a fQ4 fq4a) → (∀ (U : Nat → Nat → (Nat → Int32) → Nat → (Nat → Int32) → Prop) (z : Nat), okU U → BFS U (tcC fK1 fK2) z n.toNatClampNeg fx pr.toInt (fun j h => h = -1 ∧ (j : Int) ≤ i.toInt) fr.toNatClampNeg fq1a fq2a fq3a fq4a) → va_P (dC, dI) vwCl [(oQ, .inr (6, [.ref oC, .ref oH, .ref oK, .ref oE, .ref nq, .ref np, .ref nv, .ref q1, .ref q2, .ref q3, .ref q4, .int pr])), (q1, .inl (cI, 61, .inl fq1a)), (q2, .inl (cI, 61, .inl fq2a)), (q3, .inl (cI, 61, .inl fq3a)), (q4, .inl (cI, 61, .inl fq4a)), (oK, .inr (3, [.ref k1, .ref k2, .int lK])), (k1, .inl (cI, 1024, .inl fK1)), (k2, .inl (cI, 1024, .inl fK2)), (nx, .inr (5, [.ref ax, .int lx])), (ax, .inl (cI, 300, .inl fx))] H → va_D A [(oQ, .inr (6, [.ref oC, .ref oH, .ref oK, .ref oE, .ref nq, .ref np, .ref nv, .ref q1, .ref q2, .ref q3, .ref q4, .int pr])), (q1, .inl (cI, 61, .inl fq1a)), (q2, .inl (cI, 61, .inl fq2a)), (q3, .inl (cI, 61, .inl fq3a)), (q4, .inl (cI, 61, .inl fq4a)), (oK, .inr (3, [.ref k1, .ref k2, .int lK])), (k1, .inl (cI, 1024, .inl fK1)), (k2, .inl (cI, 1024, .inl fK2)), (nx, .inr (5, [.ref ax, .int lx])), (ax, .inl (cI, 300, .inl fx))] → va_S A s.heap H locs → lv_has ls 8 [(6, .int i), (5, .int la), (4, .int su), (0, .ref oQ), (1, .int fr), (2, .ref nx), (3, .int n)] → W p l e (headSpec wsX6_tryAsItIs ({ frames := 3, cells := 0, slots := 0, locals := 73 } : Room)).room s m ([.ref oQ, .int fr, .ref nx, .int n] : List Value).toArray below meth c H locs 0 0 (MQ below QQ ([.ref oQ, .int fr, .ref nx, .int n] : List Value).toArray s 0 0 A) (F0 m 10 ls []) := by
    clear hP hD hS hl
    intro k_10
    induction k_10 with
    | zero =>
      intro su la i fq1a fq2a fq3a fq4a H locs ls hm_10 g_su g_la g_i hif hs2 hsu hbe hqk hon hbf hP hD hS hl
      exact ms_0 hm_10
    | succ k_10 ih_10 =>
      intro su la i fq1a fq2a fq3a fq4a H locs ls hm_10 g_su g_la g_i hif hs2 hsu hbe hqk hon hbf hP hD hS hl
      refine lv_iload hx hb dX6_tryAsItIs_10 (lv_at hl 0 rfl) ?_
      refine lv_iload_n hx hb dX6_tryAsItIs_12 rfl (lv_at hl 6 rfl) ?_
      refine lv_icmp_ge (tgt := 74) hx hb dX6_tryAsItIs_13 (by decide) (fun c_1 => ?_) (fun c_1 => ?_)
      · have tc_1 : n.toInt ≤ i.toInt := v_le c_1
        exact kl_v hQQ hx hb hr hlocks hS dX6_tryAsItIs_74 ⟨fq1a, fq2a, fq3a, fq4a, ⟨hP, hD⟩, hqk, hon, fun U z hU => BFS_A (hbf U z hU) (fun j h s sp c9 => by have c8 := c9.2.1; show h = -1 ↔ (h = -1 ∧ (j : Int) ≤ i.toInt); omega)⟩
      · have tc_1 : i.toInt < n.toInt := v_nle c_1
        refine lv_aload_n hx hb dX6_tryAsItIs_16 rfl (lv_at hl 5 rfl) ?_
        refine lv_iload hx hb dX6_tryAsItIs_17 (lv_at hl 0 rfl) ?_
        refine kV_i (rest := []) (q0 := 0) (ci := 5) hcf (m_X5_get l dC dI cI cS H.size nx ax 300 lx fx i (by omega) (by omega)) kc_X5_get gX6_tryAsItIs_X5_get rfl rfl rfl ⟨Nat.le_of_ble_eq_true rfl, Nat.le_of_ble_eq_true rfl⟩ kX_t hK hP hD hS hA [8, 9] [0, 1, 2, 3, 4, 5, 6, 7] rfl (by decide +kernel) rfl rfl rfl hl rfl (Nat.le_of_ble_eq_true rfl) dX6_tryAsItIs_19 ⟨Nat.le_of_ble_eq_true rfl, Nat.le_of_ble_eq_true rfl⟩ (fun r_2 H locs hB hJ hSn => ?_)
        obtain ⟨⟨hP1, hD1⟩, hf2_0⟩ := hB
        obtain ⟨hPn, hDn⟩ := hJ _ hP1 hD1 [(oQ, .inr (6, [.ref oC, .ref oH, .ref oK, .ref oE, .ref nq, .ref np, .ref nv, .ref q1, .ref q2, .ref q3, .ref q4, .int pr])), (q1, .inl (cI, 61, .inl fq1a)), (q2, .inl (cI, 61, .inl fq2a)), (q3, .inl (cI, 61, .inl fq3a)), (q4, .inl (cI, 61, .inl fq4a)), (oK, .inr (3, [.ref k1, .ref k2, .int lK])), (k1, .inl (cI, 1024, .inl fK1)), (k2, .inl (cI, 1024, .inl fK2)), (nx, .inr (5, [.ref ax, .int lx])), (ax, .inl (cI, 300, .inl fx))] rfl
        clear hP hD hS hJ hP1 hD1
        have hP := hPn
        have hD := hDn
        have hS := hSn
        clear hPn hDn hSn
        have hg2 : r_2 = fx i.toNatClampNeg := F_get_f hf2_0 (by omega) (by omega)
        have hgr2 : 0 ≤ r_2.toInt ∧ r_2.toInt ≤ 65535 := prg_at hlt hg2 (by omega) (by omega)
        refine lv_istore (lv' := [(7, .int r_2), (6, .int i), (5, .int la), (4, .int su), (0, .ref oQ), (1, .int fr), (2, .ref nx), (3, .int n)]) hx hb dX6_tryAsItIs_22 hl (by decide) rfl (fun ls hl => ?_)
        refine lv_iload hx hb dX6_tryAsItIs_24 (lv_at hl 3 rfl) ?_
        refine lv_aload_n hx hb dX6_tryAsItIs_26 rfl (lv_at hl 4 rfl) ?_
        refine va_get (D := (dC, dI)) (ci := 6) (v := .ref oK) (C := RX6) (T := TX6) (N := 12) hx hb hts in_X6 hown hK hP 0 rfl rfl 2 (by decide) (hts (.fieldLink RX6 47 "TextMender$Parting" "costs" "LTextMender$Costs;") (List.mem_of_getElem? (i := 1) rfl)) (fun _ h9 => h9) rfl dX6_tryAsItIs_27 ?_
        refine lv_iload hx hb dX6_tryAsItIs_30 (lv_at hl 2 rfl) ?_
        refine lv_iload hx hb dX6_tryAsItIs_32 (lv_at hl 0 rfl) ?_
        refine kV_i (rest := [.int su]) (q0 := 0) (ci := 3) hcf (f_X3_of l dC dI cI cS H.size oK k1 k2 lK fK1 fK2 la r_2 (g_lK) (g_la) (by omega) (hT) (ho) (hV)) kc_X3_of gX6_tryAsItIs_X3_of rfl rfl rfl ⟨Nat.le_of_ble_eq_true rfl, Nat.le_of_ble_eq_true rfl⟩ kX_t hK hP hD hS hA [5, 6, 7] [0, 1, 2, 3, 4, 8, 9] rfl (by decide +kernel) rfl rfl rfl hl rfl (Nat.le_of_ble_eq_true rfl) dX6_tryAsItIs_34 ⟨Nat.le_of_ble_eq_true rfl, Nat.le_of_ble_eq_true rfl⟩ (fun r_3 H locs hB hJ hSn => ?_)
        obtain ⟨⟨hP1, hD1⟩, hf3_0, hf3_1⟩ := hB
        obtain ⟨hPn, hDn⟩ := hJ _ hP1 hD1 [(oQ, .inr (6, [.ref oC, .ref oH, .ref oK, .ref oE, .ref nq, .ref np, .ref nv, .ref q1, .ref q2, .ref q3, .ref q4, .int pr])), (q1, .inl (cI, 61, .inl fq1a)), (q2, .inl (cI, 61, .inl fq2a)), (q3, .inl (cI, 61, .inl fq3a)), (q4, .inl (cI, 61, .inl fq4a)), (nx, .inr (5, [.ref ax, .int lx])), (ax, .inl (cI, 300, .inl fx)), (oK, .inr (3, [.ref k1, .ref k2, .int lK])), (k1, .inl (cI, 1024, .inl fK1)), (k2, .inl (cI, 1024, .inl fK2))] rfl
        clear hP hD hS hJ hP1 hD1
        have hP := hPn
        have hD := hDn
        have hS := hSn
        clear hPn hDn hSn
        refine lv_iadd hx hb dX6_tryAsItIs_37 ?_
        refine lv_topi (fun x_4 ex_4 => ?_)
        have tx_4 : x_4.toInt = su.toInt + r_3.toInt := v_addR ex_4 g_su hf3_0 (by decide) (by decide)
        refine lv_istore (lv' := [(4, .int x_4), (7, .int r_2), (6, .int i), (5, .int la), (0, .ref oQ), (1, .int fr), (2, .ref nx), (3, .int n)]) hx hb dX6_tryAsItIs_38 hl (by decide) rfl (fun ls hl => ?_)
        refine lv_iload hx hb dX6_tryAsItIs_40 (lv_at hl 1 rfl) ?_
        refine lv_istore (lv' := [(5, .int r_2), (4, .int x_4), (7, .int r_2), (6, .int i), (0, .ref oQ), (1, .int fr), (2, .ref nx), (3, .int n)]) hx hb dX6_tryAsItIs_42 hl (by decide) rfl (fun ls hl => ?_)
        refine lv_aload_n hx hb dX6_tryAsItIs_44 rfl (lv_at hl 4 rfl) ?_
        refine lv_iload_n hx hb dX6_tryAsItIs_45 rfl (lv_at hl 5 rfl) ?_
        refine lv_iload hx hb dX6_tryAsItIs_46 (lv_at hl 3 rfl) ?_
        refine lv_iconst (v := 1) hx hb dX6_tryAsItIs_48 (by decide) ?_
        refine lv_iadd hx hb dX6_tryAsItIs_49 ?_
        refine lv_topi (fun x_5 ex_5 => ?_)
        have tx_5 : x_5.toInt = i.toInt + 1 := v_addR (l2 := 1) (h2 := 1) ex_5 g_i (by decide) (by decide) (by decide)
        refine lv_iconst (v := (-1)) hx hb dX6_tryAsItIs_50 (by decide) ?_
        refine lv_iload hx hb dX6_tryAsItIs_51 (lv_at hl 1 rfl) ?_
        refine lv_aload_n hx hb dX6_tryAsItIs_53 rfl (lv_at hl 4 rfl) ?_
        refine va_get (D := (dC, dI)) (ci := 6) (v := .ref oK) (C := RX6) (T := TX6) (N := 12) hx hb hts in_X6 hown hK hP 0 rfl rfl 2 (by decide) (hts (.fieldLink RX6 47 "TextMender$Parting" "costs" "LTextMender$Costs;") (List.mem_of_getElem? (i := 1) rfl)) (fun _ h9 => h9) rfl dX6_tryAsItIs_54 ?_
        refine lv_iload hx hb dX6_tryAsItIs_57 (lv_at hl 2 rfl) ?_
        refine lv_bipush (v := 32) hx hb dX6_tryAsItIs_59 (by decide) ?_
        refine kV_i (rest := [.int x_4, .int (-1), .int x_5, .int fr, .ref oQ]) (q0 := 0) (ci := 3) hcf (f_X3_of l dC dI cI cS H.size oK k1 k2 lK fK1 fK2 r_2 32 (g_lK) (by omega) (by decide) (hT) (ho) (hV)) kc_X3_of gX6_tryAsItIs_X3_of rfl rfl rfl ⟨Nat.le_of_ble_eq_true rfl, Nat.le_of_ble_eq_true rfl⟩ kX_t hK hP hD hS hA [7, 8, 9] [0, 1, 2, 3, 4, 5, 6] rfl (by decide +kernel) rfl rfl rfl hl rfl (Nat.le_of_ble_eq_true rfl) dX6_tryAsItIs_61 ⟨Nat.le_of_ble_eq_true rfl, Nat.le_of_ble_eq_true rfl⟩ (fun r_6 H locs hB hJ hSn => ?_)
        obtain ⟨⟨hP1, hD1⟩, hf6_0, hf6_1⟩ := hB
        obtain ⟨hPn, hDn⟩ := hJ _ hP1 hD1 [(oQ, .inr (6, [.ref oC, .ref oH, .ref oK, .ref oE, .ref nq, .ref np, .ref nv, .ref q1, .ref q2, .ref q3, .ref q4, .int pr])), (q1, .inl (cI, 61, .inl fq1a)), (q2, .inl (cI, 61, .inl fq2a)), (q3, .inl (cI, 61, .inl fq3a)), (q4, .inl (cI, 61, .inl fq4a)), (nx, .inr (5, [.ref ax, .int lx])), (ax, .inl (cI, 300, .inl fx)), (oK, .inr (3, [.ref k1, .ref k2, .int lK])), (k1, .inl (cI, 1024, .inl fK1)), (k2, .inl (cI, 1024, .inl fK2))] rfl
        clear hP hD hS hJ hP1 hD1
        have hP := hPn
        have hD := hDn
        have hS := hSn
        clear hPn hDn hSn
        refine lv_iadd hx hb dX6_tryAsItIs_64 ?_
        refine lv_topi (fun x_7 ex_7 => ?_)
        have tx_7 : x_7.toInt = x_4.toInt + r_6.toInt := v_addR ex_7 (v_sumR (l := 0) (h := 12200) tx_4 g_su hf3_0 (by decide) (by decide)) hf6_0 (by decide) (by decide)
        refine kV_v (rest := []) (q0 := 0) (ci := 6) hcf (f_X6_offer l dC dI cI cS H.size oQ oC oH oK oE nq np nv q1 q2 q3 q4 pr fq1a fq2a fq3a fq4a fr x_5 (-1) x_7 (g_pr) (g_fr) (by omega) (v_rr (v_sumR (l := 0) (h := 12400) tx_7 (v_sumR (l := 0) (h := 12200) tx_4 g_su hf3_0 (by decide) (by decide)) hf6_0 (by decide) (by decide)) (by decide) (by decide)) (by omega) ((QOK_at (en := x_5) hqk (by omega) (by omega) (by omega) (by omega) (by omega)).1) ((QOK_at (en := x_5) hqk (by omega) (by omega) (by omega) (by omega) (by omega)).2)) kc_X6_offer gX6_tryAsItIs_X6_offer rfl rfl rfl ⟨Nat.le_of_ble_eq_true rfl, Nat.le_of_ble_eq_true rfl⟩ kX_t hK hP hD hS hA [0, 1, 2, 3, 4] [5, 6, 7, 8, 9] rfl (by decide +kernel) rfl rfl rfl hl rfl (Nat.le_of_ble_eq_true rfl) dX6_tryAsItIs_65 ⟨Nat.le_of_ble_eq_true rfl, Nat.le_of_ble_eq_true rfl⟩ (fun H locs hB hJ hSn => ?_)
        obtain ⟨fQ1_8, fQ2_8, fQ3_8, fQ4_8, ⟨hP1, hD1⟩, hf8_0⟩ := hB
        obtain ⟨hPn, hDn⟩ := hJ _ hP1 hD1 [(nx, .inr (5, [.ref ax, .int lx])), (ax, .inl (cI, 300, .inl fx)), (oK, .inr (3, [.ref k1, .ref k2, .int lK])), (k1, .inl (cI, 1024, .inl fK1)), (k2, .inl (cI, 1024, .inl fK2)), (oQ, .inr (6, [.ref oC, .ref oH, .ref oK, .ref oE, .ref nq, .ref np, .ref nv, .ref q1, .ref q2, .ref q3, .ref q4, .int pr])), (q1, .inl (cI, 61, .inl fQ1_8)), (q2, .inl (cI, 61, .inl fQ2_8)), (q3, .inl (cI, 61, .inl fQ3_8)), (q4, .inl (cI, 61, .inl fQ4_8))] rfl
        clear hP hD hS hJ hP1 hD1
        have hP := hPn
        have hD := hDn
        have hS := hSn
        clear hPn hDn hSn
        obtain ⟨x_9, ex_9⟩ : ∃ y : Int32, y = i + 1 := ⟨_, rfl⟩
        have tx_9 : x_9.toInt = i.toInt + 1 := v_addR (l2 := 1) (h2 := 1) ex_9 g_i (by decide) (by decide) (by decide)
        refine lv_iinc (v := x_9) (lv' := [(6, .int x_9), (5, .int r_2), (4, .int x_4), (7, .int r_2), (0, .ref oQ), (1, .int fr), (2, .ref nx), (3, .int n)]) hx hb dX6_tryAsItIs_68 hl (k := 3) rfl (by rw [ex_9]; rfl) (by decide) rfl (fun ls hl => ?_)
        refine lv_goto (tgt := 10) hx hb dX6_tryAsItIs_71 (by decide) ?_
        exact ih_10 x_4 r_2 x_9 fQ1_8 fQ2_8 fQ3_8 fQ4_8 _ _ _ (ms_lt hm_10 (by show ((60 - x_9.toInt : Int)) < 60 - i.toInt; omega) (by show (0 : Int) < 60 - i.toInt; omega)) (by show 0 ≤ x_4.toInt ∧ x_4.toInt ≤ 12000; omega) (by show 0 ≤ r_2.toInt ∧ r_2.toInt ≤ 65535; omega) (by show 0 ≤ x_9.toInt ∧ x_9.toInt ≤ 60; omega) (by show fr.toInt ≤ x_9.toInt ∧ x_9.toInt ≤ n.toInt; omega) (by show x_4.toInt ≤ 200 * (x_9.toInt - fr.toInt); omega) ((sh_s (i' := x_9) hsu hbe hg2 hf3_1 (by omega) (by omega) (by omega)).1) ((sh_s (i' := x_9) hsu hbe hg2 hf3_1 (by omega) (by omega) (by omega)).2) (QOK_of hf8_0 (by omega) hqk) (only_t hon (only_of hf8_0 (by omega))) (fun U z hU => (BFS_off hU (hbf U z hU) hf8_0 hqk (by omega) (fun j hj => hlt j (by omega)) (by omega) (by omega) (by omega) ⟨by omega, by omega⟩ (c := (x_9.toInt - (fr.toNatClampNeg : Int)).toNat) (g := (fun k => fx (fr.toNatClampNeg + k))) (Or.inl ⟨rfl, by have c9 := v_clamp (x := x_5) (by omega); omega, fun _ _ => rfl⟩) (sh_c (i := x_9) (sh_s hsu hbe hg2 hf3_1 (by omega) (by omega) (by omega)).1 (sh_s hsu hbe hg2 hf3_1 (by omega) (by omega) (by omega)).2 hf6_1 (by omega)) (by omega) (by omega) (fun j2 h2 => by have c9 := v_clamp (x := x_5) (by omega); show (h2 = -1 ∧ (j2 : Int) ≤ x_9.toInt) ↔ ((h2 = -1 ∧ (j2 : Int) ≤ i.toInt) ∨ (j2 = x_5.toNatClampNeg ∧ h2 = (-1 : Int32).toInt)); omega) (fun j2 h2 q9 => by have q8 : h2 = -1 ∧ (j2 : Int) ≤ i.toInt := q9; omega)).1) (hP.sub [5, 6, 7, 8, 9, 2, 3, 4, 0, 1] rfl) (hD.sub [5, 6, 7, 8, 9, 2, 3, 4, 0, 1] (by decide +kernel) rfl) hS (lv_sub hl [0, 1, 2, 4, 5, 6, 7] rfl)
  exact LOOP_10 _ 0 32 fr fQ1 fQ2 fQ3 fQ4 _ _ _ (ms_s _) (by decide) (by decide) (v_rr g_fr (by decide) (by decide)) (by show fr.toInt ≤ fr.toInt ∧ fr.toInt ≤ n.toInt; omega) (by show 0 ≤ 200 * (fr.toInt - fr.toInt); omega) (by rw [show (fr.toInt - (fr.toNatClampNeg : Int)).toNat = 0 by omega]; rfl) (by rw [show (fr.toInt - (fr.toNatClampNeg : Int)).toNat = 0 by omega]; rfl) (hq) (only_r) (fun U z hU => BFS_0 hm1 (fun j h q9 => by have q8 : h = -1 ∧ (j : Int) ≤ fr.toInt := q9; omega)) hP hD hS (lv_sub hl [0, 1, 2, 3, 4, 5, 6] rfl)

end

/-! 59z.a.rows -/
section
set_option maxRecDepth 100000 in
theorem dA311_cX6_tryUndone : kDec cX6_tryUndone [(0, .aload_n 0, 1), (1, .getfield 56, 3), (4, .invokevirtual 98, 3), (7, .aload_n 0, 1), (8, .getfield 14, 3), (11, .iconst 0, 1), (12, .invokevirtual 101, 3), (15, .iload_n 2, 1), (16, .istore 5, 2), (18, .iload 5, 2), (20, .iload 4, 2), (22, .if_icmp .ge 114, 3), (136, .return_, 1), (25, .aload_n 0, 1), (26, .getfield 39, 3), (29, .aload_n 0, 1), (30, .getfield 43, 3), (33, .iload_n 1, 1), (34, .invokevirtual 104, 3), (37, .aload_n 3, 1), (38, .iload 5, 2), (40, .invokevirtual 85, 3), (43, .aload_n 0, 1), (44, .getfield 14, 3)] = true := by decide +kernel
theorem dX6_tryUndone_0 : decode cX6_tryUndone 0 = .ok (.aload_n 0, 1) := kDec_at dA311_cX6_tryUndone 0 rfl
theorem dX6_tryUndone_1 : decode cX6_tryUndone 1 = .ok (.getfield 56, 3) := kDec_at dA311_cX6_tryUndone 1 rfl
theorem dX6_tryUndone_4 : decode cX6_tryUndone 4 = .ok (.invokevirtual 98, 3) := kDec_at dA311_cX6_tryUndone 2 rfl
theorem dX6_tryUndone_7 : decode cX6_tryUndone 7 = .ok (.aload_n 0, 1) := kDec_at dA311_cX6_tryUndone 3 rfl
theorem dX6_tryUndone_8 : decode cX6_tryUndone 8 = .ok (.getfield 14, 3) := kDec_at dA311_cX6_tryUndone 4 rfl
theorem dX6_tryUndone_11 : decode cX6_tryUndone 11 = .ok (.iconst 0, 1) := kDec_at dA311_cX6_tryUndone 5 rfl
theorem dX6_tryUndone_12 : decode cX6_tryUndone 12 = .ok (.invokevirtual 101, 3) := kDec_at dA311_cX6_tryUndone 6 rfl
theorem dX6_tryUndone_15 : decode cX6_tryUndone 15 = .ok (.iload_n 2, 1) := kDec_at dA311_cX6_tryUndone 7 rfl
theorem dX6_tryUndone_16 : decode cX6_tryUndone 16 = .ok (.istore 5, 2) := kDec_at dA311_cX6_tryUndone 8 rfl
theorem dX6_tryUndone_18 : decode cX6_tryUndone 18 = .ok (.iload 5, 2) := kDec_at dA311_cX6_tryUndone 9 rfl
theorem dX6_tryUndone_20 : decode cX6_tryUndone 20 = .ok (.iload 4, 2) := kDec_at dA311_cX6_tryUndone 10 rfl
theorem dX6_tryUndone_22 : decode cX6_tryUndone 22 = .ok (.if_icmp .ge 114, 3) := kDec_at dA311_cX6_tryUndone 11 rfl
theorem dX6_tryUndone_136 : decode cX6_tryUndone 136 = .ok (.return_, 1) := kDec_at dA311_cX6_tryUndone 12 rfl
theorem dX6_tryUndone_25 : decode cX6_tryUndone 25 = .ok (.aload_n 0, 1) := kDec_at dA311_cX6_tryUndone 13 rfl
theorem dX6_tryUndone_26 : decode cX6_tryUndone 26 = .ok (.getfield 39, 3) := kDec_at dA311_cX6_tryUndone 14 rfl
theorem dX6_tryUndone_29 : decode cX6_tryUndone 29 = .ok (.aload_n 0, 1) := kDec_at dA311_cX6_tryUndone 15 rfl
theorem dX6_tryUndone_30 : decode cX6_tryUndone 30 = .ok (.getfield 43, 3) := kDec_at dA311_cX6_tryUndone 16 rfl
theorem dX6_tryUndone_33 : decode cX6_tryUndone 33 = .ok (.iload_n 1, 1) := kDec_at dA311_cX6_tryUndone 17 rfl
theorem dX6_tryUndone_34 : decode cX6_tryUndone 34 = .ok (.invokevirtual 104, 3) := kDec_at dA311_cX6_tryUndone 18 rfl
theorem dX6_tryUndone_37 : decode cX6_tryUndone 37 = .ok (.aload_n 3, 1) := kDec_at dA311_cX6_tryUndone 19 rfl
theorem dX6_tryUndone_38 : decode cX6_tryUndone 38 = .ok (.iload 5, 2) := kDec_at dA311_cX6_tryUndone 20 rfl
theorem dX6_tryUndone_40 : decode cX6_tryUndone 40 = .ok (.invokevirtual 85, 3) := kDec_at dA311_cX6_tryUndone 21 rfl
theorem dX6_tryUndone_43 : decode cX6_tryUndone 43 = .ok (.aload_n 0, 1) := kDec_at dA311_cX6_tryUndone 22 rfl
theorem dX6_tryUndone_44 : decode cX6_tryUndone 44 = .ok (.getfield 14, 3) := kDec_at dA311_cX6_tryUndone 23 rfl
set_option maxRecDepth 20000 in
theorem ggX6_tryUndone_X8_begin : GoodIn wsX6_tryUndone wsX8_begin := goodIn_r _ [9, 10, 11, 12, 13, 186, 187, 188, 189, 190, 191] rfl (by decide +kernel)
set_option maxRecDepth 20000 in
theorem gX6_tryUndone_X8_begin : GoodIn wsX6_tryUndone (wsV RX6 98 RX8 yX8_begin wsX8_begin) := goodIn_app (goodIn_r _ [5, 6, 7, 8] rfl (by decide +kernel)) ggX6_tryUndone_X8_begin
set_option maxRecDepth 20000 in
theorem ggX6_tryUndone_X5_cut : GoodIn wsX6_tryUndone wsX5_cut := goodIn_r _ [18, 19, 192, 193] rfl (by decide +kernel)
set_option maxRecDepth 20000 in
theorem gX6_tryUndone_X5_cut : GoodIn wsX6_tryUndone (wsV RX6 101 RX5 yX5_cut wsX5_cut) := goodIn_app (goodIn_r _ [14, 15, 16, 17] rfl (by decide +kernel)) ggX6_tryUndone_X5_cut
set_option maxRecDepth 20000 in
theorem ggX6_tryUndone_X4_readIn : GoodIn wsX6_tryUndone wsX4_readIn := goodIn_r _ [24, 25, 26, 194, 195, 196, 197] rfl (by decide +kernel)
set_option maxRecDepth 20000 in
theorem gX6_tryUndone_X4_readIn : GoodIn wsX6_tryUndone (wsV RX6 104 RX4 yX4_readIn wsX4_readIn) := goodIn_app (goodIn_r _ [20, 21, 22, 23] rfl (by decide +kernel)) ggX6_tryUndone_X4_readIn
set_option maxRecDepth 20000 in
theorem ggX6_tryUndone_X5_get : GoodIn wsX6_tryUndone wsX5_get := goodIn_r _ [30, 19, 31, 192, 193] rfl (by decide +kernel)
set_option maxRecDepth 20000 in
theorem gX6_tryUndone_X5_get : GoodIn wsX6_tryUndone (wsV RX6 85 RX5 yX5_get wsX5_get) := goodIn_app (goodIn_r _ [27, 28, 29, 17] rfl (by decide +kernel)) ggX6_tryUndone_X5_get
set_option maxRecDepth 20000 in
theorem ggX6_tryUndone_X2_encode : GoodIn wsX6_tryUndone wsX2_encode := goodIn_r _ [36, 37, 38, 39, 17, 40, 19, 31, 41, 42, 35, 43, 44, 45, 46, 47, 48, 49, 50, 51, 52, 53, 54, 55, 56, 57, 58, 59, 60, 61, 62, 63, 64, 65, 66, 67, 192, 193, 198, 199, 200, 201, 202, 203] rfl (by decide +kernel)
set_option maxRecDepth 20000 in
theorem gX6_tryUndone_X2_encode : GoodIn wsX6_tryUndone (wsV RX6 107 RX2 yX2_encode wsX2_encode) := goodIn_app (goodIn_r _ [32, 33, 34, 35] rfl (by decide +kernel)) ggX6_tryUndone_X2_encode
set_option maxRecDepth 100000 in
theorem dA312_cX6_tryUndone : kDec cX6_tryUndone [(47, .invokevirtual 107, 3), (50, .ifCond .ne 4, 3), (54, .aload_n 0, 1), (55, .getfield 56, 3), (58, .aload_n 0, 1), (59, .getfield 43, 3), (62, .iload_n 1, 1), (63, .invokevirtual 113, 3), (66, .aload_n 0, 1), (67, .getfield 14, 3), (70, .aload_n 0, 1), (71, .getfield 14, 3), (74, .invokevirtual 64, 3), (77, .invokevirtual 116, 3), (80, .aload_n 0, 1), (81, .getfield 56, 3), (84, .invokevirtual 119, 3), (87, .sipush 300, 3), (90, .if_icmp .le 4, 3), (94, .aload_n 0, 1), (95, .getfield 56, 3), (98, .invokevirtual 122, 3), (101, .aload_n 0, 1), (102, .getfield 14, 3)] = true := by decide +kernel
theorem dX6_tryUndone_47 : decode cX6_tryUndone 47 = .ok (.invokevirtual 107, 3) := kDec_at dA312_cX6_tryUndone 0 rfl
theorem dX6_tryUndone_50 : decode cX6_tryUndone 50 = .ok (.ifCond .ne 4, 3) := kDec_at dA312_cX6_tryUndone 1 rfl
theorem dX6_tryUndone_54 : decode cX6_tryUndone 54 = .ok (.aload_n 0, 1) := kDec_at dA312_cX6_tryUndone 2 rfl
theorem dX6_tryUndone_55 : decode cX6_tryUndone 55 = .ok (.getfield 56, 3) := kDec_at dA312_cX6_tryUndone 3 rfl
theorem dX6_tryUndone_58 : decode cX6_tryUndone 58 = .ok (.aload_n 0, 1) := kDec_at dA312_cX6_tryUndone 4 rfl
theorem dX6_tryUndone_59 : decode cX6_tryUndone 59 = .ok (.getfield 43, 3) := kDec_at dA312_cX6_tryUndone 5 rfl
theorem dX6_tryUndone_62 : decode cX6_tryUndone 62 = .ok (.iload_n 1, 1) := kDec_at dA312_cX6_tryUndone 6 rfl
theorem dX6_tryUndone_63 : decode cX6_tryUndone 63 = .ok (.invokevirtual 113, 3) := kDec_at dA312_cX6_tryUndone 7 rfl
theorem dX6_tryUndone_66 : decode cX6_tryUndone 66 = .ok (.aload_n 0, 1) := kDec_at dA312_cX6_tryUndone 8 rfl
theorem dX6_tryUndone_67 : decode cX6_tryUndone 67 = .ok (.getfield 14, 3) := kDec_at dA312_cX6_tryUndone 9 rfl
theorem dX6_tryUndone_70 : decode cX6_tryUndone 70 = .ok (.aload_n 0, 1) := kDec_at dA312_cX6_tryUndone 10 rfl
theorem dX6_tryUndone_71 : decode cX6_tryUndone 71 = .ok (.getfield 14, 3) := kDec_at dA312_cX6_tryUndone 11 rfl
theorem dX6_tryUndone_74 : decode cX6_tryUndone 74 = .ok (.invokevirtual 64, 3) := kDec_at dA312_cX6_tryUndone 12 rfl
theorem dX6_tryUndone_77 : decode cX6_tryUndone 77 = .ok (.invokevirtual 116, 3) := kDec_at dA312_cX6_tryUndone 13 rfl
theorem dX6_tryUndone_80 : decode cX6_tryUndone 80 = .ok (.aload_n 0, 1) := kDec_at dA312_cX6_tryUndone 14 rfl
theorem dX6_tryUndone_81 : decode cX6_tryUndone 81 = .ok (.getfield 56, 3) := kDec_at dA312_cX6_tryUndone 15 rfl
theorem dX6_tryUndone_84 : decode cX6_tryUndone 84 = .ok (.invokevirtual 119, 3) := kDec_at dA312_cX6_tryUndone 16 rfl
theorem dX6_tryUndone_87 : decode cX6_tryUndone 87 = .ok (.sipush 300, 3) := kDec_at dA312_cX6_tryUndone 17 rfl
theorem dX6_tryUndone_90 : decode cX6_tryUndone 90 = .ok (.if_icmp .le 4, 3) := kDec_at dA312_cX6_tryUndone 18 rfl
theorem dX6_tryUndone_94 : decode cX6_tryUndone 94 = .ok (.aload_n 0, 1) := kDec_at dA312_cX6_tryUndone 19 rfl
theorem dX6_tryUndone_95 : decode cX6_tryUndone 95 = .ok (.getfield 56, 3) := kDec_at dA312_cX6_tryUndone 20 rfl
theorem dX6_tryUndone_98 : decode cX6_tryUndone 98 = .ok (.invokevirtual 122, 3) := kDec_at dA312_cX6_tryUndone 21 rfl
theorem dX6_tryUndone_101 : decode cX6_tryUndone 101 = .ok (.aload_n 0, 1) := kDec_at dA312_cX6_tryUndone 22 rfl
theorem dX6_tryUndone_102 : decode cX6_tryUndone 102 = .ok (.getfield 14, 3) := kDec_at dA312_cX6_tryUndone 23 rfl
set_option maxRecDepth 20000 in
theorem ggX6_tryUndone_X4_writtenIn : GoodIn wsX6_tryUndone wsX4_writtenIn := goodIn_r _ [71, 25, 72, 194, 195, 196, 197] rfl (by decide +kernel)
set_option maxRecDepth 20000 in
theorem gX6_tryUndone_X4_writtenIn : GoodIn wsX6_tryUndone (wsV RX6 113 RX4 yX4_writtenIn wsX4_writtenIn) := goodIn_app (goodIn_r _ [68, 69, 70, 23] rfl (by decide +kernel)) ggX6_tryUndone_X4_writtenIn
set_option maxRecDepth 20000 in
theorem ggX6_tryUndone_X5_length : GoodIn wsX6_tryUndone wsX5_length := goodIn_r _ [76, 19, 192, 193] rfl (by decide +kernel)
set_option maxRecDepth 20000 in
theorem gX6_tryUndone_X5_length : GoodIn wsX6_tryUndone (wsV RX6 64 RX5 yX5_length wsX5_length) := goodIn_app (goodIn_r _ [73, 74, 75, 17] rfl (by decide +kernel)) ggX6_tryUndone_X5_length
set_option maxRecDepth 20000 in
theorem ggX6_tryUndone_X8_goOn : GoodIn wsX6_tryUndone wsX8_goOn := goodIn_r _ [80, 10, 81, 82, 83, 8, 84, 85, 12, 86, 11, 13, 87, 88, 89, 90, 91, 92, 93, 35, 94, 95, 28, 29, 17, 30, 19, 31, 96, 97, 98, 99, 50, 51, 52, 53, 54, 55, 100, 101, 102, 59, 103, 104, 105, 106, 107, 108, 109, 110, 111, 112, 113, 114, 115, 116, 117, 118, 119, 44, 45, 46, 120, 121, 122, 123, 124, 125, 126, 127, 128, 129, 130, 131, 132, 133, 134, 135, 136, 137, 138, 139, 140, 141, 142, 143, 144, 145, 146, 147, 186, 187, 188, 189, 190, 191, 192, 193, 198, 199, 200, 201, 202, 203, 204, 205, 206] rfl (by decide +kernel)
set_option maxRecDepth 20000 in
theorem gX6_tryUndone_X8_goOn : GoodIn wsX6_tryUndone (wsV RX6 116 RX8 yX8_goOn wsX8_goOn) := goodIn_app (goodIn_r _ [77, 78, 79, 8] rfl (by decide +kernel)) ggX6_tryUndone_X8_goOn
set_option maxRecDepth 20000 in
theorem ggX6_tryUndone_X8_letters : GoodIn wsX6_tryUndone wsX8_letters := goodIn_r _ [151, 13, 186, 187, 188, 189, 190, 191] rfl (by decide +kernel)
set_option maxRecDepth 20000 in
theorem gX6_tryUndone_X8_letters : GoodIn wsX6_tryUndone (wsV RX6 119 RX8 yX8_letters wsX8_letters) := goodIn_app (goodIn_r _ [148, 149, 150, 8] rfl (by decide +kernel)) ggX6_tryUndone_X8_letters
set_option maxRecDepth 20000 in
theorem ggX6_tryUndone_X8_reached : GoodIn wsX6_tryUndone wsX8_reached := goodIn_r _ [155, 10, 186, 187, 188, 189, 190, 191] rfl (by decide +kernel)
set_option maxRecDepth 20000 in
theorem gX6_tryUndone_X8_reached : GoodIn wsX6_tryUndone (wsV RX6 122 RX8 yX8_reached wsX8_reached) := goodIn_app (goodIn_r _ [152, 153, 154, 8] rfl (by decide +kernel)) ggX6_tryUndone_X8_reached
set_option maxRecDepth 100000 in
theorem dA313_cX6_tryUndone : kDec cX6_tryUndone [(105, .invokevirtual 64, 3), (108, .if_icmp .ne 22, 3), (130, .iinc 5 1, 3), (133, .goto (-115), 3), (111, .aload_n 0, 1), (112, .iload_n 2, 1), (113, .iload 5, 2), (115, .iconst 1, 1), (116, .iadd, 1), (117, .iload_n 1, 1), (118, .aload_n 0, 1), (119, .getfield 56, 3), (122, .bipush 32, 2), (124, .invokevirtual 125, 3), (127, .invokevirtual 94, 3), (93, .return_, 1), (53, .return_, 1)] = true := by decide +kernel
theorem dX6_tryUndone_105 : decode cX6_tryUndone 105 = .ok (.invokevirtual 64, 3) := kDec_at dA313_cX6_tryUndone 0 rfl
theorem dX6_tryUndone_108 : decode cX6_tryUndone 108 = .ok (.if_icmp .ne 22, 3) := kDec_at dA313_cX6_tryUndone 1 rfl
theorem dX6_tryUndone_130 : decode cX6_tryUndone 130 = .ok (.iinc 5 1, 3) := kDec_at dA313_cX6_tryUndone 2 rfl
theorem dX6_tryUndone_133 : decode cX6_tryUndone 133 = .ok (.goto (-115), 3) := kDec_at dA313_cX6_tryUndone 3 rfl
theorem dX6_tryUndone_111 : decode cX6_tryUndone 111 = .ok (.aload_n 0, 1) := kDec_at dA313_cX6_tryUndone 4 rfl
theorem dX6_tryUndone_112 : decode cX6_tryUndone 112 = .ok (.iload_n 2, 1) := kDec_at dA313_cX6_tryUndone 5 rfl
theorem dX6_tryUndone_113 : decode cX6_tryUndone 113 = .ok (.iload 5, 2) := kDec_at dA313_cX6_tryUndone 6 rfl
theorem dX6_tryUndone_115 : decode cX6_tryUndone 115 = .ok (.iconst 1, 1) := kDec_at dA313_cX6_tryUndone 7 rfl
theorem dX6_tryUndone_116 : decode cX6_tryUndone 116 = .ok (.iadd, 1) := kDec_at dA313_cX6_tryUndone 8 rfl
theorem dX6_tryUndone_117 : decode cX6_tryUndone 117 = .ok (.iload_n 1, 1) := kDec_at dA313_cX6_tryUndone 9 rfl
theorem dX6_tryUndone_118 : decode cX6_tryUndone 118 = .ok (.aload_n 0, 1) := kDec_at dA313_cX6_tryUndone 10 rfl
theorem dX6_tryUndone_119 : decode cX6_tryUndone 119 = .ok (.getfield 56, 3) := kDec_at dA313_cX6_tryUndone 11 rfl
theorem dX6_tryUndone_122 : decode cX6_tryUndone 122 = .ok (.bipush 32, 2) := kDec_at dA313_cX6_tryUndone 12 rfl
theorem dX6_tryUndone_124 : decode cX6_tryUndone 124 = .ok (.invokevirtual 125, 3) := kDec_at dA313_cX6_tryUndone 13 rfl
theorem dX6_tryUndone_127 : decode cX6_tryUndone 127 = .ok (.invokevirtual 94, 3) := kDec_at dA313_cX6_tryUndone 14 rfl
theorem dX6_tryUndone_93 : decode cX6_tryUndone 93 = .ok (.return_, 1) := kDec_at dA313_cX6_tryUndone 15 rfl
theorem dX6_tryUndone_53 : decode cX6_tryUndone 53 = .ok (.return_, 1) := kDec_at dA313_cX6_tryUndone 16 rfl
set_option maxRecDepth 20000 in
theorem ggX6_tryUndone_X8_sumWith : GoodIn wsX6_tryUndone wsX8_sumWith := goodIn_r _ [159, 12, 86, 11, 123, 124, 125, 126, 127, 128, 129, 130, 131, 132, 133, 134, 135, 136, 137, 138, 139, 140, 141, 142, 143, 144, 186, 187, 188, 189, 190, 191, 204, 205, 206] rfl (by decide +kernel)
set_option maxRecDepth 20000 in
theorem gX6_tryUndone_X8_sumWith : GoodIn wsX6_tryUndone (wsV RX6 125 RX8 yX8_sumWith wsX8_sumWith) := goodIn_app (goodIn_r _ [156, 157, 158, 8] rfl (by decide +kernel)) ggX6_tryUndone_X8_sumWith
set_option maxRecDepth 20000 in
theorem ggX6_tryUndone_X6_offer : GoodIn wsX6_tryUndone wsX6_offer := goodIn_r _ [164, 165, 166, 167, 168, 169, 170, 171, 172, 163, 173, 174, 175, 176, 177, 178, 179, 180, 181, 182, 183, 184, 185] rfl (by decide +kernel)
set_option maxRecDepth 20000 in
theorem gX6_tryUndone_X6_offer : GoodIn wsX6_tryUndone (wsV RX6 94 RX6 yX6_offer wsX6_offer) := goodIn_app (goodIn_r _ [160, 161, 162, 163] rfl (by decide +kernel)) ggX6_tryUndone_X6_offer

end

/-! 59z.parts -/
section
theorem un_or {h i : Int32} {j : Nat} {h2 : Int} {Q : Nat → Prop} (q : h2 < h.toInt + 1) (h0 : 0 ≤ h.toInt) (hQ : i.toInt < (j : Int) → Q h.toNatClampNeg) : (h2 < h.toInt ∨ (h2 = h.toInt ∧ (j : Int) ≤ i.toInt)) ∨ (0 ≤ h2 ∧ Q h2.toNat) := by
  by_cases w : h2 < h.toInt
  · exact Or.inl (Or.inl w)
  · by_cases w2 : (j : Int) ≤ i.toInt
    · exact Or.inl (Or.inr ⟨by omega, w2⟩)
    · have c := v_clamp h0
      have e : h2.toNat = h.toNatClampNeg := by omega
      exact Or.inr ⟨by omega, by rw [e]; exact hQ (by omega)⟩

theorem un_o2 {Q : Nat → Prop} {h i i' : Int32} {j : Nat} {h2 : Int} (q : h2 < h.toInt ∨ (h2 = h.toInt ∧ (j : Int) ≤ i'.toInt)) (h0 : 0 ≤ h.toInt) (hi : i'.toInt = i.toInt + 1) (hQ : (j : Int) = i.toInt + 1 → Q h.toNatClampNeg) : (h2 < h.toInt ∨ (h2 = h.toInt ∧ (j : Int) ≤ i.toInt)) ∨ (0 ≤ h2 ∧ Q h2.toNat) := by
  by_cases w : h2 < h.toInt
  · exact Or.inl (Or.inl w)
  · by_cases w2 : (j : Int) ≤ i.toInt
    · exact Or.inl (Or.inr ⟨by omega, w2⟩)
    · have c := v_clamp h0
      have e : h2.toNat = h.toNatClampNeg := by omega
      exact Or.inr ⟨by omega, by rw [e]; exact hQ (by omega)⟩
theorem un_jm {a b : Int32} {L4 L5 f : Nat → Int32} {Bf : Int32 → Int32} {m m' : Nat} (e : m = m') (h : ∀ (c : Nat) (f2 : Nat → Int32), ¬ HM a b L4 L5 Bf m f c f2) : ∀ (c : Nat) (f2 : Nat → Int32), ¬ HM a b L4 L5 Bf m' f c f2 := by rw [← e]; exact h

set_option maxHeartbeats 40000000 in
set_option maxRecDepth 100000 in
theorem f_X6_tryUndone (l : Launch) (dC : Nat → ClassId) (dI : Nat → Nat → Nat) (cI cS : ClassId) (sz : Nat) (oQ : Nat) (nx : Nat) (oC : Nat) (oH : Nat) (oK : Nat) (oE : Nat) (nq : Nat) (np : Nat) (nv : Nat) (q1 : Nat) (q2 : Nat) (q3 : Nat) (q4 : Nat) (aq : Nat) (oP : Nat) (h1 : Nat) (h2 : Nat) (o4 : Nat) (o5 : Nat) (a41 : Nat) (a42 : Nat) (a43 : Nat) (a51 : Nat) (a52 : Nat) (a53 : Nat) (k1 : Nat) (k2 : Nat) (ax : Nat) (pr : Int32) (fQ1 : Nat → Int32) (fQ2 : Nat → Int32) (fQ3 : Nat → Int32) (fQ4 : Nat → Int32) (lq : Int32) (fq : Nat → Int32) (reE : Int32) (laE : Int32) (suE : Int32) (leE : Int32) (lH : Int32) (fH1 : Nat → Int32) (fH2 : Nat → Int32) (l4 : Int32) (f41 : Nat → Int32) (f42 : Nat → Int32) (f43 : Nat → Int32) (l5 : Int32) (f51 : Nat → Int32) (f52 : Nat → Int32) (f53 : Nat → Int32) (lK : Int32) (fK1 : Nat → Int32) (fK2 : Nat → Int32) (lx : Int32) (fx : Nat → Int32) (h : Int32) (fr : Int32) (n : Int32) (g_pr : 0 ≤ pr.toInt ∧ pr.toInt ≤ 1000) (g_lq : 0 ≤ lq.toInt ∧ lq.toInt ≤ 480) (g_lH : 0 ≤ lH.toInt ∧ lH.toInt ≤ 6) (g_lK : 0 ≤ lK.toInt ∧ lK.toInt ≤ 300) (g_lx : 0 ≤ lx.toInt ∧ lx.toInt ≤ 300) (g_h : 0 ≤ h.toInt ∧ h.toInt ≤ 5) (g_fr : 0 ≤ fr.toInt ∧ fr.toInt ≤ 59) (g_n : 1 ≤ n.toInt ∧ n.toInt ≤ 60) (hfn : fr.toInt < n.toInt) (hnl : n.toInt ≤ lx.toInt) (hlt : prg lx.toInt 0 65535 fx) (hq : QOK (n.toNatClampNeg : Int) (fr.toNatClampNeg : Int) fQ1 fQ2) (hh : h.toInt < lH.toInt) (hb0 : BFS (UC fH1 fH2 f41 f42 f43 f51 f52 f53) (tcC fK1 fK2) lH.toNatClampNeg n.toNatClampNeg fx pr.toInt (fun _ h2 => h2 < h.toInt) fr.toNatClampNeg fQ1 fQ2 fQ3 fQ4) (hT4 : HT 512 511 hsT f42 f43) (ho4 : (occ f43 512 : Int) ≤ 511) (hT5 : HT 512 511 hsT f52 f53) (ho5 : (occ f53 512 : Int) ≤ 511) (hL4 : prg 256 (-1) 65535 f41) (hL5 : prg 256 (-1) 65535 f51) (hBr : ∀ cd : Int32, okB (Bc cd f42 f43 f52 f53)) (hT : HT 1024 1023 hsK fK1 fK2) (ho : (occ fK2 1024 : Int) ≤ lK.toInt) (hV : prg 1024 (-1) 200 fK2) : kMv l yX6_tryUndone wsX6_tryUndone ({ frames := 5, cells := 0, slots := 0, locals := 124 } : Room) [.ref oQ, .int h, .int fr, .ref nx, .int n] sz (dC, dI) vwCl [(cI, .int), (cS, .short)] [(oQ, .inr (6, [.ref oC, .ref oH, .ref oK, .ref oE, .ref nq, .ref np, .ref nv, .ref q1, .ref q2, .ref q3, .ref q4, .int pr])), (q1, .inl (cI, 61, .inl fQ1)), (q2, .inl (cI, 61, .inl fQ2)), (q3, .inl (cI, 61, .inl fQ3)), (q4, .inl (cI, 61, .inl fQ4)), (nq, .inr (5, [.ref aq, .int lq])), (aq, .inl (cI, 480, .inl fq)), (oE, .inr (8, [.ref oC, .ref oK, .int reE, .int laE, .int suE, .int leE])), (oH, .inr (4, [.ref oP, .ref h1, .ref h2, .int lH])), (h1, .inl (cI, 6, .inl fH1)), (h2, .inl (cI, 6, .inl fH2)), (oC, .inr (2, [.ref o4, .ref o5])), (o4, .inr (10, [.ref a41, .ref a42, .ref a43, .int l4])), (a41, .inl (cI, 256, .inl f41)), (a42, .inl (cI, 512, .inl f42)), (a43, .inl (cI, 512, .inl f43)), (o5, .inr (10, [.ref a51, .ref a52, .ref a53, .int l5])), (a51, .inl (cI, 256, .inl f51)), (a52, .inl (cI, 512, .inl f52)), (a53, .inl (cI, 512, .inl f53)), (oK, .inr (3, [.ref k1, .ref k2, .int lK])), (k1, .inl (cI, 1024, .inl fK1)), (k2, .inl (cI, 1024, .inl fK2)), (nx, .inr (5, [.ref ax, .int lx])), (ax, .inl (cI, 300, .inl fx))] (va_Nw (.methodLinkNest RX2 52 yX11_isLetter "TextMender")) 0 0 (fun (A : Nat → Prop) (hh9 : Heap) => ∃ (lq' : Int32) (fq' : Nat → Int32) (reE' : Int32) (laE' : Int32) (suE' : Int32) (leE' : Int32) (fQ1' : Nat → Int32) (fQ2' : Nat → Int32) (fQ3' : Nat → Int32) (fQ4' : Nat → Int32), kPD (dC, dI) vwCl A [(oQ, .inr (6, [.ref oC, .ref oH, .ref oK, .ref oE, .ref nq, .ref np, .ref nv, .ref q1, .ref q2, .ref q3, .ref q4, .int pr])), (q1, .inl (cI, 61, .inl fQ1')), (q2, .inl (cI, 61, .inl fQ2')), (q3, .inl (cI, 61, .inl fQ3')), (q4, .inl (cI, 61, .inl fQ4')), (nq, .inr (5, [.ref aq, .int lq'])), (aq, .inl (cI, 480, .inl fq')), (oE, .inr (8, [.ref oC, .ref oK, .int reE', .int laE', .int suE', .int leE'])), (oH, .inr (4, [.ref oP, .ref h1, .ref h2, .int lH])), (h1, .inl (cI, 6, .inl fH1)), (h2, .inl (cI, 6, .inl fH2)), (oC, .inr (2, [.ref o4, .ref o5])), (o4, .inr (10, [.ref a41, .ref a42, .ref a43, .int l4])), (a41, .inl (cI, 256, .inl f41)), (a42, .inl (cI, 512, .inl f42)), (a43, .inl (cI, 512, .inl f43)), (o5, .inr (10, [.ref a51, .ref a52, .ref a53, .int l5])), (a51, .inl (cI, 256, .inl f51)), (a52, .inl (cI, 512, .inl f52)), (a53, .inl (cI, 512, .inl f53)), (oK, .inr (3, [.ref k1, .ref k2, .int lK])), (k1, .inl (cI, 1024, .inl fK1)), (k2, .inl (cI, 1024, .inl fK2)), (nx, .inr (5, [.ref ax, .int lx])), (ax, .inl (cI, 300, .inl fx))] hh9 ∧ (0 ≤ lq'.toInt ∧ lq'.toInt ≤ 480) ∧ (QOK (n.toNatClampNeg : Int) (fr.toNatClampNeg : Int) fQ1' fQ2') ∧ (onlyI fr.toNatClampNeg fQ1 fQ1' fQ2 fQ2' fQ3 fQ3' fQ4 fQ4') ∧ (BFS (UC fH1 fH2 f41 f42 f43 f51 f52 f53) (tcC fK1 fK2) lH.toNatClampNeg n.toNatClampNeg fx pr.toInt (fun _ h2 => h2 < h.toInt + 1) fr.toNatClampNeg fQ1' fQ2' fQ3' fQ4')) := by
  refine kMv_of (cc := cX6_tryUndone) (maxL := 6) (ret := none) (lv := [(0, .ref oQ), (1, .int h), (2, .int fr), (3, .ref nx), (4, .int n)]) (by decide +kernel) rfl rfl (Nat.le_of_ble_eq_true rfl) ?_
  intro p e s m below meth c A QQ ls hx hb hr hts hml hown hlocks hA hQQ hK hX hP hD hS hl
  have hown : s.vm.findClass RX6 = some m.cls := hown
  have hcf := k_cf hx hb hml hown hts
  have hN52 := hX
  have in_X6 : ∀ w ∈ wsX60, w ∈ wsX6_tryUndone := fun _ h => List.mem_cons_of_mem _ (List.mem_append_left _ (List.mem_append_left _ (List.mem_append_left _ (List.mem_append_left _ (List.mem_append_left _ (List.mem_append_left _ (List.mem_append_right _ (h))))))))
  have z0 : (0 : Int32).toInt = 0 := rfl
  have z1 : (1 : Int32).toInt = 1 := rfl
  have zm1 : (-1 : Int32).toInt = -1 := rfl
  have cn9 := v_clamp (x := n) (by omega)
  have cf9 := v_clamp (x := fr) (by omega)
  have okU9 : okU (UC fH1 fH2 f41 f42 f43 f51 f52 f53) := okU_C hBr hL4 hL5
  have cz9 := v_clamp (x := lH) (by omega)
  have ch9 := v_clamp (x := h) (by omega)
  refine lv_aload_n hx hb dX6_tryUndone_0 rfl (lv_at hl 0 rfl) ?_
  refine va_get (D := (dC, dI)) (ci := 6) (v := .ref oE) (C := RX6) (T := TX6) (N := 12) hx hb hts in_X6 hown hK hP 0 rfl rfl 3 (by decide) (hts (.fieldLink RX6 56 "TextMender$Parting" "reading" "LTextMender$Reading;") (List.mem_of_getElem? (i := 1) rfl)) (fun _ h9 => h9) rfl dX6_tryUndone_1 ?_
  refine kV_v (rest := []) (q0 := 0) (ci := 8) hcf (f_X8_begin l dC dI cI cS s.heap.size oE oC oK reE laE suE leE ) kc_X8_begin gX6_tryUndone_X8_begin rfl rfl rfl ⟨Nat.le_of_ble_eq_true rfl, Nat.le_of_ble_eq_true rfl⟩ kX_t hK hP hD hS hA [7] [0, 1, 2, 3, 4, 5, 6, 8, 9, 10, 11, 12, 13, 14, 15, 16, 17, 18, 19, 20, 21, 22, 23, 24] rfl (by decide +kernel) rfl rfl rfl hl rfl (Nat.le_of_ble_eq_true rfl) dX6_tryUndone_4 ⟨Nat.le_of_ble_eq_true rfl, Nat.le_of_ble_eq_true rfl⟩ (fun H locs hB hJ hSn => ?_)
  obtain ⟨reE_1, laE_1, suE_1, leE_1, ⟨hP1, hD1⟩, hf1_0⟩ := hB
  obtain ⟨hPn, hDn⟩ := hJ _ hP1 hD1 [(oQ, .inr (6, [.ref oC, .ref oH, .ref oK, .ref oE, .ref nq, .ref np, .ref nv, .ref q1, .ref q2, .ref q3, .ref q4, .int pr])), (q1, .inl (cI, 61, .inl fQ1)), (q2, .inl (cI, 61, .inl fQ2)), (q3, .inl (cI, 61, .inl fQ3)), (q4, .inl (cI, 61, .inl fQ4)), (nq, .inr (5, [.ref aq, .int lq])), (aq, .inl (cI, 480, .inl fq)), (oH, .inr (4, [.ref oP, .ref h1, .ref h2, .int lH])), (h1, .inl (cI, 6, .inl fH1)), (h2, .inl (cI, 6, .inl fH2)), (oC, .inr (2, [.ref o4, .ref o5])), (o4, .inr (10, [.ref a41, .ref a42, .ref a43, .int l4])), (a41, .inl (cI, 256, .inl f41)), (a42, .inl (cI, 512, .inl f42)), (a43, .inl (cI, 512, .inl f43)), (o5, .inr (10, [.ref a51, .ref a52, .ref a53, .int l5])), (a51, .inl (cI, 256, .inl f51)), (a52, .inl (cI, 512, .inl f52)), (a53, .inl (cI, 512, .inl f53)), (oK, .inr (3, [.ref k1, .ref k2, .int lK])), (k1, .inl (cI, 1024, .inl fK1)), (k2, .inl (cI, 1024, .inl fK2)), (nx, .inr (5, [.ref ax, .int lx])), (ax, .inl (cI, 300, .inl fx)), (oE, .inr (8, [.ref oC, .ref oK, .int reE_1, .int laE_1, .int suE_1, .int leE_1]))] rfl
  clear hP hD hS hJ hP1 hD1
  have hP := hPn
  have hD := hDn
  have hS := hSn
  clear hPn hDn hSn
  obtain ⟨hb1, hb2, hb3, hb4⟩ := hf1_0
  have hb5 := v_eq hb1
  have hb6 := v_eq hb3
  have hb7 := v_eq hb4
  have hb8 := v_eq hb2
  have z32 : (32 : Int32).toInt = 32 := rfl
  refine lv_aload_n hx hb dX6_tryUndone_7 rfl (lv_at hl 0 rfl) ?_
  refine va_get (D := (dC, dI)) (ci := 6) (v := .ref nq) (C := RX6) (T := TX6) (N := 12) hx hb hts in_X6 hown hK hP 0 rfl rfl 4 (by decide) (hts (.fieldLink RX6 14 "TextMender$Parting" "bytes" "LTextMender$Numbers;") (List.mem_of_getElem? (i := 2) rfl)) (fun _ h9 => h9) rfl dX6_tryUndone_8 ?_
  refine lv_iconst (v := 0) hx hb dX6_tryUndone_11 (by decide) ?_
  refine kV_v (rest := []) (q0 := 0) (ci := 5) hcf (m_X5_cut l dC dI cI cS H.size nq aq lq 0 (v_rr g_lq (by decide) (by decide))) kc_X5_cut gX6_tryUndone_X5_cut rfl rfl rfl ⟨Nat.le_of_ble_eq_true rfl, Nat.le_of_ble_eq_true rfl⟩ kX_t hK hP hD hS hA [5] [0, 1, 2, 3, 4, 6, 7, 8, 9, 10, 11, 12, 13, 14, 15, 16, 17, 18, 19, 20, 21, 22, 23, 24] rfl (by decide +kernel) rfl rfl rfl hl rfl (Nat.le_of_ble_eq_true rfl) dX6_tryUndone_12 ⟨Nat.le_of_ble_eq_true rfl, Nat.le_of_ble_eq_true rfl⟩ (fun H locs hB hJ hSn => ?_)
  obtain ⟨lu_2, ⟨hP1, hD1⟩, hf2_0, hf2_1, hf2_2⟩ := hB
  obtain ⟨hPn, hDn⟩ := hJ _ hP1 hD1 [(oQ, .inr (6, [.ref oC, .ref oH, .ref oK, .ref oE, .ref nq, .ref np, .ref nv, .ref q1, .ref q2, .ref q3, .ref q4, .int pr])), (q1, .inl (cI, 61, .inl fQ1)), (q2, .inl (cI, 61, .inl fQ2)), (q3, .inl (cI, 61, .inl fQ3)), (q4, .inl (cI, 61, .inl fQ4)), (aq, .inl (cI, 480, .inl fq)), (oH, .inr (4, [.ref oP, .ref h1, .ref h2, .int lH])), (h1, .inl (cI, 6, .inl fH1)), (h2, .inl (cI, 6, .inl fH2)), (oC, .inr (2, [.ref o4, .ref o5])), (o4, .inr (10, [.ref a41, .ref a42, .ref a43, .int l4])), (a41, .inl (cI, 256, .inl f41)), (a42, .inl (cI, 512, .inl f42)), (a43, .inl (cI, 512, .inl f43)), (o5, .inr (10, [.ref a51, .ref a52, .ref a53, .int l5])), (a51, .inl (cI, 256, .inl f51)), (a52, .inl (cI, 512, .inl f52)), (a53, .inl (cI, 512, .inl f53)), (oK, .inr (3, [.ref k1, .ref k2, .int lK])), (k1, .inl (cI, 1024, .inl fK1)), (k2, .inl (cI, 1024, .inl fK2)), (nx, .inr (5, [.ref ax, .int lx])), (ax, .inl (cI, 300, .inl fx)), (oE, .inr (8, [.ref oC, .ref oK, .int reE_1, .int laE_1, .int suE_1, .int leE_1])), (nq, .inr (5, [.ref aq, .int lu_2]))] rfl
  clear hP hD hS hJ hP1 hD1
  have hP := hPn
  have hD := hDn
  have hS := hSn
  clear hPn hDn hSn
  have ha2 : lu_2.toInt = 0 := F_cut_l hf2_2 (by first | decide | omega) (by first | omega | (show (0 : Int) ≤ _; omega))
  refine lv_iload_n hx hb dX6_tryUndone_15 rfl (lv_at hl 2 rfl) ?_
  refine lv_istore (lv' := [(5, .int fr), (0, .ref oQ), (1, .int h), (2, .int fr), (3, .ref nx), (4, .int n)]) hx hb dX6_tryUndone_16 hl (by decide) rfl (fun ls hl => ?_)
  have LOOP_18 : ∀ (k_18 : Nat) (i : Int32) (rea : Int32) (laa : Int32) (sua : Int32) (lea : Int32) (lqa : Int32) (fq1a : Nat → Int32) (fq2a : Nat → Int32) (fq3a : Nat → Int32) (fq4a : Nat → Int32) (fqa : Nat → Int32) (H : Heap) (locs : List Loc) (ls : Array Slot), MSd (60 - i.toInt : Int) k_18 → (0 ≤ i.toInt ∧ i.toInt ≤ 60) → (0 ≤ rea.toInt ∧ rea.toInt ≤ 2400) → (0 ≤ laa.toInt ∧ laa.toInt ≤ 65535) → (0 ≤ sua.toInt ∧ sua.toInt ≤ 480000) → (0 ≤ lea.toInt ∧ lea.toInt ≤ 2400) → (0 ≤ lqa.toInt ∧ lqa.toInt ≤ 480) → (fr.toInt ≤ i.toInt ∧ i.toInt ≤ n.toInt) → (lqa.toInt ≤ 8 * (i.toInt - fr.toInt)) → (sua.toInt ≤ 200 * lea.toInt ∧ lea.toInt ≤ rea.toInt ∧ rea.toInt ≤ lqa.toInt ∧ lea.toInt ≤ 300) → (WR (fun j => enc (fH2 h.toNatClampNeg) ((fun k => fx (fr.toNatClampNeg + k)) j) (Bc (fH2 h.toNatClampNeg) f42 f43 f52 f53 ((fun k => fx (fr.toNatClampNeg + k)) j))) (i.toInt - (fr.toNatClampNeg : Int)).toNat lqa fqa) → (RS (tcC fK1 fK2) rea laa sua lea (dl (fH1 h.toNatClampNeg) f41 f51 fqa lqa.toInt) (dx (fH1 h.toNatClampNeg) f41 f51 fqa lqa.toInt)) → (QOK (n.toNatClampNeg : Int) (fr.toNatClampNeg : Int) fq1a fq2a) → (onlyI fr.toNatClampNeg fQ1 fq1a fQ2 fq2a fQ3 fq3a fQ4 fq4a) → (BFS (UC fH1 fH2 f41 f42 f43 f51 f52 f53) (tcC fK1 fK2) lH.toNatClampNeg n.toNatClampNeg fx pr.toInt (fun j h2 => h2 < h.toInt ∨ (h2 = h.toInt ∧ (j : Int) ≤ i.toInt)) fr.toNatClampNeg fq1a fq2a fq3a fq4a) → va_P (dC, dI) vwCl [(oQ, .inr (6, [.ref oC, .ref oH, .ref oK, .ref oE, .ref nq, .ref np, .ref nv, .ref q1, .ref q2, .ref q3, .ref q4, .int pr])), (q1, .inl (cI, 61, .inl fq1a)), (q2, .inl (cI, 61, .inl fq2a)), (q3, .inl (cI, 61, .inl fq3a)), (q4, .inl (cI, 61, .inl fq4a)), (aq, .inl (cI, 480, .inl fqa)), (oH, .inr (4, [.ref oP, .ref h1, .ref h2, .int lH])), (h1, .inl (cI, 6, .inl fH1)), (h2, .inl (cI, 6, .inl fH2)), (oC, .inr (2, [.ref o4, .ref o5])), (o4, .inr (10, [.ref a41, .ref a42, .ref a43, .int l4])), (a41, .inl (cI, 256, .inl f41)), (a42, .inl (cI, 512, .inl f42)), (a43, .inl (cI, 512, .inl f43)), (o5, .inr (10, [.ref a51, .ref a52, .ref a53, .int l5])), (a51, .inl (cI, 256, .inl f51)), (a52, .inl (cI, 512, .inl f52)), (a53, .inl (cI, 512, .inl f53)), (oK, .inr (3, [.ref k1, .ref k2, .int lK])), (k1, .inl (cI, 1024, .inl fK1)), (k2, .inl (cI, 1024, .inl fK2)), (nx, .inr (5, [.ref ax, .int lx])), (ax, .inl (cI, 300, .inl fx)), (oE, .inr (8, [.ref oC, .ref oK, .int rea, .int laa, .int sua, .int lea])), (nq, .inr (5, [.ref aq, .int lqa]))] H → va_D A [(oQ, .inr (6, [.ref oC, .ref oH, .ref oK, .ref oE, .ref nq, .ref np, .ref nv, .ref q1, .ref q2, .ref q3, .ref q4, .int pr])), (q1, .inl (cI, 61, .inl fq1a)), (q2, .inl (cI, 61, .inl fq2a)), (q3, .inl (cI, 61, .inl fq3a)), (q4, .inl (cI, 61, .inl fq4a)), (aq, .inl (cI, 480, .inl fqa)), (oH, .inr (4, [.ref oP, .ref h1, .ref h2, .int lH])), (h1, .inl (cI, 6, .inl fH1)), (h2, .inl (cI, 6, .inl fH2)), (oC, .inr (2, [.ref o4, .ref o5])), (o4, .inr (10, [.ref a41, .ref a42, .ref a43, .int l4])), (a41, .inl (cI, 256, .inl f41)), (a42, .inl (cI, 512, .inl f42)), (a43, .inl (cI, 512, .inl f43)), (o5, .inr (10, [.ref a51, .ref a52, .ref a53, .int l5])), (a51, .inl (cI, 256, .inl f51)), (a52, .inl (cI, 512, .inl f52)), (a53, .inl (cI, 512, .inl f53)), (oK, .inr (3, [.ref k1, .ref k2, .int lK])), (k1, .inl (cI, 1024, .inl fK1)), (k2, .inl (cI, 1024, .inl fK2)), (nx, .inr (5, [.ref ax, .int lx])), (ax, .inl (cI, 300, .inl fx)), (oE, .inr (8, [.ref oC, .ref oK, .int rea, .int laa, .int sua, .int lea])), (nq, .inr (5, [.ref aq, .int lqa]))] → va_S A s.heap H locs → lv_has ls 6 [(5, .int i), (0, .ref oQ), (1, .int h), (2, .int fr), (3, .ref nx), (4, .int n)] → W p l e (headSpec wsX6_tryUndone ({ frames := 5, cells := 0, slots := 0, locals := 124 } : Room)).room s m ([.ref oQ, .int h, .int fr, .ref nx, .int n] : List Value).toArray below meth c H locs 0 0 (MQ below QQ ([.ref oQ, .int h, .int fr, .ref nx, .int n] : List Value).toArray s 0 0 A) (F0 m 18 ls []) := by
    clear hP hD hS hl
    try (clear ha2 hf2_0 hf2_1 hf2_2 hb8 hb7 hb6 hb5 hf1_0 g_lq)
    intro k_18
    induction k_18 with
    | zero =>
      intro i rea laa sua lea lqa fq1a fq2a fq3a fq4a fqa H locs ls hm_18 g_i g_rea g_laa g_sua g_lea g_lqa hif hl8 hn8 hwr hrs hqk hon hbf hP hD hS hl
      exact ms_0 hm_18
    | succ k_18 ih_18 =>
      intro i rea laa sua lea lqa fq1a fq2a fq3a fq4a fqa H locs ls hm_18 g_i g_rea g_laa g_sua g_lea g_lqa hif hl8 hn8 hwr hrs hqk hon hbf hP hD hS hl
      refine lv_iload hx hb dX6_tryUndone_18 (lv_at hl 0 rfl) ?_
      refine lv_iload hx hb dX6_tryUndone_20 (lv_at hl 5 rfl) ?_
      refine lv_icmp_ge (tgt := 136) hx hb dX6_tryUndone_22 (by decide) (fun c_3 => ?_) (fun c_3 => ?_)
      · have tc_3 : n.toInt ≤ i.toInt := v_le c_3
        exact kl_v hQQ hx hb hr hlocks hS dX6_tryUndone_136 ⟨lqa, fqa, rea, laa, sua, lea, fq1a, fq2a, fq3a, fq4a, kPD_sub hP hD [0, 1, 2, 3, 4, 24, 5, 23, 6, 7, 8, 9, 10, 11, 12, 13, 14, 15, 16, 17, 18, 19, 20, 21, 22] (by decide +kernel) rfl, g_lqa, hqk, hon, BFS_A hbf (fun j h2 s sp c9 => by have c8 := c9.2.1; show h2 < h.toInt + 1 ↔ (h2 < h.toInt ∨ (h2 = h.toInt ∧ (j : Int) ≤ i.toInt)); omega)⟩
      · have tc_3 : i.toInt < n.toInt := v_nle c_3
        have ci9 := v_clamp (x := i) (by omega)
        refine lv_aload_n hx hb dX6_tryUndone_25 rfl (lv_at hl 1 rfl) ?_
        refine va_get (D := (dC, dI)) (ci := 6) (v := .ref oC) (C := RX6) (T := TX6) (N := 12) hx hb hts in_X6 hown hK hP 0 rfl rfl 0 (by decide) (hts (.fieldLink RX6 39 "TextMender$Parting" "codes" "LTextMender$Codes;") (List.mem_of_getElem? (i := 3) rfl)) (fun _ h9 => h9) rfl dX6_tryUndone_26 ?_
        refine lv_aload_n hx hb dX6_tryUndone_29 rfl (lv_at hl 1 rfl) ?_
        refine va_get (D := (dC, dI)) (ci := 6) (v := .ref oH) (C := RX6) (T := TX6) (N := 12) hx hb hts in_X6 hown hK hP 0 rfl rfl 1 (by decide) (hts (.fieldLink RX6 43 "TextMender$Parting" "harms" "LTextMender$Harms;") (List.mem_of_getElem? (i := 4) rfl)) (fun _ h9 => h9) rfl dX6_tryUndone_30 ?_
        refine lv_iload_n hx hb dX6_tryUndone_33 rfl (lv_at hl 2 rfl) ?_
        refine kV_i (rest := [.ref oC]) (q0 := 0) (ci := 4) hcf (f_X4_readIn l dC dI cI cS H.size oH oP h1 h2 lH fH2 h (g_lH) (g_h) (by omega)) kc_X4_readIn gX6_tryUndone_X4_readIn rfl rfl rfl ⟨Nat.le_of_ble_eq_true rfl, Nat.le_of_ble_eq_true rfl⟩ kX_t hK hP hD hS hA [6, 8] [0, 1, 2, 3, 4, 5, 7, 9, 10, 11, 12, 13, 14, 15, 16, 17, 18, 19, 20, 21, 22, 23, 24] rfl (by decide +kernel) rfl rfl rfl hl rfl (Nat.le_of_ble_eq_true rfl) dX6_tryUndone_34 ⟨Nat.le_of_ble_eq_true rfl, Nat.le_of_ble_eq_true rfl⟩ (fun r_4 H locs hB hJ hSn => ?_)
        obtain ⟨⟨hP1, hD1⟩, hf4_0⟩ := hB
        obtain ⟨hPn, hDn⟩ := hJ _ hP1 hD1 [(oQ, .inr (6, [.ref oC, .ref oH, .ref oK, .ref oE, .ref nq, .ref np, .ref nv, .ref q1, .ref q2, .ref q3, .ref q4, .int pr])), (q1, .inl (cI, 61, .inl fq1a)), (q2, .inl (cI, 61, .inl fq2a)), (q3, .inl (cI, 61, .inl fq3a)), (q4, .inl (cI, 61, .inl fq4a)), (aq, .inl (cI, 480, .inl fqa)), (h1, .inl (cI, 6, .inl fH1)), (oC, .inr (2, [.ref o4, .ref o5])), (o4, .inr (10, [.ref a41, .ref a42, .ref a43, .int l4])), (a41, .inl (cI, 256, .inl f41)), (a42, .inl (cI, 512, .inl f42)), (a43, .inl (cI, 512, .inl f43)), (o5, .inr (10, [.ref a51, .ref a52, .ref a53, .int l5])), (a51, .inl (cI, 256, .inl f51)), (a52, .inl (cI, 512, .inl f52)), (a53, .inl (cI, 512, .inl f53)), (oK, .inr (3, [.ref k1, .ref k2, .int lK])), (k1, .inl (cI, 1024, .inl fK1)), (k2, .inl (cI, 1024, .inl fK2)), (nx, .inr (5, [.ref ax, .int lx])), (ax, .inl (cI, 300, .inl fx)), (oE, .inr (8, [.ref oC, .ref oK, .int rea, .int laa, .int sua, .int lea])), (nq, .inr (5, [.ref aq, .int lqa])), (oH, .inr (4, [.ref oP, .ref h1, .ref h2, .int lH])), (h2, .inl (cI, 6, .inl fH2))] rfl
        clear hP hD hS hJ hP1 hD1
        have hP := hPn
        have hD := hDn
        have hS := hSn
        clear hPn hDn hSn
        refine lv_aload_n hx hb dX6_tryUndone_37 rfl (lv_at hl 4 rfl) ?_
        refine lv_iload hx hb dX6_tryUndone_38 (lv_at hl 0 rfl) ?_
        refine kV_i (rest := [.int r_4, .ref oC]) (q0 := 0) (ci := 5) hcf (m_X5_get l dC dI cI cS H.size nx ax 300 lx fx i (by omega) (by omega)) kc_X5_get gX6_tryUndone_X5_get rfl rfl rfl ⟨Nat.le_of_ble_eq_true rfl, Nat.le_of_ble_eq_true rfl⟩ kX_t hK hP hD hS hA [19, 20] [0, 1, 2, 3, 4, 5, 6, 7, 8, 9, 10, 11, 12, 13, 14, 15, 16, 17, 18, 21, 22, 23, 24] rfl (by decide +kernel) rfl rfl rfl hl rfl (Nat.le_of_ble_eq_true rfl) dX6_tryUndone_40 ⟨Nat.le_of_ble_eq_true rfl, Nat.le_of_ble_eq_true rfl⟩ (fun r_5 H locs hB hJ hSn => ?_)
        obtain ⟨⟨hP1, hD1⟩, hf5_0⟩ := hB
        obtain ⟨hPn, hDn⟩ := hJ _ hP1 hD1 [(oQ, .inr (6, [.ref oC, .ref oH, .ref oK, .ref oE, .ref nq, .ref np, .ref nv, .ref q1, .ref q2, .ref q3, .ref q4, .int pr])), (q1, .inl (cI, 61, .inl fq1a)), (q2, .inl (cI, 61, .inl fq2a)), (q3, .inl (cI, 61, .inl fq3a)), (q4, .inl (cI, 61, .inl fq4a)), (aq, .inl (cI, 480, .inl fqa)), (h1, .inl (cI, 6, .inl fH1)), (oC, .inr (2, [.ref o4, .ref o5])), (o4, .inr (10, [.ref a41, .ref a42, .ref a43, .int l4])), (a41, .inl (cI, 256, .inl f41)), (a42, .inl (cI, 512, .inl f42)), (a43, .inl (cI, 512, .inl f43)), (o5, .inr (10, [.ref a51, .ref a52, .ref a53, .int l5])), (a51, .inl (cI, 256, .inl f51)), (a52, .inl (cI, 512, .inl f52)), (a53, .inl (cI, 512, .inl f53)), (oK, .inr (3, [.ref k1, .ref k2, .int lK])), (k1, .inl (cI, 1024, .inl fK1)), (k2, .inl (cI, 1024, .inl fK2)), (oE, .inr (8, [.ref oC, .ref oK, .int rea, .int laa, .int sua, .int lea])), (nq, .inr (5, [.ref aq, .int lqa])), (oH, .inr (4, [.ref oP, .ref h1, .ref h2, .int lH])), (h2, .inl (cI, 6, .inl fH2)), (nx, .inr (5, [.ref ax, .int lx])), (ax, .inl (cI, 300, .inl fx))] rfl
        clear hP hD hS hJ hP1 hD1
        have hP := hPn
        have hD := hDn
        have hS := hSn
        clear hPn hDn hSn
        have hg5 : r_5 = fx i.toNatClampNeg := F_get_f hf5_0 (by omega) (by omega)
        have hgr5 : 0 ≤ r_5.toInt ∧ r_5.toInt ≤ 65535 := prg_at hlt hg5 (by omega) (by omega)
        refine lv_aload_n hx hb dX6_tryUndone_43 rfl (lv_at hl 1 rfl) ?_
        refine va_get (D := (dC, dI)) (ci := 6) (v := .ref nq) (C := RX6) (T := TX6) (N := 12) hx hb hts in_X6 hown hK hP 0 rfl rfl 4 (by decide) (hts (.fieldLink RX6 14 "TextMender$Parting" "bytes" "LTextMender$Numbers;") (List.mem_of_getElem? (i := 2) rfl)) (fun _ h9 => h9) rfl dX6_tryUndone_44 ?_
        refine kV_i (rest := []) (q0 := 0) (ci := 2) hcf (f_X2_encode l dC dI cI cS H.size oC nq o4 o5 a41 a42 a43 a51 a52 a53 aq 480 l4 f42 f43 l5 f52 f53 lqa fqa r_4 r_5 (by omega) (by omega) (by omega) (by omega) (hT4) (ho4) (hT5) (ho5)) kc_X2_encode gX6_tryUndone_X2_encode rfl rfl rfl ⟨Nat.le_of_ble_eq_true rfl, Nat.le_of_ble_eq_true rfl⟩ kX_t hK hP hD hS hA [7, 8, 10, 11, 12, 14, 15, 20, 5] [0, 1, 2, 3, 4, 6, 9, 13, 16, 17, 18, 19, 21, 22, 23, 24] rfl (by decide +kernel) rfl rfl rfl hl rfl (Nat.le_of_ble_eq_true rfl) dX6_tryUndone_47 ⟨Nat.le_of_ble_eq_true rfl, Nat.le_of_ble_eq_true rfl⟩ (fun r_6 H locs hB hJ hSn => ?_)
        obtain ⟨lu_6, fu_6, ⟨hP1, hD1⟩, hf6_0, hf6_1, hf6_2⟩ := hB
        obtain ⟨hPn, hDn⟩ := hJ _ hP1 hD1 [(oQ, .inr (6, [.ref oC, .ref oH, .ref oK, .ref oE, .ref nq, .ref np, .ref nv, .ref q1, .ref q2, .ref q3, .ref q4, .int pr])), (q1, .inl (cI, 61, .inl fq1a)), (q2, .inl (cI, 61, .inl fq2a)), (q3, .inl (cI, 61, .inl fq3a)), (q4, .inl (cI, 61, .inl fq4a)), (h1, .inl (cI, 6, .inl fH1)), (a41, .inl (cI, 256, .inl f41)), (a51, .inl (cI, 256, .inl f51)), (oK, .inr (3, [.ref k1, .ref k2, .int lK])), (k1, .inl (cI, 1024, .inl fK1)), (k2, .inl (cI, 1024, .inl fK2)), (oE, .inr (8, [.ref oC, .ref oK, .int rea, .int laa, .int sua, .int lea])), (oH, .inr (4, [.ref oP, .ref h1, .ref h2, .int lH])), (h2, .inl (cI, 6, .inl fH2)), (nx, .inr (5, [.ref ax, .int lx])), (ax, .inl (cI, 300, .inl fx)), (oC, .inr (2, [.ref o4, .ref o5])), (o4, .inr (10, [.ref a41, .ref a42, .ref a43, .int l4])), (a42, .inl (cI, 512, .inl f42)), (a43, .inl (cI, 512, .inl f43)), (o5, .inr (10, [.ref a51, .ref a52, .ref a53, .int l5])), (a52, .inl (cI, 512, .inl f52)), (a53, .inl (cI, 512, .inl f53)), (nq, .inr (5, [.ref aq, .int lu_6])), (aq, .inl (cI, 480, .inl fu_6))] rfl
        clear hP hD hS hJ hP1 hD1
        have hP := hPn
        have hD := hDn
        have hS := hSn
        clear hPn hDn hSn
        have hln6 := en_len hf6_2
        refine lv_if_ne (tgt := 54) hx hb dX6_tryUndone_50 (by decide) (fun c_7 => ?_) (fun c_7 => ?_)
        · have tc_7 : ¬ r_6.toInt = 0 := v_ne c_7
          obtain ⟨i9, hi9⟩ : ∃ i9 : Int32, i9 = i + 1 := ⟨_, rfl⟩
          have ti9 : i9.toInt = i.toInt + 1 := v_add hi9 (by show -2147483648 ≤ i.toInt + 1; omega) (by show i.toInt + 1 < 2147483648; omega)
          obtain ⟨hw9, hwl9, hwg9⟩ := wr_sh (i' := i9) (b := fr.toNatClampNeg) hwr (by show enc (fH2 h.toNatClampNeg) (fx (fr.toNatClampNeg + (i.toInt - (fr.toNatClampNeg : Int)).toNat)) (Bc (fH2 h.toNatClampNeg) f42 f43 f52 f53 (fx (fr.toNatClampNeg + (i.toInt - (fr.toNatClampNeg : Int)).toNat))) = _; rw [show fr.toNatClampNeg + (i.toInt - (fr.toNatClampNeg : Int)).toNat = i.toNatClampNeg by omega, ← hg5, ← hf4_0]) hf6_2 (by omega) (by omega) ti9
          have hby9 := WR_b (Bf := Bc (fH2 h.toNatClampNeg) f42 f43 f52 f53) hw9 (fun j hj => hlt (fr.toNatClampNeg + j) (by omega)) (hBr _)
          have hru9 : RS (tcC fK1 fK2) rea laa sua lea (dl (fH1 h.toNatClampNeg) f41 f51 fu_6 lu_6.toInt) (dx (fH1 h.toNatClampNeg) f41 f51 fu_6 lu_6.toInt) := RS_up hrs (fun p9 hp9 => dl_up hwg9 hwl9 hp9)
          refine lv_aload_n hx hb dX6_tryUndone_54 rfl (lv_at hl 1 rfl) ?_
          refine va_get (D := (dC, dI)) (ci := 6) (v := .ref oE) (C := RX6) (T := TX6) (N := 12) hx hb hts in_X6 hown hK hP 0 rfl rfl 3 (by decide) (hts (.fieldLink RX6 56 "TextMender$Parting" "reading" "LTextMender$Reading;") (List.mem_of_getElem? (i := 1) rfl)) (fun _ h9 => h9) rfl dX6_tryUndone_55 ?_
          refine lv_aload_n hx hb dX6_tryUndone_58 rfl (lv_at hl 1 rfl) ?_
          refine va_get (D := (dC, dI)) (ci := 6) (v := .ref oH) (C := RX6) (T := TX6) (N := 12) hx hb hts in_X6 hown hK hP 0 rfl rfl 1 (by decide) (hts (.fieldLink RX6 43 "TextMender$Parting" "harms" "LTextMender$Harms;") (List.mem_of_getElem? (i := 4) rfl)) (fun _ h9 => h9) rfl dX6_tryUndone_59 ?_
          refine lv_iload_n hx hb dX6_tryUndone_62 rfl (lv_at hl 2 rfl) ?_
          refine kV_i (rest := [.ref oE]) (q0 := 0) (ci := 4) hcf (f_X4_writtenIn l dC dI cI cS H.size oH oP h1 h2 lH fH1 h (g_lH) (g_h) (by omega)) kc_X4_writtenIn gX6_tryUndone_X4_writtenIn rfl rfl rfl ⟨Nat.le_of_ble_eq_true rfl, Nat.le_of_ble_eq_true rfl⟩ kX_t hK hP hD hS hA [12, 5] [0, 1, 2, 3, 4, 6, 7, 8, 9, 10, 11, 13, 14, 15, 16, 17, 18, 19, 20, 21, 22, 23, 24] rfl (by decide +kernel) rfl rfl rfl hl rfl (Nat.le_of_ble_eq_true rfl) dX6_tryUndone_63 ⟨Nat.le_of_ble_eq_true rfl, Nat.le_of_ble_eq_true rfl⟩ (fun r_8 H locs hB hJ hSn => ?_)
          obtain ⟨⟨hP1, hD1⟩, hf8_0⟩ := hB
          obtain ⟨hPn, hDn⟩ := hJ _ hP1 hD1 [(oQ, .inr (6, [.ref oC, .ref oH, .ref oK, .ref oE, .ref nq, .ref np, .ref nv, .ref q1, .ref q2, .ref q3, .ref q4, .int pr])), (q1, .inl (cI, 61, .inl fq1a)), (q2, .inl (cI, 61, .inl fq2a)), (q3, .inl (cI, 61, .inl fq3a)), (q4, .inl (cI, 61, .inl fq4a)), (a41, .inl (cI, 256, .inl f41)), (a51, .inl (cI, 256, .inl f51)), (oK, .inr (3, [.ref k1, .ref k2, .int lK])), (k1, .inl (cI, 1024, .inl fK1)), (k2, .inl (cI, 1024, .inl fK2)), (oE, .inr (8, [.ref oC, .ref oK, .int rea, .int laa, .int sua, .int lea])), (h2, .inl (cI, 6, .inl fH2)), (nx, .inr (5, [.ref ax, .int lx])), (ax, .inl (cI, 300, .inl fx)), (oC, .inr (2, [.ref o4, .ref o5])), (o4, .inr (10, [.ref a41, .ref a42, .ref a43, .int l4])), (a42, .inl (cI, 512, .inl f42)), (a43, .inl (cI, 512, .inl f43)), (o5, .inr (10, [.ref a51, .ref a52, .ref a53, .int l5])), (a52, .inl (cI, 512, .inl f52)), (a53, .inl (cI, 512, .inl f53)), (nq, .inr (5, [.ref aq, .int lu_6])), (aq, .inl (cI, 480, .inl fu_6)), (oH, .inr (4, [.ref oP, .ref h1, .ref h2, .int lH])), (h1, .inl (cI, 6, .inl fH1))] rfl
          clear hP hD hS hJ hP1 hD1
          have hP := hPn
          have hD := hDn
          have hS := hSn
          clear hPn hDn hSn
          rw [← hf8_0] at hru9
          refine lv_aload_n hx hb dX6_tryUndone_66 rfl (lv_at hl 1 rfl) ?_
          refine va_get (D := (dC, dI)) (ci := 6) (v := .ref nq) (C := RX6) (T := TX6) (N := 12) hx hb hts in_X6 hown hK hP 0 rfl rfl 4 (by decide) (hts (.fieldLink RX6 14 "TextMender$Parting" "bytes" "LTextMender$Numbers;") (List.mem_of_getElem? (i := 2) rfl)) (fun _ h9 => h9) rfl dX6_tryUndone_67 ?_
          refine lv_aload_n hx hb dX6_tryUndone_70 rfl (lv_at hl 1 rfl) ?_
          refine va_get (D := (dC, dI)) (ci := 6) (v := .ref nq) (C := RX6) (T := TX6) (N := 12) hx hb hts in_X6 hown hK hP 0 rfl rfl 4 (by decide) (hts (.fieldLink RX6 14 "TextMender$Parting" "bytes" "LTextMender$Numbers;") (List.mem_of_getElem? (i := 2) rfl)) (fun _ h9 => h9) rfl dX6_tryUndone_71 ?_
          refine kV_i (rest := [.ref nq, .int r_8, .ref oE]) (q0 := 0) (ci := 5) hcf (m_X5_length l dC dI cI cS H.size nq aq lu_6 ) kc_X5_length gX6_tryUndone_X5_length rfl rfl rfl ⟨Nat.le_of_ble_eq_true rfl, Nat.le_of_ble_eq_true rfl⟩ kX_t hK hP hD hS hA [21] [0, 1, 2, 3, 4, 5, 6, 7, 8, 9, 10, 11, 12, 13, 14, 15, 16, 17, 18, 19, 20, 22, 23, 24] rfl (by decide +kernel) rfl rfl rfl hl rfl (Nat.le_of_ble_eq_true rfl) dX6_tryUndone_74 ⟨Nat.le_of_ble_eq_true rfl, Nat.le_of_ble_eq_true rfl⟩ (fun r_9 H locs hB hJ hSn => ?_)
          obtain ⟨⟨hP1, hD1⟩, hf9_0⟩ := hB
          obtain ⟨hPn, hDn⟩ := hJ _ hP1 hD1 [(oQ, .inr (6, [.ref oC, .ref oH, .ref oK, .ref oE, .ref nq, .ref np, .ref nv, .ref q1, .ref q2, .ref q3, .ref q4, .int pr])), (q1, .inl (cI, 61, .inl fq1a)), (q2, .inl (cI, 61, .inl fq2a)), (q3, .inl (cI, 61, .inl fq3a)), (q4, .inl (cI, 61, .inl fq4a)), (a41, .inl (cI, 256, .inl f41)), (a51, .inl (cI, 256, .inl f51)), (oK, .inr (3, [.ref k1, .ref k2, .int lK])), (k1, .inl (cI, 1024, .inl fK1)), (k2, .inl (cI, 1024, .inl fK2)), (oE, .inr (8, [.ref oC, .ref oK, .int rea, .int laa, .int sua, .int lea])), (h2, .inl (cI, 6, .inl fH2)), (nx, .inr (5, [.ref ax, .int lx])), (ax, .inl (cI, 300, .inl fx)), (oC, .inr (2, [.ref o4, .ref o5])), (o4, .inr (10, [.ref a41, .ref a42, .ref a43, .int l4])), (a42, .inl (cI, 512, .inl f42)), (a43, .inl (cI, 512, .inl f43)), (o5, .inr (10, [.ref a51, .ref a52, .ref a53, .int l5])), (a52, .inl (cI, 512, .inl f52)), (a53, .inl (cI, 512, .inl f53)), (aq, .inl (cI, 480, .inl fu_6)), (oH, .inr (4, [.ref oP, .ref h1, .ref h2, .int lH])), (h1, .inl (cI, 6, .inl fH1)), (nq, .inr (5, [.ref aq, .int lu_6]))] rfl
          clear hP hD hS hJ hP1 hD1
          have hP := hPn
          have hD := hDn
          have hS := hSn
          clear hPn hDn hSn
          rw [hf9_0]
          refine kV_v (rest := []) (q0 := 0) (ci := 8) hcf (f_X8_goOn l dC dI cI cS H.size oE nq oC oK o4 o5 a41 a42 a43 a51 a52 a53 k1 k2 aq 480 rea laa sua lea l4 f41 l5 f51 lK fK1 fK2 lu_6 fu_6 r_8 lu_6 (g_laa) (g_lK) (hf6_0) (by omega) (by omega) (hby9) (hL4) (hL5) (hT) (ho) (hV) (by omega) (hru9)) kc_X8_goOn gX6_tryUndone_X8_goOn rfl rfl rfl ⟨Nat.le_of_ble_eq_true rfl, Nat.le_of_ble_eq_true rfl⟩ (kX_1 hN52) hK hP hD hS hA [10, 14, 15, 5, 18, 6, 7, 8, 9, 24, 21] [0, 1, 2, 3, 4, 11, 12, 13, 16, 17, 19, 20, 22, 23] rfl (by decide +kernel) rfl rfl rfl hl rfl (Nat.le_of_ble_eq_true rfl) dX6_tryUndone_77 ⟨Nat.le_of_ble_eq_true rfl, Nat.le_of_ble_eq_true rfl⟩ (fun H locs hB hJ hSn => ?_)
          obtain ⟨reE_10, laE_10, suE_10, leE_10, ⟨hP1, hD1⟩, hf10_0, hf10_1, hf10_2, hf10_3⟩ := hB
          obtain ⟨hPn, hDn⟩ := hJ _ hP1 hD1 [(oQ, .inr (6, [.ref oC, .ref oH, .ref oK, .ref oE, .ref nq, .ref np, .ref nv, .ref q1, .ref q2, .ref q3, .ref q4, .int pr])), (q1, .inl (cI, 61, .inl fq1a)), (q2, .inl (cI, 61, .inl fq2a)), (q3, .inl (cI, 61, .inl fq3a)), (q4, .inl (cI, 61, .inl fq4a)), (h2, .inl (cI, 6, .inl fH2)), (nx, .inr (5, [.ref ax, .int lx])), (ax, .inl (cI, 300, .inl fx)), (a42, .inl (cI, 512, .inl f42)), (a43, .inl (cI, 512, .inl f43)), (a52, .inl (cI, 512, .inl f52)), (a53, .inl (cI, 512, .inl f53)), (oH, .inr (4, [.ref oP, .ref h1, .ref h2, .int lH])), (h1, .inl (cI, 6, .inl fH1)), (oE, .inr (8, [.ref oC, .ref oK, .int reE_10, .int laE_10, .int suE_10, .int leE_10])), (oC, .inr (2, [.ref o4, .ref o5])), (o4, .inr (10, [.ref a41, .ref a42, .ref a43, .int l4])), (a41, .inl (cI, 256, .inl f41)), (o5, .inr (10, [.ref a51, .ref a52, .ref a53, .int l5])), (a51, .inl (cI, 256, .inl f51)), (oK, .inr (3, [.ref k1, .ref k2, .int lK])), (k1, .inl (cI, 1024, .inl fK1)), (k2, .inl (cI, 1024, .inl fK2)), (nq, .inr (5, [.ref aq, .int lu_6])), (aq, .inl (cI, 480, .inl fu_6))] rfl
          clear hP hD hS hJ hP1 hD1
          have hP := hPn
          have hD := hDn
          have hS := hSn
          clear hPn hDn hSn
          have hrg9 := hf10_2
          have hrh9 := hf10_3
          rw [hf8_0] at hrg9 hrh9
          refine lv_aload_n hx hb dX6_tryUndone_80 rfl (lv_at hl 1 rfl) ?_
          refine va_get (D := (dC, dI)) (ci := 6) (v := .ref oE) (C := RX6) (T := TX6) (N := 12) hx hb hts in_X6 hown hK hP 0 rfl rfl 3 (by decide) (hts (.fieldLink RX6 56 "TextMender$Parting" "reading" "LTextMender$Reading;") (List.mem_of_getElem? (i := 1) rfl)) (fun _ h9 => h9) rfl dX6_tryUndone_81 ?_
          refine kV_i (rest := []) (q0 := 0) (ci := 8) hcf (m_X8_letters l dC dI cI cS H.size oE oC oK reE_10 laE_10 suE_10 leE_10 ) kc_X8_letters gX6_tryUndone_X8_letters rfl rfl rfl ⟨Nat.le_of_ble_eq_true rfl, Nat.le_of_ble_eq_true rfl⟩ kX_t hK hP hD hS hA [14] [0, 1, 2, 3, 4, 5, 6, 7, 8, 9, 10, 11, 12, 13, 15, 16, 17, 18, 19, 20, 21, 22, 23, 24] rfl (by decide +kernel) rfl rfl rfl hl rfl (Nat.le_of_ble_eq_true rfl) dX6_tryUndone_84 ⟨Nat.le_of_ble_eq_true rfl, Nat.le_of_ble_eq_true rfl⟩ (fun r_11 H locs hB hJ hSn => ?_)
          obtain ⟨⟨hP1, hD1⟩, hf11_0⟩ := hB
          obtain ⟨hPn, hDn⟩ := hJ _ hP1 hD1 [(oQ, .inr (6, [.ref oC, .ref oH, .ref oK, .ref oE, .ref nq, .ref np, .ref nv, .ref q1, .ref q2, .ref q3, .ref q4, .int pr])), (q1, .inl (cI, 61, .inl fq1a)), (q2, .inl (cI, 61, .inl fq2a)), (q3, .inl (cI, 61, .inl fq3a)), (q4, .inl (cI, 61, .inl fq4a)), (h2, .inl (cI, 6, .inl fH2)), (nx, .inr (5, [.ref ax, .int lx])), (ax, .inl (cI, 300, .inl fx)), (a42, .inl (cI, 512, .inl f42)), (a43, .inl (cI, 512, .inl f43)), (a52, .inl (cI, 512, .inl f52)), (a53, .inl (cI, 512, .inl f53)), (oH, .inr (4, [.ref oP, .ref h1, .ref h2, .int lH])), (h1, .inl (cI, 6, .inl fH1)), (oC, .inr (2, [.ref o4, .ref o5])), (o4, .inr (10, [.ref a41, .ref a42, .ref a43, .int l4])), (a41, .inl (cI, 256, .inl f41)), (o5, .inr (10, [.ref a51, .ref a52, .ref a53, .int l5])), (a51, .inl (cI, 256, .inl f51)), (oK, .inr (3, [.ref k1, .ref k2, .int lK])), (k1, .inl (cI, 1024, .inl fK1)), (k2, .inl (cI, 1024, .inl fK2)), (nq, .inr (5, [.ref aq, .int lu_6])), (aq, .inl (cI, 480, .inl fu_6)), (oE, .inr (8, [.ref oC, .ref oK, .int reE_10, .int laE_10, .int suE_10, .int leE_10]))] rfl
          clear hP hD hS hJ hP1 hD1
          have hP := hPn
          have hD := hDn
          have hS := hSn
          clear hPn hDn hSn
          rw [hf11_0]
          refine lv_sipush (v := 300) hx hb dX6_tryUndone_87 (by decide) ?_
          refine lv_icmp_le (tgt := 94) hx hb dX6_tryUndone_90 (by decide) (fun c_12 => ?_) (fun c_12 => ?_)
          · have tc_12 : leE_10.toInt ≤ 300 := v_le c_12
            refine lv_aload_n hx hb dX6_tryUndone_94 rfl (lv_at hl 1 rfl) ?_
            refine va_get (D := (dC, dI)) (ci := 6) (v := .ref oE) (C := RX6) (T := TX6) (N := 12) hx hb hts in_X6 hown hK hP 0 rfl rfl 3 (by decide) (hts (.fieldLink RX6 56 "TextMender$Parting" "reading" "LTextMender$Reading;") (List.mem_of_getElem? (i := 1) rfl)) (fun _ h9 => h9) rfl dX6_tryUndone_95 ?_
            refine kV_i (rest := []) (q0 := 0) (ci := 8) hcf (m_X8_reached l dC dI cI cS H.size oE oC oK reE_10 laE_10 suE_10 leE_10 ) kc_X8_reached gX6_tryUndone_X8_reached rfl rfl rfl ⟨Nat.le_of_ble_eq_true rfl, Nat.le_of_ble_eq_true rfl⟩ kX_t hK hP hD hS hA [24] [0, 1, 2, 3, 4, 5, 6, 7, 8, 9, 10, 11, 12, 13, 14, 15, 16, 17, 18, 19, 20, 21, 22, 23] rfl (by decide +kernel) rfl rfl rfl hl rfl (Nat.le_of_ble_eq_true rfl) dX6_tryUndone_98 ⟨Nat.le_of_ble_eq_true rfl, Nat.le_of_ble_eq_true rfl⟩ (fun r_13 H locs hB hJ hSn => ?_)
            obtain ⟨⟨hP1, hD1⟩, hf13_0⟩ := hB
            obtain ⟨hPn, hDn⟩ := hJ _ hP1 hD1 [(oQ, .inr (6, [.ref oC, .ref oH, .ref oK, .ref oE, .ref nq, .ref np, .ref nv, .ref q1, .ref q2, .ref q3, .ref q4, .int pr])), (q1, .inl (cI, 61, .inl fq1a)), (q2, .inl (cI, 61, .inl fq2a)), (q3, .inl (cI, 61, .inl fq3a)), (q4, .inl (cI, 61, .inl fq4a)), (h2, .inl (cI, 6, .inl fH2)), (nx, .inr (5, [.ref ax, .int lx])), (ax, .inl (cI, 300, .inl fx)), (a42, .inl (cI, 512, .inl f42)), (a43, .inl (cI, 512, .inl f43)), (a52, .inl (cI, 512, .inl f52)), (a53, .inl (cI, 512, .inl f53)), (oH, .inr (4, [.ref oP, .ref h1, .ref h2, .int lH])), (h1, .inl (cI, 6, .inl fH1)), (oC, .inr (2, [.ref o4, .ref o5])), (o4, .inr (10, [.ref a41, .ref a42, .ref a43, .int l4])), (a41, .inl (cI, 256, .inl f41)), (o5, .inr (10, [.ref a51, .ref a52, .ref a53, .int l5])), (a51, .inl (cI, 256, .inl f51)), (oK, .inr (3, [.ref k1, .ref k2, .int lK])), (k1, .inl (cI, 1024, .inl fK1)), (k2, .inl (cI, 1024, .inl fK2)), (nq, .inr (5, [.ref aq, .int lu_6])), (aq, .inl (cI, 480, .inl fu_6)), (oE, .inr (8, [.ref oC, .ref oK, .int reE_10, .int laE_10, .int suE_10, .int leE_10]))] rfl
            clear hP hD hS hJ hP1 hD1
            have hP := hPn
            have hD := hDn
            have hS := hSn
            clear hPn hDn hSn
            rw [hf13_0]
            refine lv_aload_n hx hb dX6_tryUndone_101 rfl (lv_at hl 1 rfl) ?_
            refine va_get (D := (dC, dI)) (ci := 6) (v := .ref nq) (C := RX6) (T := TX6) (N := 12) hx hb hts in_X6 hown hK hP 0 rfl rfl 4 (by decide) (hts (.fieldLink RX6 14 "TextMender$Parting" "bytes" "LTextMender$Numbers;") (List.mem_of_getElem? (i := 2) rfl)) (fun _ h9 => h9) rfl dX6_tryUndone_102 ?_
            refine kV_i (rest := [.int reE_10]) (q0 := 0) (ci := 5) hcf (m_X5_length l dC dI cI cS H.size nq aq lu_6 ) kc_X5_length gX6_tryUndone_X5_length rfl rfl rfl ⟨Nat.le_of_ble_eq_true rfl, Nat.le_of_ble_eq_true rfl⟩ kX_t hK hP hD hS hA [22] [0, 1, 2, 3, 4, 5, 6, 7, 8, 9, 10, 11, 12, 13, 14, 15, 16, 17, 18, 19, 20, 21, 23, 24] rfl (by decide +kernel) rfl rfl rfl hl rfl (Nat.le_of_ble_eq_true rfl) dX6_tryUndone_105 ⟨Nat.le_of_ble_eq_true rfl, Nat.le_of_ble_eq_true rfl⟩ (fun r_14 H locs hB hJ hSn => ?_)
            obtain ⟨⟨hP1, hD1⟩, hf14_0⟩ := hB
            obtain ⟨hPn, hDn⟩ := hJ _ hP1 hD1 [(oQ, .inr (6, [.ref oC, .ref oH, .ref oK, .ref oE, .ref nq, .ref np, .ref nv, .ref q1, .ref q2, .ref q3, .ref q4, .int pr])), (q1, .inl (cI, 61, .inl fq1a)), (q2, .inl (cI, 61, .inl fq2a)), (q3, .inl (cI, 61, .inl fq3a)), (q4, .inl (cI, 61, .inl fq4a)), (h2, .inl (cI, 6, .inl fH2)), (nx, .inr (5, [.ref ax, .int lx])), (ax, .inl (cI, 300, .inl fx)), (a42, .inl (cI, 512, .inl f42)), (a43, .inl (cI, 512, .inl f43)), (a52, .inl (cI, 512, .inl f52)), (a53, .inl (cI, 512, .inl f53)), (oH, .inr (4, [.ref oP, .ref h1, .ref h2, .int lH])), (h1, .inl (cI, 6, .inl fH1)), (oC, .inr (2, [.ref o4, .ref o5])), (o4, .inr (10, [.ref a41, .ref a42, .ref a43, .int l4])), (a41, .inl (cI, 256, .inl f41)), (o5, .inr (10, [.ref a51, .ref a52, .ref a53, .int l5])), (a51, .inl (cI, 256, .inl f51)), (oK, .inr (3, [.ref k1, .ref k2, .int lK])), (k1, .inl (cI, 1024, .inl fK1)), (k2, .inl (cI, 1024, .inl fK2)), (aq, .inl (cI, 480, .inl fu_6)), (oE, .inr (8, [.ref oC, .ref oK, .int reE_10, .int laE_10, .int suE_10, .int leE_10])), (nq, .inr (5, [.ref aq, .int lu_6]))] rfl
            clear hP hD hS hJ hP1 hD1
            have hP := hPn
            have hD := hDn
            have hS := hSn
            clear hPn hDn hSn
            rw [hf14_0]
            refine lv_icmp_ne (tgt := 130) hx hb dX6_tryUndone_108 (by decide) (fun c_15 => ?_) (fun c_15 => ?_)
            · have tc_15 : ¬ reE_10.toInt = lu_6.toInt := v_ne c_15
              have rw15_0 := v_rng reE_10
              obtain ⟨x_16, ex_16⟩ : ∃ y : Int32, y = i + 1 := ⟨_, rfl⟩
              have tx_16 : x_16.toInt = i.toInt + 1 := v_addR (l2 := 1) (h2 := 1) ex_16 g_i (by decide) (by decide) (by decide)
              refine lv_iinc (v := x_16) (lv' := [(5, .int x_16), (0, .ref oQ), (1, .int h), (2, .int fr), (3, .ref nx), (4, .int n)]) hx hb dX6_tryUndone_130 hl (k := 0) rfl (by rw [ex_16]; rfl) (by decide) rfl (fun ls hl => ?_)
              refine lv_goto (tgt := 18) hx hb dX6_tryUndone_133 (by decide) ?_
              exact ih_18 x_16 reE_10 laE_10 suE_10 leE_10 lu_6 fq1a fq2a fq3a fq4a fu_6 _ _ _ (ms_lt hm_18 (by show ((60 - x_16.toInt : Int)) < 60 - i.toInt; omega) (by show (0 : Int) < 60 - i.toInt; omega)) (by show 0 ≤ x_16.toInt ∧ x_16.toInt ≤ 60; omega) (by show 0 ≤ reE_10.toInt ∧ reE_10.toInt ≤ 2400; omega) (hf10_0) (by show 0 ≤ suE_10.toInt ∧ suE_10.toInt ≤ 480000; omega) (by show 0 ≤ leE_10.toInt ∧ leE_10.toInt ≤ 2400; omega) (by show 0 ≤ lu_6.toInt ∧ lu_6.toInt ≤ 480; omega) (by show fr.toInt ≤ x_16.toInt ∧ x_16.toInt ≤ n.toInt; omega) (by show lu_6.toInt ≤ 8 * (x_16.toInt - fr.toInt); omega) (by show suE_10.toInt ≤ 200 * leE_10.toInt ∧ leE_10.toInt ≤ reE_10.toInt ∧ reE_10.toInt ≤ lu_6.toInt ∧ leE_10.toInt ≤ 300; omega) (by rw [show x_16.toInt = i9.toInt by omega]; exact hw9) (hrg9) (hqk) (hon) (BFS_no hbf (fun j h2 q9 => by have q8 : h2 < h.toInt ∨ (h2 = h.toInt ∧ (j : Int) ≤ i.toInt) := q9; show h2 < h.toInt ∨ (h2 = h.toInt ∧ (j : Int) ≤ x_16.toInt); omega) (fun j h2 j1 j2 q9 => un_o2 (Q := fun k9 => ∀ c f', ¬ UC fH1 fH2 f41 f42 f43 f51 f52 f53 k9 (j - fr.toNatClampNeg) (fun k => fx (fr.toNatClampNeg + k)) c f') (i := i) (i' := x_16) (h := h) q9 (by omega) (by omega) (fun j3 => un_jm (by omega) (hm_stop hw9 hby9 hrg9 (hrh9.resolve_left (by omega)) (by omega))))) (hP.sub [0, 1, 2, 3, 4, 22, 12, 13, 5, 14, 15, 16, 8, 9, 17, 18, 10, 11, 19, 20, 21, 6, 7, 23, 24] rfl) (hD.sub [0, 1, 2, 3, 4, 22, 12, 13, 5, 14, 15, 16, 8, 9, 17, 18, 10, 11, 19, 20, 21, 6, 7, 23, 24] (by decide +kernel) rfl) hS (lv_sub hl [0, 1, 2, 3, 4, 5] rfl)
            · have tc_15 : reE_10.toInt = lu_6.toInt := v_eq c_15
              have rw15_0 := v_rng reE_10
              obtain ⟨c9, f9, hH9, hC9⟩ := hm_yes (T := (tcC fK1 fK2)) hw9 (by omega) hrg9 (by omega) (by omega)
              refine lv_aload_n hx hb dX6_tryUndone_111 rfl (lv_at hl 1 rfl) ?_
              refine lv_iload_n hx hb dX6_tryUndone_112 rfl (lv_at hl 3 rfl) ?_
              refine lv_iload hx hb dX6_tryUndone_113 (lv_at hl 0 rfl) ?_
              refine lv_iconst (v := 1) hx hb dX6_tryUndone_115 (by decide) ?_
              refine lv_iadd hx hb dX6_tryUndone_116 ?_
              refine lv_topi (fun x_17 ex_17 => ?_)
              have tx_17 : x_17.toInt = i.toInt + 1 := v_addR (l2 := 1) (h2 := 1) ex_17 g_i (by decide) (by decide) (by decide)
              refine lv_iload_n hx hb dX6_tryUndone_117 rfl (lv_at hl 2 rfl) ?_
              refine lv_aload_n hx hb dX6_tryUndone_118 rfl (lv_at hl 1 rfl) ?_
              refine va_get (D := (dC, dI)) (ci := 6) (v := .ref oE) (C := RX6) (T := TX6) (N := 12) hx hb hts in_X6 hown hK hP 0 rfl rfl 3 (by decide) (hts (.fieldLink RX6 56 "TextMender$Parting" "reading" "LTextMender$Reading;") (List.mem_of_getElem? (i := 1) rfl)) (fun _ h9 => h9) rfl dX6_tryUndone_119 ?_
              refine lv_bipush (v := 32) hx hb dX6_tryUndone_122 (by decide) ?_
              refine kV_i (rest := [.int h, .int x_17, .int fr, .ref oQ]) (q0 := 0) (ci := 8) hcf (f_X8_sumWith l dC dI cI cS H.size oE oC oK k1 k2 reE_10 laE_10 suE_10 leE_10 lK fK1 fK2 32 (hf10_0) (by omega) (g_lK) (by decide) (hT) (ho) (hV)) kc_X8_sumWith gX6_tryUndone_X8_sumWith rfl rfl rfl ⟨Nat.le_of_ble_eq_true rfl, Nat.le_of_ble_eq_true rfl⟩ kX_t hK hP hD hS hA [23, 19, 20, 21] [0, 1, 2, 3, 4, 5, 6, 7, 8, 9, 10, 11, 12, 13, 14, 15, 16, 17, 18, 22, 24] rfl (by decide +kernel) rfl rfl rfl hl rfl (Nat.le_of_ble_eq_true rfl) dX6_tryUndone_124 ⟨Nat.le_of_ble_eq_true rfl, Nat.le_of_ble_eq_true rfl⟩ (fun r_18 H locs hB hJ hSn => ?_)
              obtain ⟨⟨hP1, hD1⟩, hf18_0, hf18_1⟩ := hB
              obtain ⟨hPn, hDn⟩ := hJ _ hP1 hD1 [(oQ, .inr (6, [.ref oC, .ref oH, .ref oK, .ref oE, .ref nq, .ref np, .ref nv, .ref q1, .ref q2, .ref q3, .ref q4, .int pr])), (q1, .inl (cI, 61, .inl fq1a)), (q2, .inl (cI, 61, .inl fq2a)), (q3, .inl (cI, 61, .inl fq3a)), (q4, .inl (cI, 61, .inl fq4a)), (h2, .inl (cI, 6, .inl fH2)), (nx, .inr (5, [.ref ax, .int lx])), (ax, .inl (cI, 300, .inl fx)), (a42, .inl (cI, 512, .inl f42)), (a43, .inl (cI, 512, .inl f43)), (a52, .inl (cI, 512, .inl f52)), (a53, .inl (cI, 512, .inl f53)), (oH, .inr (4, [.ref oP, .ref h1, .ref h2, .int lH])), (h1, .inl (cI, 6, .inl fH1)), (oC, .inr (2, [.ref o4, .ref o5])), (o4, .inr (10, [.ref a41, .ref a42, .ref a43, .int l4])), (a41, .inl (cI, 256, .inl f41)), (o5, .inr (10, [.ref a51, .ref a52, .ref a53, .int l5])), (a51, .inl (cI, 256, .inl f51)), (aq, .inl (cI, 480, .inl fu_6)), (nq, .inr (5, [.ref aq, .int lu_6])), (oE, .inr (8, [.ref oC, .ref oK, .int reE_10, .int laE_10, .int suE_10, .int leE_10])), (oK, .inr (3, [.ref k1, .ref k2, .int lK])), (k1, .inl (cI, 1024, .inl fK1)), (k2, .inl (cI, 1024, .inl fK2))] rfl
              clear hP hD hS hJ hP1 hD1
              have hP := hPn
              have hD := hDn
              have hS := hSn
              clear hPn hDn hSn
              refine kV_v (rest := []) (q0 := 0) (ci := 6) hcf (f_X6_offer l dC dI cI cS H.size oQ oC oH oK oE nq np nv q1 q2 q3 q4 pr fq1a fq2a fq3a fq4a fr x_17 h r_18 (g_pr) (g_fr) (by omega) (by omega) (by omega) ((QOK_at (en := x_17) hqk (by omega) (by omega) (by omega) (by omega) (by omega)).1) ((QOK_at (en := x_17) hqk (by omega) (by omega) (by omega) (by omega) (by omega)).2)) kc_X6_offer gX6_tryUndone_X6_offer rfl rfl rfl ⟨Nat.le_of_ble_eq_true rfl, Nat.le_of_ble_eq_true rfl⟩ kX_t hK hP hD hS hA [0, 1, 2, 3, 4] [5, 6, 7, 8, 9, 10, 11, 12, 13, 14, 15, 16, 17, 18, 19, 20, 21, 22, 23, 24] rfl (by decide +kernel) rfl rfl rfl hl rfl (Nat.le_of_ble_eq_true rfl) dX6_tryUndone_127 ⟨Nat.le_of_ble_eq_true rfl, Nat.le_of_ble_eq_true rfl⟩ (fun H locs hB hJ hSn => ?_)
              obtain ⟨fQ1_19, fQ2_19, fQ3_19, fQ4_19, ⟨hP1, hD1⟩, hf19_0⟩ := hB
              obtain ⟨hPn, hDn⟩ := hJ _ hP1 hD1 [(h2, .inl (cI, 6, .inl fH2)), (nx, .inr (5, [.ref ax, .int lx])), (ax, .inl (cI, 300, .inl fx)), (a42, .inl (cI, 512, .inl f42)), (a43, .inl (cI, 512, .inl f43)), (a52, .inl (cI, 512, .inl f52)), (a53, .inl (cI, 512, .inl f53)), (oH, .inr (4, [.ref oP, .ref h1, .ref h2, .int lH])), (h1, .inl (cI, 6, .inl fH1)), (oC, .inr (2, [.ref o4, .ref o5])), (o4, .inr (10, [.ref a41, .ref a42, .ref a43, .int l4])), (a41, .inl (cI, 256, .inl f41)), (o5, .inr (10, [.ref a51, .ref a52, .ref a53, .int l5])), (a51, .inl (cI, 256, .inl f51)), (aq, .inl (cI, 480, .inl fu_6)), (nq, .inr (5, [.ref aq, .int lu_6])), (oE, .inr (8, [.ref oC, .ref oK, .int reE_10, .int laE_10, .int suE_10, .int leE_10])), (oK, .inr (3, [.ref k1, .ref k2, .int lK])), (k1, .inl (cI, 1024, .inl fK1)), (k2, .inl (cI, 1024, .inl fK2)), (oQ, .inr (6, [.ref oC, .ref oH, .ref oK, .ref oE, .ref nq, .ref np, .ref nv, .ref q1, .ref q2, .ref q3, .ref q4, .int pr])), (q1, .inl (cI, 61, .inl fQ1_19)), (q2, .inl (cI, 61, .inl fQ2_19)), (q3, .inl (cI, 61, .inl fQ3_19)), (q4, .inl (cI, 61, .inl fQ4_19))] rfl
              clear hP hD hS hJ hP1 hD1
              have hP := hPn
              have hD := hDn
              have hS := hSn
              clear hPn hDn hSn
              obtain ⟨x_20, ex_20⟩ : ∃ y : Int32, y = i + 1 := ⟨_, rfl⟩
              have tx_20 : x_20.toInt = i.toInt + 1 := v_addR (l2 := 1) (h2 := 1) ex_20 g_i (by decide) (by decide) (by decide)
              refine lv_iinc (v := x_20) (lv' := [(5, .int x_20), (0, .ref oQ), (1, .int h), (2, .int fr), (3, .ref nx), (4, .int n)]) hx hb dX6_tryUndone_130 hl (k := 0) rfl (by rw [ex_20]; rfl) (by decide) rfl (fun ls hl => ?_)
              refine lv_goto (tgt := 18) hx hb dX6_tryUndone_133 (by decide) ?_
              exact ih_18 x_20 reE_10 laE_10 suE_10 leE_10 lu_6 fQ1_19 fQ2_19 fQ3_19 fQ4_19 fu_6 _ _ _ (ms_lt hm_18 (by show ((60 - x_20.toInt : Int)) < 60 - i.toInt; omega) (by show (0 : Int) < 60 - i.toInt; omega)) (by show 0 ≤ x_20.toInt ∧ x_20.toInt ≤ 60; omega) (by show 0 ≤ reE_10.toInt ∧ reE_10.toInt ≤ 2400; omega) (hf10_0) (by show 0 ≤ suE_10.toInt ∧ suE_10.toInt ≤ 480000; omega) (by show 0 ≤ leE_10.toInt ∧ leE_10.toInt ≤ 2400; omega) (by show 0 ≤ lu_6.toInt ∧ lu_6.toInt ≤ 480; omega) (by show fr.toInt ≤ x_20.toInt ∧ x_20.toInt ≤ n.toInt; omega) (by show lu_6.toInt ≤ 8 * (x_20.toInt - fr.toInt); omega) (by show suE_10.toInt ≤ 200 * leE_10.toInt ∧ leE_10.toInt ≤ reE_10.toInt ∧ reE_10.toInt ≤ lu_6.toInt ∧ leE_10.toInt ≤ 300; omega) (by rw [show x_20.toInt = i9.toInt by omega]; exact hw9) (hrg9) (QOK_of hf19_0 (by omega) hqk) (only_t hon (only_of hf19_0 (by omega))) ((BFS_off okU9 hbf hf19_0 hqk (by omega) (fun j hj => hlt j (by omega)) (by omega) (by omega) (by omega) ⟨by omega, by omega⟩ (Or.inr ⟨by omega, by have c9 := v_clamp (x := x_17) (by omega); rw [show x_17.toNatClampNeg - fr.toNatClampNeg = (i9.toInt - (fr.toNatClampNeg : Int)).toNat by omega]; exact hH9⟩) (hC9 _ hf18_1) (by omega) (by omega) (fun j2 h2 => by have c9 := v_clamp (x := x_17) (by omega); show (h2 < h.toInt ∨ (h2 = h.toInt ∧ (j2 : Int) ≤ x_20.toInt)) ↔ ((h2 < h.toInt ∨ (h2 = h.toInt ∧ (j2 : Int) ≤ i.toInt)) ∨ (j2 = x_17.toNatClampNeg ∧ h2 = h.toInt)); omega) (fun j2 h2 q9 => by have q8 : h2 < h.toInt ∨ (h2 = h.toInt ∧ (j2 : Int) ≤ i.toInt) := q9; omega)).1) (hP.sub [20, 21, 22, 23, 24, 14, 7, 8, 0, 9, 10, 11, 3, 4, 12, 13, 5, 6, 17, 18, 19, 1, 2, 16, 15] rfl) (hD.sub [20, 21, 22, 23, 24, 14, 7, 8, 0, 9, 10, 11, 3, 4, 12, 13, 5, 6, 17, 18, 19, 1, 2, 16, 15] (by decide +kernel) rfl) hS (lv_sub hl [0, 1, 2, 3, 4, 5] rfl)
          · have tc_12 : 300 < leE_10.toInt := v_nle c_12
            exact kl_v hQQ hx hb hr hlocks hS dX6_tryUndone_93 ⟨lu_6, fu_6, reE_10, laE_10, suE_10, leE_10, fq1a, fq2a, fq3a, fq4a, kPD_sub hP hD [0, 1, 2, 3, 4, 22, 23, 24, 12, 13, 5, 14, 15, 16, 8, 9, 17, 18, 10, 11, 19, 20, 21, 6, 7] (by decide +kernel) rfl, by omega, hqk, hon, BFS_no hbf (fun j h2 q9 => by have q8 : h2 < h.toInt ∨ (h2 = h.toInt ∧ (j : Int) ≤ i.toInt) := q9; show h2 < h.toInt + 1; omega) (fun j h2 j1 j2 q9 => un_or (Q := fun k9 => ∀ c f', ¬ UC fH1 fH2 f41 f42 f43 f51 f52 f53 k9 (j - fr.toNatClampNeg) (fun k => fx (fr.toNatClampNeg + k)) c f') (i := i) (h := h) q9 (by omega) (fun j3 => hm_over hw9 (by omega) hrg9 (by omega) (by omega)))⟩
        · have tc_7 : r_6.toInt = 0 := v_eq c_7
          exact kl_v hQQ hx hb hr hlocks hS dX6_tryUndone_53 ⟨lu_6, fu_6, rea, laa, sua, lea, fq1a, fq2a, fq3a, fq4a, kPD_sub hP hD [0, 1, 2, 3, 4, 23, 24, 11, 12, 5, 13, 16, 17, 6, 18, 19, 20, 7, 21, 22, 8, 9, 10, 14, 15] (by decide +kernel) rfl, by omega, hqk, hon, BFS_no hbf (fun j h2 q9 => by have q8 : h2 < h.toInt ∨ (h2 = h.toInt ∧ (j : Int) ≤ i.toInt) := q9; show h2 < h.toInt + 1; omega) (fun j h2 j1 j2 q9 => un_or (Q := fun k9 => ∀ c f', ¬ UC fH1 fH2 f41 f42 f43 f51 f52 f53 k9 (j - fr.toNatClampNeg) (fun k => fx (fr.toNatClampNeg + k)) c f') (i := i) (h := h) q9 (by omega) (fun j3 => hm_enc (k := (i.toInt - (fr.toNatClampNeg : Int)).toNat) (by omega) (Eq.trans (by show enc (fH2 h.toNatClampNeg) (fx (fr.toNatClampNeg + (i.toInt - (fr.toNatClampNeg : Int)).toNat)) (Bc (fH2 h.toNatClampNeg) f42 f43 f52 f53 (fx (fr.toNatClampNeg + (i.toInt - (fr.toNatClampNeg : Int)).toNat))) = _; rw [show fr.toNatClampNeg + (i.toInt - (fr.toNatClampNeg : Int)).toNat = i.toNatClampNeg by omega, ← hg5, ← hf4_0]) (F_en_0 hf6_2 (by omega)))))⟩
  exact LOOP_18 _ fr reE_1 laE_1 suE_1 leE_1 lu_2 fQ1 fQ2 fQ3 fQ4 fq _ _ _ (ms_s _) (v_rr g_fr (by decide) (by decide)) (by show 0 ≤ reE_1.toInt ∧ reE_1.toInt ≤ 2400; omega) (by show 0 ≤ laE_1.toInt ∧ laE_1.toInt ≤ 65535; omega) (by show 0 ≤ suE_1.toInt ∧ suE_1.toInt ≤ 480000; omega) (by show 0 ≤ leE_1.toInt ∧ leE_1.toInt ≤ 2400; omega) (by show 0 ≤ lu_2.toInt ∧ lu_2.toInt ≤ 480; omega) (by show fr.toInt ≤ fr.toInt ∧ fr.toInt ≤ n.toInt; omega) (by show lu_2.toInt ≤ 8 * (fr.toInt - fr.toInt); omega) (by show suE_1.toInt ≤ 200 * leE_1.toInt ∧ leE_1.toInt ≤ reE_1.toInt ∧ reE_1.toInt ≤ lu_2.toInt ∧ leE_1.toInt ≤ 300; omega) (by rw [show (fr.toInt - (fr.toNatClampNeg : Int)).toNat = 0 by omega]; exact WR_0 (by omega)) (RS_0 hb5 hb2 hb6 hb7) (hq) (only_r) (BFS_A hb0 (fun j h2 s sp c9 => by have c8 := c9.1; show (h2 < h.toInt ∨ (h2 = h.toInt ∧ (j : Int) ≤ fr.toInt)) ↔ h2 < h.toInt; omega)) hP hD hS (lv_sub hl [0, 1, 2, 3, 4, 5] rfl)

end

/-! 5a.a.rows -/
section
set_option maxRecDepth 100000 in
theorem dA314_cX6_find : kDec cX6_find [(0, .aload_n 0, 1), (1, .iload_n 2, 1), (2, .putfield 60, 3), (5, .aload_n 1, 1), (6, .invokevirtual 64, 3), (9, .bipush 60, 2), (11, .invokestatic 68, 3), (14, .istore_n 3, 1), (15, .aload_n 0, 1), (16, .getfield 26, 3), (19, .iload_n 3, 1), (20, .iconst 0, 1), (21, .iastore, 1), (22, .aload_n 0, 1), (23, .getfield 30, 3), (26, .iload_n 3, 1), (27, .iconst 0, 1), (28, .iastore, 1), (29, .iload_n 3, 1), (30, .iconst 1, 1), (31, .isub, 1), (32, .istore 4, 2), (34, .iload 4, 2), (36, .ifCond .lt 56, 3)] = true := by decide +kernel
theorem dX6_find_0 : decode cX6_find 0 = .ok (.aload_n 0, 1) := kDec_at dA314_cX6_find 0 rfl
theorem dX6_find_1 : decode cX6_find 1 = .ok (.iload_n 2, 1) := kDec_at dA314_cX6_find 1 rfl
theorem dX6_find_2 : decode cX6_find 2 = .ok (.putfield 60, 3) := kDec_at dA314_cX6_find 2 rfl
theorem dX6_find_5 : decode cX6_find 5 = .ok (.aload_n 1, 1) := kDec_at dA314_cX6_find 3 rfl
theorem dX6_find_6 : decode cX6_find 6 = .ok (.invokevirtual 64, 3) := kDec_at dA314_cX6_find 4 rfl
theorem dX6_find_9 : decode cX6_find 9 = .ok (.bipush 60, 2) := kDec_at dA314_cX6_find 5 rfl
theorem dX6_find_11 : decode cX6_find 11 = .ok (.invokestatic 68, 3) := kDec_at dA314_cX6_find 6 rfl
theorem dX6_find_14 : decode cX6_find 14 = .ok (.istore_n 3, 1) := kDec_at dA314_cX6_find 7 rfl
theorem dX6_find_15 : decode cX6_find 15 = .ok (.aload_n 0, 1) := kDec_at dA314_cX6_find 8 rfl
theorem dX6_find_16 : decode cX6_find 16 = .ok (.getfield 26, 3) := kDec_at dA314_cX6_find 9 rfl
theorem dX6_find_19 : decode cX6_find 19 = .ok (.iload_n 3, 1) := kDec_at dA314_cX6_find 10 rfl
theorem dX6_find_20 : decode cX6_find 20 = .ok (.iconst 0, 1) := kDec_at dA314_cX6_find 11 rfl
theorem dX6_find_21 : decode cX6_find 21 = .ok (.iastore, 1) := kDec_at dA314_cX6_find 12 rfl
theorem dX6_find_22 : decode cX6_find 22 = .ok (.aload_n 0, 1) := kDec_at dA314_cX6_find 13 rfl
theorem dX6_find_23 : decode cX6_find 23 = .ok (.getfield 30, 3) := kDec_at dA314_cX6_find 14 rfl
theorem dX6_find_26 : decode cX6_find 26 = .ok (.iload_n 3, 1) := kDec_at dA314_cX6_find 15 rfl
theorem dX6_find_27 : decode cX6_find 27 = .ok (.iconst 0, 1) := kDec_at dA314_cX6_find 16 rfl
theorem dX6_find_28 : decode cX6_find 28 = .ok (.iastore, 1) := kDec_at dA314_cX6_find 17 rfl
theorem dX6_find_29 : decode cX6_find 29 = .ok (.iload_n 3, 1) := kDec_at dA314_cX6_find 18 rfl
theorem dX6_find_30 : decode cX6_find 30 = .ok (.iconst 1, 1) := kDec_at dA314_cX6_find 19 rfl
theorem dX6_find_31 : decode cX6_find 31 = .ok (.isub, 1) := kDec_at dA314_cX6_find 20 rfl
theorem dX6_find_32 : decode cX6_find 32 = .ok (.istore 4, 2) := kDec_at dA314_cX6_find 21 rfl
theorem dX6_find_34 : decode cX6_find 34 = .ok (.iload 4, 2) := kDec_at dA314_cX6_find 22 rfl
theorem dX6_find_36 : decode cX6_find 36 = .ok (.ifCond .lt 56, 3) := kDec_at dA314_cX6_find 23 rfl
set_option maxRecDepth 20000 in
theorem ggX6_find_X5_length : GoodIn wsX6_find wsX5_length := goodIn_r _ [13, 14, 203, 204] rfl (by decide +kernel)
set_option maxRecDepth 20000 in
theorem gX6_find_X5_length : GoodIn wsX6_find (wsV RX6 64 RX5 yX5_length wsX5_length) := goodIn_app (goodIn_r _ [9, 10, 11, 12] rfl (by decide +kernel)) ggX6_find_X5_length
set_option maxRecDepth 100000 in
theorem dA315_cX6_find : kDec cX6_find [(92, .return_, 1), (39, .aload_n 0, 1), (40, .getfield 26, 3), (43, .iload 4, 2), (45, .iconst (-1), 1), (46, .iastore, 1), (47, .aload_n 0, 1), (48, .iload 4, 2), (50, .aload_n 1, 1), (51, .iload_n 3, 1), (52, .invokevirtual 74, 3), (55, .iconst 0, 1), (56, .istore 5, 2), (58, .iload 5, 2), (60, .aload_n 0, 1), (61, .getfield 43, 3), (64, .invokevirtual 78, 3), (67, .if_icmp .ge 19, 3), (86, .iinc 4 (-1), 3), (89, .goto (-55), 3), (70, .aload_n 0, 1), (71, .iload 5, 2), (73, .iload 4, 2), (75, .aload_n 1, 1)] = true := by decide +kernel
theorem dX6_find_92 : decode cX6_find 92 = .ok (.return_, 1) := kDec_at dA315_cX6_find 0 rfl
theorem dX6_find_39 : decode cX6_find 39 = .ok (.aload_n 0, 1) := kDec_at dA315_cX6_find 1 rfl
theorem dX6_find_40 : decode cX6_find 40 = .ok (.getfield 26, 3) := kDec_at dA315_cX6_find 2 rfl
theorem dX6_find_43 : decode cX6_find 43 = .ok (.iload 4, 2) := kDec_at dA315_cX6_find 3 rfl
theorem dX6_find_45 : decode cX6_find 45 = .ok (.iconst (-1), 1) := kDec_at dA315_cX6_find 4 rfl
theorem dX6_find_46 : decode cX6_find 46 = .ok (.iastore, 1) := kDec_at dA315_cX6_find 5 rfl
theorem dX6_find_47 : decode cX6_find 47 = .ok (.aload_n 0, 1) := kDec_at dA315_cX6_find 6 rfl
theorem dX6_find_48 : decode cX6_find 48 = .ok (.iload 4, 2) := kDec_at dA315_cX6_find 7 rfl
theorem dX6_find_50 : decode cX6_find 50 = .ok (.aload_n 1, 1) := kDec_at dA315_cX6_find 8 rfl
theorem dX6_find_51 : decode cX6_find 51 = .ok (.iload_n 3, 1) := kDec_at dA315_cX6_find 9 rfl
theorem dX6_find_52 : decode cX6_find 52 = .ok (.invokevirtual 74, 3) := kDec_at dA315_cX6_find 10 rfl
theorem dX6_find_55 : decode cX6_find 55 = .ok (.iconst 0, 1) := kDec_at dA315_cX6_find 11 rfl
theorem dX6_find_56 : decode cX6_find 56 = .ok (.istore 5, 2) := kDec_at dA315_cX6_find 12 rfl
theorem dX6_find_58 : decode cX6_find 58 = .ok (.iload 5, 2) := kDec_at dA315_cX6_find 13 rfl
theorem dX6_find_60 : decode cX6_find 60 = .ok (.aload_n 0, 1) := kDec_at dA315_cX6_find 14 rfl
theorem dX6_find_61 : decode cX6_find 61 = .ok (.getfield 43, 3) := kDec_at dA315_cX6_find 15 rfl
theorem dX6_find_64 : decode cX6_find 64 = .ok (.invokevirtual 78, 3) := kDec_at dA315_cX6_find 16 rfl
theorem dX6_find_67 : decode cX6_find 67 = .ok (.if_icmp .ge 19, 3) := kDec_at dA315_cX6_find 17 rfl
theorem dX6_find_86 : decode cX6_find 86 = .ok (.iinc 4 (-1), 3) := kDec_at dA315_cX6_find 18 rfl
theorem dX6_find_89 : decode cX6_find 89 = .ok (.goto (-55), 3) := kDec_at dA315_cX6_find 19 rfl
theorem dX6_find_70 : decode cX6_find 70 = .ok (.aload_n 0, 1) := kDec_at dA315_cX6_find 20 rfl
theorem dX6_find_71 : decode cX6_find 71 = .ok (.iload 5, 2) := kDec_at dA315_cX6_find 21 rfl
theorem dX6_find_73 : decode cX6_find 73 = .ok (.iload 4, 2) := kDec_at dA315_cX6_find 22 rfl
theorem dX6_find_75 : decode cX6_find 75 = .ok (.aload_n 1, 1) := kDec_at dA315_cX6_find 23 rfl
set_option maxRecDepth 20000 in
theorem ggX6_find_X6_tryAsItIs : GoodIn wsX6_find wsX6_tryAsItIs := goodIn_r _ [19, 20, 21, 22, 23, 12, 24, 14, 25, 26, 27, 28, 29, 30, 31, 32, 33, 34, 35, 36, 37, 38, 39, 40, 41, 42, 43, 44, 45, 46, 47, 48, 49, 50, 18, 51, 6, 7, 1, 52, 53, 54, 55, 56, 57, 191, 192, 193, 194, 195, 196, 197, 198, 199, 200, 201, 202, 203, 204, 205, 206, 207] rfl (by decide +kernel)
set_option maxRecDepth 20000 in
theorem gX6_find_X6_tryAsItIs : GoodIn wsX6_find (wsV RX6 74 RX6 yX6_tryAsItIs wsX6_tryAsItIs) := goodIn_app (goodIn_r _ [15, 16, 17, 18] rfl (by decide +kernel)) ggX6_find_X6_tryAsItIs
set_option maxRecDepth 20000 in
theorem ggX6_find_X4_length : GoodIn wsX6_find wsX4_length := goodIn_r _ [62, 63, 208, 209, 210, 211] rfl (by decide +kernel)
set_option maxRecDepth 20000 in
theorem gX6_find_X4_length : GoodIn wsX6_find (wsV RX6 78 RX4 yX4_length wsX4_length) := goodIn_app (goodIn_r _ [58, 59, 60, 61] rfl (by decide +kernel)) ggX6_find_X4_length
set_option maxRecDepth 100000 in
theorem dA316_cX6_find : kDec cX6_find [(76, .iload_n 3, 1), (77, .invokevirtual 81, 3), (80, .iinc 5 1, 3), (83, .goto (-25), 3)] = true := by decide +kernel
theorem dX6_find_76 : decode cX6_find 76 = .ok (.iload_n 3, 1) := kDec_at dA316_cX6_find 0 rfl
theorem dX6_find_77 : decode cX6_find 77 = .ok (.invokevirtual 81, 3) := kDec_at dA316_cX6_find 1 rfl
theorem dX6_find_80 : decode cX6_find 80 = .ok (.iinc 5 1, 3) := kDec_at dA316_cX6_find 2 rfl
theorem dX6_find_83 : decode cX6_find 83 = .ok (.goto (-25), 3) := kDec_at dA316_cX6_find 3 rfl
set_option maxRecDepth 20000 in
theorem ggX6_find_X6_tryUndone : GoodIn wsX6_find wsX6_tryUndone := goodIn_r _ [67, 68, 69, 70, 8, 71, 72, 73, 74, 75, 76, 77, 78, 79, 80, 81, 82, 12, 83, 14, 84, 85, 86, 61, 87, 63, 88, 21, 22, 23, 24, 25, 89, 90, 91, 92, 93, 94, 95, 96, 97, 98, 99, 100, 101, 102, 103, 104, 105, 106, 107, 108, 109, 110, 111, 112, 113, 114, 115, 116, 117, 118, 119, 120, 121, 122, 123, 124, 125, 126, 127, 128, 129, 9, 10, 11, 13, 130, 131, 132, 133, 134, 135, 136, 137, 138, 139, 140, 141, 4, 142, 143, 144, 145, 146, 147, 148, 149, 150, 151, 152, 153, 154, 155, 156, 157, 158, 159, 160, 161, 162, 163, 164, 165, 166, 167, 168, 169, 170, 171, 172, 173, 174, 175, 27, 28, 29, 30, 31, 32, 33, 34, 35, 36, 37, 38, 39, 40, 41, 42, 43, 44, 45, 46, 47, 176, 177, 178, 179, 180, 181, 182, 183, 184, 185, 186, 187, 188, 189, 190, 48, 49, 50, 18, 51, 6, 7, 1, 52, 53, 54, 55, 56, 57, 191, 192, 193, 194, 195, 196, 197, 198, 199, 200, 201, 202, 212, 213, 214, 215, 216, 217, 203, 204, 208, 209, 210, 211, 218, 219, 220, 221, 222, 223, 205, 206, 207] rfl (by decide +kernel)
set_option maxRecDepth 20000 in
theorem gX6_find_X6_tryUndone : GoodIn wsX6_find (wsV RX6 81 RX6 yX6_tryUndone wsX6_tryUndone) := goodIn_app (goodIn_r _ [64, 65, 66, 18] rfl (by decide +kernel)) ggX6_find_X6_tryUndone

end

/-! 5a.parts -/
section
theorem QOK_dn {n m m' : Int} {i : Nat} {Q1 Q2 : Nat → Int32} (h : QOK n m Q1 Q2) (em : m = i) (em' : m' = i - 1) (hi : (i : Int) < n) (b : 0 ≤ (Q1 i).toInt ∧ (Q1 i).toInt ≤ 70000 * (n - i) ∧ 1 ≤ (Q2 i).toInt ∧ (Q2 i).toInt ≤ n - i) : QOK n m' Q1 Q2 := by
  intro j h1 h2
  by_cases e : j = i
  · subst e
    exact ⟨b.1, b.2.1, by omega, b.2.2.2, fun _ => b.2.2.1⟩
  · exact h j (by omega) h2

set_option maxHeartbeats 40000000 in
set_option maxRecDepth 100000 in
theorem f_X6_find (l : Launch) (dC : Nat → ClassId) (dI : Nat → Nat → Nat) (cI cS : ClassId) (sz : Nat) (oQ : Nat) (nx : Nat) (oC : Nat) (oH : Nat) (oK : Nat) (oE : Nat) (nq : Nat) (np : Nat) (nv : Nat) (q1 : Nat) (q2 : Nat) (q3 : Nat) (q4 : Nat) (aq : Nat) (oP : Nat) (h1 : Nat) (h2 : Nat) (o4 : Nat) (o5 : Nat) (a41 : Nat) (a42 : Nat) (a43 : Nat) (a51 : Nat) (a52 : Nat) (a53 : Nat) (k1 : Nat) (k2 : Nat) (ax : Nat) (pr : Int32) (fQ1 : Nat → Int32) (fQ2 : Nat → Int32) (fQ3 : Nat → Int32) (fQ4 : Nat → Int32) (lq : Int32) (fq : Nat → Int32) (reE : Int32) (laE : Int32) (suE : Int32) (leE : Int32) (lH : Int32) (fH1 : Nat → Int32) (fH2 : Nat → Int32) (l4 : Int32) (f41 : Nat → Int32) (f42 : Nat → Int32) (f43 : Nat → Int32) (l5 : Int32) (f51 : Nat → Int32) (f52 : Nat → Int32) (f53 : Nat → Int32) (lK : Int32) (fK1 : Nat → Int32) (fK2 : Nat → Int32) (lx : Int32) (fx : Nat → Int32) (pe : Int32) (g_lq : 0 ≤ lq.toInt ∧ lq.toInt ≤ 480) (g_lH : 0 ≤ lH.toInt ∧ lH.toInt ≤ 6) (g_lK : 0 ≤ lK.toInt ∧ lK.toInt ≤ 300) (g_lx : 0 ≤ lx.toInt ∧ lx.toInt ≤ 300) (g_pe : 0 ≤ pe.toInt ∧ pe.toInt ≤ 1000) (hlx6 : 1 ≤ lx.toInt ∧ lx.toInt ≤ 60) (hlt : prg lx.toInt 0 65535 fx) (hT4 : HT 512 511 hsT f42 f43) (ho4 : (occ f43 512 : Int) ≤ 511) (hT5 : HT 512 511 hsT f52 f53) (ho5 : (occ f53 512 : Int) ≤ 511) (hL4 : prg 256 (-1) 65535 f41) (hL5 : prg 256 (-1) 65535 f51) (hBr : ∀ cd : Int32, okB (Bc cd f42 f43 f52 f53)) (hT : HT 1024 1023 hsK fK1 fK2) (ho : (occ fK2 1024 : Int) ≤ lK.toInt) (hV : prg 1024 (-1) 200 fK2) : kMv l yX6_find wsX6_find ({ frames := 6, cells := 0, slots := 0, locals := 149 } : Room) [.ref oQ, .ref nx, .int pe] sz (dC, dI) vwCl [(cI, .int), (cS, .short)] [(oQ, .inr (6, [.ref oC, .ref oH, .ref oK, .ref oE, .ref nq, .ref np, .ref nv, .ref q1, .ref q2, .ref q3, .ref q4, .int pr])), (q1, .inl (cI, 61, .inl fQ1)), (q2, .inl (cI, 61, .inl fQ2)), (q3, .inl (cI, 61, .inl fQ3)), (q4, .inl (cI, 61, .inl fQ4)), (nq, .inr (5, [.ref aq, .int lq])), (aq, .inl (cI, 480, .inl fq)), (oE, .inr (8, [.ref oC, .ref oK, .int reE, .int laE, .int suE, .int leE])), (oH, .inr (4, [.ref oP, .ref h1, .ref h2, .int lH])), (h1, .inl (cI, 6, .inl fH1)), (h2, .inl (cI, 6, .inl fH2)), (oC, .inr (2, [.ref o4, .ref o5])), (o4, .inr (10, [.ref a41, .ref a42, .ref a43, .int l4])), (a41, .inl (cI, 256, .inl f41)), (a42, .inl (cI, 512, .inl f42)), (a43, .inl (cI, 512, .inl f43)), (o5, .inr (10, [.ref a51, .ref a52, .ref a53, .int l5])), (a51, .inl (cI, 256, .inl f51)), (a52, .inl (cI, 512, .inl f52)), (a53, .inl (cI, 512, .inl f53)), (oK, .inr (3, [.ref k1, .ref k2, .int lK])), (k1, .inl (cI, 1024, .inl fK1)), (k2, .inl (cI, 1024, .inl fK2)), (nx, .inr (5, [.ref ax, .int lx])), (ax, .inl (cI, 300, .inl fx))] (va_Nw (.methodLinkNest RX2 52 yX11_isLetter "TextMender")) 0 0 (fun (A : Nat → Prop) (hh9 : Heap) => ∃ (lq' : Int32) (fq' : Nat → Int32) (reE' : Int32) (laE' : Int32) (suE' : Int32) (leE' : Int32) (fQ1' : Nat → Int32) (fQ2' : Nat → Int32) (fQ3' : Nat → Int32) (fQ4' : Nat → Int32) (pr' : Int32), kPD (dC, dI) vwCl A [(oQ, .inr (6, [.ref oC, .ref oH, .ref oK, .ref oE, .ref nq, .ref np, .ref nv, .ref q1, .ref q2, .ref q3, .ref q4, .int pr'])), (q1, .inl (cI, 61, .inl fQ1')), (q2, .inl (cI, 61, .inl fQ2')), (q3, .inl (cI, 61, .inl fQ3')), (q4, .inl (cI, 61, .inl fQ4')), (nq, .inr (5, [.ref aq, .int lq'])), (aq, .inl (cI, 480, .inl fq')), (oE, .inr (8, [.ref oC, .ref oK, .int reE', .int laE', .int suE', .int leE'])), (oH, .inr (4, [.ref oP, .ref h1, .ref h2, .int lH])), (h1, .inl (cI, 6, .inl fH1)), (h2, .inl (cI, 6, .inl fH2)), (oC, .inr (2, [.ref o4, .ref o5])), (o4, .inr (10, [.ref a41, .ref a42, .ref a43, .int l4])), (a41, .inl (cI, 256, .inl f41)), (a42, .inl (cI, 512, .inl f42)), (a43, .inl (cI, 512, .inl f43)), (o5, .inr (10, [.ref a51, .ref a52, .ref a53, .int l5])), (a51, .inl (cI, 256, .inl f51)), (a52, .inl (cI, 512, .inl f52)), (a53, .inl (cI, 512, .inl f53)), (oK, .inr (3, [.ref k1, .ref k2, .int lK])), (k1, .inl (cI, 1024, .inl fK1)), (k2, .inl (cI, 1024, .inl fK2)), (nx, .inr (5, [.ref ax, .int lx])), (ax, .inl (cI, 300, .inl fx))] hh9 ∧ (0 ≤ lq'.toInt ∧ lq'.toInt ≤ 480) ∧ (PBK (UC fH1 fH2 f41 f42 f43 f51 f52 f53) (tcC fK1 fK2) lH.toNatClampNeg lx.toNatClampNeg fx pe.toInt (0) fQ1' fQ2' fQ3' fQ4')) := by
  refine kMv_of (cc := cX6_find) (maxL := 6) (ret := none) (lv := [(0, .ref oQ), (1, .ref nx), (2, .int pe)]) (by decide +kernel) rfl rfl (Nat.le_of_ble_eq_true rfl) ?_
  intro p e s m below meth c A QQ ls hx hb hr hts hml hown hlocks hA hQQ hK hX hP hD hS hl
  have hown : s.vm.findClass RX6 = some m.cls := hown
  have hcf := k_cf hx hb hml hown hts
  have hN52 := hX
  have in_X6 : ∀ w ∈ wsX60, w ∈ wsX6_find := fun _ h => List.mem_cons_of_mem _ (List.mem_append_left _ (List.mem_append_left _ (List.mem_append_left _ (List.mem_append_left _ (List.mem_append_left _ (List.mem_append_left _ (List.mem_append_right _ (h))))))))
  have z0 : (0 : Int32).toInt = 0 := rfl
  have z1 : (1 : Int32).toInt = 1 := rfl
  have zm1 : (-1 : Int32).toInt = -1 := rfl
  have okU9 : okU (UC fH1 fH2 f41 f42 f43 f51 f52 f53) := okU_C hBr hL4 hL5
  have cz9 := v_clamp (x := lH) (by omega)
  have cx9 := v_clamp (x := lx) (by omega)
  refine lv_aload_n hx hb dX6_find_0 rfl (lv_at hl 0 rfl) ?_
  refine lv_iload_n hx hb dX6_find_1 rfl (lv_at hl 2 rfl) ?_
  refine va_put (D := (dC, dI)) (ci := 6) (v := .int pe) (ty := .int) (C := RX6) (T := TX6) (N := 12) hx hb hts in_X6 tyX6 tyX6_ok nmX6 hown hK hP hD hS 0 rfl rfl 11 (by decide) (hts (.fieldLink RX6 60 "TextMender$Parting" "price" "I") (List.mem_of_getElem? (i := 1) rfl)) (fun _ h9 => h9) rfl (by decide +kernel) rfl rfl (Nat.le_of_ble_eq_true rfl) dX6_find_2 (kW (wn := [(oQ, .inr (6, [.ref oC, .ref oH, .ref oK, .ref oE, .ref nq, .ref np, .ref nv, .ref q1, .ref q2, .ref q3, .ref q4, .int pe])), (q1, .inl (cI, 61, .inl fQ1)), (q2, .inl (cI, 61, .inl fQ2)), (q3, .inl (cI, 61, .inl fQ3)), (q4, .inl (cI, 61, .inl fQ4)), (nq, .inr (5, [.ref aq, .int lq])), (aq, .inl (cI, 480, .inl fq)), (oE, .inr (8, [.ref oC, .ref oK, .int reE, .int laE, .int suE, .int leE])), (oH, .inr (4, [.ref oP, .ref h1, .ref h2, .int lH])), (h1, .inl (cI, 6, .inl fH1)), (h2, .inl (cI, 6, .inl fH2)), (oC, .inr (2, [.ref o4, .ref o5])), (o4, .inr (10, [.ref a41, .ref a42, .ref a43, .int l4])), (a41, .inl (cI, 256, .inl f41)), (a42, .inl (cI, 512, .inl f42)), (a43, .inl (cI, 512, .inl f43)), (o5, .inr (10, [.ref a51, .ref a52, .ref a53, .int l5])), (a51, .inl (cI, 256, .inl f51)), (a52, .inl (cI, 512, .inl f52)), (a53, .inl (cI, 512, .inl f53)), (oK, .inr (3, [.ref k1, .ref k2, .int lK])), (k1, .inl (cI, 1024, .inl fK1)), (k2, .inl (cI, 1024, .inl fK2)), (nx, .inr (5, [.ref ax, .int lx])), (ax, .inl (cI, 300, .inl fx))]) rfl (fun H locs hPn hDn hSn => ?_))
  clear hP hD hS
  have hP := hPn
  have hD := hDn
  have hS := hSn
  clear hPn hDn hSn
  refine lv_aload_n hx hb dX6_find_5 rfl (lv_at hl 1 rfl) ?_
  refine kV_i (rest := []) (q0 := 0) (ci := 5) hcf (m_X5_length l dC dI cI cS H.size nx ax lx ) kc_X5_length gX6_find_X5_length rfl rfl rfl ⟨Nat.le_of_ble_eq_true rfl, Nat.le_of_ble_eq_true rfl⟩ kX_t hK hP hD hS hA [23] [0, 1, 2, 3, 4, 5, 6, 7, 8, 9, 10, 11, 12, 13, 14, 15, 16, 17, 18, 19, 20, 21, 22, 24] rfl (by decide +kernel) rfl rfl rfl hl rfl (Nat.le_of_ble_eq_true rfl) dX6_find_6 ⟨Nat.le_of_ble_eq_true rfl, Nat.le_of_ble_eq_true rfl⟩ (fun r_1 H locs hB hJ hSn => ?_)
  obtain ⟨⟨hP1, hD1⟩, hf1_0⟩ := hB
  obtain ⟨hPn, hDn⟩ := hJ _ hP1 hD1 [(oQ, .inr (6, [.ref oC, .ref oH, .ref oK, .ref oE, .ref nq, .ref np, .ref nv, .ref q1, .ref q2, .ref q3, .ref q4, .int pe])), (q1, .inl (cI, 61, .inl fQ1)), (q2, .inl (cI, 61, .inl fQ2)), (q3, .inl (cI, 61, .inl fQ3)), (q4, .inl (cI, 61, .inl fQ4)), (nq, .inr (5, [.ref aq, .int lq])), (aq, .inl (cI, 480, .inl fq)), (oE, .inr (8, [.ref oC, .ref oK, .int reE, .int laE, .int suE, .int leE])), (oH, .inr (4, [.ref oP, .ref h1, .ref h2, .int lH])), (h1, .inl (cI, 6, .inl fH1)), (h2, .inl (cI, 6, .inl fH2)), (oC, .inr (2, [.ref o4, .ref o5])), (o4, .inr (10, [.ref a41, .ref a42, .ref a43, .int l4])), (a41, .inl (cI, 256, .inl f41)), (a42, .inl (cI, 512, .inl f42)), (a43, .inl (cI, 512, .inl f43)), (o5, .inr (10, [.ref a51, .ref a52, .ref a53, .int l5])), (a51, .inl (cI, 256, .inl f51)), (a52, .inl (cI, 512, .inl f52)), (a53, .inl (cI, 512, .inl f53)), (oK, .inr (3, [.ref k1, .ref k2, .int lK])), (k1, .inl (cI, 1024, .inl fK1)), (k2, .inl (cI, 1024, .inl fK2)), (ax, .inl (cI, 300, .inl fx)), (nx, .inr (5, [.ref ax, .int lx]))] rfl
  clear hP hD hS hJ hP1 hD1
  have hP := hPn
  have hD := hDn
  have hS := hSn
  clear hPn hDn hSn
  rw [hf1_0]
  refine lv_bipush (v := 60) hx hb dX6_find_9 (by decide) ?_
  refine va_mmin hx hb (by rw [hml]; exact hl.1.symm) hown (hts (.methodLink RX6 68 Lib.Math.min.name) (List.mem_of_getElem? (i := 2) rfl)) (hts (.static Lib.Math.min.name) (List.mem_of_getElem? (i := 3) rfl)) (hts (.initialized "java/lang/Math") (List.mem_of_getElem? (i := 4) rfl)) (hts (.code Lib.Math.min.name Lib.Math.min.code 2 (some .int)) (List.mem_of_getElem? (i := 5) rfl)) (Nat.le_of_ble_eq_true rfl) (Nat.le_of_ble_eq_true rfl) (Nat.zero_le _) (Nat.zero_le _) dX6_find_11 ?_
  refine lv_topi (fun x_2 ex_2 => ?_)
  have tx_2 : x_2.toInt ≤ lx.toInt ∧ x_2.toInt ≤ 60 ∧ (x_2.toInt = lx.toInt ∨ x_2.toInt = 60) := v_min ex_2
  refine lv_istore_n (lv' := [(3, .int x_2), (0, .ref oQ), (1, .ref nx), (2, .int pe)]) hx hb dX6_find_14 rfl hl (by decide) rfl (fun ls hl => ?_)
  have e9 : x_2 = lx := v_inj (by omega)
  rw [e9] at hl
  refine lv_aload_n hx hb dX6_find_15 rfl (lv_at hl 1 rfl) ?_
  refine va_get (D := (dC, dI)) (ci := 6) (v := .ref q1) (C := RX6) (T := TX6) (N := 12) hx hb hts in_X6 hown hK hP 0 rfl rfl 7 (by decide) (hts (.fieldLink RX6 26 "TextMender$Parting" "leastCost" "[I") (List.mem_of_getElem? (i := 6) rfl)) (fun _ h9 => h9) rfl dX6_find_16 ?_
  refine lv_iload_n hx hb dX6_find_19 rfl (lv_at hl 0 rfl) ?_
  refine lv_iconst (v := 0) hx hb dX6_find_20 (by decide) ?_
  obtain ⟨f_3, ef_3⟩ : ∃ g : Nat → Int32, g = upd fQ1 (lx : Int32).toNatClampNeg 0 := ⟨_, rfl⟩
  refine va_iast hx hb hK hP hD hS 1 0 rfl rfl (v_in (by omega)) dX6_find_21 (kWf (g := f_3) (F := fun f_3 => [(oQ, .inr (6, [.ref oC, .ref oH, .ref oK, .ref oE, .ref nq, .ref np, .ref nv, .ref q1, .ref q2, .ref q3, .ref q4, .int pe])), (q1, .inl (cI, 61, .inl f_3)), (q2, .inl (cI, 61, .inl fQ2)), (q3, .inl (cI, 61, .inl fQ3)), (q4, .inl (cI, 61, .inl fQ4)), (nq, .inr (5, [.ref aq, .int lq])), (aq, .inl (cI, 480, .inl fq)), (oE, .inr (8, [.ref oC, .ref oK, .int reE, .int laE, .int suE, .int leE])), (oH, .inr (4, [.ref oP, .ref h1, .ref h2, .int lH])), (h1, .inl (cI, 6, .inl fH1)), (h2, .inl (cI, 6, .inl fH2)), (oC, .inr (2, [.ref o4, .ref o5])), (o4, .inr (10, [.ref a41, .ref a42, .ref a43, .int l4])), (a41, .inl (cI, 256, .inl f41)), (a42, .inl (cI, 512, .inl f42)), (a43, .inl (cI, 512, .inl f43)), (o5, .inr (10, [.ref a51, .ref a52, .ref a53, .int l5])), (a51, .inl (cI, 256, .inl f51)), (a52, .inl (cI, 512, .inl f52)), (a53, .inl (cI, 512, .inl f53)), (oK, .inr (3, [.ref k1, .ref k2, .int lK])), (k1, .inl (cI, 1024, .inl fK1)), (k2, .inl (cI, 1024, .inl fK2)), (ax, .inl (cI, 300, .inl fx)), (nx, .inr (5, [.ref ax, .int lx]))]) ef_3 rfl (fun H locs hPn hDn hSn => ?_))
  clear hP hD hS
  have hP := hPn
  have hD := hDn
  have hS := hSn
  clear hPn hDn hSn
  refine lv_aload_n hx hb dX6_find_22 rfl (lv_at hl 1 rfl) ?_
  refine va_get (D := (dC, dI)) (ci := 6) (v := .ref q2) (C := RX6) (T := TX6) (N := 12) hx hb hts in_X6 hown hK hP 0 rfl rfl 8 (by decide) (hts (.fieldLink RX6 30 "TextMender$Parting" "spansFrom" "[I") (List.mem_of_getElem? (i := 7) rfl)) (fun _ h9 => h9) rfl dX6_find_23 ?_
  refine lv_iload_n hx hb dX6_find_26 rfl (lv_at hl 0 rfl) ?_
  refine lv_iconst (v := 0) hx hb dX6_find_27 (by decide) ?_
  obtain ⟨f_4, ef_4⟩ : ∃ g : Nat → Int32, g = upd fQ2 (lx : Int32).toNatClampNeg 0 := ⟨_, rfl⟩
  refine va_iast hx hb hK hP hD hS 2 0 rfl rfl (v_in (by omega)) dX6_find_28 (kWf (g := f_4) (F := fun f_4 => [(oQ, .inr (6, [.ref oC, .ref oH, .ref oK, .ref oE, .ref nq, .ref np, .ref nv, .ref q1, .ref q2, .ref q3, .ref q4, .int pe])), (q1, .inl (cI, 61, .inl f_3)), (q2, .inl (cI, 61, .inl f_4)), (q3, .inl (cI, 61, .inl fQ3)), (q4, .inl (cI, 61, .inl fQ4)), (nq, .inr (5, [.ref aq, .int lq])), (aq, .inl (cI, 480, .inl fq)), (oE, .inr (8, [.ref oC, .ref oK, .int reE, .int laE, .int suE, .int leE])), (oH, .inr (4, [.ref oP, .ref h1, .ref h2, .int lH])), (h1, .inl (cI, 6, .inl fH1)), (h2, .inl (cI, 6, .inl fH2)), (oC, .inr (2, [.ref o4, .ref o5])), (o4, .inr (10, [.ref a41, .ref a42, .ref a43, .int l4])), (a41, .inl (cI, 256, .inl f41)), (a42, .inl (cI, 512, .inl f42)), (a43, .inl (cI, 512, .inl f43)), (o5, .inr (10, [.ref a51, .ref a52, .ref a53, .int l5])), (a51, .inl (cI, 256, .inl f51)), (a52, .inl (cI, 512, .inl f52)), (a53, .inl (cI, 512, .inl f53)), (oK, .inr (3, [.ref k1, .ref k2, .int lK])), (k1, .inl (cI, 1024, .inl fK1)), (k2, .inl (cI, 1024, .inl fK2)), (ax, .inl (cI, 300, .inl fx)), (nx, .inr (5, [.ref ax, .int lx]))]) ef_4 rfl (fun H locs hPn hDn hSn => ?_))
  clear hP hD hS
  have hP := hPn
  have hD := hDn
  have hS := hSn
  clear hPn hDn hSn
  refine lv_iload_n hx hb dX6_find_29 rfl (lv_at hl 0 rfl) ?_
  refine lv_iconst (v := 1) hx hb dX6_find_30 (by decide) ?_
  refine lv_isub hx hb dX6_find_31 ?_
  refine lv_topi (fun x_5 ex_5 => ?_)
  have tx_5 : x_5.toInt = lx.toInt - 1 := v_subR (l2 := 1) (h2 := 1) ex_5 g_lx (by decide) (by decide) (by decide)
  refine lv_istore (lv' := [(4, .int x_5), (3, .int lx), (0, .ref oQ), (1, .ref nx), (2, .int pe)]) hx hb dX6_find_32 hl (by decide) rfl (fun ls hl => ?_)
  have LOOP_34 : ∀ (k_34 : Nat) (fr : Int32) (reb : Int32) (lab : Int32) (sub : Int32) (leb : Int32) (lqb : Int32) (fq1b : Nat → Int32) (fq2b : Nat → Int32) (fq3b : Nat → Int32) (fq4b : Nat → Int32) (fqb : Nat → Int32) (H : Heap) (locs : List Loc) (ls : Array Slot), MSd (fr.toInt + 1 : Int) k_34 → (-1 ≤ fr.toInt ∧ fr.toInt ≤ 59) → (0 ≤ lqb.toInt ∧ lqb.toInt ≤ 480) → (fr.toInt < lx.toInt) → (QOK (lx.toNatClampNeg : Int) fr.toInt fq1b fq2b) → (PBK (UC fH1 fH2 f41 f42 f43 f51 f52 f53) (tcC fK1 fK2) lH.toNatClampNeg lx.toNatClampNeg fx pe.toInt (fr.toInt + 1) fq1b fq2b fq3b fq4b) → va_P (dC, dI) vwCl [(oQ, .inr (6, [.ref oC, .ref oH, .ref oK, .ref oE, .ref nq, .ref np, .ref nv, .ref q1, .ref q2, .ref q3, .ref q4, .int pe])), (q1, .inl (cI, 61, .inl fq1b)), (q2, .inl (cI, 61, .inl fq2b)), (q3, .inl (cI, 61, .inl fq3b)), (q4, .inl (cI, 61, .inl fq4b)), (nq, .inr (5, [.ref aq, .int lqb])), (aq, .inl (cI, 480, .inl fqb)), (oE, .inr (8, [.ref oC, .ref oK, .int reb, .int lab, .int sub, .int leb])), (oH, .inr (4, [.ref oP, .ref h1, .ref h2, .int lH])), (h1, .inl (cI, 6, .inl fH1)), (h2, .inl (cI, 6, .inl fH2)), (oC, .inr (2, [.ref o4, .ref o5])), (o4, .inr (10, [.ref a41, .ref a42, .ref a43, .int l4])), (a41, .inl (cI, 256, .inl f41)), (a42, .inl (cI, 512, .inl f42)), (a43, .inl (cI, 512, .inl f43)), (o5, .inr (10, [.ref a51, .ref a52, .ref a53, .int l5])), (a51, .inl (cI, 256, .inl f51)), (a52, .inl (cI, 512, .inl f52)), (a53, .inl (cI, 512, .inl f53)), (oK, .inr (3, [.ref k1, .ref k2, .int lK])), (k1, .inl (cI, 1024, .inl fK1)), (k2, .inl (cI, 1024, .inl fK2)), (ax, .inl (cI, 300, .inl fx)), (nx, .inr (5, [.ref ax, .int lx]))] H → va_D A [(oQ, .inr (6, [.ref oC, .ref oH, .ref oK, .ref oE, .ref nq, .ref np, .ref nv, .ref q1, .ref q2, .ref q3, .ref q4, .int pe])), (q1, .inl (cI, 61, .inl fq1b)), (q2, .inl (cI, 61, .inl fq2b)), (q3, .inl (cI, 61, .inl fq3b)), (q4, .inl (cI, 61, .inl fq4b)), (nq, .inr (5, [.ref aq, .int lqb])), (aq, .inl (cI, 480, .inl fqb)), (oE, .inr (8, [.ref oC, .ref oK, .int reb, .int lab, .int sub, .int leb])), (oH, .inr (4, [.ref oP, .ref h1, .ref h2, .int lH])), (h1, .inl (cI, 6, .inl fH1)), (h2, .inl (cI, 6, .inl fH2)), (oC, .inr (2, [.ref o4, .ref o5])), (o4, .inr (10, [.ref a41, .ref a42, .ref a43, .int l4])), (a41, .inl (cI, 256, .inl f41)), (a42, .inl (cI, 512, .inl f42)), (a43, .inl (cI, 512, .inl f43)), (o5, .inr (10, [.ref a51, .ref a52, .ref a53, .int l5])), (a51, .inl (cI, 256, .inl f51)), (a52, .inl (cI, 512, .inl f52)), (a53, .inl (cI, 512, .inl f53)), (oK, .inr (3, [.ref k1, .ref k2, .int lK])), (k1, .inl (cI, 1024, .inl fK1)), (k2, .inl (cI, 1024, .inl fK2)), (ax, .inl (cI, 300, .inl fx)), (nx, .inr (5, [.ref ax, .int lx]))] → va_S A s.heap H locs → lv_has ls 6 [(4, .int fr), (3, .int lx), (0, .ref oQ), (1, .ref nx), (2, .int pe)] → W p l e (headSpec wsX6_find ({ frames := 6, cells := 0, slots := 0, locals := 149 } : Room)).room s m ([.ref oQ, .ref nx, .int pe] : List Value).toArray below meth c H locs 0 0 (MQ below QQ ([.ref oQ, .ref nx, .int pe] : List Value).toArray s 0 0 A) (F0 m 34 ls []) := by
    clear hP hD hS hl
    try (clear g_lq)
    intro k_34
    induction k_34 with
    | zero =>
      intro fr reb lab sub leb lqb fq1b fq2b fq3b fq4b fqb H locs ls hm_34 g_fr g_lqb hfl hqk hpb hP hD hS hl
      exact ms_0 hm_34
    | succ k_34 ih_34 =>
      intro fr reb lab sub leb lqb fq1b fq2b fq3b fq4b fqb H locs ls hm_34 g_fr g_lqb hfl hqk hpb hP hD hS hl
      refine lv_iload hx hb dX6_find_34 (lv_at hl 0 rfl) ?_
      refine lv_if_lt (tgt := 92) hx hb dX6_find_36 (by decide) (fun c_6 => ?_) (fun c_6 => ?_)
      · have tc_6 : fr.toInt < 0 := v_lt c_6
        exact kl_v hQQ hx hb hr hlocks hS dX6_find_92 ⟨lqb, fqb, reb, lab, sub, leb, fq1b, fq2b, fq3b, fq4b, pe, kPD_sub hP hD [0, 1, 2, 3, 4, 5, 6, 7, 8, 9, 10, 11, 12, 13, 14, 15, 16, 17, 18, 19, 20, 21, 22, 24, 23] (by decide +kernel) rfl, g_lqb, fun i h1 h2 => hpb i (by omega) h2⟩
      · have tc_6 : 0 ≤ fr.toInt := v_nlt c_6
        have cf9 := v_clamp (x := fr) (by omega)
        have hqk9 : QOK (lx.toNatClampNeg : Int) (fr.toNatClampNeg : Int) fq1b fq2b := by rw [cf9]; exact hqk
        refine lv_aload_n hx hb dX6_find_39 rfl (lv_at hl 2 rfl) ?_
        refine va_get (D := (dC, dI)) (ci := 6) (v := .ref q1) (C := RX6) (T := TX6) (N := 12) hx hb hts in_X6 hown hK hP 0 rfl rfl 7 (by decide) (hts (.fieldLink RX6 26 "TextMender$Parting" "leastCost" "[I") (List.mem_of_getElem? (i := 6) rfl)) (fun _ h9 => h9) rfl dX6_find_40 ?_
        refine lv_iload hx hb dX6_find_43 (lv_at hl 0 rfl) ?_
        refine lv_iconst (v := (-1)) hx hb dX6_find_45 (by decide) ?_
        obtain ⟨f_7, ef_7⟩ : ∃ g : Nat → Int32, g = upd fq1b (fr : Int32).toNatClampNeg (-1) := ⟨_, rfl⟩
        refine va_iast hx hb hK hP hD hS 1 0 rfl rfl (v_in (by omega)) dX6_find_46 (kWf (g := f_7) (F := fun f_7 => [(oQ, .inr (6, [.ref oC, .ref oH, .ref oK, .ref oE, .ref nq, .ref np, .ref nv, .ref q1, .ref q2, .ref q3, .ref q4, .int pe])), (q1, .inl (cI, 61, .inl f_7)), (q2, .inl (cI, 61, .inl fq2b)), (q3, .inl (cI, 61, .inl fq3b)), (q4, .inl (cI, 61, .inl fq4b)), (nq, .inr (5, [.ref aq, .int lqb])), (aq, .inl (cI, 480, .inl fqb)), (oE, .inr (8, [.ref oC, .ref oK, .int reb, .int lab, .int sub, .int leb])), (oH, .inr (4, [.ref oP, .ref h1, .ref h2, .int lH])), (h1, .inl (cI, 6, .inl fH1)), (h2, .inl (cI, 6, .inl fH2)), (oC, .inr (2, [.ref o4, .ref o5])), (o4, .inr (10, [.ref a41, .ref a42, .ref a43, .int l4])), (a41, .inl (cI, 256, .inl f41)), (a42, .inl (cI, 512, .inl f42)), (a43, .inl (cI, 512, .inl f43)), (o5, .inr (10, [.ref a51, .ref a52, .ref a53, .int l5])), (a51, .inl (cI, 256, .inl f51)), (a52, .inl (cI, 512, .inl f52)), (a53, .inl (cI, 512, .inl f53)), (oK, .inr (3, [.ref k1, .ref k2, .int lK])), (k1, .inl (cI, 1024, .inl fK1)), (k2, .inl (cI, 1024, .inl fK2)), (ax, .inl (cI, 300, .inl fx)), (nx, .inr (5, [.ref ax, .int lx]))]) ef_7 rfl (fun H locs hPn hDn hSn => ?_))
        clear hP hD hS
        have hP := hPn
        have hD := hDn
        have hS := hSn
        clear hPn hDn hSn
        refine lv_aload_n hx hb dX6_find_47 rfl (lv_at hl 2 rfl) ?_
        refine lv_iload hx hb dX6_find_48 (lv_at hl 0 rfl) ?_
        refine lv_aload_n hx hb dX6_find_50 rfl (lv_at hl 3 rfl) ?_
        refine lv_iload_n hx hb dX6_find_51 rfl (lv_at hl 1 rfl) ?_
        refine kV_v (rest := []) (q0 := 0) (ci := 6) hcf (f_X6_tryAsItIs l dC dI cI cS H.size oQ nx oC oH oK oE nq np nv q1 q2 q3 q4 k1 k2 ax pe f_7 fq2b fq3b fq4b lK fK1 fK2 lx fx fr lx (g_pe) (g_lK) (g_lx) (by omega) (by omega) (by omega) (by omega) (hlt) (QOK_u hqk9 (by omega) (Or.inl ef_7) (Or.inr rfl) (b := 0)) (by rw [ef_7, pk_us]) (hT) (ho) (hV)) kc_X6_tryAsItIs gX6_find_X6_tryAsItIs rfl rfl rfl ⟨Nat.le_of_ble_eq_true rfl, Nat.le_of_ble_eq_true rfl⟩ kX_t hK hP hD hS hA [0, 1, 2, 3, 4, 20, 21, 22, 24, 23] [5, 6, 7, 8, 9, 10, 11, 12, 13, 14, 15, 16, 17, 18, 19] rfl (by decide +kernel) rfl rfl rfl hl rfl (Nat.le_of_ble_eq_true rfl) dX6_find_52 ⟨Nat.le_of_ble_eq_true rfl, Nat.le_of_ble_eq_true rfl⟩ (fun H locs hB hJ hSn => ?_)
        obtain ⟨fQ1_8, fQ2_8, fQ3_8, fQ4_8, ⟨hP1, hD1⟩, hf8_0, hf8_1, hf8_2⟩ := hB
        obtain ⟨hPn, hDn⟩ := hJ _ hP1 hD1 [(nq, .inr (5, [.ref aq, .int lqb])), (aq, .inl (cI, 480, .inl fqb)), (oE, .inr (8, [.ref oC, .ref oK, .int reb, .int lab, .int sub, .int leb])), (oH, .inr (4, [.ref oP, .ref h1, .ref h2, .int lH])), (h1, .inl (cI, 6, .inl fH1)), (h2, .inl (cI, 6, .inl fH2)), (oC, .inr (2, [.ref o4, .ref o5])), (o4, .inr (10, [.ref a41, .ref a42, .ref a43, .int l4])), (a41, .inl (cI, 256, .inl f41)), (a42, .inl (cI, 512, .inl f42)), (a43, .inl (cI, 512, .inl f43)), (o5, .inr (10, [.ref a51, .ref a52, .ref a53, .int l5])), (a51, .inl (cI, 256, .inl f51)), (a52, .inl (cI, 512, .inl f52)), (a53, .inl (cI, 512, .inl f53)), (oQ, .inr (6, [.ref oC, .ref oH, .ref oK, .ref oE, .ref nq, .ref np, .ref nv, .ref q1, .ref q2, .ref q3, .ref q4, .int pe])), (q1, .inl (cI, 61, .inl fQ1_8)), (q2, .inl (cI, 61, .inl fQ2_8)), (q3, .inl (cI, 61, .inl fQ3_8)), (q4, .inl (cI, 61, .inl fQ4_8)), (oK, .inr (3, [.ref k1, .ref k2, .int lK])), (k1, .inl (cI, 1024, .inl fK1)), (k2, .inl (cI, 1024, .inl fK2)), (nx, .inr (5, [.ref ax, .int lx])), (ax, .inl (cI, 300, .inl fx))] rfl
        clear hP hD hS hJ hP1 hD1
        have hP := hPn
        have hD := hDn
        have hS := hSn
        clear hPn hDn hSn
        refine lv_iconst (v := 0) hx hb dX6_find_55 (by decide) ?_
        refine lv_istore (lv' := [(5, .int 0), (4, .int fr), (3, .int lx), (0, .ref oQ), (1, .ref nx), (2, .int pe)]) hx hb dX6_find_56 hl (by decide) rfl (fun ls hl => ?_)
        have LOOP_58 : ∀ (k_58 : Nat) (h : Int32) (rec : Int32) (lac : Int32) (suc : Int32) (lec : Int32) (lqc : Int32) (fq1c : Nat → Int32) (fq2c : Nat → Int32) (fq3c : Nat → Int32) (fq4c : Nat → Int32) (fqc : Nat → Int32) (H : Heap) (locs : List Loc) (ls : Array Slot), MSd (6 - h.toInt : Int) k_58 → (0 ≤ h.toInt ∧ h.toInt ≤ 6) → (0 ≤ lqc.toInt ∧ lqc.toInt ≤ 480) → (h.toInt ≤ lH.toInt) → (QOK (lx.toNatClampNeg : Int) (fr.toNatClampNeg : Int) fq1c fq2c) → (onlyI fr.toNatClampNeg fq1b fq1c fq2b fq2c fq3b fq3c fq4b fq4c) → (BFS (UC fH1 fH2 f41 f42 f43 f51 f52 f53) (tcC fK1 fK2) lH.toNatClampNeg lx.toNatClampNeg fx pe.toInt (fun _ h2 => h2 < h.toInt) fr.toNatClampNeg fq1c fq2c fq3c fq4c) → va_P (dC, dI) vwCl [(nq, .inr (5, [.ref aq, .int lqc])), (aq, .inl (cI, 480, .inl fqc)), (oE, .inr (8, [.ref oC, .ref oK, .int rec, .int lac, .int suc, .int lec])), (oH, .inr (4, [.ref oP, .ref h1, .ref h2, .int lH])), (h1, .inl (cI, 6, .inl fH1)), (h2, .inl (cI, 6, .inl fH2)), (oC, .inr (2, [.ref o4, .ref o5])), (o4, .inr (10, [.ref a41, .ref a42, .ref a43, .int l4])), (a41, .inl (cI, 256, .inl f41)), (a42, .inl (cI, 512, .inl f42)), (a43, .inl (cI, 512, .inl f43)), (o5, .inr (10, [.ref a51, .ref a52, .ref a53, .int l5])), (a51, .inl (cI, 256, .inl f51)), (a52, .inl (cI, 512, .inl f52)), (a53, .inl (cI, 512, .inl f53)), (oQ, .inr (6, [.ref oC, .ref oH, .ref oK, .ref oE, .ref nq, .ref np, .ref nv, .ref q1, .ref q2, .ref q3, .ref q4, .int pe])), (q1, .inl (cI, 61, .inl fq1c)), (q2, .inl (cI, 61, .inl fq2c)), (q3, .inl (cI, 61, .inl fq3c)), (q4, .inl (cI, 61, .inl fq4c)), (oK, .inr (3, [.ref k1, .ref k2, .int lK])), (k1, .inl (cI, 1024, .inl fK1)), (k2, .inl (cI, 1024, .inl fK2)), (nx, .inr (5, [.ref ax, .int lx])), (ax, .inl (cI, 300, .inl fx))] H → va_D A [(nq, .inr (5, [.ref aq, .int lqc])), (aq, .inl (cI, 480, .inl fqc)), (oE, .inr (8, [.ref oC, .ref oK, .int rec, .int lac, .int suc, .int lec])), (oH, .inr (4, [.ref oP, .ref h1, .ref h2, .int lH])), (h1, .inl (cI, 6, .inl fH1)), (h2, .inl (cI, 6, .inl fH2)), (oC, .inr (2, [.ref o4, .ref o5])), (o4, .inr (10, [.ref a41, .ref a42, .ref a43, .int l4])), (a41, .inl (cI, 256, .inl f41)), (a42, .inl (cI, 512, .inl f42)), (a43, .inl (cI, 512, .inl f43)), (o5, .inr (10, [.ref a51, .ref a52, .ref a53, .int l5])), (a51, .inl (cI, 256, .inl f51)), (a52, .inl (cI, 512, .inl f52)), (a53, .inl (cI, 512, .inl f53)), (oQ, .inr (6, [.ref oC, .ref oH, .ref oK, .ref oE, .ref nq, .ref np, .ref nv, .ref q1, .ref q2, .ref q3, .ref q4, .int pe])), (q1, .inl (cI, 61, .inl fq1c)), (q2, .inl (cI, 61, .inl fq2c)), (q3, .inl (cI, 61, .inl fq3c)), (q4, .inl (cI, 61, .inl fq4c)), (oK, .inr (3, [.ref k1, .ref k2, .int lK])), (k1, .inl (cI, 1024, .inl fK1)), (k2, .inl (cI, 1024, .inl fK2)), (nx, .inr (5, [.ref ax, .int lx])), (ax, .inl (cI, 300, .inl fx))] → va_S A s.heap H locs → lv_has ls 6 [(5, .int h), (4, .int fr), (3, .int lx), (0, .ref oQ), (1, .ref nx), (2, .int pe)] → W p l e (headSpec wsX6_find ({ frames := 6, cells := 0, slots := 0, locals := 149 } : Room)).room s m ([.ref oQ, .ref nx, .int pe] : List Value).toArray below meth c H locs 0 0 (MQ below QQ ([.ref oQ, .ref nx, .int pe] : List Value).toArray s 0 0 A) (F0 m 58 ls []) := by
          clear hP hD hS hl
          try (clear g_lqb g_lq)
          intro k_58
          induction k_58 with
          | zero =>
            intro h rec lac suc lec lqc fq1c fq2c fq3c fq4c fqc H locs ls hm_58 g_h g_lqc hhl hqc hoc hbc hP hD hS hl
            exact ms_0 hm_58
          | succ k_58 ih_58 =>
            intro h rec lac suc lec lqc fq1c fq2c fq3c fq4c fqc H locs ls hm_58 g_h g_lqc hhl hqc hoc hbc hP hD hS hl
            refine lv_iload hx hb dX6_find_58 (lv_at hl 0 rfl) ?_
            refine lv_aload_n hx hb dX6_find_60 rfl (lv_at hl 3 rfl) ?_
            refine va_get (D := (dC, dI)) (ci := 6) (v := .ref oH) (C := RX6) (T := TX6) (N := 12) hx hb hts in_X6 hown hK hP 15 rfl rfl 1 (by decide) (hts (.fieldLink RX6 43 "TextMender$Parting" "harms" "LTextMender$Harms;") (List.mem_of_getElem? (i := 8) rfl)) (fun _ h9 => h9) rfl dX6_find_61 ?_
            refine kV_i (rest := [.int h]) (q0 := 0) (ci := 4) hcf (m_X4_length l dC dI cI cS H.size oH oP h1 h2 lH (g_lH)) kc_X4_length gX6_find_X4_length rfl rfl rfl ⟨Nat.le_of_ble_eq_true rfl, Nat.le_of_ble_eq_true rfl⟩ kX_t hK hP hD hS hA [3] [0, 1, 2, 4, 5, 6, 7, 8, 9, 10, 11, 12, 13, 14, 15, 16, 17, 18, 19, 20, 21, 22, 23, 24] rfl (by decide +kernel) rfl rfl rfl hl rfl (Nat.le_of_ble_eq_true rfl) dX6_find_64 ⟨Nat.le_of_ble_eq_true rfl, Nat.le_of_ble_eq_true rfl⟩ (fun r_9 H locs hB hJ hSn => ?_)
            obtain ⟨⟨hP1, hD1⟩, hf9_0⟩ := hB
            obtain ⟨hPn, hDn⟩ := hJ _ hP1 hD1 [(nq, .inr (5, [.ref aq, .int lqc])), (aq, .inl (cI, 480, .inl fqc)), (oE, .inr (8, [.ref oC, .ref oK, .int rec, .int lac, .int suc, .int lec])), (h1, .inl (cI, 6, .inl fH1)), (h2, .inl (cI, 6, .inl fH2)), (oC, .inr (2, [.ref o4, .ref o5])), (o4, .inr (10, [.ref a41, .ref a42, .ref a43, .int l4])), (a41, .inl (cI, 256, .inl f41)), (a42, .inl (cI, 512, .inl f42)), (a43, .inl (cI, 512, .inl f43)), (o5, .inr (10, [.ref a51, .ref a52, .ref a53, .int l5])), (a51, .inl (cI, 256, .inl f51)), (a52, .inl (cI, 512, .inl f52)), (a53, .inl (cI, 512, .inl f53)), (oQ, .inr (6, [.ref oC, .ref oH, .ref oK, .ref oE, .ref nq, .ref np, .ref nv, .ref q1, .ref q2, .ref q3, .ref q4, .int pe])), (q1, .inl (cI, 61, .inl fq1c)), (q2, .inl (cI, 61, .inl fq2c)), (q3, .inl (cI, 61, .inl fq3c)), (q4, .inl (cI, 61, .inl fq4c)), (oK, .inr (3, [.ref k1, .ref k2, .int lK])), (k1, .inl (cI, 1024, .inl fK1)), (k2, .inl (cI, 1024, .inl fK2)), (nx, .inr (5, [.ref ax, .int lx])), (ax, .inl (cI, 300, .inl fx)), (oH, .inr (4, [.ref oP, .ref h1, .ref h2, .int lH]))] rfl
            clear hP hD hS hJ hP1 hD1
            have hP := hPn
            have hD := hDn
            have hS := hSn
            clear hPn hDn hSn
            rw [hf9_0]
            refine lv_icmp_ge (tgt := 86) hx hb dX6_find_67 (by decide) (fun c_10 => ?_) (fun c_10 => ?_)
            · have tc_10 : lH.toInt ≤ h.toInt := v_le c_10
              obtain ⟨x_11, ex_11⟩ : ∃ y : Int32, y = fr + (-1) := ⟨_, rfl⟩
              have tx_11 : x_11.toInt = fr.toInt + (-1) := v_addR (l2 := (-1)) (h2 := (-1)) ex_11 g_fr (by decide) (by decide) (by decide)
              refine lv_iinc (v := x_11) (lv' := [(4, .int x_11), (5, .int h), (3, .int lx), (0, .ref oQ), (1, .ref nx), (2, .int pe)]) hx hb dX6_find_86 hl (k := 1) rfl (by rw [ex_11]; rfl) (by decide) rfl (fun ls hl => ?_)
              refine lv_goto (tgt := 34) hx hb dX6_find_89 (by decide) ?_
              exact ih_34 x_11 rec lac suc lec lqc fq1c fq2c fq3c fq4c fqc _ _ _ (ms_lt hm_34 (by show ((x_11.toInt + 1 : Int)) < fr.toInt + 1; omega) (by show (0 : Int) < fr.toInt + 1; omega)) (by show -1 ≤ x_11.toInt ∧ x_11.toInt ≤ 59; omega) (g_lqc) (by show x_11.toInt < lx.toInt; omega) (QOK_dn (i := fr.toNatClampNeg) hqc rfl (by omega) (by omega) ⟨(BFS_all hbc (by omega) (fun j h2 s sp c9 => by have c8 := c9.2.2.2.1; show h2 < h.toInt; omega)).1, (BFS_all hbc (by omega) (fun j h2 s sp c9 => by have c8 := c9.2.2.2.1; show h2 < h.toInt; omega)).2.1, (BFS_all hbc (by omega) (fun j h2 s sp c9 => by have c8 := c9.2.2.2.1; show h2 < h.toInt; omega)).2.2.1, (BFS_all hbc (by omega) (fun j h2 s sp c9 => by have c8 := c9.2.2.2.1; show h2 < h.toInt; omega)).2.2.2.1⟩) (PBK_s (i := fr.toNatClampNeg) (PBK_k hpb (fun k k1 k2 => hoc k (by omega))) (by omega) (by omega) (BFS_all hbc (by omega) (fun j h2 s sp c9 => by have c8 := c9.2.2.2.1; show h2 < h.toInt; omega)).2.2.2.2.1 (BFS_all hbc (by omega) (fun j h2 s sp c9 => by have c8 := c9.2.2.2.1; show h2 < h.toInt; omega)).2.2.2.2.2) (hP.sub [14, 15, 16, 17, 18, 0, 1, 2, 24, 3, 4, 5, 6, 7, 8, 9, 10, 11, 12, 13, 19, 20, 21, 23, 22] rfl) (hD.sub [14, 15, 16, 17, 18, 0, 1, 2, 24, 3, 4, 5, 6, 7, 8, 9, 10, 11, 12, 13, 19, 20, 21, 23, 22] (by decide +kernel) rfl) hS (lv_sub hl [0, 2, 3, 4, 5] rfl)
            · have tc_10 : h.toInt < lH.toInt := v_nle c_10
              refine lv_aload_n hx hb dX6_find_70 rfl (lv_at hl 3 rfl) ?_
              refine lv_iload hx hb dX6_find_71 (lv_at hl 0 rfl) ?_
              refine lv_iload hx hb dX6_find_73 (lv_at hl 1 rfl) ?_
              refine lv_aload_n hx hb dX6_find_75 rfl (lv_at hl 4 rfl) ?_
              refine lv_iload_n hx hb dX6_find_76 rfl (lv_at hl 2 rfl) ?_
              refine kV_v (rest := []) (q0 := 0) (ci := 6) hcf (f_X6_tryUndone l dC dI cI cS H.size oQ nx oC oH oK oE nq np nv q1 q2 q3 q4 aq oP h1 h2 o4 o5 a41 a42 a43 a51 a52 a53 k1 k2 ax pe fq1c fq2c fq3c fq4c lqc fqc rec lac suc lec lH fH1 fH2 l4 f41 f42 f43 l5 f51 f52 f53 lK fK1 fK2 lx fx h fr lx (g_pe) (g_lqc) (g_lH) (g_lK) (g_lx) (by omega) (by omega) (by omega) (by omega) (by omega) (hlt) (hqc) (by omega) (hbc) (hT4) (ho4) (hT5) (ho5) (hL4) (hL5) (hBr) (hT) (ho) (hV)) kc_X6_tryUndone gX6_find_X6_tryUndone rfl rfl rfl ⟨Nat.le_of_ble_eq_true rfl, Nat.le_of_ble_eq_true rfl⟩ (kX_1 hN52) hK hP hD hS hA [14, 15, 16, 17, 18, 0, 1, 2, 24, 3, 4, 5, 6, 7, 8, 9, 10, 11, 12, 13, 19, 20, 21, 22, 23] [] rfl (by decide +kernel) rfl rfl rfl hl rfl (Nat.le_of_ble_eq_true rfl) dX6_find_77 ⟨Nat.le_of_ble_eq_true rfl, Nat.le_of_ble_eq_true rfl⟩ (fun H locs hB hJ hSn => ?_)
              obtain ⟨lq_12, fq_12, reE_12, laE_12, suE_12, leE_12, fQ1_12, fQ2_12, fQ3_12, fQ4_12, ⟨hP1, hD1⟩, hf12_0, hf12_1, hf12_2, hf12_3⟩ := hB
              obtain ⟨hPn, hDn⟩ := hJ _ hP1 hD1 [(oQ, .inr (6, [.ref oC, .ref oH, .ref oK, .ref oE, .ref nq, .ref np, .ref nv, .ref q1, .ref q2, .ref q3, .ref q4, .int pe])), (q1, .inl (cI, 61, .inl fQ1_12)), (q2, .inl (cI, 61, .inl fQ2_12)), (q3, .inl (cI, 61, .inl fQ3_12)), (q4, .inl (cI, 61, .inl fQ4_12)), (nq, .inr (5, [.ref aq, .int lq_12])), (aq, .inl (cI, 480, .inl fq_12)), (oE, .inr (8, [.ref oC, .ref oK, .int reE_12, .int laE_12, .int suE_12, .int leE_12])), (oH, .inr (4, [.ref oP, .ref h1, .ref h2, .int lH])), (h1, .inl (cI, 6, .inl fH1)), (h2, .inl (cI, 6, .inl fH2)), (oC, .inr (2, [.ref o4, .ref o5])), (o4, .inr (10, [.ref a41, .ref a42, .ref a43, .int l4])), (a41, .inl (cI, 256, .inl f41)), (a42, .inl (cI, 512, .inl f42)), (a43, .inl (cI, 512, .inl f43)), (o5, .inr (10, [.ref a51, .ref a52, .ref a53, .int l5])), (a51, .inl (cI, 256, .inl f51)), (a52, .inl (cI, 512, .inl f52)), (a53, .inl (cI, 512, .inl f53)), (oK, .inr (3, [.ref k1, .ref k2, .int lK])), (k1, .inl (cI, 1024, .inl fK1)), (k2, .inl (cI, 1024, .inl fK2)), (nx, .inr (5, [.ref ax, .int lx])), (ax, .inl (cI, 300, .inl fx))] rfl
              clear hP hD hS hJ hP1 hD1
              have hP := hPn
              have hD := hDn
              have hS := hSn
              clear hPn hDn hSn
              obtain ⟨x_13, ex_13⟩ : ∃ y : Int32, y = h + 1 := ⟨_, rfl⟩
              have tx_13 : x_13.toInt = h.toInt + 1 := v_addR (l2 := 1) (h2 := 1) ex_13 g_h (by decide) (by decide) (by decide)
              refine lv_iinc (v := x_13) (lv' := [(5, .int x_13), (4, .int fr), (3, .int lx), (0, .ref oQ), (1, .ref nx), (2, .int pe)]) hx hb dX6_find_80 hl (k := 0) rfl (by rw [ex_13]; rfl) (by decide) rfl (fun ls hl => ?_)
              refine lv_goto (tgt := 58) hx hb dX6_find_83 (by decide) ?_
              exact ih_58 x_13 reE_12 laE_12 suE_12 leE_12 lq_12 fQ1_12 fQ2_12 fQ3_12 fQ4_12 fq_12 _ _ _ (ms_lt hm_58 (by show ((6 - x_13.toInt : Int)) < 6 - h.toInt; omega) (by show (0 : Int) < 6 - h.toInt; omega)) (by show 0 ≤ x_13.toInt ∧ x_13.toInt ≤ 6; omega) (hf12_0) (by show x_13.toInt ≤ lH.toInt; omega) (hf12_1) (only_t hoc hf12_2) (BFS_A hf12_3 (fun j h2 s sp c9 => by show h2 < x_13.toInt ↔ h2 < h.toInt + 1; omega)) (hP.sub [5, 6, 7, 8, 9, 10, 11, 12, 13, 14, 15, 16, 17, 18, 19, 0, 1, 2, 3, 4, 20, 21, 22, 23, 24] rfl) (hD.sub [5, 6, 7, 8, 9, 10, 11, 12, 13, 14, 15, 16, 17, 18, 19, 0, 1, 2, 3, 4, 20, 21, 22, 23, 24] (by decide +kernel) rfl) hS (lv_sub hl [0, 1, 2, 3, 4, 5] rfl)
        exact LOOP_58 _ 0 reb lab sub leb lqb fQ1_8 fQ2_8 fQ3_8 fQ4_8 fqb _ _ _ (ms_s _) (by decide) (g_lqb) (by show 0 ≤ lH.toInt; omega) (hf8_0) (only_t (fun k9 hk9 => ⟨by rw [ef_7, pk_un hk9], rfl, rfl, rfl⟩) hf8_1) (BFS_A (hf8_2 (UC fH1 fH2 f41 f42 f43 f51 f52 f53) lH.toNatClampNeg okU9) (fun j h2 s sp c9 => by have c8 := c9.2.2.1; show h2 < (0 : Int) ↔ h2 = -1; omega)) hP hD hS (lv_sub hl [0, 1, 2, 3, 4, 5] rfl)
  exact LOOP_34 _ x_5 reE laE suE leE lq f_3 f_4 fQ3 fQ4 fq _ _ _ (ms_s _) (by show -1 ≤ x_5.toInt ∧ x_5.toInt ≤ 59; omega) (g_lq) (by show x_5.toInt < lx.toInt; omega) (QOK_0 ef_3 ef_4 rfl (by omega)) (fun i h1 h2 => absurd h2 (by omega)) hP hD hS (lv_sub hl [0, 1, 2, 3, 4] rfl)

end

/-! 5b.a.rows -/
section
set_option maxRecDepth 100000 in
theorem dA317_cX6_build : kDec cX6_build [(0, .aload_n 2, 1), (1, .iconst 0, 1), (2, .invokevirtual 101, 3), (5, .aload_n 1, 1), (6, .invokevirtual 64, 3), (9, .bipush 60, 2), (11, .invokestatic 68, 3), (14, .istore_n 3, 1), (15, .iconst 0, 1), (16, .istore 4, 2), (18, .iload 4, 2), (20, .iload_n 3, 1), (21, .if_icmp .ge 132, 3), (153, .iconst 1, 1), (154, .ireturn, 1), (24, .aload_n 0, 1), (25, .getfield 20, 3), (28, .iconst 0, 1), (29, .invokevirtual 101, 3), (32, .iload 4, 2), (34, .istore 5, 2), (36, .iload 5, 2), (38, .aload_n 0, 1), (39, .getfield 33, 3)] = true := by decide +kernel
theorem dX6_build_0 : decode cX6_build 0 = .ok (.aload_n 2, 1) := kDec_at dA317_cX6_build 0 rfl
theorem dX6_build_1 : decode cX6_build 1 = .ok (.iconst 0, 1) := kDec_at dA317_cX6_build 1 rfl
theorem dX6_build_2 : decode cX6_build 2 = .ok (.invokevirtual 101, 3) := kDec_at dA317_cX6_build 2 rfl
theorem dX6_build_5 : decode cX6_build 5 = .ok (.aload_n 1, 1) := kDec_at dA317_cX6_build 3 rfl
theorem dX6_build_6 : decode cX6_build 6 = .ok (.invokevirtual 64, 3) := kDec_at dA317_cX6_build 4 rfl
theorem dX6_build_9 : decode cX6_build 9 = .ok (.bipush 60, 2) := kDec_at dA317_cX6_build 5 rfl
theorem dX6_build_11 : decode cX6_build 11 = .ok (.invokestatic 68, 3) := kDec_at dA317_cX6_build 6 rfl
theorem dX6_build_14 : decode cX6_build 14 = .ok (.istore_n 3, 1) := kDec_at dA317_cX6_build 7 rfl
theorem dX6_build_15 : decode cX6_build 15 = .ok (.iconst 0, 1) := kDec_at dA317_cX6_build 8 rfl
theorem dX6_build_16 : decode cX6_build 16 = .ok (.istore 4, 2) := kDec_at dA317_cX6_build 9 rfl
theorem dX6_build_18 : decode cX6_build 18 = .ok (.iload 4, 2) := kDec_at dA317_cX6_build 10 rfl
theorem dX6_build_20 : decode cX6_build 20 = .ok (.iload_n 3, 1) := kDec_at dA317_cX6_build 11 rfl
theorem dX6_build_21 : decode cX6_build 21 = .ok (.if_icmp .ge 132, 3) := kDec_at dA317_cX6_build 12 rfl
theorem dX6_build_153 : decode cX6_build 153 = .ok (.iconst 1, 1) := kDec_at dA317_cX6_build 13 rfl
theorem dX6_build_154 : decode cX6_build 154 = .ok (.ireturn, 1) := kDec_at dA317_cX6_build 14 rfl
theorem dX6_build_24 : decode cX6_build 24 = .ok (.aload_n 0, 1) := kDec_at dA317_cX6_build 15 rfl
theorem dX6_build_25 : decode cX6_build 25 = .ok (.getfield 20, 3) := kDec_at dA317_cX6_build 16 rfl
theorem dX6_build_28 : decode cX6_build 28 = .ok (.iconst 0, 1) := kDec_at dA317_cX6_build 17 rfl
theorem dX6_build_29 : decode cX6_build 29 = .ok (.invokevirtual 101, 3) := kDec_at dA317_cX6_build 18 rfl
theorem dX6_build_32 : decode cX6_build 32 = .ok (.iload 4, 2) := kDec_at dA317_cX6_build 19 rfl
theorem dX6_build_34 : decode cX6_build 34 = .ok (.istore 5, 2) := kDec_at dA317_cX6_build 20 rfl
theorem dX6_build_36 : decode cX6_build 36 = .ok (.iload 5, 2) := kDec_at dA317_cX6_build 21 rfl
theorem dX6_build_38 : decode cX6_build 38 = .ok (.aload_n 0, 1) := kDec_at dA317_cX6_build 22 rfl
theorem dX6_build_39 : decode cX6_build 39 = .ok (.getfield 33, 3) := kDec_at dA317_cX6_build 23 rfl
set_option maxRecDepth 20000 in
theorem ggX6_build_X5_cut : GoodIn wsX6_build wsX5_cut := goodIn_r _ [17, 18, 155, 156] rfl (by decide +kernel)
set_option maxRecDepth 20000 in
theorem gX6_build_X5_cut : GoodIn wsX6_build (wsV RX6 101 RX5 yX5_cut wsX5_cut) := goodIn_app (goodIn_r _ [13, 14, 15, 16] rfl (by decide +kernel)) ggX6_build_X5_cut
set_option maxRecDepth 20000 in
theorem ggX6_build_X5_length : GoodIn wsX6_build wsX5_length := goodIn_r _ [22, 18, 155, 156] rfl (by decide +kernel)
set_option maxRecDepth 20000 in
theorem gX6_build_X5_length : GoodIn wsX6_build (wsV RX6 64 RX5 yX5_length wsX5_length) := goodIn_app (goodIn_r _ [19, 20, 21, 16] rfl (by decide +kernel)) ggX6_build_X5_length
set_option maxRecDepth 100000 in
theorem dA318_cX6_build : kDec cX6_build [(42, .iload 4, 2), (44, .iaload, 1), (45, .if_icmp .ge 23, 3), (68, .aload_n 0, 1), (69, .getfield 36, 3), (72, .iload 4, 2), (74, .iaload, 1), (75, .iconst (-1), 1), (76, .if_icmp .ne 18, 3), (94, .aload_n 0, 1), (95, .getfield 43, 3), (98, .aload_n 0, 1), (99, .getfield 36, 3), (102, .iload 4, 2), (104, .iaload, 1), (105, .aload_n 0, 1), (106, .getfield 20, 3), (109, .aload_n 0, 1), (110, .getfield 23, 3), (113, .invokevirtual 140, 3), (116, .ifCond .ne 5, 3), (121, .aload_n 2, 1), (122, .aload_n 0, 1), (123, .getfield 23, 3)] = true := by decide +kernel
theorem dX6_build_42 : decode cX6_build 42 = .ok (.iload 4, 2) := kDec_at dA318_cX6_build 0 rfl
theorem dX6_build_44 : decode cX6_build 44 = .ok (.iaload, 1) := kDec_at dA318_cX6_build 1 rfl
theorem dX6_build_45 : decode cX6_build 45 = .ok (.if_icmp .ge 23, 3) := kDec_at dA318_cX6_build 2 rfl
theorem dX6_build_68 : decode cX6_build 68 = .ok (.aload_n 0, 1) := kDec_at dA318_cX6_build 3 rfl
theorem dX6_build_69 : decode cX6_build 69 = .ok (.getfield 36, 3) := kDec_at dA318_cX6_build 4 rfl
theorem dX6_build_72 : decode cX6_build 72 = .ok (.iload 4, 2) := kDec_at dA318_cX6_build 5 rfl
theorem dX6_build_74 : decode cX6_build 74 = .ok (.iaload, 1) := kDec_at dA318_cX6_build 6 rfl
theorem dX6_build_75 : decode cX6_build 75 = .ok (.iconst (-1), 1) := kDec_at dA318_cX6_build 7 rfl
theorem dX6_build_76 : decode cX6_build 76 = .ok (.if_icmp .ne 18, 3) := kDec_at dA318_cX6_build 8 rfl
theorem dX6_build_94 : decode cX6_build 94 = .ok (.aload_n 0, 1) := kDec_at dA318_cX6_build 9 rfl
theorem dX6_build_95 : decode cX6_build 95 = .ok (.getfield 43, 3) := kDec_at dA318_cX6_build 10 rfl
theorem dX6_build_98 : decode cX6_build 98 = .ok (.aload_n 0, 1) := kDec_at dA318_cX6_build 11 rfl
theorem dX6_build_99 : decode cX6_build 99 = .ok (.getfield 36, 3) := kDec_at dA318_cX6_build 12 rfl
theorem dX6_build_102 : decode cX6_build 102 = .ok (.iload 4, 2) := kDec_at dA318_cX6_build 13 rfl
theorem dX6_build_104 : decode cX6_build 104 = .ok (.iaload, 1) := kDec_at dA318_cX6_build 14 rfl
theorem dX6_build_105 : decode cX6_build 105 = .ok (.aload_n 0, 1) := kDec_at dA318_cX6_build 15 rfl
theorem dX6_build_106 : decode cX6_build 106 = .ok (.getfield 20, 3) := kDec_at dA318_cX6_build 16 rfl
theorem dX6_build_109 : decode cX6_build 109 = .ok (.aload_n 0, 1) := kDec_at dA318_cX6_build 17 rfl
theorem dX6_build_110 : decode cX6_build 110 = .ok (.getfield 23, 3) := kDec_at dA318_cX6_build 18 rfl
theorem dX6_build_113 : decode cX6_build 113 = .ok (.invokevirtual 140, 3) := kDec_at dA318_cX6_build 19 rfl
theorem dX6_build_116 : decode cX6_build 116 = .ok (.ifCond .ne 5, 3) := kDec_at dA318_cX6_build 20 rfl
theorem dX6_build_121 : decode cX6_build 121 = .ok (.aload_n 2, 1) := kDec_at dA318_cX6_build 21 rfl
theorem dX6_build_122 : decode cX6_build 122 = .ok (.aload_n 0, 1) := kDec_at dA318_cX6_build 22 rfl
theorem dX6_build_123 : decode cX6_build 123 = .ok (.getfield 23, 3) := kDec_at dA318_cX6_build 23 rfl
set_option maxRecDepth 20000 in
theorem ggX6_build_X4_takeOff : GoodIn wsX6_build wsX4_takeOff := goodIn_r _ [48, 49, 50, 51, 52, 53, 54, 55, 56, 57, 58, 59, 60, 61, 62, 63, 64, 65, 14, 15, 16, 17, 18, 66, 20, 21, 22, 67, 24, 25, 26, 27, 68, 69, 70, 71, 72, 73, 29, 30, 31, 74, 75, 76, 77, 78, 79, 80, 81, 82, 83, 84, 85, 86, 87, 88, 89, 90, 91, 92, 93, 94, 95, 96, 97, 98, 99, 100, 101, 102, 103, 104, 105, 11, 3, 12, 106, 107, 108, 109, 110, 111, 112, 113, 114, 115, 116, 117, 118, 119, 120, 121, 122, 123, 124, 125, 126, 127, 128, 129, 130, 131, 132, 133, 134, 135, 136, 137, 138, 139, 140, 141, 157, 158, 159, 160, 161, 162, 163, 155, 156, 164, 165, 166, 167, 168, 169] rfl (by decide +kernel)
set_option maxRecDepth 20000 in
theorem gX6_build_X4_takeOff : GoodIn wsX6_build (wsV RX6 140 RX4 yX4_takeOff wsX4_takeOff) := goodIn_app (goodIn_r _ [44, 45, 46, 47] rfl (by decide +kernel)) ggX6_build_X4_takeOff
set_option maxRecDepth 20000 in
theorem ggX6_build_X5_addAll : GoodIn wsX6_build wsX5_addAll := goodIn_r _ [39, 18, 27, 40, 41, 42, 43, 155, 156] rfl (by decide +kernel)
set_option maxRecDepth 20000 in
theorem gX6_build_X5_addAll : GoodIn wsX6_build (wsV RX6 144 RX5 yX5_addAll wsX5_addAll) := goodIn_app (goodIn_r _ [142, 37, 38, 16] rfl (by decide +kernel)) ggX6_build_X5_addAll
set_option maxRecDepth 100000 in
theorem dA319_cX6_build : kDec cX6_build [(126, .invokevirtual 144, 3), (129, .ifCond .ne 5, 3), (134, .iload 4, 2), (136, .iconst 1, 1), (137, .iadd, 1), (138, .aload_n 0, 1), (139, .getfield 33, 3), (142, .iload 4, 2), (144, .iaload, 1), (145, .invokestatic 147, 3), (148, .istore 4, 2), (150, .goto (-132), 3), (132, .iconst 0, 1), (133, .ireturn, 1), (119, .iconst 0, 1), (120, .ireturn, 1), (79, .aload_n 0, 1), (80, .getfield 23, 3), (83, .aload_n 0, 1), (84, .getfield 20, 3), (87, .invokevirtual 136, 3), (90, .pop, 1), (91, .goto 30, 3), (48, .aload_n 0, 1)] = true := by decide +kernel
theorem dX6_build_126 : decode cX6_build 126 = .ok (.invokevirtual 144, 3) := kDec_at dA319_cX6_build 0 rfl
theorem dX6_build_129 : decode cX6_build 129 = .ok (.ifCond .ne 5, 3) := kDec_at dA319_cX6_build 1 rfl
theorem dX6_build_134 : decode cX6_build 134 = .ok (.iload 4, 2) := kDec_at dA319_cX6_build 2 rfl
theorem dX6_build_136 : decode cX6_build 136 = .ok (.iconst 1, 1) := kDec_at dA319_cX6_build 3 rfl
theorem dX6_build_137 : decode cX6_build 137 = .ok (.iadd, 1) := kDec_at dA319_cX6_build 4 rfl
theorem dX6_build_138 : decode cX6_build 138 = .ok (.aload_n 0, 1) := kDec_at dA319_cX6_build 5 rfl
theorem dX6_build_139 : decode cX6_build 139 = .ok (.getfield 33, 3) := kDec_at dA319_cX6_build 6 rfl
theorem dX6_build_142 : decode cX6_build 142 = .ok (.iload 4, 2) := kDec_at dA319_cX6_build 7 rfl
theorem dX6_build_144 : decode cX6_build 144 = .ok (.iaload, 1) := kDec_at dA319_cX6_build 8 rfl
theorem dX6_build_145 : decode cX6_build 145 = .ok (.invokestatic 147, 3) := kDec_at dA319_cX6_build 9 rfl
theorem dX6_build_148 : decode cX6_build 148 = .ok (.istore 4, 2) := kDec_at dA319_cX6_build 10 rfl
theorem dX6_build_150 : decode cX6_build 150 = .ok (.goto (-132), 3) := kDec_at dA319_cX6_build 11 rfl
theorem dX6_build_132 : decode cX6_build 132 = .ok (.iconst 0, 1) := kDec_at dA319_cX6_build 12 rfl
theorem dX6_build_133 : decode cX6_build 133 = .ok (.ireturn, 1) := kDec_at dA319_cX6_build 13 rfl
theorem dX6_build_119 : decode cX6_build 119 = .ok (.iconst 0, 1) := kDec_at dA319_cX6_build 14 rfl
theorem dX6_build_120 : decode cX6_build 120 = .ok (.ireturn, 1) := kDec_at dA319_cX6_build 15 rfl
theorem dX6_build_79 : decode cX6_build 79 = .ok (.aload_n 0, 1) := kDec_at dA319_cX6_build 16 rfl
theorem dX6_build_80 : decode cX6_build 80 = .ok (.getfield 23, 3) := kDec_at dA319_cX6_build 17 rfl
theorem dX6_build_83 : decode cX6_build 83 = .ok (.aload_n 0, 1) := kDec_at dA319_cX6_build 18 rfl
theorem dX6_build_84 : decode cX6_build 84 = .ok (.getfield 20, 3) := kDec_at dA319_cX6_build 19 rfl
theorem dX6_build_87 : decode cX6_build 87 = .ok (.invokevirtual 136, 3) := kDec_at dA319_cX6_build 20 rfl
theorem dX6_build_90 : decode cX6_build 90 = .ok (.pop, 1) := kDec_at dA319_cX6_build 21 rfl
theorem dX6_build_91 : decode cX6_build 91 = .ok (.goto 30, 3) := kDec_at dA319_cX6_build 22 rfl
theorem dX6_build_48 : decode cX6_build 48 = .ok (.aload_n 0, 1) := kDec_at dA319_cX6_build 23 rfl
set_option maxRecDepth 20000 in
theorem ggX6_build_X5_takeAll : GoodIn wsX6_build wsX5_takeAll := goodIn_r _ [35, 18, 36, 37, 38, 16, 39, 27, 40, 41, 42, 43, 155, 156] rfl (by decide +kernel)
set_option maxRecDepth 20000 in
theorem gX6_build_X5_takeAll : GoodIn wsX6_build (wsV RX6 136 RX5 yX5_takeAll wsX5_takeAll) := goodIn_app (goodIn_r _ [32, 33, 34, 16] rfl (by decide +kernel)) ggX6_build_X5_takeAll
set_option maxRecDepth 100000 in
theorem dA320_cX6_build : kDec cX6_build [(49, .getfield 20, 3), (52, .aload_n 1, 1), (53, .iload 5, 2), (55, .invokevirtual 85, 3), (58, .invokevirtual 132, 3), (61, .pop, 1), (62, .iinc 5 1, 3), (65, .goto (-29), 3)] = true := by decide +kernel
theorem dX6_build_49 : decode cX6_build 49 = .ok (.getfield 20, 3) := kDec_at dA320_cX6_build 0 rfl
theorem dX6_build_52 : decode cX6_build 52 = .ok (.aload_n 1, 1) := kDec_at dA320_cX6_build 1 rfl
theorem dX6_build_53 : decode cX6_build 53 = .ok (.iload 5, 2) := kDec_at dA320_cX6_build 2 rfl
theorem dX6_build_55 : decode cX6_build 55 = .ok (.invokevirtual 85, 3) := kDec_at dA320_cX6_build 3 rfl
theorem dX6_build_58 : decode cX6_build 58 = .ok (.invokevirtual 132, 3) := kDec_at dA320_cX6_build 4 rfl
theorem dX6_build_61 : decode cX6_build 61 = .ok (.pop, 1) := kDec_at dA320_cX6_build 5 rfl
theorem dX6_build_62 : decode cX6_build 62 = .ok (.iinc 5 1, 3) := kDec_at dA320_cX6_build 6 rfl
theorem dX6_build_65 : decode cX6_build 65 = .ok (.goto (-29), 3) := kDec_at dA320_cX6_build 7 rfl
set_option maxRecDepth 20000 in
theorem ggX6_build_X5_get : GoodIn wsX6_build wsX5_get := goodIn_r _ [26, 18, 27, 155, 156] rfl (by decide +kernel)
set_option maxRecDepth 20000 in
theorem gX6_build_X5_get : GoodIn wsX6_build (wsV RX6 85 RX5 yX5_get wsX5_get) := goodIn_app (goodIn_r _ [23, 24, 25, 16] rfl (by decide +kernel)) ggX6_build_X5_get
set_option maxRecDepth 20000 in
theorem ggX6_build_X5_add : GoodIn wsX6_build wsX5_add := goodIn_r _ [31, 18, 27, 155, 156] rfl (by decide +kernel)
set_option maxRecDepth 20000 in
theorem gX6_build_X5_add : GoodIn wsX6_build (wsV RX6 132 RX5 yX5_add wsX5_add) := goodIn_app (goodIn_r _ [28, 29, 30, 16] rfl (by decide +kernel)) ggX6_build_X5_add

end

/-! 5b.parts -/
section
theorem bl_un {U : Nat → Nat → (Nat → Int32) → Nat → (Nat → Int32) → Prop} (hU : okU U) {f f' g : Nat → Int32} {i e c k : Nat} {h n : Int} (a : SPN U f i e h c f') (h0 : 0 ≤ h) (hk : h.toNat = k) (hn : n.toNat = e - i) (hg : ∀ j : Nat, (j : Int) < n → g j = f (i + j)) : U k n.toNat g c f' := by
  rcases a with ⟨a, _⟩ | ⟨_, a⟩
  · omega
  · rw [hn, ← hk]
    exact hU.2.1 _ _ _ _ _ _ (fun j hj => (hg j (by omega)).symm) a

theorem cpS_s {b : Nat} {l l' r i fr x : Int32} {g g' f : Nat → Int32} (h : ∀ j : Nat, (j : Int) < l.toInt → g j = f (b + j)) (hl : l.toInt = i.toInt - fr.toInt) (ha : F_add 300 l l' r g g' x) (hx : x = f i.toNatClampNeg) (hb : fr.toInt = b) (h0 : 0 ≤ l.toInt) (h3 : l.toInt < 300) : ∀ j : Nat, (j : Int) < l'.toInt → g' j = f (b + j) := by
  have c := v_clamp h0
  have e1 := F_add_l ha h3
  intro j hj
  rw [F_add_f ha h3]
  by_cases z : j = l.toNatClampNeg
  · rw [z, pk_us, hx, ix_eq (x := i) (N := b + l.toNatClampNeg) (by omega)]
  · rw [pk_un z]; exact h j (by omega)

set_option maxHeartbeats 40000000 in
set_option maxRecDepth 100000 in
theorem f_X6_build (l : Launch) (dC : Nat → ClassId) (dI : Nat → Nat → Nat) (cI cS : ClassId) (sz : Nat) (oQ : Nat) (nx : Nat) (nd : Nat) (oC : Nat) (oH : Nat) (oK : Nat) (oE : Nat) (nq : Nat) (np : Nat) (nv : Nat) (q1 : Nat) (q2 : Nat) (q3 : Nat) (q4 : Nat) (ap : Nat) (av : Nat) (oP : Nat) (h1 : Nat) (h2 : Nat) (nB : Nat) (aB : Nat) (o4 : Nat) (o5 : Nat) (a41 : Nat) (a42 : Nat) (a43 : Nat) (a51 : Nat) (a52 : Nat) (a53 : Nat) (ax : Nat) (ad : Nat) (pr : Int32) (fQ3 : Nat → Int32) (fQ4 : Nat → Int32) (lp : Int32) (fp : Nat → Int32) (lv : Int32) (fv : Nat → Int32) (lH : Int32) (fH1 : Nat → Int32) (fH2 : Nat → Int32) (ft : Int32) (lB : Int32) (fB : Nat → Int32) (l4 : Int32) (f41 : Nat → Int32) (f42 : Nat → Int32) (f43 : Nat → Int32) (l5 : Int32) (f51 : Nat → Int32) (f52 : Nat → Int32) (f53 : Nat → Int32) (lx : Int32) (fx : Nat → Int32) (ld : Int32) (fd : Nat → Int32) (g_lp : 0 ≤ lp.toInt ∧ lp.toInt ≤ 300) (g_lv : 0 ≤ lv.toInt ∧ lv.toInt ≤ 300) (g_lH : 0 ≤ lH.toInt ∧ lH.toInt ≤ 6) (g_lB : 0 ≤ lB.toInt ∧ lB.toInt ≤ 2400) (g_lx : 0 ≤ lx.toInt ∧ lx.toInt ≤ 300) (g_ld : 0 ≤ ld.toInt ∧ ld.toInt ≤ 300) (hlx6 : 1 ≤ lx.toInt ∧ lx.toInt ≤ 60) (hlt : prg lx.toInt 0 65535 fx) (hEH : ∀ i : Nat, i < lx.toNatClampNeg → (i : Int) < (fQ3 i).toInt ∧ (fQ3 i).toInt ≤ (lx.toNatClampNeg : Int) ∧ -1 ≤ (fQ4 i).toInt ∧ (fQ4 i).toInt < (lH.toNatClampNeg : Int) ∧ ∃ c f', SPN (UC fH1 fH2 f41 f42 f43 f51 f52 f53) fx i (fQ3 i).toInt.toNat (fQ4 i).toInt c f') (hT4 : HT 512 511 hsT f42 f43) (ho4 : (occ f43 512 : Int) ≤ 511) (hT5 : HT 512 511 hsT f52 f53) (ho5 : (occ f53 512 : Int) ≤ 511) (hL4 : prg 256 (-1) 65535 f41) (hL5 : prg 256 (-1) 65535 f51) (hBr : ∀ cd : Int32, okB (Bc cd f42 f43 f52 f53)) : kMi l yX6_build wsX6_build ({ frames := 6, cells := 0, slots := 0, locals := 147 } : Room) [.ref oQ, .ref nx, .ref nd] sz (dC, dI) vwCl [(cI, .int), (cS, .short)] [(oQ, .inr (6, [.ref oC, .ref oH, .ref oK, .ref oE, .ref nq, .ref np, .ref nv, .ref q1, .ref q2, .ref q3, .ref q4, .int pr])), (q3, .inl (cI, 61, .inl fQ3)), (q4, .inl (cI, 61, .inl fQ4)), (np, .inr (5, [.ref ap, .int lp])), (ap, .inl (cI, 300, .inl fp)), (nv, .inr (5, [.ref av, .int lv])), (av, .inl (cI, 300, .inl fv)), (oH, .inr (4, [.ref oP, .ref h1, .ref h2, .int lH])), (h1, .inl (cI, 6, .inl fH1)), (h2, .inl (cI, 6, .inl fH2)), (oP, .inr (7, [.ref oC, .ref nB, .int ft])), (nB, .inr (5, [.ref aB, .int lB])), (aB, .inl (cI, 2400, .inl fB)), (oC, .inr (2, [.ref o4, .ref o5])), (o4, .inr (10, [.ref a41, .ref a42, .ref a43, .int l4])), (a41, .inl (cI, 256, .inl f41)), (a42, .inl (cI, 512, .inl f42)), (a43, .inl (cI, 512, .inl f43)), (o5, .inr (10, [.ref a51, .ref a52, .ref a53, .int l5])), (a51, .inl (cI, 256, .inl f51)), (a52, .inl (cI, 512, .inl f52)), (a53, .inl (cI, 512, .inl f53)), (nx, .inr (5, [.ref ax, .int lx])), (ax, .inl (cI, 300, .inl fx)), (nd, .inr (5, [.ref ad, .int ld])), (ad, .inl (cI, 300, .inl fd))] (va_Nw (.methodLinkNest RX2 52 yX11_isLetter "TextMender")) 0 0 (fun (A : Nat → Prop) (r : Int32) (hh9 : Heap) => ∃ (lp' : Int32) (fp' : Nat → Int32) (lv' : Int32) (fv' : Nat → Int32) (ft' : Int32) (lB' : Int32) (fB' : Nat → Int32) (ld' : Int32) (fd' : Nat → Int32), kPD (dC, dI) vwCl A [(oQ, .inr (6, [.ref oC, .ref oH, .ref oK, .ref oE, .ref nq, .ref np, .ref nv, .ref q1, .ref q2, .ref q3, .ref q4, .int pr])), (q3, .inl (cI, 61, .inl fQ3)), (q4, .inl (cI, 61, .inl fQ4)), (np, .inr (5, [.ref ap, .int lp'])), (ap, .inl (cI, 300, .inl fp')), (nv, .inr (5, [.ref av, .int lv'])), (av, .inl (cI, 300, .inl fv')), (oH, .inr (4, [.ref oP, .ref h1, .ref h2, .int lH])), (h1, .inl (cI, 6, .inl fH1)), (h2, .inl (cI, 6, .inl fH2)), (oP, .inr (7, [.ref oC, .ref nB, .int ft'])), (nB, .inr (5, [.ref aB, .int lB'])), (aB, .inl (cI, 2400, .inl fB')), (oC, .inr (2, [.ref o4, .ref o5])), (o4, .inr (10, [.ref a41, .ref a42, .ref a43, .int l4])), (a41, .inl (cI, 256, .inl f41)), (a42, .inl (cI, 512, .inl f42)), (a43, .inl (cI, 512, .inl f43)), (o5, .inr (10, [.ref a51, .ref a52, .ref a53, .int l5])), (a51, .inl (cI, 256, .inl f51)), (a52, .inl (cI, 512, .inl f52)), (a53, .inl (cI, 512, .inl f53)), (nx, .inr (5, [.ref ax, .int lx])), (ax, .inl (cI, 300, .inl fx)), (nd, .inr (5, [.ref ad, .int ld'])), (ad, .inl (cI, 300, .inl fd'))] hh9 ∧ (0 ≤ lp'.toInt ∧ lp'.toInt ≤ 300) ∧ (0 ≤ lv'.toInt ∧ lv'.toInt ≤ 300) ∧ (0 ≤ lB'.toInt ∧ lB'.toInt ≤ 2400) ∧ (0 ≤ ld'.toInt ∧ ld'.toInt ≤ 300) ∧ (0 ≤ r.toInt ∧ r.toInt ≤ 1) ∧ (F_lay (UC fH1 fH2 f41 f42 f43 f51 f52 f53) lx.toNatClampNeg fx fQ3 fQ4 r ld' fd')) := by
  refine kMi_of (cc := cX6_build) (maxL := 6) (ret := (some .boolean)) (lv := [(0, .ref oQ), (1, .ref nx), (2, .ref nd)]) (by decide +kernel) rfl rfl (Nat.le_of_ble_eq_true rfl) ?_
  intro p e s m below meth c A QQ ls hx hb hr hts hml hown hlocks hA hQQ hK hX hP hD hS hl
  have hown : s.vm.findClass RX6 = some m.cls := hown
  have hcf := k_cf hx hb hml hown hts
  have hN52 := hX
  have in_X6 : ∀ w ∈ wsX60, w ∈ wsX6_build := fun _ h => List.mem_cons_of_mem _ (List.mem_append_left _ (List.mem_append_left _ (List.mem_append_left _ (List.mem_append_left _ (List.mem_append_left _ (List.mem_append_right _ (h)))))))
  replace g_lp := hid g_lp
  replace g_lv := hid g_lv
  replace g_lB := hid g_lB
  have z0 : (0 : Int32).toInt = 0 := rfl
  have z1 : (1 : Int32).toInt = 1 := rfl
  have zm1 : (-1 : Int32).toInt = -1 := rfl
  have okU9 : okU (UC fH1 fH2 f41 f42 f43 f51 f52 f53) := okU_C hBr hL4 hL5
  have cz9 := v_clamp (x := lH) (by omega)
  have cx9 := v_clamp (x := lx) (by omega)
  refine lv_aload_n hx hb dX6_build_0 rfl (lv_at hl 2 rfl) ?_
  refine lv_iconst (v := 0) hx hb dX6_build_1 (by decide) ?_
  refine kV_v (rest := []) (q0 := 0) (ci := 5) hcf (m_X5_cut l dC dI cI cS s.heap.size nd ad ld 0 (v_rr g_ld (by decide) (by decide))) kc_X5_cut gX6_build_X5_cut rfl rfl rfl ⟨Nat.le_of_ble_eq_true rfl, Nat.le_of_ble_eq_true rfl⟩ kX_t hK hP hD hS hA [24] [0, 1, 2, 3, 4, 5, 6, 7, 8, 9, 10, 11, 12, 13, 14, 15, 16, 17, 18, 19, 20, 21, 22, 23, 25] rfl (by decide +kernel) rfl rfl rfl hl rfl (Nat.le_of_ble_eq_true rfl) dX6_build_2 ⟨Nat.le_of_ble_eq_true rfl, Nat.le_of_ble_eq_true rfl⟩ (fun H locs hB hJ hSn => ?_)
  obtain ⟨lu_1, ⟨hP1, hD1⟩, hf1_0, hf1_1, hf1_2⟩ := hB
  obtain ⟨hPn, hDn⟩ := hJ _ hP1 hD1 [(oQ, .inr (6, [.ref oC, .ref oH, .ref oK, .ref oE, .ref nq, .ref np, .ref nv, .ref q1, .ref q2, .ref q3, .ref q4, .int pr])), (q3, .inl (cI, 61, .inl fQ3)), (q4, .inl (cI, 61, .inl fQ4)), (np, .inr (5, [.ref ap, .int lp])), (ap, .inl (cI, 300, .inl fp)), (nv, .inr (5, [.ref av, .int lv])), (av, .inl (cI, 300, .inl fv)), (oH, .inr (4, [.ref oP, .ref h1, .ref h2, .int lH])), (h1, .inl (cI, 6, .inl fH1)), (h2, .inl (cI, 6, .inl fH2)), (oP, .inr (7, [.ref oC, .ref nB, .int ft])), (nB, .inr (5, [.ref aB, .int lB])), (aB, .inl (cI, 2400, .inl fB)), (oC, .inr (2, [.ref o4, .ref o5])), (o4, .inr (10, [.ref a41, .ref a42, .ref a43, .int l4])), (a41, .inl (cI, 256, .inl f41)), (a42, .inl (cI, 512, .inl f42)), (a43, .inl (cI, 512, .inl f43)), (o5, .inr (10, [.ref a51, .ref a52, .ref a53, .int l5])), (a51, .inl (cI, 256, .inl f51)), (a52, .inl (cI, 512, .inl f52)), (a53, .inl (cI, 512, .inl f53)), (nx, .inr (5, [.ref ax, .int lx])), (ax, .inl (cI, 300, .inl fx)), (ad, .inl (cI, 300, .inl fd)), (nd, .inr (5, [.ref ad, .int lu_1]))] rfl
  clear hP hD hS hJ hP1 hD1
  have hP := hPn
  have hD := hDn
  have hS := hSn
  clear hPn hDn hSn
  have ha1 : lu_1.toInt = 0 := F_cut_l hf1_2 (by first | decide | omega) (by first | omega | (show (0 : Int) ≤ _; omega))
  refine lv_aload_n hx hb dX6_build_5 rfl (lv_at hl 1 rfl) ?_
  refine kV_i (rest := []) (q0 := 0) (ci := 5) hcf (m_X5_length l dC dI cI cS H.size nx ax lx ) kc_X5_length gX6_build_X5_length rfl rfl rfl ⟨Nat.le_of_ble_eq_true rfl, Nat.le_of_ble_eq_true rfl⟩ kX_t hK hP hD hS hA [22] [0, 1, 2, 3, 4, 5, 6, 7, 8, 9, 10, 11, 12, 13, 14, 15, 16, 17, 18, 19, 20, 21, 23, 24, 25] rfl (by decide +kernel) rfl rfl rfl hl rfl (Nat.le_of_ble_eq_true rfl) dX6_build_6 ⟨Nat.le_of_ble_eq_true rfl, Nat.le_of_ble_eq_true rfl⟩ (fun r_2 H locs hB hJ hSn => ?_)
  obtain ⟨⟨hP1, hD1⟩, hf2_0⟩ := hB
  obtain ⟨hPn, hDn⟩ := hJ _ hP1 hD1 [(oQ, .inr (6, [.ref oC, .ref oH, .ref oK, .ref oE, .ref nq, .ref np, .ref nv, .ref q1, .ref q2, .ref q3, .ref q4, .int pr])), (q3, .inl (cI, 61, .inl fQ3)), (q4, .inl (cI, 61, .inl fQ4)), (np, .inr (5, [.ref ap, .int lp])), (ap, .inl (cI, 300, .inl fp)), (nv, .inr (5, [.ref av, .int lv])), (av, .inl (cI, 300, .inl fv)), (oH, .inr (4, [.ref oP, .ref h1, .ref h2, .int lH])), (h1, .inl (cI, 6, .inl fH1)), (h2, .inl (cI, 6, .inl fH2)), (oP, .inr (7, [.ref oC, .ref nB, .int ft])), (nB, .inr (5, [.ref aB, .int lB])), (aB, .inl (cI, 2400, .inl fB)), (oC, .inr (2, [.ref o4, .ref o5])), (o4, .inr (10, [.ref a41, .ref a42, .ref a43, .int l4])), (a41, .inl (cI, 256, .inl f41)), (a42, .inl (cI, 512, .inl f42)), (a43, .inl (cI, 512, .inl f43)), (o5, .inr (10, [.ref a51, .ref a52, .ref a53, .int l5])), (a51, .inl (cI, 256, .inl f51)), (a52, .inl (cI, 512, .inl f52)), (a53, .inl (cI, 512, .inl f53)), (ax, .inl (cI, 300, .inl fx)), (ad, .inl (cI, 300, .inl fd)), (nd, .inr (5, [.ref ad, .int lu_1])), (nx, .inr (5, [.ref ax, .int lx]))] rfl
  clear hP hD hS hJ hP1 hD1
  have hP := hPn
  have hD := hDn
  have hS := hSn
  clear hPn hDn hSn
  rw [hf2_0]
  refine lv_bipush (v := 60) hx hb dX6_build_9 (by decide) ?_
  refine va_mmin hx hb (by rw [hml]; exact hl.1.symm) hown (hts (.methodLink RX6 68 Lib.Math.min.name) (List.mem_of_getElem? (i := 1) rfl)) (hts (.static Lib.Math.min.name) (List.mem_of_getElem? (i := 2) rfl)) (hts (.initialized "java/lang/Math") (List.mem_of_getElem? (i := 3) rfl)) (hts (.code Lib.Math.min.name Lib.Math.min.code 2 (some .int)) (List.mem_of_getElem? (i := 4) rfl)) (Nat.le_of_ble_eq_true rfl) (Nat.le_of_ble_eq_true rfl) (Nat.zero_le _) (Nat.zero_le _) dX6_build_11 ?_
  refine lv_topi (fun x_3 ex_3 => ?_)
  have tx_3 : x_3.toInt ≤ lx.toInt ∧ x_3.toInt ≤ 60 ∧ (x_3.toInt = lx.toInt ∨ x_3.toInt = 60) := v_min ex_3
  refine lv_istore_n (lv' := [(3, .int x_3), (0, .ref oQ), (1, .ref nx), (2, .ref nd)]) hx hb dX6_build_14 rfl hl (by decide) rfl (fun ls hl => ?_)
  have e9 : x_3 = lx := v_inj (by omega)
  rw [e9] at hl
  refine lv_iconst (v := 0) hx hb dX6_build_15 (by decide) ?_
  refine lv_istore (lv' := [(4, .int 0), (3, .int lx), (0, .ref oQ), (1, .ref nx), (2, .ref nd)]) hx hb dX6_build_16 hl (by decide) rfl (fun ls hl => ?_)
  have LOOP_18 : ∀ (k_18 : Nat) (fr : Int32) (fta : Int32) (lBa : Int32) (lpa : Int32) (lva : Int32) (lda : Int32) (fBa : Nat → Int32) (fpa : Nat → Int32) (fva : Nat → Int32) (fda : Nat → Int32) (H : Heap) (locs : List Loc) (ls : Array Slot), MSd (60 - fr.toInt : Int) k_18 → (0 ≤ fr.toInt ∧ fr.toInt ≤ 60) → (0 ≤ lBa.toInt ∧ lBa.toInt ≤ 2400) → (0 ≤ lpa.toInt ∧ lpa.toInt ≤ 300) → (0 ≤ lva.toInt ∧ lva.toInt ≤ 300) → (0 ≤ lda.toInt ∧ lda.toInt ≤ 300) → (fr.toInt ≤ lx.toInt) → (LYD (UC fH1 fH2 f41 f42 f43 f51 f52 f53) lx.toNatClampNeg fx fQ3 fQ4 fr lda fda) → va_P (dC, dI) vwCl [(oQ, .inr (6, [.ref oC, .ref oH, .ref oK, .ref oE, .ref nq, .ref np, .ref nv, .ref q1, .ref q2, .ref q3, .ref q4, .int pr])), (q3, .inl (cI, 61, .inl fQ3)), (q4, .inl (cI, 61, .inl fQ4)), (np, .inr (5, [.ref ap, .int lpa])), (ap, .inl (cI, 300, .inl fpa)), (nv, .inr (5, [.ref av, .int lva])), (av, .inl (cI, 300, .inl fva)), (oH, .inr (4, [.ref oP, .ref h1, .ref h2, .int lH])), (h1, .inl (cI, 6, .inl fH1)), (h2, .inl (cI, 6, .inl fH2)), (oP, .inr (7, [.ref oC, .ref nB, .int fta])), (nB, .inr (5, [.ref aB, .int lBa])), (aB, .inl (cI, 2400, .inl fBa)), (oC, .inr (2, [.ref o4, .ref o5])), (o4, .inr (10, [.ref a41, .ref a42, .ref a43, .int l4])), (a41, .inl (cI, 256, .inl f41)), (a42, .inl (cI, 512, .inl f42)), (a43, .inl (cI, 512, .inl f43)), (o5, .inr (10, [.ref a51, .ref a52, .ref a53, .int l5])), (a51, .inl (cI, 256, .inl f51)), (a52, .inl (cI, 512, .inl f52)), (a53, .inl (cI, 512, .inl f53)), (ax, .inl (cI, 300, .inl fx)), (ad, .inl (cI, 300, .inl fda)), (nd, .inr (5, [.ref ad, .int lda])), (nx, .inr (5, [.ref ax, .int lx]))] H → va_D A [(oQ, .inr (6, [.ref oC, .ref oH, .ref oK, .ref oE, .ref nq, .ref np, .ref nv, .ref q1, .ref q2, .ref q3, .ref q4, .int pr])), (q3, .inl (cI, 61, .inl fQ3)), (q4, .inl (cI, 61, .inl fQ4)), (np, .inr (5, [.ref ap, .int lpa])), (ap, .inl (cI, 300, .inl fpa)), (nv, .inr (5, [.ref av, .int lva])), (av, .inl (cI, 300, .inl fva)), (oH, .inr (4, [.ref oP, .ref h1, .ref h2, .int lH])), (h1, .inl (cI, 6, .inl fH1)), (h2, .inl (cI, 6, .inl fH2)), (oP, .inr (7, [.ref oC, .ref nB, .int fta])), (nB, .inr (5, [.ref aB, .int lBa])), (aB, .inl (cI, 2400, .inl fBa)), (oC, .inr (2, [.ref o4, .ref o5])), (o4, .inr (10, [.ref a41, .ref a42, .ref a43, .int l4])), (a41, .inl (cI, 256, .inl f41)), (a42, .inl (cI, 512, .inl f42)), (a43, .inl (cI, 512, .inl f43)), (o5, .inr (10, [.ref a51, .ref a52, .ref a53, .int l5])), (a51, .inl (cI, 256, .inl f51)), (a52, .inl (cI, 512, .inl f52)), (a53, .inl (cI, 512, .inl f53)), (ax, .inl (cI, 300, .inl fx)), (ad, .inl (cI, 300, .inl fda)), (nd, .inr (5, [.ref ad, .int lda])), (nx, .inr (5, [.ref ax, .int lx]))] → va_S A s.heap H locs → lv_has ls 6 [(4, .int fr), (3, .int lx), (0, .ref oQ), (1, .ref nx), (2, .ref nd)] → W p l e (headSpec wsX6_build ({ frames := 6, cells := 0, slots := 0, locals := 147 } : Room)).room s m ([.ref oQ, .ref nx, .ref nd] : List Value).toArray below meth c H locs 0 0 (MQ below QQ ([.ref oQ, .ref nx, .ref nd] : List Value).toArray s 0 0 A) (F0 m 18 ls []) := by
    clear hP hD hS hl
    intro k_18
    induction k_18 with
    | zero =>
      intro fr fta lBa lpa lva lda fBa fpa fva fda H locs ls hm_18 g_fr g_lBa g_lpa g_lva g_lda hfl hly hP hD hS hl
      exact ms_0 hm_18
    | succ k_18 ih_18 =>
      intro fr fta lBa lpa lva lda fBa fpa fva fda H locs ls hm_18 g_fr g_lBa g_lpa g_lva g_lda hfl hly hP hD hS hl
      refine lv_iload hx hb dX6_build_18 (lv_at hl 0 rfl) ?_
      refine lv_iload_n hx hb dX6_build_20 rfl (lv_at hl 1 rfl) ?_
      refine lv_icmp_ge (tgt := 153) hx hb dX6_build_21 (by decide) (fun c_4 => ?_) (fun c_4 => ?_)
      · have tc_4 : lx.toInt ≤ fr.toInt := v_le c_4
        refine lv_iconst (v := 1) hx hb dX6_build_153 (by decide) ?_
        exact kl_z (v := 1) hQQ hx hb hr hlocks hS dX6_build_154 (rfl) ⟨lpa, fpa, lva, fva, fta, lBa, fBa, lda, fda, kPD_sub hP hD [0, 1, 2, 3, 4, 5, 6, 7, 8, 9, 10, 11, 12, 13, 14, 15, 16, 17, 18, 19, 20, 21, 25, 22, 24, 23] (by decide +kernel) rfl, g_lpa, g_lva, g_lBa, g_lda, by decide, lay_end hly (by omega) rfl⟩
      · have tc_4 : fr.toInt < lx.toInt := v_nle c_4
        have cf9 := v_clamp (x := fr) (by omega)
        obtain ⟨hE1, hE2, hE3, hE4, hSP⟩ := hEH fr.toNatClampNeg (by omega)
        refine lv_aload_n hx hb dX6_build_24 rfl (lv_at hl 2 rfl) ?_
        refine va_get (D := (dC, dI)) (ci := 6) (v := .ref np) (C := RX6) (T := TX6) (N := 12) hx hb hts in_X6 hown hK hP 0 rfl rfl 5 (by decide) (hts (.fieldLink RX6 20 "TextMender$Parting" "part" "LTextMender$Numbers;") (List.mem_of_getElem? (i := 5) rfl)) (fun _ h9 => h9) rfl dX6_build_25 ?_
        refine lv_iconst (v := 0) hx hb dX6_build_28 (by decide) ?_
        refine kV_v (rest := []) (q0 := 0) (ci := 5) hcf (m_X5_cut l dC dI cI cS H.size np ap lpa 0 (v_rr g_lpa (by decide) (by decide))) kc_X5_cut gX6_build_X5_cut rfl rfl rfl ⟨Nat.le_of_ble_eq_true rfl, Nat.le_of_ble_eq_true rfl⟩ kX_t hK hP hD hS hA [3] [0, 1, 2, 4, 5, 6, 7, 8, 9, 10, 11, 12, 13, 14, 15, 16, 17, 18, 19, 20, 21, 22, 23, 24, 25] rfl (by decide +kernel) rfl rfl rfl hl rfl (Nat.le_of_ble_eq_true rfl) dX6_build_29 ⟨Nat.le_of_ble_eq_true rfl, Nat.le_of_ble_eq_true rfl⟩ (fun H locs hB hJ hSn => ?_)
        obtain ⟨lu_5, ⟨hP1, hD1⟩, hf5_0, hf5_1, hf5_2⟩ := hB
        obtain ⟨hPn, hDn⟩ := hJ _ hP1 hD1 [(oQ, .inr (6, [.ref oC, .ref oH, .ref oK, .ref oE, .ref nq, .ref np, .ref nv, .ref q1, .ref q2, .ref q3, .ref q4, .int pr])), (q3, .inl (cI, 61, .inl fQ3)), (q4, .inl (cI, 61, .inl fQ4)), (ap, .inl (cI, 300, .inl fpa)), (nv, .inr (5, [.ref av, .int lva])), (av, .inl (cI, 300, .inl fva)), (oH, .inr (4, [.ref oP, .ref h1, .ref h2, .int lH])), (h1, .inl (cI, 6, .inl fH1)), (h2, .inl (cI, 6, .inl fH2)), (oP, .inr (7, [.ref oC, .ref nB, .int fta])), (nB, .inr (5, [.ref aB, .int lBa])), (aB, .inl (cI, 2400, .inl fBa)), (oC, .inr (2, [.ref o4, .ref o5])), (o4, .inr (10, [.ref a41, .ref a42, .ref a43, .int l4])), (a41, .inl (cI, 256, .inl f41)), (a42, .inl (cI, 512, .inl f42)), (a43, .inl (cI, 512, .inl f43)), (o5, .inr (10, [.ref a51, .ref a52, .ref a53, .int l5])), (a51, .inl (cI, 256, .inl f51)), (a52, .inl (cI, 512, .inl f52)), (a53, .inl (cI, 512, .inl f53)), (ax, .inl (cI, 300, .inl fx)), (ad, .inl (cI, 300, .inl fda)), (nd, .inr (5, [.ref ad, .int lda])), (nx, .inr (5, [.ref ax, .int lx])), (np, .inr (5, [.ref ap, .int lu_5]))] rfl
        clear hP hD hS hJ hP1 hD1
        have hP := hPn
        have hD := hDn
        have hS := hSn
        clear hPn hDn hSn
        have ha5 : lu_5.toInt = 0 := F_cut_l hf5_2 (by first | decide | omega) (by first | omega | (show (0 : Int) ≤ _; omega))
        refine lv_iload hx hb dX6_build_32 (lv_at hl 0 rfl) ?_
        refine lv_istore (lv' := [(5, .int fr), (4, .int fr), (3, .int lx), (0, .ref oQ), (1, .ref nx), (2, .ref nd)]) hx hb dX6_build_34 hl (by decide) rfl (fun ls hl => ?_)
        have LOOP_36 : ∀ (k_36 : Nat) (i : Int32) (lpb : Int32) (fpb : Nat → Int32) (H : Heap) (locs : List Loc) (ls : Array Slot), MSd (60 - i.toInt : Int) k_36 → (0 ≤ i.toInt ∧ i.toInt ≤ 60) → (0 ≤ lpb.toInt ∧ lpb.toInt ≤ 300) → (fr.toInt ≤ i.toInt) → (lpb.toInt = i.toInt - fr.toInt) → (i.toInt ≤ (fQ3 fr.toNatClampNeg).toInt) → (∀ j : Nat, (j : Int) < lpb.toInt → fpb j = fx (fr.toNatClampNeg + j)) → va_P (dC, dI) vwCl [(oQ, .inr (6, [.ref oC, .ref oH, .ref oK, .ref oE, .ref nq, .ref np, .ref nv, .ref q1, .ref q2, .ref q3, .ref q4, .int pr])), (q3, .inl (cI, 61, .inl fQ3)), (q4, .inl (cI, 61, .inl fQ4)), (ap, .inl (cI, 300, .inl fpb)), (nv, .inr (5, [.ref av, .int lva])), (av, .inl (cI, 300, .inl fva)), (oH, .inr (4, [.ref oP, .ref h1, .ref h2, .int lH])), (h1, .inl (cI, 6, .inl fH1)), (h2, .inl (cI, 6, .inl fH2)), (oP, .inr (7, [.ref oC, .ref nB, .int fta])), (nB, .inr (5, [.ref aB, .int lBa])), (aB, .inl (cI, 2400, .inl fBa)), (oC, .inr (2, [.ref o4, .ref o5])), (o4, .inr (10, [.ref a41, .ref a42, .ref a43, .int l4])), (a41, .inl (cI, 256, .inl f41)), (a42, .inl (cI, 512, .inl f42)), (a43, .inl (cI, 512, .inl f43)), (o5, .inr (10, [.ref a51, .ref a52, .ref a53, .int l5])), (a51, .inl (cI, 256, .inl f51)), (a52, .inl (cI, 512, .inl f52)), (a53, .inl (cI, 512, .inl f53)), (ax, .inl (cI, 300, .inl fx)), (ad, .inl (cI, 300, .inl fda)), (nd, .inr (5, [.ref ad, .int lda])), (nx, .inr (5, [.ref ax, .int lx])), (np, .inr (5, [.ref ap, .int lpb]))] H → va_D A [(oQ, .inr (6, [.ref oC, .ref oH, .ref oK, .ref oE, .ref nq, .ref np, .ref nv, .ref q1, .ref q2, .ref q3, .ref q4, .int pr])), (q3, .inl (cI, 61, .inl fQ3)), (q4, .inl (cI, 61, .inl fQ4)), (ap, .inl (cI, 300, .inl fpb)), (nv, .inr (5, [.ref av, .int lva])), (av, .inl (cI, 300, .inl fva)), (oH, .inr (4, [.ref oP, .ref h1, .ref h2, .int lH])), (h1, .inl (cI, 6, .inl fH1)), (h2, .inl (cI, 6, .inl fH2)), (oP, .inr (7, [.ref oC, .ref nB, .int fta])), (nB, .inr (5, [.ref aB, .int lBa])), (aB, .inl (cI, 2400, .inl fBa)), (oC, .inr (2, [.ref o4, .ref o5])), (o4, .inr (10, [.ref a41, .ref a42, .ref a43, .int l4])), (a41, .inl (cI, 256, .inl f41)), (a42, .inl (cI, 512, .inl f42)), (a43, .inl (cI, 512, .inl f43)), (o5, .inr (10, [.ref a51, .ref a52, .ref a53, .int l5])), (a51, .inl (cI, 256, .inl f51)), (a52, .inl (cI, 512, .inl f52)), (a53, .inl (cI, 512, .inl f53)), (ax, .inl (cI, 300, .inl fx)), (ad, .inl (cI, 300, .inl fda)), (nd, .inr (5, [.ref ad, .int lda])), (nx, .inr (5, [.ref ax, .int lx])), (np, .inr (5, [.ref ap, .int lpb]))] → va_S A s.heap H locs → lv_has ls 6 [(5, .int i), (4, .int fr), (3, .int lx), (0, .ref oQ), (1, .ref nx), (2, .ref nd)] → W p l e (headSpec wsX6_build ({ frames := 6, cells := 0, slots := 0, locals := 147 } : Room)).room s m ([.ref oQ, .ref nx, .ref nd] : List Value).toArray below meth c H locs 0 0 (MQ below QQ ([.ref oQ, .ref nx, .ref nd] : List Value).toArray s 0 0 A) (F0 m 36 ls []) := by
          clear hP hD hS hl
          try (clear ha5 hf5_0 hf5_1 hf5_2 g_lpa ha1 hf1_0 hf1_1 hf1_2 g_ld)
          intro k_36
          induction k_36 with
          | zero =>
            intro i lpb fpb H locs ls hm_36 g_i g_lpb hfi hlp hie hcp hP hD hS hl
            exact ms_0 hm_36
          | succ k_36 ih_36 =>
            intro i lpb fpb H locs ls hm_36 g_i g_lpb hfi hlp hie hcp hP hD hS hl
            refine lv_iload hx hb dX6_build_36 (lv_at hl 0 rfl) ?_
            refine lv_aload_n hx hb dX6_build_38 rfl (lv_at hl 3 rfl) ?_
            refine va_get (D := (dC, dI)) (ci := 6) (v := .ref q3) (C := RX6) (T := TX6) (N := 12) hx hb hts in_X6 hown hK hP 0 rfl rfl 9 (by decide) (hts (.fieldLink RX6 33 "TextMender$Parting" "endOf" "[I") (List.mem_of_getElem? (i := 6) rfl)) (fun _ h9 => h9) rfl dX6_build_39 ?_
            refine lv_iload hx hb dX6_build_42 (lv_at hl 1 rfl) ?_
            refine va_iald hx hb hK hP 1 0 rfl rfl (v_inR g_fr (by decide) (by decide)) dX6_build_44 ?_
            refine lv_topi (fun x_6 ex_6 => ?_)
            have tE_x_6 : fr.toInt < x_6.toInt ∧ x_6.toInt ≤ lx.toInt := by rw [ex_6]; omega
            refine lv_icmp_ge (tgt := 68) hx hb dX6_build_45 (by decide) (fun c_7 => ?_) (fun c_7 => ?_)
            · have tc_7 : x_6.toInt ≤ i.toInt := v_le c_7
              have hie9 : i.toInt ≤ x_6.toInt := by rw [ex_6]; exact hie
              refine lv_aload_n hx hb dX6_build_68 rfl (lv_at hl 3 rfl) ?_
              refine va_get (D := (dC, dI)) (ci := 6) (v := .ref q4) (C := RX6) (T := TX6) (N := 12) hx hb hts in_X6 hown hK hP 0 rfl rfl 10 (by decide) (hts (.fieldLink RX6 36 "TextMender$Parting" "harmOf" "[I") (List.mem_of_getElem? (i := 7) rfl)) (fun _ h9 => h9) rfl dX6_build_69 ?_
              refine lv_iload hx hb dX6_build_72 (lv_at hl 1 rfl) ?_
              refine va_iald hx hb hK hP 2 0 rfl rfl (v_inR g_fr (by decide) (by decide)) dX6_build_74 ?_
              refine lv_topi (fun x_8 ex_8 => ?_)
              have tH_x_8 : -1 ≤ x_8.toInt ∧ x_8.toInt < lH.toInt := by rw [ex_8]; omega
              refine lv_iconst (v := (-1)) hx hb dX6_build_75 (by decide) ?_
              refine lv_icmp_ne (tgt := 94) hx hb dX6_build_76 (by decide) (fun c_9 => ?_) (fun c_9 => ?_)
              · have tc_9 : ¬ x_8.toInt = (-1) := v_ne c_9
                skip
                refine lv_aload_n hx hb dX6_build_94 rfl (lv_at hl 3 rfl) ?_
                refine va_get (D := (dC, dI)) (ci := 6) (v := .ref oH) (C := RX6) (T := TX6) (N := 12) hx hb hts in_X6 hown hK hP 0 rfl rfl 1 (by decide) (hts (.fieldLink RX6 43 "TextMender$Parting" "harms" "LTextMender$Harms;") (List.mem_of_getElem? (i := 9) rfl)) (fun _ h9 => h9) rfl dX6_build_95 ?_
                refine lv_aload_n hx hb dX6_build_98 rfl (lv_at hl 3 rfl) ?_
                refine va_get (D := (dC, dI)) (ci := 6) (v := .ref q4) (C := RX6) (T := TX6) (N := 12) hx hb hts in_X6 hown hK hP 0 rfl rfl 10 (by decide) (hts (.fieldLink RX6 36 "TextMender$Parting" "harmOf" "[I") (List.mem_of_getElem? (i := 7) rfl)) (fun _ h9 => h9) rfl dX6_build_99 ?_
                refine lv_iload hx hb dX6_build_102 (lv_at hl 1 rfl) ?_
                refine va_iald hx hb hK hP 2 0 rfl rfl (v_inR g_fr (by decide) (by decide)) dX6_build_104 ?_
                refine k_i (y := x_8) ex_8.symm ?_
                refine lv_aload_n hx hb dX6_build_105 rfl (lv_at hl 3 rfl) ?_
                refine va_get (D := (dC, dI)) (ci := 6) (v := .ref np) (C := RX6) (T := TX6) (N := 12) hx hb hts in_X6 hown hK hP 0 rfl rfl 5 (by decide) (hts (.fieldLink RX6 20 "TextMender$Parting" "part" "LTextMender$Numbers;") (List.mem_of_getElem? (i := 5) rfl)) (fun _ h9 => h9) rfl dX6_build_106 ?_
                refine lv_aload_n hx hb dX6_build_109 rfl (lv_at hl 3 rfl) ?_
                refine va_get (D := (dC, dI)) (ci := 6) (v := .ref nv) (C := RX6) (T := TX6) (N := 12) hx hb hts in_X6 hown hK hP 0 rfl rfl 6 (by decide) (hts (.fieldLink RX6 23 "TextMender$Parting" "undone" "LTextMender$Numbers;") (List.mem_of_getElem? (i := 8) rfl)) (fun _ h9 => h9) rfl dX6_build_110 ?_
                refine kV_i (rest := []) (q0 := 0) (ci := 4) hcf (f_X4_takeOff l dC dI cI cS H.size oH np nv oP h1 h2 oC nB aB ap av o4 o5 a41 a42 a43 a51 a52 a53 lH fH1 fH2 fta lBa fBa lpb fpb lva fva l4 f41 f42 f43 l5 f51 f52 f53 x_8 (g_lH) (g_lBa) (g_lpb) (g_lva) (by omega) (by omega) (fun j hj => by rw [hcp j hj]; exact hlt _ (by omega)) (hT4) (ho4) (hT5) (ho5) (hL4) (hL5) (hBr)) kc_X4_takeOff gX6_build_X4_takeOff rfl rfl rfl ⟨Nat.le_of_ble_eq_true rfl, Nat.le_of_ble_eq_true rfl⟩ (kX_1 hN52) hK hP hD hS hA [6, 7, 8, 9, 10, 11, 25, 3, 4, 5, 12, 13, 14, 15, 16, 17, 18, 19, 20] [0, 1, 2, 21, 22, 23, 24] rfl (by decide +kernel) rfl rfl rfl hl rfl (Nat.le_of_ble_eq_true rfl) dX6_build_113 ⟨Nat.le_of_ble_eq_true rfl, Nat.le_of_ble_eq_true rfl⟩ (fun r_10 H locs hB hJ hSn => ?_)
                obtain ⟨ft_10, lB_10, fB_10, ld_10, fd_10, ⟨hP1, hD1⟩, hf10_0, hf10_1, hf10_2, hf10_3⟩ := hB
                obtain ⟨hPn, hDn⟩ := hJ _ hP1 hD1 [(oQ, .inr (6, [.ref oC, .ref oH, .ref oK, .ref oE, .ref nq, .ref np, .ref nv, .ref q1, .ref q2, .ref q3, .ref q4, .int pr])), (q3, .inl (cI, 61, .inl fQ3)), (q4, .inl (cI, 61, .inl fQ4)), (ax, .inl (cI, 300, .inl fx)), (ad, .inl (cI, 300, .inl fda)), (nd, .inr (5, [.ref ad, .int lda])), (nx, .inr (5, [.ref ax, .int lx])), (oH, .inr (4, [.ref oP, .ref h1, .ref h2, .int lH])), (h1, .inl (cI, 6, .inl fH1)), (h2, .inl (cI, 6, .inl fH2)), (oP, .inr (7, [.ref oC, .ref nB, .int ft_10])), (nB, .inr (5, [.ref aB, .int lB_10])), (aB, .inl (cI, 2400, .inl fB_10)), (np, .inr (5, [.ref ap, .int lpb])), (ap, .inl (cI, 300, .inl fpb)), (nv, .inr (5, [.ref av, .int ld_10])), (av, .inl (cI, 300, .inl fd_10)), (oC, .inr (2, [.ref o4, .ref o5])), (o4, .inr (10, [.ref a41, .ref a42, .ref a43, .int l4])), (a41, .inl (cI, 256, .inl f41)), (a42, .inl (cI, 512, .inl f42)), (a43, .inl (cI, 512, .inl f43)), (o5, .inr (10, [.ref a51, .ref a52, .ref a53, .int l5])), (a51, .inl (cI, 256, .inl f51)), (a52, .inl (cI, 512, .inl f52)), (a53, .inl (cI, 512, .inl f53))] rfl
                clear hP hD hS hJ hP1 hD1
                have hP := hPn
                have hD := hDn
                have hS := hSn
                clear hPn hDn hSn
                refine lv_if_ne (tgt := 121) hx hb dX6_build_116 (by decide) (fun c_11 => ?_) (fun c_11 => ?_)
                · have tc_11 : ¬ r_10.toInt = 0 := v_ne c_11
                  refine lv_aload_n hx hb dX6_build_121 rfl (lv_at hl 5 rfl) ?_
                  refine lv_aload_n hx hb dX6_build_122 rfl (lv_at hl 3 rfl) ?_
                  refine va_get (D := (dC, dI)) (ci := 6) (v := .ref nv) (C := RX6) (T := TX6) (N := 12) hx hb hts in_X6 hown hK hP 0 rfl rfl 6 (by decide) (hts (.fieldLink RX6 23 "TextMender$Parting" "undone" "LTextMender$Numbers;") (List.mem_of_getElem? (i := 8) rfl)) (fun _ h9 => h9) rfl dX6_build_123 ?_
                  refine kV_i (rest := []) (q0 := 0) (ci := 5) hcf (m_X5_addAll l dC dI cI cS H.size nd nv ad av 300 300 lda fda ld_10 fd_10 (by omega) (by omega) (by omega) (by omega)) kc_X5_addAll gX6_build_X5_addAll rfl rfl rfl ⟨Nat.le_of_ble_eq_true rfl, Nat.le_of_ble_eq_true rfl⟩ kX_t hK hP hD hS hA [5, 4, 15, 16] [0, 1, 2, 3, 6, 7, 8, 9, 10, 11, 12, 13, 14, 17, 18, 19, 20, 21, 22, 23, 24, 25] rfl (by decide +kernel) rfl rfl rfl hl rfl (Nat.le_of_ble_eq_true rfl) dX6_build_126 ⟨Nat.le_of_ble_eq_true rfl, Nat.le_of_ble_eq_true rfl⟩ (fun r_12 H locs hB hJ hSn => ?_)
                  obtain ⟨lu_12, fu_12, ⟨hP1, hD1⟩, hf12_0, hf12_1, hf12_2⟩ := hB
                  obtain ⟨hPn, hDn⟩ := hJ _ hP1 hD1 [(oQ, .inr (6, [.ref oC, .ref oH, .ref oK, .ref oE, .ref nq, .ref np, .ref nv, .ref q1, .ref q2, .ref q3, .ref q4, .int pr])), (q3, .inl (cI, 61, .inl fQ3)), (q4, .inl (cI, 61, .inl fQ4)), (ax, .inl (cI, 300, .inl fx)), (nx, .inr (5, [.ref ax, .int lx])), (oH, .inr (4, [.ref oP, .ref h1, .ref h2, .int lH])), (h1, .inl (cI, 6, .inl fH1)), (h2, .inl (cI, 6, .inl fH2)), (oP, .inr (7, [.ref oC, .ref nB, .int ft_10])), (nB, .inr (5, [.ref aB, .int lB_10])), (aB, .inl (cI, 2400, .inl fB_10)), (np, .inr (5, [.ref ap, .int lpb])), (ap, .inl (cI, 300, .inl fpb)), (oC, .inr (2, [.ref o4, .ref o5])), (o4, .inr (10, [.ref a41, .ref a42, .ref a43, .int l4])), (a41, .inl (cI, 256, .inl f41)), (a42, .inl (cI, 512, .inl f42)), (a43, .inl (cI, 512, .inl f43)), (o5, .inr (10, [.ref a51, .ref a52, .ref a53, .int l5])), (a51, .inl (cI, 256, .inl f51)), (a52, .inl (cI, 512, .inl f52)), (a53, .inl (cI, 512, .inl f53)), (nd, .inr (5, [.ref ad, .int lu_12])), (ad, .inl (cI, 300, .inl fu_12)), (nv, .inr (5, [.ref av, .int ld_10])), (av, .inl (cI, 300, .inl fd_10))] rfl
                  clear hP hD hS hJ hP1 hD1
                  have hP := hPn
                  have hD := hDn
                  have hS := hSn
                  clear hPn hDn hSn
                  refine lv_if_ne (tgt := 134) hx hb dX6_build_129 (by decide) (fun c_13 => ?_) (fun c_13 => ?_)
                  · have tc_13 : ¬ r_12.toInt = 0 := v_ne c_13
                    refine lv_iload hx hb dX6_build_134 (lv_at hl 1 rfl) ?_
                    refine lv_iconst (v := 1) hx hb dX6_build_136 (by decide) ?_
                    refine lv_iadd hx hb dX6_build_137 ?_
                    refine lv_topi (fun x_14 ex_14 => ?_)
                    have tx_14 : x_14.toInt = fr.toInt + 1 := v_addR (l2 := 1) (h2 := 1) ex_14 g_fr (by decide) (by decide) (by decide)
                    refine lv_aload_n hx hb dX6_build_138 rfl (lv_at hl 3 rfl) ?_
                    refine va_get (D := (dC, dI)) (ci := 6) (v := .ref q3) (C := RX6) (T := TX6) (N := 12) hx hb hts in_X6 hown hK hP 0 rfl rfl 9 (by decide) (hts (.fieldLink RX6 33 "TextMender$Parting" "endOf" "[I") (List.mem_of_getElem? (i := 6) rfl)) (fun _ h9 => h9) rfl dX6_build_139 ?_
                    refine lv_iload hx hb dX6_build_142 (lv_at hl 1 rfl) ?_
                    refine va_iald hx hb hK hP 1 0 rfl rfl (v_inR g_fr (by decide) (by decide)) dX6_build_144 ?_
                    refine k_i (y := x_6) ex_6.symm ?_
                    refine va_mmax hx hb (by rw [hml]; exact hl.1.symm) hown (hts (.methodLink RX6 147 Lib.Math.max.name) (List.mem_of_getElem? (i := 10) rfl)) (hts (.static Lib.Math.max.name) (List.mem_of_getElem? (i := 11) rfl)) (hts (.initialized "java/lang/Math") (List.mem_of_getElem? (i := 3) rfl)) (hts (.code Lib.Math.max.name Lib.Math.max.code 2 (some .int)) (List.mem_of_getElem? (i := 12) rfl)) (Nat.le_of_ble_eq_true rfl) (Nat.le_of_ble_eq_true rfl) (Nat.zero_le _) (Nat.zero_le _) dX6_build_145 ?_
                    refine lv_topi (fun x_15 ex_15 => ?_)
                    have tx_15 : x_14.toInt ≤ x_15.toInt ∧ x_6.toInt ≤ x_15.toInt ∧ (x_15.toInt = x_14.toInt ∨ x_15.toInt = x_6.toInt) := v_max ex_15
                    refine lv_istore (lv' := [(4, .int x_15), (5, .int i), (3, .int lx), (0, .ref oQ), (1, .ref nx), (2, .ref nd)]) hx hb dX6_build_148 hl (by decide) rfl (fun ls hl => ?_)
                    refine lv_goto (tgt := 18) hx hb dX6_build_150 (by decide) ?_
                    exact ih_18 x_15 ft_10 lB_10 lpb ld_10 lu_12 fB_10 fpb fd_10 fu_12 _ _ _ (ms_lt hm_18 (by show ((60 - x_15.toInt : Int)) < 60 - fr.toInt; omega) (by show (0 : Int) < 60 - fr.toInt; omega)) (by show 0 ≤ x_15.toInt ∧ x_15.toInt ≤ 60; omega) (hf10_0) (g_lpb) (hf10_1) (by show 0 ≤ lu_12.toInt ∧ lu_12.toInt ≤ 300; omega) (by show x_15.toInt ≤ lx.toInt; omega) (lay_s hly (by omega) (by rw [← ex_8, ← ex_6]; exact Or.inr ⟨by omega, okU9.2.1 _ _ _ _ _ _ (fun k hk => hcp k (by omega)) (by rw [show x_6.toInt.toNat - fr.toNatClampNeg = lpb.toInt.toNat by omega]; exact to_1n hf10_3 (by omega))⟩) (m := ld_10.toInt.toNat) (by omega) hf12_2 (by omega) (by omega) (by rw [← ex_6]; omega) (by omega)) (hP.sub [0, 1, 2, 11, 12, 24, 25, 5, 6, 7, 8, 9, 10, 13, 14, 15, 16, 17, 18, 19, 20, 21, 3, 23, 22, 4] rfl) (hD.sub [0, 1, 2, 11, 12, 24, 25, 5, 6, 7, 8, 9, 10, 13, 14, 15, 16, 17, 18, 19, 20, 21, 3, 23, 22, 4] (by decide +kernel) rfl) hS (lv_sub hl [0, 2, 3, 4, 5] rfl)
                  · have tc_13 : r_12.toInt = 0 := v_eq c_13
                    refine lv_iconst (v := 0) hx hb dX6_build_132 (by decide) ?_
                    exact kl_z (v := 0) hQQ hx hb hr hlocks hS dX6_build_133 (rfl) ⟨lpb, fpb, ld_10, fd_10, ft_10, lB_10, fB_10, lu_12, fu_12, kPD_sub hP hD [0, 1, 2, 11, 12, 24, 25, 5, 6, 7, 8, 9, 10, 13, 14, 15, 16, 17, 18, 19, 20, 21, 4, 3, 22, 23] (by decide +kernel) rfl, g_lpb, hf10_1, hf10_0, by omega, by decide, lay_no hly (by omega) (by rw [← ex_8, ← ex_6]; exact Or.inr ⟨by omega, okU9.2.1 _ _ _ _ _ _ (fun k hk => hcp k (by omega)) (by rw [show x_6.toInt.toNat - fr.toNatClampNeg = lpb.toInt.toNat by omega]; exact to_1n hf10_3 (by omega))⟩) (m := ld_10.toInt.toNat) (by omega) hf12_2 (by omega) (by omega) rfl⟩
                · have tc_11 : r_10.toInt = 0 := v_eq c_11
                  refine lv_iconst (v := 0) hx hb dX6_build_119 (by decide) ?_
                  exact kl_z (v := 0) hQQ hx hb hr hlocks hS dX6_build_120 (rfl) ⟨lpb, fpb, ld_10, fd_10, ft_10, lB_10, fB_10, lda, fda, kPD_sub hP hD [0, 1, 2, 13, 14, 15, 16, 7, 8, 9, 10, 11, 12, 17, 18, 19, 20, 21, 22, 23, 24, 25, 6, 3, 5, 4] (by decide +kernel) rfl, g_lpb, hf10_1, hf10_0, g_lda, by decide, absurd hSP (fun ⟨c9, f9, h9⟩ => to_0 hf10_3 (by omega) c9 f9 (bl_un okU9 h9 (by rw [← ex_8]; omega) (by have c9 := v_clamp (x := x_8) (by omega); rw [← ex_8]; omega) (by rw [← ex_6]; omega) hcp))⟩
              · have tc_9 : x_8.toInt = (-1) := v_eq c_9
                refine lv_aload_n hx hb dX6_build_79 rfl (lv_at hl 3 rfl) ?_
                refine va_get (D := (dC, dI)) (ci := 6) (v := .ref nv) (C := RX6) (T := TX6) (N := 12) hx hb hts in_X6 hown hK hP 0 rfl rfl 6 (by decide) (hts (.fieldLink RX6 23 "TextMender$Parting" "undone" "LTextMender$Numbers;") (List.mem_of_getElem? (i := 8) rfl)) (fun _ h9 => h9) rfl dX6_build_80 ?_
                refine lv_aload_n hx hb dX6_build_83 rfl (lv_at hl 3 rfl) ?_
                refine va_get (D := (dC, dI)) (ci := 6) (v := .ref np) (C := RX6) (T := TX6) (N := 12) hx hb hts in_X6 hown hK hP 0 rfl rfl 5 (by decide) (hts (.fieldLink RX6 20 "TextMender$Parting" "part" "LTextMender$Numbers;") (List.mem_of_getElem? (i := 5) rfl)) (fun _ h9 => h9) rfl dX6_build_84 ?_
                refine kV_i (rest := []) (q0 := 0) (ci := 5) hcf (m_X5_takeAll l dC dI cI cS H.size nv np av ap 300 300 lva fva lpb fpb (by omega) (by omega) (by omega) (by omega)) kc_X5_takeAll gX6_build_X5_takeAll rfl rfl rfl ⟨Nat.le_of_ble_eq_true rfl, Nat.le_of_ble_eq_true rfl⟩ kX_t hK hP hD hS hA [4, 5, 25, 3] [0, 1, 2, 6, 7, 8, 9, 10, 11, 12, 13, 14, 15, 16, 17, 18, 19, 20, 21, 22, 23, 24] rfl (by decide +kernel) rfl rfl rfl hl rfl (Nat.le_of_ble_eq_true rfl) dX6_build_87 ⟨Nat.le_of_ble_eq_true rfl, Nat.le_of_ble_eq_true rfl⟩ (fun r_16 H locs hB hJ hSn => ?_)
                obtain ⟨lu_16, fu_16, ⟨hP1, hD1⟩, hf16_0, hf16_1, hf16_2⟩ := hB
                obtain ⟨hPn, hDn⟩ := hJ _ hP1 hD1 [(oQ, .inr (6, [.ref oC, .ref oH, .ref oK, .ref oE, .ref nq, .ref np, .ref nv, .ref q1, .ref q2, .ref q3, .ref q4, .int pr])), (q3, .inl (cI, 61, .inl fQ3)), (q4, .inl (cI, 61, .inl fQ4)), (oH, .inr (4, [.ref oP, .ref h1, .ref h2, .int lH])), (h1, .inl (cI, 6, .inl fH1)), (h2, .inl (cI, 6, .inl fH2)), (oP, .inr (7, [.ref oC, .ref nB, .int fta])), (nB, .inr (5, [.ref aB, .int lBa])), (aB, .inl (cI, 2400, .inl fBa)), (oC, .inr (2, [.ref o4, .ref o5])), (o4, .inr (10, [.ref a41, .ref a42, .ref a43, .int l4])), (a41, .inl (cI, 256, .inl f41)), (a42, .inl (cI, 512, .inl f42)), (a43, .inl (cI, 512, .inl f43)), (o5, .inr (10, [.ref a51, .ref a52, .ref a53, .int l5])), (a51, .inl (cI, 256, .inl f51)), (a52, .inl (cI, 512, .inl f52)), (a53, .inl (cI, 512, .inl f53)), (ax, .inl (cI, 300, .inl fx)), (ad, .inl (cI, 300, .inl fda)), (nd, .inr (5, [.ref ad, .int lda])), (nx, .inr (5, [.ref ax, .int lx])), (nv, .inr (5, [.ref av, .int lu_16])), (av, .inl (cI, 300, .inl fu_16)), (np, .inr (5, [.ref ap, .int lpb])), (ap, .inl (cI, 300, .inl fpb))] rfl
                clear hP hD hS hJ hP1 hD1
                have hP := hPn
                have hD := hDn
                have hS := hSn
                clear hPn hDn hSn
                refine lv_pop hx hb dX6_build_90 rfl ?_
                refine lv_goto (tgt := 121) hx hb dX6_build_91 (by decide) ?_
                refine lv_aload_n hx hb dX6_build_121 rfl (lv_at hl 5 rfl) ?_
                refine lv_aload_n hx hb dX6_build_122 rfl (lv_at hl 3 rfl) ?_
                refine va_get (D := (dC, dI)) (ci := 6) (v := .ref nv) (C := RX6) (T := TX6) (N := 12) hx hb hts in_X6 hown hK hP 0 rfl rfl 6 (by decide) (hts (.fieldLink RX6 23 "TextMender$Parting" "undone" "LTextMender$Numbers;") (List.mem_of_getElem? (i := 8) rfl)) (fun _ h9 => h9) rfl dX6_build_123 ?_
                refine kV_i (rest := []) (q0 := 0) (ci := 5) hcf (m_X5_addAll l dC dI cI cS H.size nd nv ad av 300 300 lda fda lu_16 fu_16 (by omega) (hf16_0) (by omega) (by omega)) kc_X5_addAll gX6_build_X5_addAll rfl rfl rfl ⟨Nat.le_of_ble_eq_true rfl, Nat.le_of_ble_eq_true rfl⟩ kX_t hK hP hD hS hA [20, 19, 22, 23] [0, 1, 2, 3, 4, 5, 6, 7, 8, 9, 10, 11, 12, 13, 14, 15, 16, 17, 18, 21, 24, 25] rfl (by decide +kernel) rfl rfl rfl hl rfl (Nat.le_of_ble_eq_true rfl) dX6_build_126 ⟨Nat.le_of_ble_eq_true rfl, Nat.le_of_ble_eq_true rfl⟩ (fun r_17 H locs hB hJ hSn => ?_)
                obtain ⟨lu_17, fu_17, ⟨hP1, hD1⟩, hf17_0, hf17_1, hf17_2⟩ := hB
                obtain ⟨hPn, hDn⟩ := hJ _ hP1 hD1 [(oQ, .inr (6, [.ref oC, .ref oH, .ref oK, .ref oE, .ref nq, .ref np, .ref nv, .ref q1, .ref q2, .ref q3, .ref q4, .int pr])), (q3, .inl (cI, 61, .inl fQ3)), (q4, .inl (cI, 61, .inl fQ4)), (oH, .inr (4, [.ref oP, .ref h1, .ref h2, .int lH])), (h1, .inl (cI, 6, .inl fH1)), (h2, .inl (cI, 6, .inl fH2)), (oP, .inr (7, [.ref oC, .ref nB, .int fta])), (nB, .inr (5, [.ref aB, .int lBa])), (aB, .inl (cI, 2400, .inl fBa)), (oC, .inr (2, [.ref o4, .ref o5])), (o4, .inr (10, [.ref a41, .ref a42, .ref a43, .int l4])), (a41, .inl (cI, 256, .inl f41)), (a42, .inl (cI, 512, .inl f42)), (a43, .inl (cI, 512, .inl f43)), (o5, .inr (10, [.ref a51, .ref a52, .ref a53, .int l5])), (a51, .inl (cI, 256, .inl f51)), (a52, .inl (cI, 512, .inl f52)), (a53, .inl (cI, 512, .inl f53)), (ax, .inl (cI, 300, .inl fx)), (nx, .inr (5, [.ref ax, .int lx])), (np, .inr (5, [.ref ap, .int lpb])), (ap, .inl (cI, 300, .inl fpb)), (nd, .inr (5, [.ref ad, .int lu_17])), (ad, .inl (cI, 300, .inl fu_17)), (nv, .inr (5, [.ref av, .int lu_16])), (av, .inl (cI, 300, .inl fu_16))] rfl
                clear hP hD hS hJ hP1 hD1
                have hP := hPn
                have hD := hDn
                have hS := hSn
                clear hPn hDn hSn
                refine lv_if_ne (tgt := 134) hx hb dX6_build_129 (by decide) (fun c_18 => ?_) (fun c_18 => ?_)
                · have tc_18 : ¬ r_17.toInt = 0 := v_ne c_18
                  refine lv_iload hx hb dX6_build_134 (lv_at hl 1 rfl) ?_
                  refine lv_iconst (v := 1) hx hb dX6_build_136 (by decide) ?_
                  refine lv_iadd hx hb dX6_build_137 ?_
                  refine lv_topi (fun x_19 ex_19 => ?_)
                  have tx_19 : x_19.toInt = fr.toInt + 1 := v_addR (l2 := 1) (h2 := 1) ex_19 g_fr (by decide) (by decide) (by decide)
                  refine lv_aload_n hx hb dX6_build_138 rfl (lv_at hl 3 rfl) ?_
                  refine va_get (D := (dC, dI)) (ci := 6) (v := .ref q3) (C := RX6) (T := TX6) (N := 12) hx hb hts in_X6 hown hK hP 0 rfl rfl 9 (by decide) (hts (.fieldLink RX6 33 "TextMender$Parting" "endOf" "[I") (List.mem_of_getElem? (i := 6) rfl)) (fun _ h9 => h9) rfl dX6_build_139 ?_
                  refine lv_iload hx hb dX6_build_142 (lv_at hl 1 rfl) ?_
                  refine va_iald hx hb hK hP 1 0 rfl rfl (v_inR g_fr (by decide) (by decide)) dX6_build_144 ?_
                  refine k_i (y := x_6) ex_6.symm ?_
                  refine va_mmax hx hb (by rw [hml]; exact hl.1.symm) hown (hts (.methodLink RX6 147 Lib.Math.max.name) (List.mem_of_getElem? (i := 10) rfl)) (hts (.static Lib.Math.max.name) (List.mem_of_getElem? (i := 11) rfl)) (hts (.initialized "java/lang/Math") (List.mem_of_getElem? (i := 3) rfl)) (hts (.code Lib.Math.max.name Lib.Math.max.code 2 (some .int)) (List.mem_of_getElem? (i := 12) rfl)) (Nat.le_of_ble_eq_true rfl) (Nat.le_of_ble_eq_true rfl) (Nat.zero_le _) (Nat.zero_le _) dX6_build_145 ?_
                  refine lv_topi (fun x_20 ex_20 => ?_)
                  have tx_20 : x_19.toInt ≤ x_20.toInt ∧ x_6.toInt ≤ x_20.toInt ∧ (x_20.toInt = x_19.toInt ∨ x_20.toInt = x_6.toInt) := v_max ex_20
                  refine lv_istore (lv' := [(4, .int x_20), (5, .int i), (3, .int lx), (0, .ref oQ), (1, .ref nx), (2, .ref nd)]) hx hb dX6_build_148 hl (by decide) rfl (fun ls hl => ?_)
                  refine lv_goto (tgt := 18) hx hb dX6_build_150 (by decide) ?_
                  exact ih_18 x_20 fta lBa lpb lu_16 lu_17 fBa fpb fu_16 fu_17 _ _ _ (ms_lt hm_18 (by show ((60 - x_20.toInt : Int)) < 60 - fr.toInt; omega) (by show (0 : Int) < 60 - fr.toInt; omega)) (by show 0 ≤ x_20.toInt ∧ x_20.toInt ≤ 60; omega) (g_lBa) (g_lpb) (by show 0 ≤ lu_16.toInt ∧ lu_16.toInt ≤ 300; omega) (by show 0 ≤ lu_17.toInt ∧ lu_17.toInt ≤ 300; omega) (by show x_20.toInt ≤ lx.toInt; omega) (lay_s hly (by omega) (by rw [← ex_8, ← ex_6]; exact Or.inl ⟨by rw [c_9]; rfl, rfl, fun k hk => ((addAll_cp hf16_2 (by omega) (by omega)).2 k (by omega)).trans (hcp k (by omega))⟩) (m := x_6.toInt.toNat - fr.toNatClampNeg) (by rw [(addAll_cp hf16_2 (by omega) (by omega)).1]; omega) hf17_2 (by omega) (by omega) (by rw [← ex_6]; omega) (by omega)) (hP.sub [0, 1, 2, 20, 21, 24, 25, 3, 4, 5, 6, 7, 8, 9, 10, 11, 12, 13, 14, 15, 16, 17, 18, 23, 22, 19] rfl) (hD.sub [0, 1, 2, 20, 21, 24, 25, 3, 4, 5, 6, 7, 8, 9, 10, 11, 12, 13, 14, 15, 16, 17, 18, 23, 22, 19] (by decide +kernel) rfl) hS (lv_sub hl [0, 2, 3, 4, 5] rfl)
                · have tc_18 : r_17.toInt = 0 := v_eq c_18
                  refine lv_iconst (v := 0) hx hb dX6_build_132 (by decide) ?_
                  exact kl_z (v := 0) hQQ hx hb hr hlocks hS dX6_build_133 (rfl) ⟨lpb, fpb, lu_16, fu_16, fta, lBa, fBa, lu_17, fu_17, kPD_sub hP hD [0, 1, 2, 20, 21, 24, 25, 3, 4, 5, 6, 7, 8, 9, 10, 11, 12, 13, 14, 15, 16, 17, 19, 18, 22, 23] (by decide +kernel) rfl, g_lpb, by omega, g_lBa, by omega, by decide, lay_no hly (by omega) (by rw [← ex_8, ← ex_6]; exact Or.inl ⟨by rw [c_9]; rfl, rfl, fun k hk => ((addAll_cp hf16_2 (by omega) (by omega)).2 k (by omega)).trans (hcp k (by omega))⟩) (m := x_6.toInt.toNat - fr.toNatClampNeg) (by rw [(addAll_cp hf16_2 (by omega) (by omega)).1]; omega) hf17_2 (by omega) (by omega) rfl⟩
            · have tc_7 : i.toInt < x_6.toInt := v_nle c_7
              refine lv_aload_n hx hb dX6_build_48 rfl (lv_at hl 3 rfl) ?_
              refine va_get (D := (dC, dI)) (ci := 6) (v := .ref np) (C := RX6) (T := TX6) (N := 12) hx hb hts in_X6 hown hK hP 0 rfl rfl 5 (by decide) (hts (.fieldLink RX6 20 "TextMender$Parting" "part" "LTextMender$Numbers;") (List.mem_of_getElem? (i := 5) rfl)) (fun _ h9 => h9) rfl dX6_build_49 ?_
              refine lv_aload_n hx hb dX6_build_52 rfl (lv_at hl 4 rfl) ?_
              refine lv_iload hx hb dX6_build_53 (lv_at hl 0 rfl) ?_
              refine kV_i (rest := [.ref np]) (q0 := 0) (ci := 5) hcf (m_X5_get l dC dI cI cS H.size nx ax 300 lx fx i (by omega) (by omega)) kc_X5_get gX6_build_X5_get rfl rfl rfl ⟨Nat.le_of_ble_eq_true rfl, Nat.le_of_ble_eq_true rfl⟩ kX_t hK hP hD hS hA [24, 21] [0, 1, 2, 3, 4, 5, 6, 7, 8, 9, 10, 11, 12, 13, 14, 15, 16, 17, 18, 19, 20, 22, 23, 25] rfl (by decide +kernel) rfl rfl rfl hl rfl (Nat.le_of_ble_eq_true rfl) dX6_build_55 ⟨Nat.le_of_ble_eq_true rfl, Nat.le_of_ble_eq_true rfl⟩ (fun r_21 H locs hB hJ hSn => ?_)
              obtain ⟨⟨hP1, hD1⟩, hf21_0⟩ := hB
              obtain ⟨hPn, hDn⟩ := hJ _ hP1 hD1 [(oQ, .inr (6, [.ref oC, .ref oH, .ref oK, .ref oE, .ref nq, .ref np, .ref nv, .ref q1, .ref q2, .ref q3, .ref q4, .int pr])), (q3, .inl (cI, 61, .inl fQ3)), (q4, .inl (cI, 61, .inl fQ4)), (ap, .inl (cI, 300, .inl fpb)), (nv, .inr (5, [.ref av, .int lva])), (av, .inl (cI, 300, .inl fva)), (oH, .inr (4, [.ref oP, .ref h1, .ref h2, .int lH])), (h1, .inl (cI, 6, .inl fH1)), (h2, .inl (cI, 6, .inl fH2)), (oP, .inr (7, [.ref oC, .ref nB, .int fta])), (nB, .inr (5, [.ref aB, .int lBa])), (aB, .inl (cI, 2400, .inl fBa)), (oC, .inr (2, [.ref o4, .ref o5])), (o4, .inr (10, [.ref a41, .ref a42, .ref a43, .int l4])), (a41, .inl (cI, 256, .inl f41)), (a42, .inl (cI, 512, .inl f42)), (a43, .inl (cI, 512, .inl f43)), (o5, .inr (10, [.ref a51, .ref a52, .ref a53, .int l5])), (a51, .inl (cI, 256, .inl f51)), (a52, .inl (cI, 512, .inl f52)), (a53, .inl (cI, 512, .inl f53)), (ad, .inl (cI, 300, .inl fda)), (nd, .inr (5, [.ref ad, .int lda])), (np, .inr (5, [.ref ap, .int lpb])), (nx, .inr (5, [.ref ax, .int lx])), (ax, .inl (cI, 300, .inl fx))] rfl
              clear hP hD hS hJ hP1 hD1
              have hP := hPn
              have hD := hDn
              have hS := hSn
              clear hPn hDn hSn
              have hg21 : r_21 = fx i.toNatClampNeg := F_get_f hf21_0 (by omega) (by omega)
              refine kV_i (rest := []) (q0 := 0) (ci := 5) hcf (m_X5_add l dC dI cI cS H.size np ap 300 lpb fpb r_21 (by omega) (by omega)) kc_X5_add gX6_build_X5_add rfl rfl rfl ⟨Nat.le_of_ble_eq_true rfl, Nat.le_of_ble_eq_true rfl⟩ kX_t hK hP hD hS hA [23, 3] [0, 1, 2, 4, 5, 6, 7, 8, 9, 10, 11, 12, 13, 14, 15, 16, 17, 18, 19, 20, 21, 22, 24, 25] rfl (by decide +kernel) rfl rfl rfl hl rfl (Nat.le_of_ble_eq_true rfl) dX6_build_58 ⟨Nat.le_of_ble_eq_true rfl, Nat.le_of_ble_eq_true rfl⟩ (fun r_22 H locs hB hJ hSn => ?_)
              obtain ⟨lu_22, fu_22, ⟨hP1, hD1⟩, hf22_0, hf22_1, hf22_2⟩ := hB
              obtain ⟨hPn, hDn⟩ := hJ _ hP1 hD1 [(oQ, .inr (6, [.ref oC, .ref oH, .ref oK, .ref oE, .ref nq, .ref np, .ref nv, .ref q1, .ref q2, .ref q3, .ref q4, .int pr])), (q3, .inl (cI, 61, .inl fQ3)), (q4, .inl (cI, 61, .inl fQ4)), (nv, .inr (5, [.ref av, .int lva])), (av, .inl (cI, 300, .inl fva)), (oH, .inr (4, [.ref oP, .ref h1, .ref h2, .int lH])), (h1, .inl (cI, 6, .inl fH1)), (h2, .inl (cI, 6, .inl fH2)), (oP, .inr (7, [.ref oC, .ref nB, .int fta])), (nB, .inr (5, [.ref aB, .int lBa])), (aB, .inl (cI, 2400, .inl fBa)), (oC, .inr (2, [.ref o4, .ref o5])), (o4, .inr (10, [.ref a41, .ref a42, .ref a43, .int l4])), (a41, .inl (cI, 256, .inl f41)), (a42, .inl (cI, 512, .inl f42)), (a43, .inl (cI, 512, .inl f43)), (o5, .inr (10, [.ref a51, .ref a52, .ref a53, .int l5])), (a51, .inl (cI, 256, .inl f51)), (a52, .inl (cI, 512, .inl f52)), (a53, .inl (cI, 512, .inl f53)), (ad, .inl (cI, 300, .inl fda)), (nd, .inr (5, [.ref ad, .int lda])), (nx, .inr (5, [.ref ax, .int lx])), (ax, .inl (cI, 300, .inl fx)), (np, .inr (5, [.ref ap, .int lu_22])), (ap, .inl (cI, 300, .inl fu_22))] rfl
              clear hP hD hS hJ hP1 hD1
              have hP := hPn
              have hD := hDn
              have hS := hSn
              clear hPn hDn hSn
              have ha22 := F_add_l hf22_2 (by omega)
              refine lv_pop hx hb dX6_build_61 rfl ?_
              obtain ⟨x_23, ex_23⟩ : ∃ y : Int32, y = i + 1 := ⟨_, rfl⟩
              have tx_23 : x_23.toInt = i.toInt + 1 := v_addR (l2 := 1) (h2 := 1) ex_23 g_i (by decide) (by decide) (by decide)
              refine lv_iinc (v := x_23) (lv' := [(5, .int x_23), (4, .int fr), (3, .int lx), (0, .ref oQ), (1, .ref nx), (2, .ref nd)]) hx hb dX6_build_62 hl (k := 0) rfl (by rw [ex_23]; rfl) (by decide) rfl (fun ls hl => ?_)
              refine lv_goto (tgt := 36) hx hb dX6_build_65 (by decide) ?_
              exact ih_36 x_23 lu_22 fu_22 _ _ _ (ms_lt hm_36 (by show ((60 - x_23.toInt : Int)) < 60 - i.toInt; omega) (by show (0 : Int) < 60 - i.toInt; omega)) (by show 0 ≤ x_23.toInt ∧ x_23.toInt ≤ 60; omega) (by show 0 ≤ lu_22.toInt ∧ lu_22.toInt ≤ 300; omega) (by show fr.toInt ≤ x_23.toInt; omega) (by show lu_22.toInt = x_23.toInt - fr.toInt; omega) (by rw [← ex_6]; omega) (cpS_s hcp hlp hf22_2 hg21 (by omega) (by omega) (by omega)) (hP.sub [0, 1, 2, 25, 3, 4, 5, 6, 7, 8, 9, 10, 11, 12, 13, 14, 15, 16, 17, 18, 19, 23, 20, 21, 22, 24] rfl) (hD.sub [0, 1, 2, 25, 3, 4, 5, 6, 7, 8, 9, 10, 11, 12, 13, 14, 15, 16, 17, 18, 19, 23, 20, 21, 22, 24] (by decide +kernel) rfl) hS (lv_sub hl [0, 1, 2, 3, 4, 5] rfl)
        exact LOOP_36 _ fr lu_5 fpa _ _ _ (ms_s _) (g_fr) (by show 0 ≤ lu_5.toInt ∧ lu_5.toInt ≤ 300; omega) (by show fr.toInt ≤ fr.toInt; omega) (by show lu_5.toInt = fr.toInt - fr.toInt; omega) (by show fr.toInt ≤ (fQ3 fr.toNatClampNeg).toInt; omega) (fun j hj => by omega) hP hD hS (lv_sub hl [0, 1, 2, 3, 4, 5] rfl)
  exact LOOP_18 _ 0 ft lB lp lv lu_1 fB fp fv fd _ _ _ (ms_s _) (by decide) (g_lB) (g_lp) (g_lv) (by show 0 ≤ lu_1.toInt ∧ lu_1.toInt ≤ 300; omega) (by show 0 ≤ lx.toInt; omega) (⟨0, rfl, by omega⟩) hP hD hS (lv_sub hl [0, 1, 2, 3, 4] rfl)

end

/-! 5c.a.rows -/
section
set_option maxRecDepth 100000 in
theorem dA321_cX6_spans : kDec cX6_spans [(0, .aload_n 0, 1), (1, .getfield 30, 3), (4, .iconst 0, 1), (5, .iaload, 1), (6, .ireturn, 1)] = true := by decide +kernel
theorem dX6_spans_0 : decode cX6_spans 0 = .ok (.aload_n 0, 1) := kDec_at dA321_cX6_spans 0 rfl
theorem dX6_spans_1 : decode cX6_spans 1 = .ok (.getfield 30, 3) := kDec_at dA321_cX6_spans 1 rfl
theorem dX6_spans_4 : decode cX6_spans 4 = .ok (.iconst 0, 1) := kDec_at dA321_cX6_spans 2 rfl
theorem dX6_spans_5 : decode cX6_spans 5 = .ok (.iaload, 1) := kDec_at dA321_cX6_spans 3 rfl
theorem dX6_spans_6 : decode cX6_spans 6 = .ok (.ireturn, 1) := kDec_at dA321_cX6_spans 4 rfl
set_option maxRecDepth 100000 in
theorem dA322_cX11_parts : kDec cX11_parts [(0, .aload_n 0, 1), (1, .iconst (-1), 1), (2, .putfield 90, 3), (5, .aload_n 0, 1), (6, .getfield 34, 3), (9, .invokevirtual 94, 3), (12, .ifCond .le 19, 3), (31, .iconst 0, 1), (32, .istore_n 2, 1), (33, .iload_n 2, 1), (34, .ifCond .eq 14, 3), (48, .iconst (-1), 1), (49, .ireturn, 1), (15, .aload_n 0, 1), (16, .getfield 34, 3), (19, .invokevirtual 94, 3), (22, .bipush 60, 2), (24, .if_icmp .gt 7, 3), (27, .iconst 1, 1), (28, .goto 4, 3), (37, .iload_n 1, 1), (38, .ifCond .lt 10, 3), (41, .iload_n 1, 1), (42, .sipush 1000, 3)] = true := by decide +kernel
theorem dX11_parts_0 : decode cX11_parts 0 = .ok (.aload_n 0, 1) := kDec_at dA322_cX11_parts 0 rfl
theorem dX11_parts_1 : decode cX11_parts 1 = .ok (.iconst (-1), 1) := kDec_at dA322_cX11_parts 1 rfl
theorem dX11_parts_2 : decode cX11_parts 2 = .ok (.putfield 90, 3) := kDec_at dA322_cX11_parts 2 rfl
theorem dX11_parts_5 : decode cX11_parts 5 = .ok (.aload_n 0, 1) := kDec_at dA322_cX11_parts 3 rfl
theorem dX11_parts_6 : decode cX11_parts 6 = .ok (.getfield 34, 3) := kDec_at dA322_cX11_parts 4 rfl
theorem dX11_parts_9 : decode cX11_parts 9 = .ok (.invokevirtual 94, 3) := kDec_at dA322_cX11_parts 5 rfl
theorem dX11_parts_12 : decode cX11_parts 12 = .ok (.ifCond .le 19, 3) := kDec_at dA322_cX11_parts 6 rfl
theorem dX11_parts_31 : decode cX11_parts 31 = .ok (.iconst 0, 1) := kDec_at dA322_cX11_parts 7 rfl
theorem dX11_parts_32 : decode cX11_parts 32 = .ok (.istore_n 2, 1) := kDec_at dA322_cX11_parts 8 rfl
theorem dX11_parts_33 : decode cX11_parts 33 = .ok (.iload_n 2, 1) := kDec_at dA322_cX11_parts 9 rfl
theorem dX11_parts_34 : decode cX11_parts 34 = .ok (.ifCond .eq 14, 3) := kDec_at dA322_cX11_parts 10 rfl
theorem dX11_parts_48 : decode cX11_parts 48 = .ok (.iconst (-1), 1) := kDec_at dA322_cX11_parts 11 rfl
theorem dX11_parts_49 : decode cX11_parts 49 = .ok (.ireturn, 1) := kDec_at dA322_cX11_parts 12 rfl
theorem dX11_parts_15 : decode cX11_parts 15 = .ok (.aload_n 0, 1) := kDec_at dA322_cX11_parts 13 rfl
theorem dX11_parts_16 : decode cX11_parts 16 = .ok (.getfield 34, 3) := kDec_at dA322_cX11_parts 14 rfl
theorem dX11_parts_19 : decode cX11_parts 19 = .ok (.invokevirtual 94, 3) := kDec_at dA322_cX11_parts 15 rfl
theorem dX11_parts_22 : decode cX11_parts 22 = .ok (.bipush 60, 2) := kDec_at dA322_cX11_parts 16 rfl
theorem dX11_parts_24 : decode cX11_parts 24 = .ok (.if_icmp .gt 7, 3) := kDec_at dA322_cX11_parts 17 rfl
theorem dX11_parts_27 : decode cX11_parts 27 = .ok (.iconst 1, 1) := kDec_at dA322_cX11_parts 18 rfl
theorem dX11_parts_28 : decode cX11_parts 28 = .ok (.goto 4, 3) := kDec_at dA322_cX11_parts 19 rfl
theorem dX11_parts_37 : decode cX11_parts 37 = .ok (.iload_n 1, 1) := kDec_at dA322_cX11_parts 20 rfl
theorem dX11_parts_38 : decode cX11_parts 38 = .ok (.ifCond .lt 10, 3) := kDec_at dA322_cX11_parts 21 rfl
theorem dX11_parts_41 : decode cX11_parts 41 = .ok (.iload_n 1, 1) := kDec_at dA322_cX11_parts 22 rfl
theorem dX11_parts_42 : decode cX11_parts 42 = .ok (.sipush 1000, 3) := kDec_at dA322_cX11_parts 23 rfl
set_option maxRecDepth 20000 in
theorem ggX11_parts_X5_length : GoodIn wsX11_parts wsX5_length := goodIn_r _ [9, 10, 292, 293] rfl (by decide +kernel)
set_option maxRecDepth 20000 in
theorem gX11_parts_X5_length : GoodIn wsX11_parts (wsV RX11 94 RX5 yX5_length wsX5_length) := goodIn_app (goodIn_r _ [5, 6, 7, 8] rfl (by decide +kernel)) ggX11_parts_X5_length
set_option maxRecDepth 100000 in
theorem dA323_cX11_parts : kDec cX11_parts [(45, .if_icmp .le 5, 3), (50, .aload_n 0, 1), (51, .getfield 77, 3), (54, .aload_n 0, 1), (55, .getfield 34, 3), (58, .iload_n 1, 1), (59, .invokevirtual 227, 3), (62, .aload_n 0, 1), (63, .getfield 77, 3), (66, .aload_n 0, 1), (67, .getfield 34, 3), (70, .aload_n 0, 1), (71, .getfield 37, 3), (74, .invokevirtual 230, 3), (77, .ifCond .ne 5, 3), (82, .aload_n 0, 1), (83, .aload_n 0, 1), (84, .getfield 37, 3), (87, .invokevirtual 113, 3), (90, .pop, 1), (91, .aload_n 0, 1), (92, .getfield 77, 3), (95, .invokevirtual 233, 3), (98, .ireturn, 1)] = true := by decide +kernel
theorem dX11_parts_45 : decode cX11_parts 45 = .ok (.if_icmp .le 5, 3) := kDec_at dA323_cX11_parts 0 rfl
theorem dX11_parts_50 : decode cX11_parts 50 = .ok (.aload_n 0, 1) := kDec_at dA323_cX11_parts 1 rfl
theorem dX11_parts_51 : decode cX11_parts 51 = .ok (.getfield 77, 3) := kDec_at dA323_cX11_parts 2 rfl
theorem dX11_parts_54 : decode cX11_parts 54 = .ok (.aload_n 0, 1) := kDec_at dA323_cX11_parts 3 rfl
theorem dX11_parts_55 : decode cX11_parts 55 = .ok (.getfield 34, 3) := kDec_at dA323_cX11_parts 4 rfl
theorem dX11_parts_58 : decode cX11_parts 58 = .ok (.iload_n 1, 1) := kDec_at dA323_cX11_parts 5 rfl
theorem dX11_parts_59 : decode cX11_parts 59 = .ok (.invokevirtual 227, 3) := kDec_at dA323_cX11_parts 6 rfl
theorem dX11_parts_62 : decode cX11_parts 62 = .ok (.aload_n 0, 1) := kDec_at dA323_cX11_parts 7 rfl
theorem dX11_parts_63 : decode cX11_parts 63 = .ok (.getfield 77, 3) := kDec_at dA323_cX11_parts 8 rfl
theorem dX11_parts_66 : decode cX11_parts 66 = .ok (.aload_n 0, 1) := kDec_at dA323_cX11_parts 9 rfl
theorem dX11_parts_67 : decode cX11_parts 67 = .ok (.getfield 34, 3) := kDec_at dA323_cX11_parts 10 rfl
theorem dX11_parts_70 : decode cX11_parts 70 = .ok (.aload_n 0, 1) := kDec_at dA323_cX11_parts 11 rfl
theorem dX11_parts_71 : decode cX11_parts 71 = .ok (.getfield 37, 3) := kDec_at dA323_cX11_parts 12 rfl
theorem dX11_parts_74 : decode cX11_parts 74 = .ok (.invokevirtual 230, 3) := kDec_at dA323_cX11_parts 13 rfl
theorem dX11_parts_77 : decode cX11_parts 77 = .ok (.ifCond .ne 5, 3) := kDec_at dA323_cX11_parts 14 rfl
theorem dX11_parts_82 : decode cX11_parts 82 = .ok (.aload_n 0, 1) := kDec_at dA323_cX11_parts 15 rfl
theorem dX11_parts_83 : decode cX11_parts 83 = .ok (.aload_n 0, 1) := kDec_at dA323_cX11_parts 16 rfl
theorem dX11_parts_84 : decode cX11_parts 84 = .ok (.getfield 37, 3) := kDec_at dA323_cX11_parts 17 rfl
theorem dX11_parts_87 : decode cX11_parts 87 = .ok (.invokevirtual 113, 3) := kDec_at dA323_cX11_parts 18 rfl
theorem dX11_parts_90 : decode cX11_parts 90 = .ok (.pop, 1) := kDec_at dA323_cX11_parts 19 rfl
theorem dX11_parts_91 : decode cX11_parts 91 = .ok (.aload_n 0, 1) := kDec_at dA323_cX11_parts 20 rfl
theorem dX11_parts_92 : decode cX11_parts 92 = .ok (.getfield 77, 3) := kDec_at dA323_cX11_parts 21 rfl
theorem dX11_parts_95 : decode cX11_parts 95 = .ok (.invokevirtual 233, 3) := kDec_at dA323_cX11_parts 22 rfl
theorem dX11_parts_98 : decode cX11_parts 98 = .ok (.ireturn, 1) := kDec_at dA323_cX11_parts 23 rfl
set_option maxRecDepth 20000 in
theorem ggX11_parts_X6_find : GoodIn wsX11_parts wsX6_find := goodIn_r _ [15, 16, 17, 18, 19, 20, 21, 22, 23, 24, 6, 7, 8, 9, 10, 25, 26, 27, 14, 28, 29, 30, 31, 32, 33, 34, 35, 36, 37, 38, 39, 40, 41, 42, 43, 44, 45, 46, 47, 48, 49, 50, 51, 52, 53, 54, 55, 56, 57, 58, 59, 60, 61, 62, 63, 64, 65, 66, 67, 68, 69, 70, 71, 72, 73, 74, 75, 76, 77, 78, 79, 80, 81, 82, 83, 84, 85, 86, 87, 88, 89, 90, 91, 92, 93, 94, 95, 96, 97, 98, 99, 100, 101, 102, 103, 104, 105, 106, 107, 108, 109, 110, 111, 112, 113, 114, 115, 116, 117, 118, 119, 120, 121, 122, 123, 124, 125, 126, 127, 128, 129, 130, 131, 132, 133, 134, 135, 136, 137, 138, 139, 140, 141, 142, 143, 144, 145, 146, 147, 148, 149, 150, 151, 152, 153, 154, 155, 156, 157, 158, 159, 160, 161, 162, 163, 164, 165, 166, 167, 168, 169, 170, 171, 172, 173, 174, 175, 176, 177, 178, 179, 180, 181, 182, 183, 184, 185, 186, 187, 188, 189, 190, 191, 192, 193, 194, 195, 196, 197, 198, 199, 294, 295, 296, 297, 298, 299, 300, 301, 302, 303, 304, 305, 292, 293, 306, 307, 308, 309, 310, 311, 312, 313, 314, 315, 316, 317, 318, 319, 320, 321, 322, 323, 324] rfl (by decide +kernel)
set_option maxRecDepth 20000 in
theorem gX11_parts_X6_find : GoodIn wsX11_parts (wsV RX11 227 RX6 yX6_find wsX6_find) := goodIn_app (goodIn_r _ [11, 12, 13, 14] rfl (by decide +kernel)) ggX11_parts_X6_find
set_option maxRecDepth 20000 in
theorem ggX11_parts_X6_build : GoodIn wsX11_parts wsX6_build := goodIn_r _ [203, 17, 18, 19, 20, 204, 61, 62, 205, 23, 206, 150, 151, 89, 90, 91, 8, 92, 10, 24, 6, 7, 9, 30, 31, 32, 33, 34, 207, 104, 105, 106, 208, 209, 210, 211, 212, 213, 214, 215, 216, 217, 218, 219, 220, 221, 222, 70, 223, 72, 224, 97, 138, 225, 226, 227, 228, 229, 230, 231, 232, 233, 234, 235, 236, 237, 238, 239, 240, 99, 100, 101, 102, 103, 107, 108, 109, 110, 111, 112, 113, 114, 115, 116, 117, 118, 119, 120, 121, 122, 123, 124, 125, 126, 127, 128, 129, 130, 131, 132, 133, 241, 242, 243, 244, 245, 246, 153, 154, 155, 156, 157, 158, 159, 160, 161, 162, 163, 164, 165, 166, 167, 168, 169, 170, 171, 172, 173, 174, 175, 176, 177, 178, 179, 180, 247, 182, 183, 248, 249, 186, 187, 250, 294, 295, 296, 297, 298, 299, 300, 301, 302, 303, 304, 305, 292, 293, 309, 310, 311, 312, 325, 326, 327, 319, 320, 321, 322, 323, 324] rfl (by decide +kernel)
set_option maxRecDepth 20000 in
theorem gX11_parts_X6_build : GoodIn wsX11_parts (wsV RX11 230 RX6 yX6_build wsX6_build) := goodIn_app (goodIn_r _ [200, 201, 202, 14] rfl (by decide +kernel)) ggX11_parts_X6_build
set_option maxRecDepth 20000 in
theorem ggX11_parts_X11_become : GoodIn wsX11_parts wsX11_become := goodIn_r _ [254, 255, 2, 256, 257, 258, 259, 260, 261, 262, 18, 19, 20, 263, 264, 265, 266, 267, 6, 7, 8, 9, 10, 268, 31, 32, 33, 34, 269, 209, 210, 211, 212, 213, 214, 215, 216, 217, 218, 219, 270, 271, 272, 273, 274, 275, 5, 280, 281, 282, 283, 284, 285, 286, 287, 288, 289, 290, 291, 328, 329, 330, 331, 292, 293, 332, 333, 334, 335, 336, 337, 338, 339, 340, 341, 342, 343, 344, 345, 346, 347, 348, 349, 350, 351] rfl (by decide +kernel)
set_option maxRecDepth 20000 in
theorem gX11_parts_X11_become : GoodIn wsX11_parts (wsV RX11 113 RX11 yX11_become wsX11_become) := goodIn_app (goodIn_r _ [251, 252, 253, 173] rfl (by decide +kernel)) ggX11_parts_X11_become
set_option maxRecDepth 20000 in
theorem ggX11_parts_X6_spans : GoodIn wsX11_parts wsX6_spans := goodIn_r _ [279, 22, 294, 295, 296, 297, 298, 299, 300, 301, 302, 303, 304, 305] rfl (by decide +kernel)
set_option maxRecDepth 20000 in
theorem gX11_parts_X6_spans : GoodIn wsX11_parts (wsV RX11 233 RX6 yX6_spans wsX6_spans) := goodIn_app (goodIn_r _ [276, 277, 278, 14] rfl (by decide +kernel)) ggX11_parts_X6_spans
set_option maxRecDepth 100000 in
theorem dA324_cX11_parts : kDec cX11_parts [(80, .iconst (-1), 1), (81, .ireturn, 1)] = true := by decide +kernel
theorem dX11_parts_80 : decode cX11_parts 80 = .ok (.iconst (-1), 1) := kDec_at dA324_cX11_parts 0 rfl
theorem dX11_parts_81 : decode cX11_parts 81 = .ok (.ireturn, 1) := kDec_at dA324_cX11_parts 1 rfl

end

/-! 5c.parts -/
section
set_option maxHeartbeats 40000000 in
set_option maxRecDepth 100000 in
theorem f_X6_spans (l : Launch) (dC : Nat → ClassId) (dI : Nat → Nat → Nat) (cI cS : ClassId) (sz : Nat) (oQ : Nat) (oC : Nat) (oH : Nat) (oK : Nat) (oE : Nat) (nq : Nat) (np : Nat) (nv : Nat) (q1 : Nat) (q2 : Nat) (q3 : Nat) (q4 : Nat) (pr : Int32) (fQ2 : Nat → Int32)  : kMi l yX6_spans wsX6_spans ({ frames := 0, cells := 0, slots := 0, locals := 0 } : Room) [.ref oQ] sz (dC, dI) vwCl [(cI, .int), (cS, .short)] [(oQ, .inr (6, [.ref oC, .ref oH, .ref oK, .ref oE, .ref nq, .ref np, .ref nv, .ref q1, .ref q2, .ref q3, .ref q4, .int pr])), (q2, .inl (cI, 61, .inl fQ2))] (fun _ => True) 0 0 (fun (A : Nat → Prop) (r : Int32) (hh9 : Heap) => kPD (dC, dI) vwCl A [(oQ, .inr (6, [.ref oC, .ref oH, .ref oK, .ref oE, .ref nq, .ref np, .ref nv, .ref q1, .ref q2, .ref q3, .ref q4, .int pr])), (q2, .inl (cI, 61, .inl fQ2))] hh9 ∧ (r = fQ2 0)) := by
  refine kMi_of (cc := cX6_spans) (maxL := 1) (ret := (some .int)) (lv := [(0, .ref oQ)]) (by decide +kernel) rfl rfl (Nat.le_of_ble_eq_true rfl) ?_
  intro p e s m below meth c A QQ ls hx hb hr hts hml hown hlocks hA hQQ hK hX hP hD hS hl
  have hown : s.vm.findClass RX6 = some m.cls := hown
  have hcf := k_cf hx hb hml hown hts
  have in_X6 : ∀ w ∈ wsX60, w ∈ wsX6_spans := fun _ h => List.mem_cons_of_mem _ (List.mem_append_right _ (h))
  refine lv_aload_n hx hb dX6_spans_0 rfl (lv_at hl 0 rfl) ?_
  refine va_get (D := (dC, dI)) (ci := 6) (v := .ref q2) (C := RX6) (T := TX6) (N := 12) hx hb hts in_X6 hown hK hP 0 rfl rfl 8 (by decide) (hts (.fieldLink RX6 30 "TextMender$Parting" "spansFrom" "[I") (List.mem_of_getElem? (i := 1) rfl)) (fun _ h9 => h9) rfl dX6_spans_1 ?_
  refine lv_iconst (v := 0) hx hb dX6_spans_4 (by decide) ?_
  refine va_iald hx hb hK hP 1 0 rfl rfl (by unfold vp_in; decide) dX6_spans_5 ?_
  refine lv_topi (fun x_1 ex_1 => ?_)
  exact kl_i (v := x_1) hQQ hx hb hr hlocks hS dX6_spans_6 ⟨⟨hP, hD⟩, ex_1⟩

set_option maxHeartbeats 40000000 in
set_option maxRecDepth 100000 in
theorem f_X11_parts (l : Launch) (dC : Nat → ClassId) (dI : Nat → Nat → Nat) (cI cS : ClassId) (sz : Nat) (oX : Nat) (nT : Nat) (nL : Nat) (nM : Nat) (oC : Nat) (oP : Nat) (oH : Nat) (oK : Nat) (oG : Nat) (oR : Nat) (oQ : Nat) (oW : Nat) (oE : Nat) (nq : Nat) (np : Nat) (nv : Nat) (q1 : Nat) (q2 : Nat) (q3 : Nat) (q4 : Nat) (aq : Nat) (ap : Nat) (av : Nat) (h1 : Nat) (h2 : Nat) (nB : Nat) (aB : Nat) (o4 : Nat) (o5 : Nat) (a41 : Nat) (a42 : Nat) (a43 : Nat) (a51 : Nat) (a52 : Nat) (a53 : Nat) (k1 : Nat) (k2 : Nat) (aL : Nat) (aM : Nat) (g1 : Nat) (g2 : Nat) (nw : Nat) (w1 : Nat) (w2 : Nat) (w3 : Nat) (o7 : Nat) (o8 : Nat) (o9 : Nat) (w4 : Nat) (w5 : Nat) (w6 : Nat) (w7 : Nat) (fa : Int32) (pr : Int32) (fQ1 : Nat → Int32) (fQ2 : Nat → Int32) (fQ3 : Nat → Int32) (fQ4 : Nat → Int32) (lq : Int32) (fq : Nat → Int32) (lp : Int32) (fp : Nat → Int32) (lv : Int32) (fv : Nat → Int32) (reE : Int32) (laE : Int32) (suE : Int32) (leE : Int32) (lH : Int32) (fH1 : Nat → Int32) (fH2 : Nat → Int32) (ft : Int32) (lB : Int32) (fB : Nat → Int32) (l4 : Int32) (f41 : Nat → Int32) (f42 : Nat → Int32) (f43 : Nat → Int32) (l5 : Int32) (f51 : Nat → Int32) (f52 : Nat → Int32) (f53 : Nat → Int32) (lK : Int32) (fK1 : Nat → Int32) (fK2 : Nat → Int32) (lL : Int32) (fL : Nat → Int32) (lM : Int32) (fM : Nat → Int32) (gn : Int32) (lG : Int32) (fG1 : Nat → Int32) (fG2 : Nat → Int32) (ke : Int32) (tl : Int32) (fsh : Int32) (wi : Int32) (ri : Int32) (fm : Int32) (lm : Int32) (pe : Int32) (g_lq : 0 ≤ lq.toInt ∧ lq.toInt ≤ 480) (g_lp : 0 ≤ lp.toInt ∧ lp.toInt ≤ 300) (g_lv : 0 ≤ lv.toInt ∧ lv.toInt ≤ 300) (g_lH : 0 ≤ lH.toInt ∧ lH.toInt ≤ 6) (g_lB : 0 ≤ lB.toInt ∧ lB.toInt ≤ 2400) (g_lK : 0 ≤ lK.toInt ∧ lK.toInt ≤ 300) (g_lL : 0 ≤ lL.toInt ∧ lL.toInt ≤ 300) (g_lM : 0 ≤ lM.toInt ∧ lM.toInt ≤ 300) (g_gn : 0 ≤ gn.toInt ∧ gn.toInt ≤ 19) (g_lG : 0 ≤ lG.toInt ∧ lG.toInt ≤ 20) (g_fG2 : rg 0 300 fG2) (g_ke : 0 ≤ ke.toInt ∧ ke.toInt ≤ 200) (g_fsh : 0 ≤ fsh.toInt ∧ fsh.toInt ≤ 1) (g_fm : -1 ≤ fm.toInt ∧ fm.toInt ≤ 800) (g_lm : -1 ≤ lm.toInt ∧ lm.toInt ≤ 800) (hlt : prg lL.toInt 0 65535 fL) (hT4 : HT 512 511 hsT f42 f43) (ho4 : (occ f43 512 : Int) ≤ 511) (hT5 : HT 512 511 hsT f52 f53) (ho5 : (occ f53 512 : Int) ≤ 511) (hL4 : prg 256 (-1) 65535 f41) (hL5 : prg 256 (-1) 65535 f51) (hBr : ∀ cd : Int32, okB (Bc cd f42 f43 f52 f53)) (hT : HT 1024 1023 hsK fK1 fK2) (ho : (occ fK2 1024 : Int) ≤ lK.toInt) (hV : prg 1024 (-1) 200 fK2) : kMi l yX11_parts wsX11_parts ({ frames := 7, cells := 0, slots := 0, locals := 174 } : Room) [.ref oX, .int pe] sz (dC, dI) vwCl [(cI, .int), (cS, .short)] [(oX, .inr (11, [.ref nT, .ref nL, .ref nM, .ref oC, .ref oP, .ref oH, .ref oK, .ref oG, .ref oR, .ref oQ, .ref oW, .int fa])), (oQ, .inr (6, [.ref oC, .ref oH, .ref oK, .ref oE, .ref nq, .ref np, .ref nv, .ref q1, .ref q2, .ref q3, .ref q4, .int pr])), (q1, .inl (cI, 61, .inl fQ1)), (q2, .inl (cI, 61, .inl fQ2)), (q3, .inl (cI, 61, .inl fQ3)), (q4, .inl (cI, 61, .inl fQ4)), (nq, .inr (5, [.ref aq, .int lq])), (aq, .inl (cI, 480, .inl fq)), (np, .inr (5, [.ref ap, .int lp])), (ap, .inl (cI, 300, .inl fp)), (nv, .inr (5, [.ref av, .int lv])), (av, .inl (cI, 300, .inl fv)), (oE, .inr (8, [.ref oC, .ref oK, .int reE, .int laE, .int suE, .int leE])), (oH, .inr (4, [.ref oP, .ref h1, .ref h2, .int lH])), (h1, .inl (cI, 6, .inl fH1)), (h2, .inl (cI, 6, .inl fH2)), (oP, .inr (7, [.ref oC, .ref nB, .int ft])), (nB, .inr (5, [.ref aB, .int lB])), (aB, .inl (cI, 2400, .inl fB)), (oC, .inr (2, [.ref o4, .ref o5])), (o4, .inr (10, [.ref a41, .ref a42, .ref a43, .int l4])), (a41, .inl (cI, 256, .inl f41)), (a42, .inl (cI, 512, .inl f42)), (a43, .inl (cI, 512, .inl f43)), (o5, .inr (10, [.ref a51, .ref a52, .ref a53, .int l5])), (a51, .inl (cI, 256, .inl f51)), (a52, .inl (cI, 512, .inl f52)), (a53, .inl (cI, 512, .inl f53)), (oK, .inr (3, [.ref k1, .ref k2, .int lK])), (k1, .inl (cI, 1024, .inl fK1)), (k2, .inl (cI, 1024, .inl fK2)), (nL, .inr (5, [.ref aL, .int lL])), (aL, .inl (cI, 300, .inl fL)), (nM, .inr (5, [.ref aM, .int lM])), (aM, .inl (cI, 300, .inl fM)), (oG, .inr (0, [.ref g1, .ref g2, .int gn, .int lG])), (g1, .inl (cI, 6000, .inl fG1)), (g2, .inl (cI, 20, .inl fG2)), (oW, .inr (1, [.ref oC, .ref oK, .ref nw, .ref w1, .ref w2, .ref w3, .ref o7, .ref o8, .ref o9, .ref w4, .ref w5, .ref w6, .ref w7, .int ke, .int tl, .int fsh, .int wi, .int ri, .int fm, .int lm]))] (va_Nw (.methodLinkNest RX2 52 yX11_isLetter "TextMender")) 0 0 (fun (A : Nat → Prop) (r : Int32) (hh9 : Heap) => ∃ (fa' : Int32) (lq' : Int32) (fq' : Nat → Int32) (reE' : Int32) (laE' : Int32) (suE' : Int32) (leE' : Int32) (fQ1' : Nat → Int32) (fQ2' : Nat → Int32) (fQ3' : Nat → Int32) (fQ4' : Nat → Int32) (pr' : Int32) (lp' : Int32) (fp' : Nat → Int32) (lv' : Int32) (fv' : Nat → Int32) (ft' : Int32) (lB' : Int32) (fB' : Nat → Int32) (lM' : Int32) (fM' : Nat → Int32) (lL' : Int32) (fL' : Nat → Int32) (fsh' : Int32) (gn' : Int32) (lG' : Int32) (fG1' : Nat → Int32) (fG2' : Nat → Int32), kPD (dC, dI) vwCl A [(oX, .inr (11, [.ref nT, .ref nL, .ref nM, .ref oC, .ref oP, .ref oH, .ref oK, .ref oG, .ref oR, .ref oQ, .ref oW, .int fa'])), (oQ, .inr (6, [.ref oC, .ref oH, .ref oK, .ref oE, .ref nq, .ref np, .ref nv, .ref q1, .ref q2, .ref q3, .ref q4, .int pr'])), (q1, .inl (cI, 61, .inl fQ1')), (q2, .inl (cI, 61, .inl fQ2')), (q3, .inl (cI, 61, .inl fQ3')), (q4, .inl (cI, 61, .inl fQ4')), (nq, .inr (5, [.ref aq, .int lq'])), (aq, .inl (cI, 480, .inl fq')), (np, .inr (5, [.ref ap, .int lp'])), (ap, .inl (cI, 300, .inl fp')), (nv, .inr (5, [.ref av, .int lv'])), (av, .inl (cI, 300, .inl fv')), (oE, .inr (8, [.ref oC, .ref oK, .int reE', .int laE', .int suE', .int leE'])), (oH, .inr (4, [.ref oP, .ref h1, .ref h2, .int lH])), (h1, .inl (cI, 6, .inl fH1)), (h2, .inl (cI, 6, .inl fH2)), (oP, .inr (7, [.ref oC, .ref nB, .int ft'])), (nB, .inr (5, [.ref aB, .int lB'])), (aB, .inl (cI, 2400, .inl fB')), (oC, .inr (2, [.ref o4, .ref o5])), (o4, .inr (10, [.ref a41, .ref a42, .ref a43, .int l4])), (a41, .inl (cI, 256, .inl f41)), (a42, .inl (cI, 512, .inl f42)), (a43, .inl (cI, 512, .inl f43)), (o5, .inr (10, [.ref a51, .ref a52, .ref a53, .int l5])), (a51, .inl (cI, 256, .inl f51)), (a52, .inl (cI, 512, .inl f52)), (a53, .inl (cI, 512, .inl f53)), (oK, .inr (3, [.ref k1, .ref k2, .int lK])), (k1, .inl (cI, 1024, .inl fK1)), (k2, .inl (cI, 1024, .inl fK2)), (nL, .inr (5, [.ref aL, .int lL'])), (aL, .inl (cI, 300, .inl fL')), (nM, .inr (5, [.ref aM, .int lM'])), (aM, .inl (cI, 300, .inl fM')), (oG, .inr (0, [.ref g1, .ref g2, .int gn', .int lG'])), (g1, .inl (cI, 6000, .inl fG1')), (g2, .inl (cI, 20, .inl fG2')), (oW, .inr (1, [.ref oC, .ref oK, .ref nw, .ref w1, .ref w2, .ref w3, .ref o7, .ref o8, .ref o9, .ref w4, .ref w5, .ref w6, .ref w7, .int ke, .int tl, .int fsh', .int wi, .int ri, .int fm, .int lm]))] hh9 ∧ (0 ≤ lq'.toInt ∧ lq'.toInt ≤ 480) ∧ (0 ≤ lp'.toInt ∧ lp'.toInt ≤ 300) ∧ (0 ≤ lv'.toInt ∧ lv'.toInt ≤ 300) ∧ (0 ≤ lB'.toInt ∧ lB'.toInt ≤ 2400) ∧ (0 ≤ lM'.toInt ∧ lM'.toInt ≤ 300) ∧ (0 ≤ lL'.toInt ∧ lL'.toInt ≤ 300) ∧ (0 ≤ fsh'.toInt ∧ fsh'.toInt ≤ 1) ∧ (0 ≤ gn'.toInt ∧ gn'.toInt ≤ 19) ∧ (0 ≤ lG'.toInt ∧ lG'.toInt ≤ 20) ∧ (rg 0 300 fG2') ∧ (OC (-1) r fsh fsh' gn gn' lG lG' lL lL' fG1 fG1' fG2 fG2' fL fL' (ptP (UC fH1 fH2 f41 f42 f43 f51 f52 f53) (tcC fK1 fK2) lH.toNatClampNeg lL.toNatClampNeg fL pe.toInt))) := by
  refine kMi_of (cc := cX11_parts) (maxL := 3) (ret := (some .int)) (lv := [(0, .ref oX), (1, .int pe)]) (by decide +kernel) rfl rfl (Nat.le_of_ble_eq_true rfl) ?_
  intro p e s m below meth c A QQ ls hx hb hr hts hml hown hlocks hA hQQ hK hX hP hD hS hl
  have hown : s.vm.findClass RX11 = some m.cls := hown
  have hcf := k_cf hx hb hml hown hts
  have hN52 := hX
  have in_X11 : ∀ w ∈ wsX110, w ∈ wsX11_parts := fun _ h => List.mem_cons_of_mem _ (List.mem_append_left _ (List.mem_append_left _ (List.mem_append_left _ (List.mem_append_left _ (List.mem_append_left _ (List.mem_append_left _ (List.mem_append_left _ (List.mem_append_left _ (List.mem_append_left _ (List.mem_append_left _ (List.mem_append_right _ (h))))))))))))
  replace g_lq := hid g_lq
  replace g_lp := hid g_lp
  replace g_lv := hid g_lv
  replace g_lB := hid g_lB
  replace g_lM := hid g_lM
  replace g_ke := hid g_ke
  replace g_lm := hid g_lm
  have okU9 : okU (UC fH1 fH2 f41 f42 f43 f51 f52 f53) := okU_C hBr hL4 hL5
  have cz9 := v_clamp (x := lH) (by omega)
  have cL9 := v_clamp (x := lL) (by omega)
  have hf9 : prg (lL.toNatClampNeg : Int) 0 65535 fL := fun j hj => hlt j (by omega)
  refine lv_aload_n hx hb dX11_parts_0 rfl (lv_at hl 0 rfl) ?_
  refine lv_iconst (v := (-1)) hx hb dX11_parts_1 (by decide) ?_
  refine va_put (D := (dC, dI)) (ci := 11) (v := .int (-1)) (ty := .int) (C := RX11) (T := TX11) (N := 12) hx hb hts in_X11 tyX11 tyX11_ok nmX11 hown hK hP hD hS 0 rfl rfl 11 (by decide) (hts (.fieldLink RX11 90 "TextMender" "fault" "I") (List.mem_of_getElem? (i := 1) rfl)) (fun _ h9 => h9) rfl (by decide +kernel) rfl rfl (Nat.le_of_ble_eq_true rfl) dX11_parts_2 (kW (wn := [(oX, .inr (11, [.ref nT, .ref nL, .ref nM, .ref oC, .ref oP, .ref oH, .ref oK, .ref oG, .ref oR, .ref oQ, .ref oW, .int (-1)])), (oQ, .inr (6, [.ref oC, .ref oH, .ref oK, .ref oE, .ref nq, .ref np, .ref nv, .ref q1, .ref q2, .ref q3, .ref q4, .int pr])), (q1, .inl (cI, 61, .inl fQ1)), (q2, .inl (cI, 61, .inl fQ2)), (q3, .inl (cI, 61, .inl fQ3)), (q4, .inl (cI, 61, .inl fQ4)), (nq, .inr (5, [.ref aq, .int lq])), (aq, .inl (cI, 480, .inl fq)), (np, .inr (5, [.ref ap, .int lp])), (ap, .inl (cI, 300, .inl fp)), (nv, .inr (5, [.ref av, .int lv])), (av, .inl (cI, 300, .inl fv)), (oE, .inr (8, [.ref oC, .ref oK, .int reE, .int laE, .int suE, .int leE])), (oH, .inr (4, [.ref oP, .ref h1, .ref h2, .int lH])), (h1, .inl (cI, 6, .inl fH1)), (h2, .inl (cI, 6, .inl fH2)), (oP, .inr (7, [.ref oC, .ref nB, .int ft])), (nB, .inr (5, [.ref aB, .int lB])), (aB, .inl (cI, 2400, .inl fB)), (oC, .inr (2, [.ref o4, .ref o5])), (o4, .inr (10, [.ref a41, .ref a42, .ref a43, .int l4])), (a41, .inl (cI, 256, .inl f41)), (a42, .inl (cI, 512, .inl f42)), (a43, .inl (cI, 512, .inl f43)), (o5, .inr (10, [.ref a51, .ref a52, .ref a53, .int l5])), (a51, .inl (cI, 256, .inl f51)), (a52, .inl (cI, 512, .inl f52)), (a53, .inl (cI, 512, .inl f53)), (oK, .inr (3, [.ref k1, .ref k2, .int lK])), (k1, .inl (cI, 1024, .inl fK1)), (k2, .inl (cI, 1024, .inl fK2)), (nL, .inr (5, [.ref aL, .int lL])), (aL, .inl (cI, 300, .inl fL)), (nM, .inr (5, [.ref aM, .int lM])), (aM, .inl (cI, 300, .inl fM)), (oG, .inr (0, [.ref g1, .ref g2, .int gn, .int lG])), (g1, .inl (cI, 6000, .inl fG1)), (g2, .inl (cI, 20, .inl fG2)), (oW, .inr (1, [.ref oC, .ref oK, .ref nw, .ref w1, .ref w2, .ref w3, .ref o7, .ref o8, .ref o9, .ref w4, .ref w5, .ref w6, .ref w7, .int ke, .int tl, .int fsh, .int wi, .int ri, .int fm, .int lm]))]) rfl (fun H locs hPn hDn hSn => ?_))
  clear hP hD hS
  have hP := hPn
  have hD := hDn
  have hS := hSn
  clear hPn hDn hSn
  refine lv_aload_n hx hb dX11_parts_5 rfl (lv_at hl 0 rfl) ?_
  refine va_get (D := (dC, dI)) (ci := 11) (v := .ref nL) (C := RX11) (T := TX11) (N := 12) hx hb hts in_X11 hown hK hP 0 rfl rfl 1 (by decide) (hts (.fieldLink RX11 34 "TextMender" "letters" "LTextMender$Numbers;") (List.mem_of_getElem? (i := 2) rfl)) (fun _ h9 => h9) rfl dX11_parts_6 ?_
  refine kV_i (rest := []) (q0 := 0) (ci := 5) hcf (m_X5_length l dC dI cI cS H.size nL aL lL ) kc_X5_length gX11_parts_X5_length rfl rfl rfl ⟨Nat.le_of_ble_eq_true rfl, Nat.le_of_ble_eq_true rfl⟩ kX_t hK hP hD hS hA [31] [0, 1, 2, 3, 4, 5, 6, 7, 8, 9, 10, 11, 12, 13, 14, 15, 16, 17, 18, 19, 20, 21, 22, 23, 24, 25, 26, 27, 28, 29, 30, 32, 33, 34, 35, 36, 37, 38] rfl (by decide +kernel) rfl rfl rfl hl rfl (Nat.le_of_ble_eq_true rfl) dX11_parts_9 ⟨Nat.le_of_ble_eq_true rfl, Nat.le_of_ble_eq_true rfl⟩ (fun r_1 H locs hB hJ hSn => ?_)
  obtain ⟨⟨hP1, hD1⟩, hf1_0⟩ := hB
  obtain ⟨hPn, hDn⟩ := hJ _ hP1 hD1 [(oX, .inr (11, [.ref nT, .ref nL, .ref nM, .ref oC, .ref oP, .ref oH, .ref oK, .ref oG, .ref oR, .ref oQ, .ref oW, .int (-1)])), (oQ, .inr (6, [.ref oC, .ref oH, .ref oK, .ref oE, .ref nq, .ref np, .ref nv, .ref q1, .ref q2, .ref q3, .ref q4, .int pr])), (q1, .inl (cI, 61, .inl fQ1)), (q2, .inl (cI, 61, .inl fQ2)), (q3, .inl (cI, 61, .inl fQ3)), (q4, .inl (cI, 61, .inl fQ4)), (nq, .inr (5, [.ref aq, .int lq])), (aq, .inl (cI, 480, .inl fq)), (np, .inr (5, [.ref ap, .int lp])), (ap, .inl (cI, 300, .inl fp)), (nv, .inr (5, [.ref av, .int lv])), (av, .inl (cI, 300, .inl fv)), (oE, .inr (8, [.ref oC, .ref oK, .int reE, .int laE, .int suE, .int leE])), (oH, .inr (4, [.ref oP, .ref h1, .ref h2, .int lH])), (h1, .inl (cI, 6, .inl fH1)), (h2, .inl (cI, 6, .inl fH2)), (oP, .inr (7, [.ref oC, .ref nB, .int ft])), (nB, .inr (5, [.ref aB, .int lB])), (aB, .inl (cI, 2400, .inl fB)), (oC, .inr (2, [.ref o4, .ref o5])), (o4, .inr (10, [.ref a41, .ref a42, .ref a43, .int l4])), (a41, .inl (cI, 256, .inl f41)), (a42, .inl (cI, 512, .inl f42)), (a43, .inl (cI, 512, .inl f43)), (o5, .inr (10, [.ref a51, .ref a52, .ref a53, .int l5])), (a51, .inl (cI, 256, .inl f51)), (a52, .inl (cI, 512, .inl f52)), (a53, .inl (cI, 512, .inl f53)), (oK, .inr (3, [.ref k1, .ref k2, .int lK])), (k1, .inl (cI, 1024, .inl fK1)), (k2, .inl (cI, 1024, .inl fK2)), (aL, .inl (cI, 300, .inl fL)), (nM, .inr (5, [.ref aM, .int lM])), (aM, .inl (cI, 300, .inl fM)), (oG, .inr (0, [.ref g1, .ref g2, .int gn, .int lG])), (g1, .inl (cI, 6000, .inl fG1)), (g2, .inl (cI, 20, .inl fG2)), (oW, .inr (1, [.ref oC, .ref oK, .ref nw, .ref w1, .ref w2, .ref w3, .ref o7, .ref o8, .ref o9, .ref w4, .ref w5, .ref w6, .ref w7, .int ke, .int tl, .int fsh, .int wi, .int ri, .int fm, .int lm])), (nL, .inr (5, [.ref aL, .int lL]))] rfl
  clear hP hD hS hJ hP1 hD1
  have hP := hPn
  have hD := hDn
  have hS := hSn
  clear hPn hDn hSn
  rw [hf1_0]
  refine lv_if_le (tgt := 31) hx hb dX11_parts_12 (by decide) (fun c_2 => ?_) (fun c_2 => ?_)
  · have tc_2 : lL.toInt ≤ 0 := v_le c_2
    refine lv_iconst (v := 0) hx hb dX11_parts_31 (by decide) ?_
    refine lv_istore_n (lv' := [(2, .int 0), (0, .ref oX), (1, .int pe)]) hx hb dX11_parts_32 rfl hl (by decide) rfl (fun ls hl => ?_)
    refine lv_iload_n hx hb dX11_parts_33 rfl (lv_at hl 0 rfl) ?_
    refine lv_if_eq (tgt := 48) hx hb dX11_parts_34 (by decide) (fun c_3 => ?_) (fun c_3 => absurd c_3 (by decide))
    refine lv_iconst (v := (-1)) hx hb dX11_parts_48 (by decide) ?_
    exact kl_i (v := (-1)) hQQ hx hb hr hlocks hS dX11_parts_49 ⟨(-1), lq, fq, reE, laE, suE, leE, fQ1, fQ2, fQ3, fQ4, pr, lp, fp, lv, fv, ft, lB, fB, lM, fM, lL, fL, fsh, gn, lG, fG1, fG2, kPD_sub hP hD [0, 1, 2, 3, 4, 5, 6, 7, 8, 9, 10, 11, 12, 13, 14, 15, 16, 17, 18, 19, 20, 21, 22, 23, 24, 25, 26, 27, 28, 29, 30, 38, 31, 32, 33, 34, 35, 36, 37] (by decide +kernel) rfl, g_lq, g_lp, g_lv, g_lB, g_lM, g_lL, g_fsh, g_gn, g_lG, g_fG2, OC_n rfl (fun c fm v h => absurd h.1 (by omega))⟩
  · have tc_2 : 0 < lL.toInt := v_nle c_2
    refine lv_aload_n hx hb dX11_parts_15 rfl (lv_at hl 0 rfl) ?_
    refine va_get (D := (dC, dI)) (ci := 11) (v := .ref nL) (C := RX11) (T := TX11) (N := 12) hx hb hts in_X11 hown hK hP 0 rfl rfl 1 (by decide) (hts (.fieldLink RX11 34 "TextMender" "letters" "LTextMender$Numbers;") (List.mem_of_getElem? (i := 2) rfl)) (fun _ h9 => h9) rfl dX11_parts_16 ?_
    refine kV_i (rest := []) (q0 := 0) (ci := 5) hcf (m_X5_length l dC dI cI cS H.size nL aL lL ) kc_X5_length gX11_parts_X5_length rfl rfl rfl ⟨Nat.le_of_ble_eq_true rfl, Nat.le_of_ble_eq_true rfl⟩ kX_t hK hP hD hS hA [38] [0, 1, 2, 3, 4, 5, 6, 7, 8, 9, 10, 11, 12, 13, 14, 15, 16, 17, 18, 19, 20, 21, 22, 23, 24, 25, 26, 27, 28, 29, 30, 31, 32, 33, 34, 35, 36, 37] rfl (by decide +kernel) rfl rfl rfl hl rfl (Nat.le_of_ble_eq_true rfl) dX11_parts_19 ⟨Nat.le_of_ble_eq_true rfl, Nat.le_of_ble_eq_true rfl⟩ (fun r_4 H locs hB hJ hSn => ?_)
    obtain ⟨⟨hP1, hD1⟩, hf4_0⟩ := hB
    obtain ⟨hPn, hDn⟩ := hJ _ hP1 hD1 [(oX, .inr (11, [.ref nT, .ref nL, .ref nM, .ref oC, .ref oP, .ref oH, .ref oK, .ref oG, .ref oR, .ref oQ, .ref oW, .int (-1)])), (oQ, .inr (6, [.ref oC, .ref oH, .ref oK, .ref oE, .ref nq, .ref np, .ref nv, .ref q1, .ref q2, .ref q3, .ref q4, .int pr])), (q1, .inl (cI, 61, .inl fQ1)), (q2, .inl (cI, 61, .inl fQ2)), (q3, .inl (cI, 61, .inl fQ3)), (q4, .inl (cI, 61, .inl fQ4)), (nq, .inr (5, [.ref aq, .int lq])), (aq, .inl (cI, 480, .inl fq)), (np, .inr (5, [.ref ap, .int lp])), (ap, .inl (cI, 300, .inl fp)), (nv, .inr (5, [.ref av, .int lv])), (av, .inl (cI, 300, .inl fv)), (oE, .inr (8, [.ref oC, .ref oK, .int reE, .int laE, .int suE, .int leE])), (oH, .inr (4, [.ref oP, .ref h1, .ref h2, .int lH])), (h1, .inl (cI, 6, .inl fH1)), (h2, .inl (cI, 6, .inl fH2)), (oP, .inr (7, [.ref oC, .ref nB, .int ft])), (nB, .inr (5, [.ref aB, .int lB])), (aB, .inl (cI, 2400, .inl fB)), (oC, .inr (2, [.ref o4, .ref o5])), (o4, .inr (10, [.ref a41, .ref a42, .ref a43, .int l4])), (a41, .inl (cI, 256, .inl f41)), (a42, .inl (cI, 512, .inl f42)), (a43, .inl (cI, 512, .inl f43)), (o5, .inr (10, [.ref a51, .ref a52, .ref a53, .int l5])), (a51, .inl (cI, 256, .inl f51)), (a52, .inl (cI, 512, .inl f52)), (a53, .inl (cI, 512, .inl f53)), (oK, .inr (3, [.ref k1, .ref k2, .int lK])), (k1, .inl (cI, 1024, .inl fK1)), (k2, .inl (cI, 1024, .inl fK2)), (aL, .inl (cI, 300, .inl fL)), (nM, .inr (5, [.ref aM, .int lM])), (aM, .inl (cI, 300, .inl fM)), (oG, .inr (0, [.ref g1, .ref g2, .int gn, .int lG])), (g1, .inl (cI, 6000, .inl fG1)), (g2, .inl (cI, 20, .inl fG2)), (oW, .inr (1, [.ref oC, .ref oK, .ref nw, .ref w1, .ref w2, .ref w3, .ref o7, .ref o8, .ref o9, .ref w4, .ref w5, .ref w6, .ref w7, .int ke, .int tl, .int fsh, .int wi, .int ri, .int fm, .int lm])), (nL, .inr (5, [.ref aL, .int lL]))] rfl
    clear hP hD hS hJ hP1 hD1
    have hP := hPn
    have hD := hDn
    have hS := hSn
    clear hPn hDn hSn
    rw [hf4_0]
    refine lv_bipush (v := 60) hx hb dX11_parts_22 (by decide) ?_
    refine lv_icmp_gt (tgt := 31) hx hb dX11_parts_24 (by decide) (fun c_5 => ?_) (fun c_5 => ?_)
    · have tc_5 : 60 < lL.toInt := v_lt c_5
      refine lv_iconst (v := 0) hx hb dX11_parts_31 (by decide) ?_
      refine lv_istore_n (lv' := [(2, .int 0), (0, .ref oX), (1, .int pe)]) hx hb dX11_parts_32 rfl hl (by decide) rfl (fun ls hl => ?_)
      refine lv_iload_n hx hb dX11_parts_33 rfl (lv_at hl 0 rfl) ?_
      refine lv_if_eq (tgt := 48) hx hb dX11_parts_34 (by decide) (fun c_6 => ?_) (fun c_6 => absurd c_6 (by decide))
      refine lv_iconst (v := (-1)) hx hb dX11_parts_48 (by decide) ?_
      exact kl_i (v := (-1)) hQQ hx hb hr hlocks hS dX11_parts_49 ⟨(-1), lq, fq, reE, laE, suE, leE, fQ1, fQ2, fQ3, fQ4, pr, lp, fp, lv, fv, ft, lB, fB, lM, fM, lL, fL, fsh, gn, lG, fG1, fG2, kPD_sub hP hD [0, 1, 2, 3, 4, 5, 6, 7, 8, 9, 10, 11, 12, 13, 14, 15, 16, 17, 18, 19, 20, 21, 22, 23, 24, 25, 26, 27, 28, 29, 30, 38, 31, 32, 33, 34, 35, 36, 37] (by decide +kernel) rfl, g_lq, g_lp, g_lv, g_lB, g_lM, g_lL, g_fsh, g_gn, g_lG, g_fG2, OC_n rfl (fun c fm v h => absurd h.1 (by omega))⟩
    · have tc_5 : lL.toInt ≤ 60 := v_nlt c_5
      refine lv_iconst (v := 1) hx hb dX11_parts_27 (by decide) ?_
      refine lv_goto (tgt := 32) hx hb dX11_parts_28 (by decide) ?_
      refine lv_istore_n (lv' := [(2, .int 1), (0, .ref oX), (1, .int pe)]) hx hb dX11_parts_32 rfl hl (by decide) rfl (fun ls hl => ?_)
      refine lv_iload_n hx hb dX11_parts_33 rfl (lv_at hl 0 rfl) ?_
      refine lv_if_eq (tgt := 48) hx hb dX11_parts_34 (by decide) (fun c_7 => absurd c_7 (by decide)) (fun c_7 => ?_)
      refine lv_iload_n hx hb dX11_parts_37 rfl (lv_at hl 2 rfl) ?_
      refine lv_if_lt (tgt := 48) hx hb dX11_parts_38 (by decide) (fun c_8 => ?_) (fun c_8 => ?_)
      · have tc_8 : pe.toInt < 0 := v_lt c_8
        refine lv_iconst (v := (-1)) hx hb dX11_parts_48 (by decide) ?_
        exact kl_i (v := (-1)) hQQ hx hb hr hlocks hS dX11_parts_49 ⟨(-1), lq, fq, reE, laE, suE, leE, fQ1, fQ2, fQ3, fQ4, pr, lp, fp, lv, fv, ft, lB, fB, lM, fM, lL, fL, fsh, gn, lG, fG1, fG2, kPD_sub hP hD [0, 1, 2, 3, 4, 5, 6, 7, 8, 9, 10, 11, 12, 13, 14, 15, 16, 17, 18, 19, 20, 21, 22, 23, 24, 25, 26, 27, 28, 29, 30, 38, 31, 32, 33, 34, 35, 36, 37] (by decide +kernel) rfl, g_lq, g_lp, g_lv, g_lB, g_lM, g_lL, g_fsh, g_gn, g_lG, g_fG2, OC_n rfl (fun c fm v h => absurd h.1 (by omega))⟩
      · have tc_8 : 0 ≤ pe.toInt := v_nlt c_8
        refine lv_iload_n hx hb dX11_parts_41 rfl (lv_at hl 2 rfl) ?_
        refine lv_sipush (v := 1000) hx hb dX11_parts_42 (by decide) ?_
        refine lv_icmp_le (tgt := 50) hx hb dX11_parts_45 (by decide) (fun c_9 => ?_) (fun c_9 => ?_)
        · have tc_9 : pe.toInt ≤ 1000 := v_le c_9
          refine lv_aload_n hx hb dX11_parts_50 rfl (lv_at hl 1 rfl) ?_
          refine va_get (D := (dC, dI)) (ci := 11) (v := .ref oQ) (C := RX11) (T := TX11) (N := 12) hx hb hts in_X11 hown hK hP 0 rfl rfl 9 (by decide) (hts (.fieldLink RX11 77 "TextMender" "parting" "LTextMender$Parting;") (List.mem_of_getElem? (i := 3) rfl)) (fun _ h9 => h9) rfl dX11_parts_51 ?_
          refine lv_aload_n hx hb dX11_parts_54 rfl (lv_at hl 1 rfl) ?_
          refine va_get (D := (dC, dI)) (ci := 11) (v := .ref nL) (C := RX11) (T := TX11) (N := 12) hx hb hts in_X11 hown hK hP 0 rfl rfl 1 (by decide) (hts (.fieldLink RX11 34 "TextMender" "letters" "LTextMender$Numbers;") (List.mem_of_getElem? (i := 2) rfl)) (fun _ h9 => h9) rfl dX11_parts_55 ?_
          refine lv_iload_n hx hb dX11_parts_58 rfl (lv_at hl 2 rfl) ?_
          refine kV_v (rest := []) (q0 := 0) (ci := 6) hcf (f_X6_find l dC dI cI cS H.size oQ nL oC oH oK oE nq np nv q1 q2 q3 q4 aq oP h1 h2 o4 o5 a41 a42 a43 a51 a52 a53 k1 k2 aL pr fQ1 fQ2 fQ3 fQ4 lq fq reE laE suE leE lH fH1 fH2 l4 f41 f42 f43 l5 f51 f52 f53 lK fK1 fK2 lL fL pe (g_lq) (g_lH) (g_lK) (g_lL) (by omega) (by omega) (hlt) (hT4) (ho4) (hT5) (ho5) (hL4) (hL5) (hBr) (hT) (ho) (hV)) kc_X6_find gX11_parts_X6_find rfl rfl rfl ⟨Nat.le_of_ble_eq_true rfl, Nat.le_of_ble_eq_true rfl⟩ (kX_1 hN52) hK hP hD hS hA [1, 2, 3, 4, 5, 6, 7, 12, 13, 14, 15, 19, 20, 21, 22, 23, 24, 25, 26, 27, 28, 29, 30, 38, 31] [0, 8, 9, 10, 11, 16, 17, 18, 32, 33, 34, 35, 36, 37] rfl (by decide +kernel) rfl rfl rfl hl rfl (Nat.le_of_ble_eq_true rfl) dX11_parts_59 ⟨Nat.le_of_ble_eq_true rfl, Nat.le_of_ble_eq_true rfl⟩ (fun H locs hB hJ hSn => ?_)
          obtain ⟨lq_10, fq_10, reE_10, laE_10, suE_10, leE_10, fQ1_10, fQ2_10, fQ3_10, fQ4_10, pr_10, ⟨hP1, hD1⟩, hf10_0, hf10_1⟩ := hB
          obtain ⟨hPn, hDn⟩ := hJ _ hP1 hD1 [(oX, .inr (11, [.ref nT, .ref nL, .ref nM, .ref oC, .ref oP, .ref oH, .ref oK, .ref oG, .ref oR, .ref oQ, .ref oW, .int (-1)])), (np, .inr (5, [.ref ap, .int lp])), (ap, .inl (cI, 300, .inl fp)), (nv, .inr (5, [.ref av, .int lv])), (av, .inl (cI, 300, .inl fv)), (oP, .inr (7, [.ref oC, .ref nB, .int ft])), (nB, .inr (5, [.ref aB, .int lB])), (aB, .inl (cI, 2400, .inl fB)), (nM, .inr (5, [.ref aM, .int lM])), (aM, .inl (cI, 300, .inl fM)), (oG, .inr (0, [.ref g1, .ref g2, .int gn, .int lG])), (g1, .inl (cI, 6000, .inl fG1)), (g2, .inl (cI, 20, .inl fG2)), (oW, .inr (1, [.ref oC, .ref oK, .ref nw, .ref w1, .ref w2, .ref w3, .ref o7, .ref o8, .ref o9, .ref w4, .ref w5, .ref w6, .ref w7, .int ke, .int tl, .int fsh, .int wi, .int ri, .int fm, .int lm])), (oQ, .inr (6, [.ref oC, .ref oH, .ref oK, .ref oE, .ref nq, .ref np, .ref nv, .ref q1, .ref q2, .ref q3, .ref q4, .int pr_10])), (q1, .inl (cI, 61, .inl fQ1_10)), (q2, .inl (cI, 61, .inl fQ2_10)), (q3, .inl (cI, 61, .inl fQ3_10)), (q4, .inl (cI, 61, .inl fQ4_10)), (nq, .inr (5, [.ref aq, .int lq_10])), (aq, .inl (cI, 480, .inl fq_10)), (oE, .inr (8, [.ref oC, .ref oK, .int reE_10, .int laE_10, .int suE_10, .int leE_10])), (oH, .inr (4, [.ref oP, .ref h1, .ref h2, .int lH])), (h1, .inl (cI, 6, .inl fH1)), (h2, .inl (cI, 6, .inl fH2)), (oC, .inr (2, [.ref o4, .ref o5])), (o4, .inr (10, [.ref a41, .ref a42, .ref a43, .int l4])), (a41, .inl (cI, 256, .inl f41)), (a42, .inl (cI, 512, .inl f42)), (a43, .inl (cI, 512, .inl f43)), (o5, .inr (10, [.ref a51, .ref a52, .ref a53, .int l5])), (a51, .inl (cI, 256, .inl f51)), (a52, .inl (cI, 512, .inl f52)), (a53, .inl (cI, 512, .inl f53)), (oK, .inr (3, [.ref k1, .ref k2, .int lK])), (k1, .inl (cI, 1024, .inl fK1)), (k2, .inl (cI, 1024, .inl fK2)), (nL, .inr (5, [.ref aL, .int lL])), (aL, .inl (cI, 300, .inl fL))] rfl
          clear hP hD hS hJ hP1 hD1
          have hP := hPn
          have hD := hDn
          have hS := hSn
          clear hPn hDn hSn
          refine lv_aload_n hx hb dX11_parts_62 rfl (lv_at hl 1 rfl) ?_
          refine va_get (D := (dC, dI)) (ci := 11) (v := .ref oQ) (C := RX11) (T := TX11) (N := 12) hx hb hts in_X11 hown hK hP 0 rfl rfl 9 (by decide) (hts (.fieldLink RX11 77 "TextMender" "parting" "LTextMender$Parting;") (List.mem_of_getElem? (i := 3) rfl)) (fun _ h9 => h9) rfl dX11_parts_63 ?_
          refine lv_aload_n hx hb dX11_parts_66 rfl (lv_at hl 1 rfl) ?_
          refine va_get (D := (dC, dI)) (ci := 11) (v := .ref nL) (C := RX11) (T := TX11) (N := 12) hx hb hts in_X11 hown hK hP 0 rfl rfl 1 (by decide) (hts (.fieldLink RX11 34 "TextMender" "letters" "LTextMender$Numbers;") (List.mem_of_getElem? (i := 2) rfl)) (fun _ h9 => h9) rfl dX11_parts_67 ?_
          refine lv_aload_n hx hb dX11_parts_70 rfl (lv_at hl 1 rfl) ?_
          refine va_get (D := (dC, dI)) (ci := 11) (v := .ref nM) (C := RX11) (T := TX11) (N := 12) hx hb hts in_X11 hown hK hP 0 rfl rfl 2 (by decide) (hts (.fieldLink RX11 37 "TextMender" "made" "LTextMender$Numbers;") (List.mem_of_getElem? (i := 4) rfl)) (fun _ h9 => h9) rfl dX11_parts_71 ?_
          refine kV_i (rest := []) (q0 := 0) (ci := 6) hcf (f_X6_build l dC dI cI cS H.size oQ nL nM oC oH oK oE nq np nv q1 q2 q3 q4 ap av oP h1 h2 nB aB o4 o5 a41 a42 a43 a51 a52 a53 aL aM pr_10 fQ3_10 fQ4_10 lp fp lv fv lH fH1 fH2 ft lB fB l4 f41 f42 f43 l5 f51 f52 f53 lL fL lM fM (g_lp) (g_lv) (g_lH) (g_lB) (g_lL) (g_lM) (by omega) (hlt) (PBK_sp hf10_1) (hT4) (ho4) (hT5) (ho5) (hL4) (hL5) (hBr)) kc_X6_build gX11_parts_X6_build rfl rfl rfl ⟨Nat.le_of_ble_eq_true rfl, Nat.le_of_ble_eq_true rfl⟩ (kX_1 hN52) hK hP hD hS hA [14, 17, 18, 1, 2, 3, 4, 22, 23, 24, 5, 6, 7, 25, 26, 27, 28, 29, 30, 31, 32, 33, 37, 38, 8, 9] [0, 10, 11, 12, 13, 15, 16, 19, 20, 21, 34, 35, 36] rfl (by decide +kernel) rfl rfl rfl hl rfl (Nat.le_of_ble_eq_true rfl) dX11_parts_74 ⟨Nat.le_of_ble_eq_true rfl, Nat.le_of_ble_eq_true rfl⟩ (fun r_11 H locs hB hJ hSn => ?_)
          obtain ⟨lp_11, fp_11, lv_11, fv_11, ft_11, lB_11, fB_11, ld_11, fd_11, ⟨hP1, hD1⟩, hf11_0, hf11_1, hf11_2, hf11_3, hf11_4, hf11_5⟩ := hB
          obtain ⟨hPn, hDn⟩ := hJ _ hP1 hD1 [(oX, .inr (11, [.ref nT, .ref nL, .ref nM, .ref oC, .ref oP, .ref oH, .ref oK, .ref oG, .ref oR, .ref oQ, .ref oW, .int (-1)])), (oG, .inr (0, [.ref g1, .ref g2, .int gn, .int lG])), (g1, .inl (cI, 6000, .inl fG1)), (g2, .inl (cI, 20, .inl fG2)), (oW, .inr (1, [.ref oC, .ref oK, .ref nw, .ref w1, .ref w2, .ref w3, .ref o7, .ref o8, .ref o9, .ref w4, .ref w5, .ref w6, .ref w7, .int ke, .int tl, .int fsh, .int wi, .int ri, .int fm, .int lm])), (q1, .inl (cI, 61, .inl fQ1_10)), (q2, .inl (cI, 61, .inl fQ2_10)), (nq, .inr (5, [.ref aq, .int lq_10])), (aq, .inl (cI, 480, .inl fq_10)), (oE, .inr (8, [.ref oC, .ref oK, .int reE_10, .int laE_10, .int suE_10, .int leE_10])), (oK, .inr (3, [.ref k1, .ref k2, .int lK])), (k1, .inl (cI, 1024, .inl fK1)), (k2, .inl (cI, 1024, .inl fK2)), (oQ, .inr (6, [.ref oC, .ref oH, .ref oK, .ref oE, .ref nq, .ref np, .ref nv, .ref q1, .ref q2, .ref q3, .ref q4, .int pr_10])), (q3, .inl (cI, 61, .inl fQ3_10)), (q4, .inl (cI, 61, .inl fQ4_10)), (np, .inr (5, [.ref ap, .int lp_11])), (ap, .inl (cI, 300, .inl fp_11)), (nv, .inr (5, [.ref av, .int lv_11])), (av, .inl (cI, 300, .inl fv_11)), (oH, .inr (4, [.ref oP, .ref h1, .ref h2, .int lH])), (h1, .inl (cI, 6, .inl fH1)), (h2, .inl (cI, 6, .inl fH2)), (oP, .inr (7, [.ref oC, .ref nB, .int ft_11])), (nB, .inr (5, [.ref aB, .int lB_11])), (aB, .inl (cI, 2400, .inl fB_11)), (oC, .inr (2, [.ref o4, .ref o5])), (o4, .inr (10, [.ref a41, .ref a42, .ref a43, .int l4])), (a41, .inl (cI, 256, .inl f41)), (a42, .inl (cI, 512, .inl f42)), (a43, .inl (cI, 512, .inl f43)), (o5, .inr (10, [.ref a51, .ref a52, .ref a53, .int l5])), (a51, .inl (cI, 256, .inl f51)), (a52, .inl (cI, 512, .inl f52)), (a53, .inl (cI, 512, .inl f53)), (nL, .inr (5, [.ref aL, .int lL])), (aL, .inl (cI, 300, .inl fL)), (nM, .inr (5, [.ref aM, .int ld_11])), (aM, .inl (cI, 300, .inl fd_11))] rfl
          clear hP hD hS hJ hP1 hD1
          have hP := hPn
          have hD := hDn
          have hS := hSn
          clear hPn hDn hSn
          refine lv_if_ne (tgt := 82) hx hb dX11_parts_77 (by decide) (fun c_12 => ?_) (fun c_12 => ?_)
          · have tc_12 : ¬ r_11.toInt = 0 := v_ne c_12
            refine lv_aload_n hx hb dX11_parts_82 rfl (lv_at hl 1 rfl) ?_
            refine lv_aload_n hx hb dX11_parts_83 rfl (lv_at hl 1 rfl) ?_
            refine va_get (D := (dC, dI)) (ci := 11) (v := .ref nM) (C := RX11) (T := TX11) (N := 12) hx hb hts in_X11 hown hK hP 0 rfl rfl 2 (by decide) (hts (.fieldLink RX11 37 "TextMender" "made" "LTextMender$Numbers;") (List.mem_of_getElem? (i := 4) rfl)) (fun _ h9 => h9) rfl dX11_parts_84 ?_
            refine kV_i (rest := []) (q0 := 0) (ci := 11) hcf (f_X11_bec l dC dI cI cS H.size oX nM nT nL oC oP oH oK oG oR oQ oW aL aM g1 g2 nw w1 w2 w3 o7 o8 o9 w4 w5 w6 w7 (-1) lL fL ld_11 fd_11 gn lG fG1 fG2 ke tl fsh wi ri fm lm (g_lL) (hf11_3) (g_gn) (g_lG) (g_fG2) (g_ke) (g_fsh) (g_fm) (g_lm)) kc_X11_become gX11_parts_X11_become rfl rfl rfl ⟨Nat.le_of_ble_eq_true rfl, Nat.le_of_ble_eq_true rfl⟩ kX_t hK hP hD hS hA [0, 35, 36, 37, 38, 1, 2, 3, 4] [5, 6, 7, 8, 9, 10, 11, 12, 13, 14, 15, 16, 17, 18, 19, 20, 21, 22, 23, 24, 25, 26, 27, 28, 29, 30, 31, 32, 33, 34] rfl (by decide +kernel) rfl rfl rfl hl rfl (Nat.le_of_ble_eq_true rfl) dX11_parts_87 ⟨Nat.le_of_ble_eq_true rfl, Nat.le_of_ble_eq_true rfl⟩ (fun r_13 H locs hB hJ hSn => ?_)
            obtain ⟨lL_13, fL_13, fsh_13, gn_13, lG_13, fG1_13, fG2_13, ⟨hP1, hD1⟩, hf13_0, hf13_1, hf13_2, hf13_3, hf13_4, hf13_5, hf13_6, hf13_7⟩ := hB
            obtain ⟨hPn, hDn⟩ := hJ _ hP1 hD1 [(q1, .inl (cI, 61, .inl fQ1_10)), (q2, .inl (cI, 61, .inl fQ2_10)), (nq, .inr (5, [.ref aq, .int lq_10])), (aq, .inl (cI, 480, .inl fq_10)), (oE, .inr (8, [.ref oC, .ref oK, .int reE_10, .int laE_10, .int suE_10, .int leE_10])), (oK, .inr (3, [.ref k1, .ref k2, .int lK])), (k1, .inl (cI, 1024, .inl fK1)), (k2, .inl (cI, 1024, .inl fK2)), (oQ, .inr (6, [.ref oC, .ref oH, .ref oK, .ref oE, .ref nq, .ref np, .ref nv, .ref q1, .ref q2, .ref q3, .ref q4, .int pr_10])), (q3, .inl (cI, 61, .inl fQ3_10)), (q4, .inl (cI, 61, .inl fQ4_10)), (np, .inr (5, [.ref ap, .int lp_11])), (ap, .inl (cI, 300, .inl fp_11)), (nv, .inr (5, [.ref av, .int lv_11])), (av, .inl (cI, 300, .inl fv_11)), (oH, .inr (4, [.ref oP, .ref h1, .ref h2, .int lH])), (h1, .inl (cI, 6, .inl fH1)), (h2, .inl (cI, 6, .inl fH2)), (oP, .inr (7, [.ref oC, .ref nB, .int ft_11])), (nB, .inr (5, [.ref aB, .int lB_11])), (aB, .inl (cI, 2400, .inl fB_11)), (oC, .inr (2, [.ref o4, .ref o5])), (o4, .inr (10, [.ref a41, .ref a42, .ref a43, .int l4])), (a41, .inl (cI, 256, .inl f41)), (a42, .inl (cI, 512, .inl f42)), (a43, .inl (cI, 512, .inl f43)), (o5, .inr (10, [.ref a51, .ref a52, .ref a53, .int l5])), (a51, .inl (cI, 256, .inl f51)), (a52, .inl (cI, 512, .inl f52)), (a53, .inl (cI, 512, .inl f53)), (oX, .inr (11, [.ref nT, .ref nL, .ref nM, .ref oC, .ref oP, .ref oH, .ref oK, .ref oG, .ref oR, .ref oQ, .ref oW, .int (-1)])), (nL, .inr (5, [.ref aL, .int lL_13])), (aL, .inl (cI, 300, .inl fL_13)), (nM, .inr (5, [.ref aM, .int ld_11])), (aM, .inl (cI, 300, .inl fd_11)), (oG, .inr (0, [.ref g1, .ref g2, .int gn_13, .int lG_13])), (g1, .inl (cI, 6000, .inl fG1_13)), (g2, .inl (cI, 20, .inl fG2_13)), (oW, .inr (1, [.ref oC, .ref oK, .ref nw, .ref w1, .ref w2, .ref w3, .ref o7, .ref o8, .ref o9, .ref w4, .ref w5, .ref w6, .ref w7, .int ke, .int tl, .int fsh_13, .int wi, .int ri, .int fm, .int lm]))] rfl
            clear hP hD hS hJ hP1 hD1
            have hP := hPn
            have hD := hDn
            have hS := hSn
            clear hPn hDn hSn
            refine lv_pop hx hb dX11_parts_90 rfl ?_
            refine lv_aload_n hx hb dX11_parts_91 rfl (lv_at hl 1 rfl) ?_
            refine va_get (D := (dC, dI)) (ci := 11) (v := .ref oQ) (C := RX11) (T := TX11) (N := 12) hx hb hts in_X11 hown hK hP 30 rfl rfl 9 (by decide) (hts (.fieldLink RX11 77 "TextMender" "parting" "LTextMender$Parting;") (List.mem_of_getElem? (i := 3) rfl)) (fun _ h9 => h9) rfl dX11_parts_92 ?_
            refine kV_i (rest := []) (q0 := 0) (ci := 6) hcf (f_X6_spans l dC dI cI cS H.size oQ oC oH oK oE nq np nv q1 q2 q3 q4 pr_10 fQ2_10 ) kc_X6_spans gX11_parts_X6_spans rfl rfl rfl ⟨Nat.le_of_ble_eq_true rfl, Nat.le_of_ble_eq_true rfl⟩ kX_t hK hP hD hS hA [8, 1] [0, 2, 3, 4, 5, 6, 7, 9, 10, 11, 12, 13, 14, 15, 16, 17, 18, 19, 20, 21, 22, 23, 24, 25, 26, 27, 28, 29, 30, 31, 32, 33, 34, 35, 36, 37, 38] rfl (by decide +kernel) rfl rfl rfl hl rfl (Nat.le_of_ble_eq_true rfl) dX11_parts_95 ⟨Nat.le_of_ble_eq_true rfl, Nat.le_of_ble_eq_true rfl⟩ (fun r_14 H locs hB hJ hSn => ?_)
            obtain ⟨⟨hP1, hD1⟩, hf14_0⟩ := hB
            obtain ⟨hPn, hDn⟩ := hJ _ hP1 hD1 [(q1, .inl (cI, 61, .inl fQ1_10)), (nq, .inr (5, [.ref aq, .int lq_10])), (aq, .inl (cI, 480, .inl fq_10)), (oE, .inr (8, [.ref oC, .ref oK, .int reE_10, .int laE_10, .int suE_10, .int leE_10])), (oK, .inr (3, [.ref k1, .ref k2, .int lK])), (k1, .inl (cI, 1024, .inl fK1)), (k2, .inl (cI, 1024, .inl fK2)), (q3, .inl (cI, 61, .inl fQ3_10)), (q4, .inl (cI, 61, .inl fQ4_10)), (np, .inr (5, [.ref ap, .int lp_11])), (ap, .inl (cI, 300, .inl fp_11)), (nv, .inr (5, [.ref av, .int lv_11])), (av, .inl (cI, 300, .inl fv_11)), (oH, .inr (4, [.ref oP, .ref h1, .ref h2, .int lH])), (h1, .inl (cI, 6, .inl fH1)), (h2, .inl (cI, 6, .inl fH2)), (oP, .inr (7, [.ref oC, .ref nB, .int ft_11])), (nB, .inr (5, [.ref aB, .int lB_11])), (aB, .inl (cI, 2400, .inl fB_11)), (oC, .inr (2, [.ref o4, .ref o5])), (o4, .inr (10, [.ref a41, .ref a42, .ref a43, .int l4])), (a41, .inl (cI, 256, .inl f41)), (a42, .inl (cI, 512, .inl f42)), (a43, .inl (cI, 512, .inl f43)), (o5, .inr (10, [.ref a51, .ref a52, .ref a53, .int l5])), (a51, .inl (cI, 256, .inl f51)), (a52, .inl (cI, 512, .inl f52)), (a53, .inl (cI, 512, .inl f53)), (oX, .inr (11, [.ref nT, .ref nL, .ref nM, .ref oC, .ref oP, .ref oH, .ref oK, .ref oG, .ref oR, .ref oQ, .ref oW, .int (-1)])), (nL, .inr (5, [.ref aL, .int lL_13])), (aL, .inl (cI, 300, .inl fL_13)), (nM, .inr (5, [.ref aM, .int ld_11])), (aM, .inl (cI, 300, .inl fd_11)), (oG, .inr (0, [.ref g1, .ref g2, .int gn_13, .int lG_13])), (g1, .inl (cI, 6000, .inl fG1_13)), (g2, .inl (cI, 20, .inl fG2_13)), (oW, .inr (1, [.ref oC, .ref oK, .ref nw, .ref w1, .ref w2, .ref w3, .ref o7, .ref o8, .ref o9, .ref w4, .ref w5, .ref w6, .ref w7, .int ke, .int tl, .int fsh_13, .int wi, .int ri, .int fm, .int lm])), (oQ, .inr (6, [.ref oC, .ref oH, .ref oK, .ref oE, .ref nq, .ref np, .ref nv, .ref q1, .ref q2, .ref q3, .ref q4, .int pr_10])), (q2, .inl (cI, 61, .inl fQ2_10))] rfl
            clear hP hD hS hJ hP1 hD1
            have hP := hPn
            have hD := hDn
            have hS := hSn
            clear hPn hDn hSn
            exact kl_i (v := r_14) hQQ hx hb hr hlocks hS dX11_parts_98 ⟨(-1), lq_10, fq_10, reE_10, laE_10, suE_10, leE_10, fQ1_10, fQ2_10, fQ3_10, fQ4_10, pr_10, lp_11, fp_11, lv_11, fv_11, ft_11, lB_11, fB_11, ld_11, fd_11, lL_13, fL_13, fsh_13, gn_13, lG_13, fG1_13, fG2_13, kPD_sub hP hD [28, 37, 0, 38, 7, 8, 1, 2, 9, 10, 11, 12, 3, 13, 14, 15, 16, 17, 18, 19, 20, 21, 22, 23, 24, 25, 26, 27, 4, 5, 6, 29, 30, 31, 32, 33, 34, 35, 36] (by decide +kernel) rfl, hf10_0, hf11_0, hf11_1, hf11_2, hf11_3, hf13_0, hf13_1, hf13_2, hf13_3, hf13_4, OC_y (lay_pt hf10_1 hf11_5 (by omega) (by omega) (by omega) (v_eq hf14_0)) hf13_6 hf13_7⟩
          · have tc_12 : r_11.toInt = 0 := v_eq c_12
            refine lv_iconst (v := (-1)) hx hb dX11_parts_80 (by decide) ?_
            exact kl_i (v := (-1)) hQQ hx hb hr hlocks hS dX11_parts_81 ⟨(-1), lq_10, fq_10, reE_10, laE_10, suE_10, leE_10, fQ1_10, fQ2_10, fQ3_10, fQ4_10, pr_10, lp_11, fp_11, lv_11, fv_11, ft_11, lB_11, fB_11, ld_11, fd_11, lL, fL, fsh, gn, lG, fG1, fG2, kPD_sub hP hD [0, 13, 5, 6, 14, 15, 7, 8, 16, 17, 18, 19, 9, 20, 21, 22, 23, 24, 25, 26, 27, 28, 29, 30, 31, 32, 33, 34, 10, 11, 12, 35, 36, 37, 38, 1, 2, 3, 4] (by decide +kernel) rfl, hf10_0, hf11_0, hf11_1, hf11_2, hf11_3, g_lL, g_fsh, g_gn, g_lG, g_fG2, OC_n rfl (lay_pn okU9 hf9 hf10_1 hf11_5 (by omega))⟩
        · have tc_9 : 1000 < pe.toInt := v_nle c_9
          refine lv_iconst (v := (-1)) hx hb dX11_parts_48 (by decide) ?_
          exact kl_i (v := (-1)) hQQ hx hb hr hlocks hS dX11_parts_49 ⟨(-1), lq, fq, reE, laE, suE, leE, fQ1, fQ2, fQ3, fQ4, pr, lp, fp, lv, fv, ft, lB, fB, lM, fM, lL, fL, fsh, gn, lG, fG1, fG2, kPD_sub hP hD [0, 1, 2, 3, 4, 5, 6, 7, 8, 9, 10, 11, 12, 13, 14, 15, 16, 17, 18, 19, 20, 21, 22, 23, 24, 25, 26, 27, 28, 29, 30, 38, 31, 32, 33, 34, 35, 36, 37] (by decide +kernel) rfl, g_lq, g_lp, g_lv, g_lB, g_lM, g_lL, g_fsh, g_gn, g_lG, g_fG2, OC_n rfl (fun c fm v h => absurd h.1 (by omega))⟩

end

/-! 5d.a.rows -/
section
set_option maxRecDepth 100000 in
theorem dA325_cX12_takeSpan : kDec cX12_takeSpan [(0, .aload_n 0, 1), (1, .iload_n 2, 1), (2, .iload_n 1, 1), (3, .isub, 1), (4, .putfield 135, 3), (7, .iload_n 1, 1), (8, .istore 4, 2), (10, .iload 4, 2), (12, .iload_n 2, 1), (13, .if_icmp .ge 25, 3), (38, .iload_n 3, 1), (39, .iconst (-1), 1), (40, .if_icmp .eq 22, 3), (62, .iconst 1, 1), (63, .goto 4, 3), (67, .ireturn, 1), (43, .aload_n 0, 1), (44, .aload_n 0, 1), (45, .getfield 30, 3), (48, .iload_n 3, 1), (49, .iaload, 1), (50, .aload_n 0, 1), (51, .getfield 33, 3), (54, .iload_n 3, 1)] = true := by decide +kernel
theorem dX12_takeSpan_0 : decode cX12_takeSpan 0 = .ok (.aload_n 0, 1) := kDec_at dA325_cX12_takeSpan 0 rfl
theorem dX12_takeSpan_1 : decode cX12_takeSpan 1 = .ok (.iload_n 2, 1) := kDec_at dA325_cX12_takeSpan 1 rfl
theorem dX12_takeSpan_2 : decode cX12_takeSpan 2 = .ok (.iload_n 1, 1) := kDec_at dA325_cX12_takeSpan 2 rfl
theorem dX12_takeSpan_3 : decode cX12_takeSpan 3 = .ok (.isub, 1) := kDec_at dA325_cX12_takeSpan 3 rfl
theorem dX12_takeSpan_4 : decode cX12_takeSpan 4 = .ok (.putfield 135, 3) := kDec_at dA325_cX12_takeSpan 4 rfl
theorem dX12_takeSpan_7 : decode cX12_takeSpan 7 = .ok (.iload_n 1, 1) := kDec_at dA325_cX12_takeSpan 5 rfl
theorem dX12_takeSpan_8 : decode cX12_takeSpan 8 = .ok (.istore 4, 2) := kDec_at dA325_cX12_takeSpan 6 rfl
theorem dX12_takeSpan_10 : decode cX12_takeSpan 10 = .ok (.iload 4, 2) := kDec_at dA325_cX12_takeSpan 7 rfl
theorem dX12_takeSpan_12 : decode cX12_takeSpan 12 = .ok (.iload_n 2, 1) := kDec_at dA325_cX12_takeSpan 8 rfl
theorem dX12_takeSpan_13 : decode cX12_takeSpan 13 = .ok (.if_icmp .ge 25, 3) := kDec_at dA325_cX12_takeSpan 9 rfl
theorem dX12_takeSpan_38 : decode cX12_takeSpan 38 = .ok (.iload_n 3, 1) := kDec_at dA325_cX12_takeSpan 10 rfl
theorem dX12_takeSpan_39 : decode cX12_takeSpan 39 = .ok (.iconst (-1), 1) := kDec_at dA325_cX12_takeSpan 11 rfl
theorem dX12_takeSpan_40 : decode cX12_takeSpan 40 = .ok (.if_icmp .eq 22, 3) := kDec_at dA325_cX12_takeSpan 12 rfl
theorem dX12_takeSpan_62 : decode cX12_takeSpan 62 = .ok (.iconst 1, 1) := kDec_at dA325_cX12_takeSpan 13 rfl
theorem dX12_takeSpan_63 : decode cX12_takeSpan 63 = .ok (.goto 4, 3) := kDec_at dA325_cX12_takeSpan 14 rfl
theorem dX12_takeSpan_67 : decode cX12_takeSpan 67 = .ok (.ireturn, 1) := kDec_at dA325_cX12_takeSpan 15 rfl
theorem dX12_takeSpan_43 : decode cX12_takeSpan 43 = .ok (.aload_n 0, 1) := kDec_at dA325_cX12_takeSpan 16 rfl
theorem dX12_takeSpan_44 : decode cX12_takeSpan 44 = .ok (.aload_n 0, 1) := kDec_at dA325_cX12_takeSpan 17 rfl
theorem dX12_takeSpan_45 : decode cX12_takeSpan 45 = .ok (.getfield 30, 3) := kDec_at dA325_cX12_takeSpan 18 rfl
theorem dX12_takeSpan_48 : decode cX12_takeSpan 48 = .ok (.iload_n 3, 1) := kDec_at dA325_cX12_takeSpan 19 rfl
theorem dX12_takeSpan_49 : decode cX12_takeSpan 49 = .ok (.iaload, 1) := kDec_at dA325_cX12_takeSpan 20 rfl
theorem dX12_takeSpan_50 : decode cX12_takeSpan 50 = .ok (.aload_n 0, 1) := kDec_at dA325_cX12_takeSpan 21 rfl
theorem dX12_takeSpan_51 : decode cX12_takeSpan 51 = .ok (.getfield 33, 3) := kDec_at dA325_cX12_takeSpan 22 rfl
theorem dX12_takeSpan_54 : decode cX12_takeSpan 54 = .ok (.iload_n 3, 1) := kDec_at dA325_cX12_takeSpan 23 rfl
set_option maxRecDepth 100000 in
theorem dA326_cX12_takeSpan : kDec cX12_takeSpan [(55, .iaload, 1), (56, .invokevirtual 174, 3), (59, .ifCond .eq 7, 3), (66, .iconst 0, 1), (16, .aload_n 0, 1), (17, .getfield 64, 3), (20, .iload 4, 2), (22, .iload_n 1, 1), (23, .isub, 1), (24, .aload_n 0, 1), (25, .getfield 16, 3), (28, .iload 4, 2), (30, .iaload, 1), (31, .iastore, 1), (32, .iinc 4 1, 3), (35, .goto (-25), 3)] = true := by decide +kernel
theorem dX12_takeSpan_55 : decode cX12_takeSpan 55 = .ok (.iaload, 1) := kDec_at dA326_cX12_takeSpan 0 rfl
theorem dX12_takeSpan_56 : decode cX12_takeSpan 56 = .ok (.invokevirtual 174, 3) := kDec_at dA326_cX12_takeSpan 1 rfl
theorem dX12_takeSpan_59 : decode cX12_takeSpan 59 = .ok (.ifCond .eq 7, 3) := kDec_at dA326_cX12_takeSpan 2 rfl
theorem dX12_takeSpan_66 : decode cX12_takeSpan 66 = .ok (.iconst 0, 1) := kDec_at dA326_cX12_takeSpan 3 rfl
theorem dX12_takeSpan_16 : decode cX12_takeSpan 16 = .ok (.aload_n 0, 1) := kDec_at dA326_cX12_takeSpan 4 rfl
theorem dX12_takeSpan_17 : decode cX12_takeSpan 17 = .ok (.getfield 64, 3) := kDec_at dA326_cX12_takeSpan 5 rfl
theorem dX12_takeSpan_20 : decode cX12_takeSpan 20 = .ok (.iload 4, 2) := kDec_at dA326_cX12_takeSpan 6 rfl
theorem dX12_takeSpan_22 : decode cX12_takeSpan 22 = .ok (.iload_n 1, 1) := kDec_at dA326_cX12_takeSpan 7 rfl
theorem dX12_takeSpan_23 : decode cX12_takeSpan 23 = .ok (.isub, 1) := kDec_at dA326_cX12_takeSpan 8 rfl
theorem dX12_takeSpan_24 : decode cX12_takeSpan 24 = .ok (.aload_n 0, 1) := kDec_at dA326_cX12_takeSpan 9 rfl
theorem dX12_takeSpan_25 : decode cX12_takeSpan 25 = .ok (.getfield 16, 3) := kDec_at dA326_cX12_takeSpan 10 rfl
theorem dX12_takeSpan_28 : decode cX12_takeSpan 28 = .ok (.iload 4, 2) := kDec_at dA326_cX12_takeSpan 11 rfl
theorem dX12_takeSpan_30 : decode cX12_takeSpan 30 = .ok (.iaload, 1) := kDec_at dA326_cX12_takeSpan 12 rfl
theorem dX12_takeSpan_31 : decode cX12_takeSpan 31 = .ok (.iastore, 1) := kDec_at dA326_cX12_takeSpan 13 rfl
theorem dX12_takeSpan_32 : decode cX12_takeSpan 32 = .ok (.iinc 4 1, 3) := kDec_at dA326_cX12_takeSpan 14 rfl
theorem dX12_takeSpan_35 : decode cX12_takeSpan 35 = .ok (.goto (-25), 3) := kDec_at dA326_cX12_takeSpan 15 rfl
set_option maxRecDepth 20000 in
theorem ggX12_takeSpan_X12_undoes : GoodIn wsX12_takeSpan wsX12_undoes := goodIn_r _ [10, 2, 1, 11, 12, 13, 14, 15, 16, 17, 9, 18, 19, 20, 21, 22, 23, 24, 25, 26, 27, 28, 29, 30, 31, 32, 33, 34, 35, 36, 37, 38, 39, 40, 41, 42, 43, 44, 45, 46, 47, 48, 49, 50, 51, 52, 53, 54, 55, 56, 57, 58, 59, 60, 61, 62, 63, 64, 65, 66, 67, 68, 69, 70, 71, 72, 73, 74, 75, 76, 77, 78, 79, 80, 81, 82, 83, 84, 85, 86, 87, 88, 89, 90, 91, 92, 93, 94, 95, 96, 97] rfl (by decide +kernel)
set_option maxRecDepth 20000 in
theorem gX12_takeSpan_X12_undoes : GoodIn wsX12_takeSpan (wsV RX12 174 RX12 yX12_undoes wsX12_undoes) := goodIn_app (goodIn_r _ [6, 7, 8, 9] rfl (by decide +kernel)) ggX12_takeSpan_X12_undoes

end

/-! 5d.parts -/
section
/-! parts() of the reference -/
def QOR (n m : Int) (Q1 Q2 : Nat → Int32) : Prop := ∀ j : Nat, m < j → (j : Int) < n → 0 ≤ (Q1 j).toInt ∧ (Q1 j).toInt ≤ 70000 * (n - j) ∧ 1 ≤ (Q2 j).toInt ∧ (Q2 j).toInt ≤ n - j
def BFR (U : Nat → Nat → (Nat → Int32) → Nat → (Nat → Int32) → Prop) (T : Int32 → Int32 → Int32) (z n : Nat) (f : Nat → Int32) (pr : Int) (A : Nat → Int → Prop) (i : Nat) (Q1 Q2 Q3 Q4 : Nat → Int32) : Prop := ((Q2 i).toInt = 0 ∧ ∀ (j : Nat) (h s sp : Int), A j h → ¬ cnd U T z n f pr Q1 Q2 i j h s sp) ∨ (0 ≤ (Q1 i).toInt ∧ (Q1 i).toInt ≤ 70000 * ((n : Int) - i) ∧ 1 ≤ (Q2 i).toInt ∧ (Q2 i).toInt ≤ (n : Int) - i ∧ 0 ≤ (Q3 i).toInt ∧ bst U T z n f pr Q1 Q2 A i (Q3 i).toInt.toNat (Q4 i).toInt (Q1 i).toInt (Q2 i).toInt)
/-- what takeSpan answers -/
def F_ts (U : Nat → Nat → (Nat → Int32) → Nat → (Nat → Int32) → Prop) (r l : Int32) (g f : Nat → Int32) (i j : Nat) (h : Int) : Prop := (r.toInt = 1 ∧ ∃ c : Nat, l.toInt = c ∧ SPN U f i j h c g) ∨ (r.toInt = 0 ∧ ∀ (c : Nat) (f2 : Nat → Int32), ¬ SPN U f i j h c f2)
section PR5
variable {U : Nat → Nat → (Nat → Int32) → Nat → (Nat → Int32) → Prop} {T : Int32 → Int32 → Int32}
theorem ts_1 {r l : Int32} {g f : Nat → Int32} {i j : Nat} {h : Int} (a : F_ts U r l g f i j h) (e : ¬ r.toInt = 0) : ∃ c : Nat, l.toInt = c ∧ SPN U f i j h c g := a.elim (fun z => z.2) (fun z => absurd z.1 e)
theorem ts_0 {r l : Int32} {g f : Nat → Int32} {i j : Nat} {h : Int} (a : F_ts U r l g f i j h) (e : r.toInt = 0) : ∀ (c : Nat) (f2 : Nat → Int32), ¬ SPN U f i j h c f2 := a.elim (fun z => by have := z.1; omega) (fun z => z.2)
theorem BFR_A {z n : Nat} {f : Nat → Int32} {pr : Int} {A A' : Nat → Int → Prop} {i : Nat} {Q1 Q2 Q3 Q4 : Nat → Int32} (b : BFR U T z n f pr A i Q1 Q2 Q3 Q4) (hA : ∀ (j : Nat) (h s sp : Int), cnd U T z n f pr Q1 Q2 i j h s sp → (A' j h ↔ A j h)) : BFR U T z n f pr A' i Q1 Q2 Q3 Q4 := by
  rcases b with ⟨b1, b2⟩ | ⟨b1, b2, b3, b4, b5, b6, b7, b8⟩
  · exact Or.inl ⟨b1, fun j h s sp a c => b2 j h s sp ((hA j h s sp c).mp a) c⟩
  · exact Or.inr ⟨b1, b2, b3, b4, b5, b6, (hA _ _ _ _ b6).mpr b7, fun j h s sp a c => b8 j h s sp ((hA j h s sp c).mp a) c⟩
theorem BFR_0 {z n : Nat} {f : Nat → Int32} {pr : Int} {A : Nat → Int → Prop} {i : Nat} {Q1 Q2 Q3 Q4 : Nat → Int32} (h : (Q2 i).toInt = 0) (hA : ∀ (j : Nat) (h : Int), A j h → n < j) : BFR U T z n f pr A i Q1 Q2 Q3 Q4 := Or.inl ⟨h, fun j h' s sp a c => by have := hA j h' a; have := c.2.1; omega⟩
theorem BFR_no {z n : Nat} {f : Nat → Int32} {pr : Int} {A A' : Nat → Int → Prop} {i j0 : Nat} {h0 : Int} {Q1 Q2 Q3 Q4 : Nat → Int32} (b : BFR U T z n f pr A i Q1 Q2 Q3 Q4) (hA : ∀ (j : Nat) (h : Int), A' j h ↔ (A j h ∨ (j = j0 ∧ h = h0))) (hn : ∀ (c : Nat) (f2 : Nat → Int32), ¬ SPN U f i j0 h0 c f2) : BFR U T z n f pr A' i Q1 Q2 Q3 Q4 := by
  refine BFR_A b (fun j h s sp c => ⟨fun a => ?_, fun a => (hA j h).mpr (Or.inl a)⟩)
  rcases (hA j h).mp a with w | ⟨w1, w2⟩
  · exact w
  · subst w1
    subst w2
    obtain ⟨_, _, _, _, ⟨c', f', c5, _⟩, _⟩ := c
    exact absurd c5 (hn _ _)
/-- c and sp are what it costs -/
theorem cnd_of {z n : Nat} {f g : Nat → Int32} {pr co x c sp : Int} {C S : Nat → Int32} {i j m : Nat} {h : Int} (h1 : i < j) (h2 : j ≤ n) (h3 : -1 ≤ h ∧ h < z) (hs : SPN U f i j h m g) (hx : x = cT T m g) (hc : c = x + (if j < n then pr + (C j).toInt else 0)) (hp : sp = 1 + (if j < n then (S j).toInt else 0)) : cnd U T z n f pr C S i j h c sp := ⟨h1, h2, h3.1, h3.2, ⟨m, g, hs, by rw [hc, hx]⟩, hp⟩
theorem BFR_keep (hU : okU U) {z n : Nat} {f : Nat → Int32} {pr c sp : Int} {A A' : Nat → Int → Prop} {i j0 : Nat} {h0 : Int} {Q1 Q2 Q3 Q4 : Nat → Int32} (b : BFR U T z n f pr A i Q1 Q2 Q3 Q4) (hn : n ≤ 300) (hf : prg n 0 65535 f) (hA : ∀ (j : Nat) (h : Int), A' j h ↔ (A j h ∨ (j = j0 ∧ h = h0))) (hc : cnd U T z n f pr Q1 Q2 i j0 h0 c sp) (h1 : ¬ (Q2 i).toInt = 0) (h2 : (Q1 i).toInt < c ∨ ((Q1 i).toInt = c ∧ (Q2 i).toInt ≤ sp)) (hl : ∀ (j : Nat) (h : Int), A j h → j0 < j ∨ (j = j0 ∧ h ≤ h0)) : BFR U T z n f pr A' i Q1 Q2 Q3 Q4 := by
  rcases b with ⟨b1, _⟩ | ⟨b1, b2, b3, b4, b5, b6⟩
  · exact absurd b1 h1
  · refine Or.inr ⟨b1, b2, b3, b4, b5, bst_add b6 hA (fun s' sp' c2 => ?_)⟩
    obtain ⟨w1, w2⟩ := cnd_u hU hn hf c2 hc
    have w3 := hl _ _ b6.2.1
    unfold LE4
    omega
theorem BFR_set (hU : okU U) {z n : Nat} {f : Nat → Int32} {pr : Int} {A A' : Nat → Int → Prop} {i j0 : Nat} {c sp en h0 : Int32} {Q1 Q1' Q2 Q2' Q3 Q3' Q4 Q4' : Nat → Int32} (b : BFR U T z n f pr A i Q1 Q2 Q3 Q4) (hn : n ≤ 300) (hf : prg n 0 65535 f) (hA : ∀ (j : Nat) (h : Int), A' j h ↔ (A j h ∨ (j = j0 ∧ h = h0.toInt))) (hc : cnd U T z n f pr Q1 Q2 i j0 h0.toInt c.toInt sp.toInt) (ej : en.toInt = j0) (h2 : (Q2 i).toInt ≤ 0 ∨ c.toInt < (Q1 i).toInt ∨ (c.toInt = (Q1 i).toInt ∧ sp.toInt < (Q2 i).toInt)) (bd : 0 ≤ c.toInt ∧ c.toInt ≤ 70000 * ((n : Int) - i) ∧ 1 ≤ sp.toInt ∧ sp.toInt ≤ (n : Int) - i) (e1 : Q1' = upd Q1 i c) (e2 : Q2' = upd Q2 i sp) (e3 : Q3' = upd Q3 i en) (e4 : Q4' = upd Q4 i h0) : BFR U T z n f pr A' i Q1' Q2' Q3' Q4' := by
  have cg : ∀ k, i < k → k < n → Q1 k = Q1' k ∧ Q2 k = Q2' k := fun k k1 k2 => by rw [e1, e2, pk_un (by omega), pk_un (by omega)]; exact ⟨rfl, rfl⟩
  refine Or.inr ?_
  have f1 : Q1' i = c := by rw [e1, pk_us]
  have f2 : Q2' i = sp := by rw [e2, pk_us]
  have f3 : Q3' i = en := by rw [e3, pk_us]
  have f4 : Q4' i = h0 := by rw [e4, pk_us]
  rw [f1, f2, f3, f4]
  refine ⟨bd.1, bd.2.1, bd.2.2.1, bd.2.2.2, by omega, bst_cg cg ?_⟩
  have ee : en.toInt.toNat = j0 := by omega
  rw [ee]
  refine bst_new hA hc (fun s2 sp2 c2 => cnd_u hU hn hf c2 hc) ?_
  rcases b with ⟨_, b2⟩ | ⟨b1, b2, b3, b4, b5, b6⟩
  · exact Or.inl b2
  · refine Or.inr ⟨_, _, _, _, b6, ?_⟩
    unfold LE4
    omega
theorem BFR_all {z n : Nat} {f : Nat → Int32} {pr : Int} {A : Nat → Int → Prop} {i : Nat} {Q1 Q2 Q3 Q4 : Nat → Int32} (b : BFR U T z n f pr A i Q1 Q2 Q3 Q4) (hi : i < n) (hA : ∀ (j : Nat) (h s sp : Int), cnd U T z n f pr Q1 Q2 i j h s sp → A j h) : 0 ≤ (Q1 i).toInt ∧ (Q1 i).toInt ≤ 70000 * ((n : Int) - i) ∧ 1 ≤ (Q2 i).toInt ∧ (Q2 i).toInt ≤ (n : Int) - i ∧ 0 ≤ (Q3 i).toInt ∧ bst U T z n f pr Q1 Q2 (fun _ _ => True) i (Q3 i).toInt.toNat (Q4 i).toInt (Q1 i).toInt (Q2 i).toInt := by
  rcases b with ⟨b1, b2⟩ | ⟨b1, b2, b3, b4, b5, b6, b7, b8⟩
  · have c : cnd U T z n f pr Q1 Q2 i n (-1) (cT T ((n - i : Nat) : Int) (fun k => f (i + k)) + (if n < n then pr + (Q1 n).toInt else 0)) (1 + (if n < n then (Q2 n).toInt else 0)) := ⟨hi, Nat.le_refl _, by omega, by omega, ⟨n - i, _, Or.inl ⟨rfl, rfl, fun _ _ => rfl⟩, rfl⟩, rfl⟩
    exact absurd c (b2 _ _ _ _ (hA _ _ _ _ c))
  · exact ⟨b1, b2, b3, b4, b5, b6, trivial, fun j h s sp _ c => b8 j h s sp (hA j h s sp c) c⟩
theorem QOR_u {n m : Int} {Q1 Q1' Q2 Q2' : Nat → Int32} {i : Nat} {a b : Int32} (h : QOR n m Q1 Q2) (hi : (i : Int) ≤ m) (e1 : Q1' = upd Q1 i a ∨ Q1' = Q1) (e2 : Q2' = upd Q2 i b ∨ Q2' = Q2) : QOR n m Q1' Q2' := by
  intro j h1 h2
  have q := h j h1 h2
  have w1 : Q1' j = Q1 j := by
    rcases e1 with e | e
    · rw [e, pk_un (by omega)]
    · rw [e]
  have w2 : Q2' j = Q2 j := by
    rcases e2 with e | e
    · rw [e, pk_un (by omega)]
    · rw [e]
  rw [w1, w2]; exact q
theorem QOR_dn {n m m' : Int} {i : Nat} {Q1 Q2 : Nat → Int32} (h : QOR n m Q1 Q2) (em : m = i) (em' : m' = i - 1) (b : 0 ≤ (Q1 i).toInt ∧ (Q1 i).toInt ≤ 70000 * (n - i) ∧ 1 ≤ (Q2 i).toInt ∧ (Q2 i).toInt ≤ n - i) : QOR n m' Q1 Q2 := by
  intro j h1 h2
  by_cases e : j = i
  · subst e; exact b
  · exact h j (by omega) h2
theorem only_4 {i : Nat} {a b c d : Int32} {Q1 Q1' Q2 Q2' Q3 Q3' Q4 Q4' : Nat → Int32} (e1 : Q1' = upd Q1 i a) (e2 : Q2' = upd Q2 i b) (e3 : Q3' = upd Q3 i c) (e4 : Q4' = upd Q4 i d) : onlyI i Q1 Q1' Q2 Q2' Q3 Q3' Q4 Q4' := fun k hk => by
  rw [e1, e2, e3, e4, pk_un hk, pk_un hk, pk_un hk, pk_un hk]; exact ⟨rfl, rfl, rfl, rfl⟩
theorem only_2 {i : Nat} {b : Int32} {Q1 Q2 Q2' Q3 Q4 : Nat → Int32} (e2 : Q2' = upd Q2 i b) : onlyI i Q1 Q1 Q2 Q2' Q3 Q3 Q4 Q4 := fun k hk => by
  rw [e2, pk_un hk]; exact ⟨rfl, rfl, rfl, rfl⟩
/-- the reference lays a span behind the others -/
theorem lay_r {n m : Nat} {f E H g g2 g' : Nat → Int32} {fr fr' l l2 l' k : Int32} (h : LYD U n f E H fr l g) (hi : fr.toNatClampNeg < n) (hs : SPN U f fr.toNatClampNeg (E fr.toNatClampNeg).toInt.toNat (H fr.toNatClampNeg).toInt m g2) (hm : l2.toInt = m) (hc : CPB l.toInt k.toInt g g' g2) (hk : k.toInt = l2.toInt) (h0 : 0 ≤ l.toInt) (hl : l'.toInt = l.toInt + l2.toInt) (hf : fr'.toInt = (E fr.toNatClampNeg).toInt) (hE : 0 ≤ (E fr.toNatClampNeg).toInt) : LYD U n f E H fr' l' g' := by
  obtain ⟨q, hq⟩ := h
  have st := RCH_step hq hi hs (fm' := g') (fun p hp => hc.2 p (Or.inl (by omega))) (fun p hp => hc.1 p (by omega))
  have e1 : fr'.toNatClampNeg = (E fr.toNatClampNeg).toInt.toNat := ix_eq (by omega)
  have e2 : l'.toInt.toNat = l.toInt.toNat + m := by omega
  exact ⟨q + 1, by rw [e1, e2]; exact st⟩
theorem lay_rn (hU : okU U) {z n m : Nat} {f E H C S g g2 g' : Nat → Int32} {pr : Int} {fr l l2 k : Int32} (hf : prg n 0 65535 f) (hB : PBK U T z n f pr 0 C S E H) (h : LYD U n f E H fr l g) (hi : fr.toNatClampNeg < n) (hs : SPN U f fr.toNatClampNeg (E fr.toNatClampNeg).toInt.toNat (H fr.toNatClampNeg).toInt m g2) (hm : l2.toInt = m) (hc : CPB l.toInt k.toInt g g' g2) (hk : k.toInt = l2.toInt) (h0 : 0 ≤ l.toInt) (h3 : 300 < l.toInt + l2.toInt) : ∀ c fm v, ¬ ptP U T z n f pr c fm v := by
  obtain ⟨q, hq⟩ := h
  have st := RCH_step hq hi hs (fm' := g') (fun p hp => hc.2 p (Or.inl (by omega))) (fun p hp => hc.1 p (by omega))
  exact pt_big hU hf hB st (by omega)
theorem lay_rp {z n : Nat} {f fm E H C S : Nat → Int32} {pr v : Int} {fr l : Int32} (hB : PBK U T z n f pr 0 C S E H) (h : LYD U n f E H fr l fm) (hn : fr.toInt = n) (hl : 0 ≤ l.toInt ∧ l.toInt ≤ 300) (h0 : 1 ≤ n ∧ n ≤ 60 ∧ 0 ≤ pr ∧ pr ≤ 1000) (hv : v = (S 0).toInt) : ∃ c : Nat, l.toInt = c ∧ ptP U T z n f pr c fm v := by
  obtain ⟨k, hk⟩ := h
  rw [ix_eq hn] at hk
  exact ⟨l.toInt.toNat, by omega, h0, C, S, E, H, hB, hv, by omega, k, hk⟩
end PR5

theorem ts_as {U : Nat → Nat → (Nat → Int32) → Nat → (Nat → Int32) → Prop} {r l : Int32} {g f : Nat → Int32} {i j : Nat} {h : Int} (hr : r.toInt = 1) (hh : h = -1) (hl : l.toInt = (j : Int) - i) (hcp : ∀ k : Nat, (k : Int) < l.toInt → g k = f (i + k)) (hij : i ≤ j) : F_ts U r l g f i j h := Or.inl ⟨hr, j - i, by omega, Or.inl ⟨hh, rfl, fun k hk => hcp k (by omega)⟩⟩
theorem ts_un {U : Nat → Nat → (Nat → Int32) → Nat → (Nat → Int32) → Prop} (hU : okU U) {r q l : Int32} {g f w : Nat → Int32} {i j k : Nat} {h n : Int} (ht : F_to U q l g k n w) (hk : h = k) (hn : n = (j : Int) - i) (hw : ∀ p : Nat, (p : Int) < n → w p = f (i + p)) (hr : r.toInt = q.toInt) (hij : i ≤ j) : F_ts U r l g f i j h := by
  have e : n.toNat = j - i := by omega
  have ek : h.toNat = k := by omega
  unfold F_to at ht
  rw [e] at ht
  rcases ht with ⟨a, c, a1, a2⟩ | ⟨a, a1⟩
  · refine Or.inl ⟨by rw [hr, a]; rfl, c, a1, Or.inr ⟨by omega, ?_⟩⟩
    rw [ek]
    exact hU.2.1 _ _ _ _ _ _ (fun p hp => hw p (by omega)) a2
  · refine Or.inr ⟨by rw [hr, a]; rfl, fun c f2 w2 => ?_⟩
    rcases w2 with ⟨w2, _⟩ | ⟨_, w2⟩
    · omega
    · rw [ek] at w2
      exact a1 c f2 (hU.2.1 _ _ _ _ _ _ (fun p hp => (hw p (by omega)).symm) w2)
theorem tsp_s {b : Nat} {k k' fo a x : Int32} {g g' f : Nat → Int32} (h : ∀ j : Nat, (j : Int) < k.toInt - fo.toInt → g j = f (b + j)) (eb : fo.toInt = b) (ex : x = f k.toNatClampNeg) (eg : g' = upd g a.toNatClampNeg x) (ha : a.toInt = k.toInt - fo.toInt) (h0 : fo.toInt ≤ k.toInt) (hk : k'.toInt = k.toInt + 1) : ∀ j : Nat, (j : Int) < k'.toInt - fo.toInt → g' j = f (b + j) := by
  intro j hj
  have c := v_clamp (x := a) (by omega)
  rw [eg]
  by_cases z : j = a.toNatClampNeg
  · rw [z, pk_us, ex, ix_eq (x := k) (N := b + a.toNatClampNeg) (by omega)]
  · rw [pk_un z]; exact h j (by omega)
theorem ts_y {U : Nat → Nat → (Nat → Int32) → Nat → (Nat → Int32) → Prop} {r l : Int32} {g f : Nat → Int32} {i j : Nat} {h : Int} (a : F_ts U r l g f i j h) (e : ∃ c f', SPN U f i j h c f') : ∃ c : Nat, l.toInt = c ∧ SPN U f i j h c g := by
  rcases a with ⟨_, a⟩ | ⟨_, a⟩
  · exact a
  · obtain ⟨c, f', e⟩ := e
    exact absurd e (a _ _)

set_option maxHeartbeats 40000000 in
set_option maxRecDepth 100000 in
theorem f_X12_takeSpan (l : Launch) (dC : Nat → ClassId) (dI : Nat → Nat → Nat) (cI cS : ClassId) (sz : Nat) (oM : Nat) (mT : Nat) (mS : Nat) (mX : Nat) (mL : Nat) (mB : Nat) (mD : Nat) (m1 : Nat) (m2 : Nat) (mR : Nat) (x1 : Nat) (x2 : Nat) (x3 : Nat) (mH : Nat) (mY : Nat) (mE : Nat) (mW : Nat) (mO : Nat) (y1 : Nat) (y2 : Nat) (y3 : Nat) (y4 : Nat) (mZ : Nat) (zt : Int32) (zp : Int32) (zf : Int32) (zh : Int32) (zr : Int32) (zc : Int32) (zy : Int32) (za : Int32) (zb : Int32) (zs : Int32) (zq : Int32) (zw : Int32) (ze : Int32) (zn : Int32) (zm : Int32) (zl : Int32) (zk : Int32) (zd : Int32) (eY : Nat → Int32) (eB : Nat → Int32) (eL : Nat → Int32) (eE : Nat → Int32) (eW : Nat → Int32) (eO : Nat → Int32) (eS : Nat → Int32) (eX : Nat → Int32) (e1 : Nat → Int32) (e2 : Nat → Int32) (fo : Int32) (to_ : Int32) (ha : Int32) (g_zt : 0 ≤ zt.toInt ∧ zt.toInt ≤ 900) (g_zp : 0 ≤ zp.toInt ∧ zp.toInt ≤ 20) (g_zf : 0 ≤ zf.toInt ∧ zf.toInt ≤ 19) (g_zh : 0 ≤ zh.toInt ∧ zh.toInt ≤ 6) (g_zr : 0 ≤ zr.toInt ∧ zr.toInt ≤ 258) (g_zc : 0 ≤ zc.toInt ∧ zc.toInt ≤ 300) (g_zy : 0 ≤ zy.toInt ∧ zy.toInt ≤ 65536) (g_za : 0 ≤ za.toInt ∧ za.toInt ≤ 5) (g_zb : 0 ≤ zb.toInt ∧ zb.toInt ≤ 5) (g_zs : 0 ≤ zs.toInt ∧ zs.toInt ≤ 2000000) (g_zq : -1 ≤ zq.toInt ∧ zq.toInt ≤ 2000000) (g_zn : 0 ≤ zn.toInt ∧ zn.toInt ≤ 2600) (g_zm : 0 ≤ zm.toInt ∧ zm.toInt ≤ 2600) (g_zk : 0 ≤ zk.toInt ∧ zk.toInt ≤ 300) (g_eY : rg 0 255 eY) (g_eB : rg (-1) 255 eB) (g_eL : rg (-1) 65535 eL) (g_eE : rg 0 65535 eE) (g_eW : rg 0 65535 eW) (g_eO : rg 0 65535 eO) (g_eS : rg 0 300 eS) (g_eX : rg 0 65535 eX) (g_e1 : rg 0 5 e1) (g_e2 : rg 0 5 e2) (g_fo : 0 ≤ fo.toInt ∧ fo.toInt ≤ 300) (g_to_ : 0 ≤ to_.toInt ∧ to_.toInt ≤ 300) (g_ha : -1 ≤ ha.toInt ∧ ha.toInt ≤ 5) (hft : fo.toInt ≤ to_.toInt) (hto : to_.toInt ≤ (eS 0).toInt) (hha : ha.toInt < zh.toInt) (hxl : ∀ j : Nat, (j : Int) < (eS 0).toInt → isLz (eX j)) (hlb : LBr eL eB) (hlz : LZ eL) : kMi l yX12_takeSpan wsX12_takeSpan ({ frames := 5, cells := 0, slots := 0, locals := 120 } : Room) [.ref oM, .int fo, .int to_, .int ha] sz (dC, dI) vwCl [(cI, .int), (cS, .short)] [(oM, .inr (12, [.ref mT, .int zt, .ref mS, .ref mX, .int zp, .int zf, .ref mL, .ref mB, .ref mD, .ref m1, .ref m2, .int zh, .ref mR, .int zr, .ref x1, .ref x2, .ref x3, .int zc, .ref mH, .int zy, .int za, .int zb, .int zs, .int zq, .int zw, .int ze, .ref mY, .int zn, .ref mE, .int zm, .int zl, .ref mW, .int zk, .ref mO, .int zd, .ref y1, .ref y2, .ref y3, .ref y4, .ref mZ])), (mY, .inl (cI, 2600, .inl eY)), (mB, .inl (cS, 131072, .inl eB)), (mL, .inl (cI, 512, .inl eL)), (mE, .inl (cI, 2600, .inl eE)), (mW, .inl (cI, 300, .inl eW)), (mO, .inl (cI, 300, .inl eO)), (mS, .inl (cI, 21, .inl eS)), (mX, .inl (cI, 6300, .inl eX)), (m1, .inl (cI, 6, .inl e1)), (m2, .inl (cI, 6, .inl e2))] (fun _ => True) 0 0 (fun (A : Nat → Prop) (r : Int32) (hh9 : Heap) => ∃ (zn' : Int32) (eY' : Nat → Int32) (zd' : Int32) (zm' : Int32) (zl' : Int32) (eE' : Nat → Int32) (zk' : Int32) (eW' : Nat → Int32) (eO' : Nat → Int32), kPD (dC, dI) vwCl A [(oM, .inr (12, [.ref mT, .int zt, .ref mS, .ref mX, .int zp, .int zf, .ref mL, .ref mB, .ref mD, .ref m1, .ref m2, .int zh, .ref mR, .int zr, .ref x1, .ref x2, .ref x3, .int zc, .ref mH, .int zy, .int za, .int zb, .int zs, .int zq, .int zw, .int ze, .ref mY, .int zn', .ref mE, .int zm', .int zl', .ref mW, .int zk', .ref mO, .int zd', .ref y1, .ref y2, .ref y3, .ref y4, .ref mZ])), (mY, .inl (cI, 2600, .inl eY')), (mB, .inl (cS, 131072, .inl eB)), (mL, .inl (cI, 512, .inl eL)), (mE, .inl (cI, 2600, .inl eE')), (mW, .inl (cI, 300, .inl eW')), (mO, .inl (cI, 300, .inl eO')), (mS, .inl (cI, 21, .inl eS)), (mX, .inl (cI, 6300, .inl eX)), (m1, .inl (cI, 6, .inl e1)), (m2, .inl (cI, 6, .inl e2))] hh9 ∧ (0 ≤ zn'.toInt ∧ zn'.toInt ≤ 2600) ∧ (rg 0 255 eY') ∧ (0 ≤ zm'.toInt ∧ zm'.toInt ≤ 2600) ∧ (rg 0 65535 eE') ∧ (0 ≤ zk'.toInt ∧ zk'.toInt ≤ 300) ∧ (rg 0 65535 eW') ∧ (rg 0 65535 eO') ∧ (0 ≤ r.toInt ∧ r.toInt ≤ 1) ∧ (F_ts (UR e1 e2 eL eB) r zk' eW' eX fo.toNatClampNeg to_.toNatClampNeg ha.toInt)) := by
  refine kMi_of (cc := cX12_takeSpan) (maxL := 5) (ret := (some .boolean)) (lv := [(0, .ref oM), (1, .int fo), (2, .int to_), (3, .int ha)]) (by decide +kernel) rfl rfl (Nat.le_of_ble_eq_true rfl) ?_
  intro p e s m below meth c A QQ ls hx hb hr hts hml hown hlocks hA hQQ hK hX hP hD hS hl
  have hown : s.vm.findClass RX12 = some m.cls := hown
  have hcf := k_cf hx hb hml hown hts
  have in_X12 : ∀ w ∈ wsX120, w ∈ wsX12_takeSpan := fun _ h => List.mem_cons_of_mem _ (List.mem_append_right _ (h))
  replace g_zk := hid g_zk
  have hU : okU (UR e1 e2 eL eB) := okU_R g_eB g_eL
  have hlb9 := hlb
  have z0 : (0 : Int32).toInt = 0 := rfl
  have z1 : (1 : Int32).toInt = 1 := rfl
  have zm1 : (-1 : Int32).toInt = -1 := rfl
  have cf0 := v_clamp (x := fo) (by omega)
  have ct0 := v_clamp (x := to_) (by omega)
  refine lv_aload_n hx hb dX12_takeSpan_0 rfl (lv_at hl 0 rfl) ?_
  refine lv_iload_n hx hb dX12_takeSpan_1 rfl (lv_at hl 2 rfl) ?_
  refine lv_iload_n hx hb dX12_takeSpan_2 rfl (lv_at hl 1 rfl) ?_
  refine lv_isub hx hb dX12_takeSpan_3 ?_
  refine lv_topi (fun x_1 ex_1 => ?_)
  have tx_1 : x_1.toInt = to_.toInt - fo.toInt := v_subR ex_1 g_to_ g_fo (by decide) (by decide)
  refine va_put (D := (dC, dI)) (ci := 12) (v := .int x_1) (ty := .int) (C := RX12) (T := TX12) (N := 40) hx hb hts in_X12 tyX12 tyX12_ok nmX12 hown hK hP hD hS 0 rfl rfl 32 (by decide) (hts (.fieldLink RX12 135 "TextMenderModel" "workMany" "I") (List.mem_of_getElem? (i := 1) rfl)) (fun _ h9 => h9) rfl (by decide +kernel) rfl rfl (Nat.le_of_ble_eq_true rfl) dX12_takeSpan_4 (kW (wn := [(oM, .inr (12, [.ref mT, .int zt, .ref mS, .ref mX, .int zp, .int zf, .ref mL, .ref mB, .ref mD, .ref m1, .ref m2, .int zh, .ref mR, .int zr, .ref x1, .ref x2, .ref x3, .int zc, .ref mH, .int zy, .int za, .int zb, .int zs, .int zq, .int zw, .int ze, .ref mY, .int zn, .ref mE, .int zm, .int zl, .ref mW, .int x_1, .ref mO, .int zd, .ref y1, .ref y2, .ref y3, .ref y4, .ref mZ])), (mY, .inl (cI, 2600, .inl eY)), (mB, .inl (cS, 131072, .inl eB)), (mL, .inl (cI, 512, .inl eL)), (mE, .inl (cI, 2600, .inl eE)), (mW, .inl (cI, 300, .inl eW)), (mO, .inl (cI, 300, .inl eO)), (mS, .inl (cI, 21, .inl eS)), (mX, .inl (cI, 6300, .inl eX)), (m1, .inl (cI, 6, .inl e1)), (m2, .inl (cI, 6, .inl e2))]) rfl (fun H locs hPn hDn hSn => ?_))
  clear hP hD hS
  have hP := hPn
  have hD := hDn
  have hS := hSn
  clear hPn hDn hSn
  refine lv_iload_n hx hb dX12_takeSpan_7 rfl (lv_at hl 1 rfl) ?_
  refine lv_istore (lv' := [(4, .int fo), (0, .ref oM), (1, .int fo), (2, .int to_), (3, .int ha)]) hx hb dX12_takeSpan_8 hl (by decide) rfl (fun ls hl => ?_)
  have LOOP_10 : ∀ (k_10 : Nat) (k : Int32) (eWa : Nat → Int32) (H : Heap) (locs : List Loc) (ls : Array Slot), MSd (300 - k.toInt : Int) k_10 → (0 ≤ k.toInt ∧ k.toInt ≤ 300) → (rg 0 65535 eWa) → (fo.toInt ≤ k.toInt ∧ k.toInt ≤ to_.toInt) → (∀ j : Nat, (j : Int) < k.toInt - fo.toInt → eWa j = eX (fo.toNatClampNeg + j)) → va_P (dC, dI) vwCl [(oM, .inr (12, [.ref mT, .int zt, .ref mS, .ref mX, .int zp, .int zf, .ref mL, .ref mB, .ref mD, .ref m1, .ref m2, .int zh, .ref mR, .int zr, .ref x1, .ref x2, .ref x3, .int zc, .ref mH, .int zy, .int za, .int zb, .int zs, .int zq, .int zw, .int ze, .ref mY, .int zn, .ref mE, .int zm, .int zl, .ref mW, .int x_1, .ref mO, .int zd, .ref y1, .ref y2, .ref y3, .ref y4, .ref mZ])), (mY, .inl (cI, 2600, .inl eY)), (mB, .inl (cS, 131072, .inl eB)), (mL, .inl (cI, 512, .inl eL)), (mE, .inl (cI, 2600, .inl eE)), (mW, .inl (cI, 300, .inl eWa)), (mO, .inl (cI, 300, .inl eO)), (mS, .inl (cI, 21, .inl eS)), (mX, .inl (cI, 6300, .inl eX)), (m1, .inl (cI, 6, .inl e1)), (m2, .inl (cI, 6, .inl e2))] H → va_D A [(oM, .inr (12, [.ref mT, .int zt, .ref mS, .ref mX, .int zp, .int zf, .ref mL, .ref mB, .ref mD, .ref m1, .ref m2, .int zh, .ref mR, .int zr, .ref x1, .ref x2, .ref x3, .int zc, .ref mH, .int zy, .int za, .int zb, .int zs, .int zq, .int zw, .int ze, .ref mY, .int zn, .ref mE, .int zm, .int zl, .ref mW, .int x_1, .ref mO, .int zd, .ref y1, .ref y2, .ref y3, .ref y4, .ref mZ])), (mY, .inl (cI, 2600, .inl eY)), (mB, .inl (cS, 131072, .inl eB)), (mL, .inl (cI, 512, .inl eL)), (mE, .inl (cI, 2600, .inl eE)), (mW, .inl (cI, 300, .inl eWa)), (mO, .inl (cI, 300, .inl eO)), (mS, .inl (cI, 21, .inl eS)), (mX, .inl (cI, 6300, .inl eX)), (m1, .inl (cI, 6, .inl e1)), (m2, .inl (cI, 6, .inl e2))] → va_S A s.heap H locs → lv_has ls 5 [(4, .int k), (0, .ref oM), (1, .int fo), (2, .int to_), (3, .int ha)] → W p l e (headSpec wsX12_takeSpan ({ frames := 5, cells := 0, slots := 0, locals := 120 } : Room)).room s m ([.ref oM, .int fo, .int to_, .int ha] : List Value).toArray below meth c H locs 0 0 (MQ below QQ ([.ref oM, .int fo, .int to_, .int ha] : List Value).toArray s 0 0 A) (F0 m 10 ls []) := by
    clear hP hD hS hl
    intro k_10
    induction k_10 with
    | zero =>
      intro k eWa H locs ls hm_10 g_k g_eWa hkf hcp hP hD hS hl
      exact ms_0 hm_10
    | succ k_10 ih_10 =>
      intro k eWa H locs ls hm_10 g_k g_eWa hkf hcp hP hD hS hl
      refine lv_iload hx hb dX12_takeSpan_10 (lv_at hl 0 rfl) ?_
      refine lv_iload_n hx hb dX12_takeSpan_12 rfl (lv_at hl 3 rfl) ?_
      refine lv_icmp_ge (tgt := 38) hx hb dX12_takeSpan_13 (by decide) (fun c_2 => ?_) (fun c_2 => ?_)
      · have tc_2 : to_.toInt ≤ k.toInt := v_le c_2
        refine lv_iload_n hx hb dX12_takeSpan_38 rfl (lv_at hl 4 rfl) ?_
        refine lv_iconst (v := (-1)) hx hb dX12_takeSpan_39 (by decide) ?_
        refine lv_icmp_eq (tgt := 62) hx hb dX12_takeSpan_40 (by decide) (fun c_3 => ?_) (fun c_3 => ?_)
        · have tc_3 : ha.toInt = (-1) := v_eq c_3
          refine lv_iconst (v := 1) hx hb dX12_takeSpan_62 (by decide) ?_
          refine lv_goto (tgt := 67) hx hb dX12_takeSpan_63 (by decide) ?_
          exact kl_z (v := 1) hQQ hx hb hr hlocks hS dX12_takeSpan_67 (rfl) ⟨zn, eY, zd, zm, zl, eE, x_1, eWa, eO, ⟨hP, hD⟩, g_zn, g_eY, g_zm, g_eE, by omega, g_eWa, g_eO, by decide, ts_as rfl (by omega) (by omega) (fun k9 hk9 => hcp k9 (by omega)) (by omega)⟩
        · have tc_3 : ¬ ha.toInt = (-1) := v_ne c_3
          refine lv_aload_n hx hb dX12_takeSpan_43 rfl (lv_at hl 1 rfl) ?_
          refine lv_aload_n hx hb dX12_takeSpan_44 rfl (lv_at hl 1 rfl) ?_
          refine va_get (D := (dC, dI)) (ci := 12) (v := .ref m1) (C := RX12) (T := TX12) (N := 40) hx hb hts in_X12 hown hK hP 0 rfl rfl 9 (by decide) (hts (.fieldLink RX12 30 "TextMenderModel" "harmA" "[I") (List.mem_of_getElem? (i := 4) rfl)) (fun _ h9 => h9) rfl dX12_takeSpan_45 ?_
          refine lv_iload_n hx hb dX12_takeSpan_48 rfl (lv_at hl 4 rfl) ?_
          refine va_iald hx hb hK hP 9 0 rfl rfl (v_in (by omega)) dX12_takeSpan_49 ?_
          refine lv_topi (fun x_4 ex_4 => ?_)
          have tx_4 : 0 ≤ x_4.toInt ∧ x_4.toInt ≤ 5 := rg_at g_e1 ex_4
          refine lv_aload_n hx hb dX12_takeSpan_50 rfl (lv_at hl 1 rfl) ?_
          refine va_get (D := (dC, dI)) (ci := 12) (v := .ref m2) (C := RX12) (T := TX12) (N := 40) hx hb hts in_X12 hown hK hP 0 rfl rfl 10 (by decide) (hts (.fieldLink RX12 33 "TextMenderModel" "harmB" "[I") (List.mem_of_getElem? (i := 5) rfl)) (fun _ h9 => h9) rfl dX12_takeSpan_51 ?_
          refine lv_iload_n hx hb dX12_takeSpan_54 rfl (lv_at hl 4 rfl) ?_
          refine va_iald hx hb hK hP 10 0 rfl rfl (v_in (by omega)) dX12_takeSpan_55 ?_
          refine lv_topi (fun x_5 ex_5 => ?_)
          have tx_5 : 0 ≤ x_5.toInt ∧ x_5.toInt ≤ 5 := rg_at g_e2 ex_5
          refine kV_i (rest := []) (q0 := 0) (ci := 12) hcf (f_X12_undoes l dC dI cI cS H.size oM mT mS mX mL mB mD m1 m2 mR x1 x2 x3 mH mY mE mW mO y1 y2 y3 y4 mZ zt zp zf zh zr zc zy za zb zs zq zw ze zn zm zl x_1 zd eY eB eL eE eWa eO x_4 x_5 (g_zt) (g_zp) (g_zf) (g_zh) (g_zr) (g_zc) (g_zy) (g_za) (g_zb) (g_zs) (g_zq) (g_zn) (g_zm) (by omega) (g_eY) (g_eB) (g_eL) (g_eE) (g_eWa) (g_eO) (v_rr tx_4 (by decide) (by decide)) (v_rr tx_5 (by decide) (by decide)) (fun j hj => by rw [hcp j (by omega)]; exact hxl _ (by omega)) (hlb)) kc_X12_undoes gX12_takeSpan_X12_undoes rfl rfl rfl ⟨Nat.le_of_ble_eq_true rfl, Nat.le_of_ble_eq_true rfl⟩ kX_t hK hP hD hS hA [0, 1, 2, 3, 4, 5, 6] [7, 8, 9, 10] rfl (by decide +kernel) rfl rfl rfl hl rfl (Nat.le_of_ble_eq_true rfl) dX12_takeSpan_56 ⟨Nat.le_of_ble_eq_true rfl, Nat.le_of_ble_eq_true rfl⟩ (fun r_6 H locs hB hJ hSn => ?_)
          obtain ⟨zn_6, eY_6, zd_6, zm_6, zl_6, eE_6, zk_6, eW_6, eO_6, ⟨hP1, hD1⟩, hf6_0, hf6_1, hf6_2, hf6_3, hf6_4, hf6_5, hf6_6, hf6_7, hf6_8⟩ := hB
          obtain ⟨hPn, hDn⟩ := hJ _ hP1 hD1 [(mS, .inl (cI, 21, .inl eS)), (mX, .inl (cI, 6300, .inl eX)), (m1, .inl (cI, 6, .inl e1)), (m2, .inl (cI, 6, .inl e2)), (oM, .inr (12, [.ref mT, .int zt, .ref mS, .ref mX, .int zp, .int zf, .ref mL, .ref mB, .ref mD, .ref m1, .ref m2, .int zh, .ref mR, .int zr, .ref x1, .ref x2, .ref x3, .int zc, .ref mH, .int zy, .int za, .int zb, .int zs, .int zq, .int zw, .int ze, .ref mY, .int zn_6, .ref mE, .int zm_6, .int zl_6, .ref mW, .int zk_6, .ref mO, .int zd_6, .ref y1, .ref y2, .ref y3, .ref y4, .ref mZ])), (mY, .inl (cI, 2600, .inl eY_6)), (mB, .inl (cS, 131072, .inl eB)), (mL, .inl (cI, 512, .inl eL)), (mE, .inl (cI, 2600, .inl eE_6)), (mW, .inl (cI, 300, .inl eW_6)), (mO, .inl (cI, 300, .inl eO_6))] rfl
          clear hP hD hS hJ hP1 hD1
          have hP := hPn
          have hD := hDn
          have hS := hSn
          clear hPn hDn hSn
          refine lv_if_eq (tgt := 66) hx hb dX12_takeSpan_59 (by decide) (fun c_7 => ?_) (fun c_7 => ?_)
          · have tc_7 : r_6.toInt = 0 := v_eq c_7
            refine lv_iconst (v := 0) hx hb dX12_takeSpan_66 (by decide) ?_
            exact kl_z (v := 0) hQQ hx hb hr hlocks hS dX12_takeSpan_67 (rfl) ⟨zn_6, eY_6, zd_6, zm_6, zl_6, eE_6, zk_6, eW_6, eO_6, kPD_sub hP hD [4, 5, 6, 7, 8, 9, 10, 0, 1, 2, 3] (by decide +kernel) rfl, hf6_0, hf6_1, hf6_2, hf6_3, hf6_4, hf6_5, hf6_6, by decide, ts_un hU (to_ur (h := ha.toNatClampNeg) hf6_8 ex_4 ex_5 rfl) (by have c9 := v_clamp (x := ha) (by omega); omega) (by omega) (fun p9 hp9 => hcp p9 (by omega)) (by omega) (by omega)⟩
          · have tc_7 : ¬ r_6.toInt = 0 := v_ne c_7
            refine lv_iconst (v := 1) hx hb dX12_takeSpan_62 (by decide) ?_
            refine lv_goto (tgt := 67) hx hb dX12_takeSpan_63 (by decide) ?_
            exact kl_z (v := 1) hQQ hx hb hr hlocks hS dX12_takeSpan_67 (rfl) ⟨zn_6, eY_6, zd_6, zm_6, zl_6, eE_6, zk_6, eW_6, eO_6, kPD_sub hP hD [4, 5, 6, 7, 8, 9, 10, 0, 1, 2, 3] (by decide +kernel) rfl, hf6_0, hf6_1, hf6_2, hf6_3, hf6_4, hf6_5, hf6_6, by decide, ts_un hU (to_ur (h := ha.toNatClampNeg) hf6_8 ex_4 ex_5 rfl) (by have c9 := v_clamp (x := ha) (by omega); omega) (by omega) (fun p9 hp9 => hcp p9 (by omega)) (by omega) (by omega)⟩
      · have tc_2 : k.toInt < to_.toInt := v_nle c_2
        refine lv_aload_n hx hb dX12_takeSpan_16 rfl (lv_at hl 1 rfl) ?_
        refine va_get (D := (dC, dI)) (ci := 12) (v := .ref mW) (C := RX12) (T := TX12) (N := 40) hx hb hts in_X12 hown hK hP 0 rfl rfl 31 (by decide) (hts (.fieldLink RX12 64 "TextMenderModel" "work" "[I") (List.mem_of_getElem? (i := 2) rfl)) (fun _ h9 => h9) rfl dX12_takeSpan_17 ?_
        refine lv_iload hx hb dX12_takeSpan_20 (lv_at hl 0 rfl) ?_
        refine lv_iload_n hx hb dX12_takeSpan_22 rfl (lv_at hl 2 rfl) ?_
        refine lv_isub hx hb dX12_takeSpan_23 ?_
        refine lv_topi (fun x_8 ex_8 => ?_)
        have tx_8 : x_8.toInt = k.toInt - fo.toInt := v_subR ex_8 g_k g_fo (by decide) (by decide)
        refine lv_aload_n hx hb dX12_takeSpan_24 rfl (lv_at hl 1 rfl) ?_
        refine va_get (D := (dC, dI)) (ci := 12) (v := .ref mX) (C := RX12) (T := TX12) (N := 40) hx hb hts in_X12 hown hK hP 0 rfl rfl 3 (by decide) (hts (.fieldLink RX12 16 "TextMenderModel" "texts" "[I") (List.mem_of_getElem? (i := 3) rfl)) (fun _ h9 => h9) rfl dX12_takeSpan_25 ?_
        refine lv_iload hx hb dX12_takeSpan_28 (lv_at hl 0 rfl) ?_
        refine va_iald hx hb hK hP 8 0 rfl rfl (v_inR g_k (by decide) (by decide)) dX12_takeSpan_30 ?_
        refine lv_topi (fun x_9 ex_9 => ?_)
        have tx_9 : 0 ≤ x_9.toInt ∧ x_9.toInt ≤ 65535 := rg_at g_eX ex_9
        obtain ⟨f_10, ef_10⟩ : ∃ g : Nat → Int32, g = upd eWa (x_8 : Int32).toNatClampNeg x_9 := ⟨_, rfl⟩
        refine va_iast hx hb hK hP hD hS 5 0 rfl rfl (v_in (by omega)) dX12_takeSpan_31 (kWf (g := f_10) (F := fun f_10 => [(oM, .inr (12, [.ref mT, .int zt, .ref mS, .ref mX, .int zp, .int zf, .ref mL, .ref mB, .ref mD, .ref m1, .ref m2, .int zh, .ref mR, .int zr, .ref x1, .ref x2, .ref x3, .int zc, .ref mH, .int zy, .int za, .int zb, .int zs, .int zq, .int zw, .int ze, .ref mY, .int zn, .ref mE, .int zm, .int zl, .ref mW, .int x_1, .ref mO, .int zd, .ref y1, .ref y2, .ref y3, .ref y4, .ref mZ])), (mY, .inl (cI, 2600, .inl eY)), (mB, .inl (cS, 131072, .inl eB)), (mL, .inl (cI, 512, .inl eL)), (mE, .inl (cI, 2600, .inl eE)), (mW, .inl (cI, 300, .inl f_10)), (mO, .inl (cI, 300, .inl eO)), (mS, .inl (cI, 21, .inl eS)), (mX, .inl (cI, 6300, .inl eX)), (m1, .inl (cI, 6, .inl e1)), (m2, .inl (cI, 6, .inl e2))]) ef_10 rfl (fun H locs hPn hDn hSn => ?_))
        clear hP hD hS
        have hP := hPn
        have hD := hDn
        have hS := hSn
        clear hPn hDn hSn
        have g_f10 : rg 0 65535 f_10 := rg_upd ef_10 g_eWa (by omega)
        obtain ⟨x_11, ex_11⟩ : ∃ y : Int32, y = k + 1 := ⟨_, rfl⟩
        have tx_11 : x_11.toInt = k.toInt + 1 := v_addR (l2 := 1) (h2 := 1) ex_11 g_k (by decide) (by decide) (by decide)
        refine lv_iinc (v := x_11) (lv' := [(4, .int x_11), (0, .ref oM), (1, .int fo), (2, .int to_), (3, .int ha)]) hx hb dX12_takeSpan_32 hl (k := 0) rfl (by rw [ex_11]; rfl) (by decide) rfl (fun ls hl => ?_)
        refine lv_goto (tgt := 10) hx hb dX12_takeSpan_35 (by decide) ?_
        exact ih_10 x_11 f_10 _ _ _ (ms_lt hm_10 (by show ((300 - x_11.toInt : Int)) < 300 - k.toInt; omega) (by show (0 : Int) < 300 - k.toInt; omega)) (by show 0 ≤ x_11.toInt ∧ x_11.toInt ≤ 300; omega) (g_f10) (by show fo.toInt ≤ x_11.toInt ∧ x_11.toInt ≤ to_.toInt; omega) (tsp_s hcp (by omega) ex_9 ef_10 (by omega) (by omega) (by omega)) hP hD hS (lv_sub hl [0, 1, 2, 3, 4] rfl)
  exact LOOP_10 _ fo eW _ _ _ (ms_s _) (g_fo) (g_eW) (by show fo.toInt ≤ fo.toInt ∧ fo.toInt ≤ to_.toInt; omega) (fun j hj => by omega) hP hD hS (lv_sub hl [0, 1, 2, 3, 4] rfl)

end

/-! 5e.a.rows -/
section
set_option maxRecDepth 100000 in
theorem dA327_cX12_parts : kDec cX12_parts [(0, .aload_n 0, 1), (1, .iconst 0, 1), (2, .putfield 85, 3), (5, .aload_n 0, 1), (6, .iconst (-1), 1), (7, .putfield 55, 3), (10, .aload_n 0, 1), (11, .getfield 13, 3), (14, .iconst 0, 1), (15, .iaload, 1), (16, .istore_n 2, 1), (17, .iload_n 2, 1), (18, .iconst 1, 1), (19, .if_icmp .lt 20, 3), (39, .iconst (-1), 1), (40, .ireturn, 1), (22, .iload_n 2, 1), (23, .bipush 60, 2), (25, .if_icmp .gt 14, 3), (28, .iload_n 1, 1), (29, .ifCond .lt 10, 3), (32, .iload_n 1, 1), (33, .sipush 1000, 3), (36, .if_icmp .le 5, 3)] = true := by decide +kernel
theorem dX12_parts_0 : decode cX12_parts 0 = .ok (.aload_n 0, 1) := kDec_at dA327_cX12_parts 0 rfl
theorem dX12_parts_1 : decode cX12_parts 1 = .ok (.iconst 0, 1) := kDec_at dA327_cX12_parts 1 rfl
theorem dX12_parts_2 : decode cX12_parts 2 = .ok (.putfield 85, 3) := kDec_at dA327_cX12_parts 2 rfl
theorem dX12_parts_5 : decode cX12_parts 5 = .ok (.aload_n 0, 1) := kDec_at dA327_cX12_parts 3 rfl
theorem dX12_parts_6 : decode cX12_parts 6 = .ok (.iconst (-1), 1) := kDec_at dA327_cX12_parts 4 rfl
theorem dX12_parts_7 : decode cX12_parts 7 = .ok (.putfield 55, 3) := kDec_at dA327_cX12_parts 5 rfl
theorem dX12_parts_10 : decode cX12_parts 10 = .ok (.aload_n 0, 1) := kDec_at dA327_cX12_parts 6 rfl
theorem dX12_parts_11 : decode cX12_parts 11 = .ok (.getfield 13, 3) := kDec_at dA327_cX12_parts 7 rfl
theorem dX12_parts_14 : decode cX12_parts 14 = .ok (.iconst 0, 1) := kDec_at dA327_cX12_parts 8 rfl
theorem dX12_parts_15 : decode cX12_parts 15 = .ok (.iaload, 1) := kDec_at dA327_cX12_parts 9 rfl
theorem dX12_parts_16 : decode cX12_parts 16 = .ok (.istore_n 2, 1) := kDec_at dA327_cX12_parts 10 rfl
theorem dX12_parts_17 : decode cX12_parts 17 = .ok (.iload_n 2, 1) := kDec_at dA327_cX12_parts 11 rfl
theorem dX12_parts_18 : decode cX12_parts 18 = .ok (.iconst 1, 1) := kDec_at dA327_cX12_parts 12 rfl
theorem dX12_parts_19 : decode cX12_parts 19 = .ok (.if_icmp .lt 20, 3) := kDec_at dA327_cX12_parts 13 rfl
theorem dX12_parts_39 : decode cX12_parts 39 = .ok (.iconst (-1), 1) := kDec_at dA327_cX12_parts 14 rfl
theorem dX12_parts_40 : decode cX12_parts 40 = .ok (.ireturn, 1) := kDec_at dA327_cX12_parts 15 rfl
theorem dX12_parts_22 : decode cX12_parts 22 = .ok (.iload_n 2, 1) := kDec_at dA327_cX12_parts 16 rfl
theorem dX12_parts_23 : decode cX12_parts 23 = .ok (.bipush 60, 2) := kDec_at dA327_cX12_parts 17 rfl
theorem dX12_parts_25 : decode cX12_parts 25 = .ok (.if_icmp .gt 14, 3) := kDec_at dA327_cX12_parts 18 rfl
theorem dX12_parts_28 : decode cX12_parts 28 = .ok (.iload_n 1, 1) := kDec_at dA327_cX12_parts 19 rfl
theorem dX12_parts_29 : decode cX12_parts 29 = .ok (.ifCond .lt 10, 3) := kDec_at dA327_cX12_parts 20 rfl
theorem dX12_parts_32 : decode cX12_parts 32 = .ok (.iload_n 1, 1) := kDec_at dA327_cX12_parts 21 rfl
theorem dX12_parts_33 : decode cX12_parts 33 = .ok (.sipush 1000, 3) := kDec_at dA327_cX12_parts 22 rfl
theorem dX12_parts_36 : decode cX12_parts 36 = .ok (.if_icmp .le 5, 3) := kDec_at dA327_cX12_parts 23 rfl
set_option maxRecDepth 100000 in
theorem dA328_cX12_parts : kDec cX12_parts [(41, .iload_n 2, 1), (42, .iconst 1, 1), (43, .isub, 1), (44, .istore_n 3, 1), (45, .iload_n 3, 1), (46, .ifCond .lt 197, 3), (243, .iconst 0, 1), (244, .istore_n 3, 1), (245, .iconst 0, 1), (246, .istore 4, 2), (248, .iload 4, 2), (250, .iload_n 2, 1), (251, .if_icmp .ge 86, 3), (337, .aload_n 0, 1), (338, .getfield 73, 3), (341, .iconst 0, 1), (342, .iaload, 1), (343, .istore 4, 2), (345, .aload_n 0, 1), (346, .aload_n 0, 1), (347, .getfield 82, 3), (350, .iload_n 3, 1), (351, .invokevirtual 154, 3), (354, .iload 4, 2)] = true := by decide +kernel
theorem dX12_parts_41 : decode cX12_parts 41 = .ok (.iload_n 2, 1) := kDec_at dA328_cX12_parts 0 rfl
theorem dX12_parts_42 : decode cX12_parts 42 = .ok (.iconst 1, 1) := kDec_at dA328_cX12_parts 1 rfl
theorem dX12_parts_43 : decode cX12_parts 43 = .ok (.isub, 1) := kDec_at dA328_cX12_parts 2 rfl
theorem dX12_parts_44 : decode cX12_parts 44 = .ok (.istore_n 3, 1) := kDec_at dA328_cX12_parts 3 rfl
theorem dX12_parts_45 : decode cX12_parts 45 = .ok (.iload_n 3, 1) := kDec_at dA328_cX12_parts 4 rfl
theorem dX12_parts_46 : decode cX12_parts 46 = .ok (.ifCond .lt 197, 3) := kDec_at dA328_cX12_parts 5 rfl
theorem dX12_parts_243 : decode cX12_parts 243 = .ok (.iconst 0, 1) := kDec_at dA328_cX12_parts 6 rfl
theorem dX12_parts_244 : decode cX12_parts 244 = .ok (.istore_n 3, 1) := kDec_at dA328_cX12_parts 7 rfl
theorem dX12_parts_245 : decode cX12_parts 245 = .ok (.iconst 0, 1) := kDec_at dA328_cX12_parts 8 rfl
theorem dX12_parts_246 : decode cX12_parts 246 = .ok (.istore 4, 2) := kDec_at dA328_cX12_parts 9 rfl
theorem dX12_parts_248 : decode cX12_parts 248 = .ok (.iload 4, 2) := kDec_at dA328_cX12_parts 10 rfl
theorem dX12_parts_250 : decode cX12_parts 250 = .ok (.iload_n 2, 1) := kDec_at dA328_cX12_parts 11 rfl
theorem dX12_parts_251 : decode cX12_parts 251 = .ok (.if_icmp .ge 86, 3) := kDec_at dA328_cX12_parts 12 rfl
theorem dX12_parts_337 : decode cX12_parts 337 = .ok (.aload_n 0, 1) := kDec_at dA328_cX12_parts 13 rfl
theorem dX12_parts_338 : decode cX12_parts 338 = .ok (.getfield 73, 3) := kDec_at dA328_cX12_parts 14 rfl
theorem dX12_parts_341 : decode cX12_parts 341 = .ok (.iconst 0, 1) := kDec_at dA328_cX12_parts 15 rfl
theorem dX12_parts_342 : decode cX12_parts 342 = .ok (.iaload, 1) := kDec_at dA328_cX12_parts 16 rfl
theorem dX12_parts_343 : decode cX12_parts 343 = .ok (.istore 4, 2) := kDec_at dA328_cX12_parts 17 rfl
theorem dX12_parts_345 : decode cX12_parts 345 = .ok (.aload_n 0, 1) := kDec_at dA328_cX12_parts 18 rfl
theorem dX12_parts_346 : decode cX12_parts 346 = .ok (.aload_n 0, 1) := kDec_at dA328_cX12_parts 19 rfl
theorem dX12_parts_347 : decode cX12_parts 347 = .ok (.getfield 82, 3) := kDec_at dA328_cX12_parts 20 rfl
theorem dX12_parts_350 : decode cX12_parts 350 = .ok (.iload_n 3, 1) := kDec_at dA328_cX12_parts 21 rfl
theorem dX12_parts_351 : decode cX12_parts 351 = .ok (.invokevirtual 154, 3) := kDec_at dA328_cX12_parts 22 rfl
theorem dX12_parts_354 : decode cX12_parts 354 = .ok (.iload 4, 2) := kDec_at dA328_cX12_parts 23 rfl
set_option maxRecDepth 20000 in
theorem ggX12_parts_X12_become : GoodIn wsX12_parts wsX12_become := goodIn_r _ [89, 90, 91, 3, 17, 92, 93, 94, 95, 96, 97, 98, 99, 100, 101, 102, 103, 104, 105, 106, 107, 108, 109, 110, 111, 112, 113, 114, 115, 116, 117, 118, 119, 120, 121, 122, 123, 124, 125, 126, 127, 128, 129, 130, 131, 132] rfl (by decide +kernel)
set_option maxRecDepth 20000 in
theorem gX12_parts_X12_become : GoodIn wsX12_parts (wsV RX12 154 RX12 yX12_become wsX12_become) := goodIn_app (goodIn_r _ [86, 87, 88, 15] rfl (by decide +kernel)) ggX12_parts_X12_become
set_option maxRecDepth 100000 in
theorem dA329_cX12_parts : kDec cX12_parts [(356, .ireturn, 1), (254, .aload_n 0, 1), (255, .iload 4, 2), (257, .aload_n 0, 1), (258, .getfield 76, 3), (261, .iload 4, 2), (263, .iaload, 1), (264, .aload_n 0, 1), (265, .getfield 79, 3), (268, .iload 4, 2), (270, .iaload, 1), (271, .invokevirtual 199, 3), (274, .pop, 1), (275, .iconst 0, 1), (276, .istore 5, 2), (278, .iload 5, 2), (280, .aload_n 0, 1), (281, .getfield 135, 3), (284, .if_icmp .ge 25, 3), (309, .iload_n 3, 1), (310, .aload_n 0, 1), (311, .getfield 135, 3), (314, .iadd, 1), (315, .istore_n 3, 1)] = true := by decide +kernel
theorem dX12_parts_356 : decode cX12_parts 356 = .ok (.ireturn, 1) := kDec_at dA329_cX12_parts 0 rfl
theorem dX12_parts_254 : decode cX12_parts 254 = .ok (.aload_n 0, 1) := kDec_at dA329_cX12_parts 1 rfl
theorem dX12_parts_255 : decode cX12_parts 255 = .ok (.iload 4, 2) := kDec_at dA329_cX12_parts 2 rfl
theorem dX12_parts_257 : decode cX12_parts 257 = .ok (.aload_n 0, 1) := kDec_at dA329_cX12_parts 3 rfl
theorem dX12_parts_258 : decode cX12_parts 258 = .ok (.getfield 76, 3) := kDec_at dA329_cX12_parts 4 rfl
theorem dX12_parts_261 : decode cX12_parts 261 = .ok (.iload 4, 2) := kDec_at dA329_cX12_parts 5 rfl
theorem dX12_parts_263 : decode cX12_parts 263 = .ok (.iaload, 1) := kDec_at dA329_cX12_parts 6 rfl
theorem dX12_parts_264 : decode cX12_parts 264 = .ok (.aload_n 0, 1) := kDec_at dA329_cX12_parts 7 rfl
theorem dX12_parts_265 : decode cX12_parts 265 = .ok (.getfield 79, 3) := kDec_at dA329_cX12_parts 8 rfl
theorem dX12_parts_268 : decode cX12_parts 268 = .ok (.iload 4, 2) := kDec_at dA329_cX12_parts 9 rfl
theorem dX12_parts_270 : decode cX12_parts 270 = .ok (.iaload, 1) := kDec_at dA329_cX12_parts 10 rfl
theorem dX12_parts_271 : decode cX12_parts 271 = .ok (.invokevirtual 199, 3) := kDec_at dA329_cX12_parts 11 rfl
theorem dX12_parts_274 : decode cX12_parts 274 = .ok (.pop, 1) := kDec_at dA329_cX12_parts 12 rfl
theorem dX12_parts_275 : decode cX12_parts 275 = .ok (.iconst 0, 1) := kDec_at dA329_cX12_parts 13 rfl
theorem dX12_parts_276 : decode cX12_parts 276 = .ok (.istore 5, 2) := kDec_at dA329_cX12_parts 14 rfl
theorem dX12_parts_278 : decode cX12_parts 278 = .ok (.iload 5, 2) := kDec_at dA329_cX12_parts 15 rfl
theorem dX12_parts_280 : decode cX12_parts 280 = .ok (.aload_n 0, 1) := kDec_at dA329_cX12_parts 16 rfl
theorem dX12_parts_281 : decode cX12_parts 281 = .ok (.getfield 135, 3) := kDec_at dA329_cX12_parts 17 rfl
theorem dX12_parts_284 : decode cX12_parts 284 = .ok (.if_icmp .ge 25, 3) := kDec_at dA329_cX12_parts 18 rfl
theorem dX12_parts_309 : decode cX12_parts 309 = .ok (.iload_n 3, 1) := kDec_at dA329_cX12_parts 19 rfl
theorem dX12_parts_310 : decode cX12_parts 310 = .ok (.aload_n 0, 1) := kDec_at dA329_cX12_parts 20 rfl
theorem dX12_parts_311 : decode cX12_parts 311 = .ok (.getfield 135, 3) := kDec_at dA329_cX12_parts 21 rfl
theorem dX12_parts_314 : decode cX12_parts 314 = .ok (.iadd, 1) := kDec_at dA329_cX12_parts 22 rfl
theorem dX12_parts_315 : decode cX12_parts 315 = .ok (.istore_n 3, 1) := kDec_at dA329_cX12_parts 23 rfl
set_option maxRecDepth 20000 in
theorem ggX12_parts_X12_takeSpan : GoodIn wsX12_parts wsX12_takeSpan := goodIn_r _ [16, 7, 6, 17, 18, 19, 20, 21, 22, 15, 23, 24, 25, 26, 27, 28, 29, 30, 31, 32, 33, 34, 35, 36, 37, 38, 39, 40, 41, 42, 43, 44, 45, 46, 47, 48, 49, 50, 51, 52, 53, 54, 55, 56, 57, 58, 59, 60, 61, 62, 63, 64, 65, 66, 67, 68, 69, 70, 93, 94, 95, 96, 97, 98, 99, 100, 101, 102, 103, 104, 105, 106, 107, 108, 109, 110, 111, 112, 113, 114, 115, 116, 117, 118, 119, 120, 121, 122, 123, 124, 125, 126, 127, 128, 129, 130, 131, 132] rfl (by decide +kernel)
set_option maxRecDepth 20000 in
theorem gX12_parts_X12_takeSpan : GoodIn wsX12_parts (wsV RX12 199 RX12 yX12_takeSpan wsX12_takeSpan) := goodIn_app (goodIn_r _ [12, 13, 14, 15] rfl (by decide +kernel)) ggX12_parts_X12_takeSpan
set_option maxRecDepth 100000 in
theorem dA330_cX12_parts : kDec cX12_parts [(316, .iload_n 3, 1), (317, .sipush 300, 3), (320, .if_icmp .le 5, 3), (325, .aload_n 0, 1), (326, .getfield 76, 3), (329, .iload 4, 2), (331, .iaload, 1), (332, .istore 4, 2), (334, .goto (-86), 3), (323, .iconst (-1), 1), (324, .ireturn, 1), (287, .aload_n 0, 1), (288, .getfield 82, 3), (291, .iload_n 3, 1), (292, .iload 5, 2), (294, .iadd, 1), (295, .aload_n 0, 1), (296, .getfield 64, 3), (299, .iload 5, 2), (301, .iaload, 1), (302, .iastore, 1), (303, .iinc 5 1, 3), (306, .goto (-28), 3), (49, .aload_n 0, 1)] = true := by decide +kernel
theorem dX12_parts_316 : decode cX12_parts 316 = .ok (.iload_n 3, 1) := kDec_at dA330_cX12_parts 0 rfl
theorem dX12_parts_317 : decode cX12_parts 317 = .ok (.sipush 300, 3) := kDec_at dA330_cX12_parts 1 rfl
theorem dX12_parts_320 : decode cX12_parts 320 = .ok (.if_icmp .le 5, 3) := kDec_at dA330_cX12_parts 2 rfl
theorem dX12_parts_325 : decode cX12_parts 325 = .ok (.aload_n 0, 1) := kDec_at dA330_cX12_parts 3 rfl
theorem dX12_parts_326 : decode cX12_parts 326 = .ok (.getfield 76, 3) := kDec_at dA330_cX12_parts 4 rfl
theorem dX12_parts_329 : decode cX12_parts 329 = .ok (.iload 4, 2) := kDec_at dA330_cX12_parts 5 rfl
theorem dX12_parts_331 : decode cX12_parts 331 = .ok (.iaload, 1) := kDec_at dA330_cX12_parts 6 rfl
theorem dX12_parts_332 : decode cX12_parts 332 = .ok (.istore 4, 2) := kDec_at dA330_cX12_parts 7 rfl
theorem dX12_parts_334 : decode cX12_parts 334 = .ok (.goto (-86), 3) := kDec_at dA330_cX12_parts 8 rfl
theorem dX12_parts_323 : decode cX12_parts 323 = .ok (.iconst (-1), 1) := kDec_at dA330_cX12_parts 9 rfl
theorem dX12_parts_324 : decode cX12_parts 324 = .ok (.ireturn, 1) := kDec_at dA330_cX12_parts 10 rfl
theorem dX12_parts_287 : decode cX12_parts 287 = .ok (.aload_n 0, 1) := kDec_at dA330_cX12_parts 11 rfl
theorem dX12_parts_288 : decode cX12_parts 288 = .ok (.getfield 82, 3) := kDec_at dA330_cX12_parts 12 rfl
theorem dX12_parts_291 : decode cX12_parts 291 = .ok (.iload_n 3, 1) := kDec_at dA330_cX12_parts 13 rfl
theorem dX12_parts_292 : decode cX12_parts 292 = .ok (.iload 5, 2) := kDec_at dA330_cX12_parts 14 rfl
theorem dX12_parts_294 : decode cX12_parts 294 = .ok (.iadd, 1) := kDec_at dA330_cX12_parts 15 rfl
theorem dX12_parts_295 : decode cX12_parts 295 = .ok (.aload_n 0, 1) := kDec_at dA330_cX12_parts 16 rfl
theorem dX12_parts_296 : decode cX12_parts 296 = .ok (.getfield 64, 3) := kDec_at dA330_cX12_parts 17 rfl
theorem dX12_parts_299 : decode cX12_parts 299 = .ok (.iload 5, 2) := kDec_at dA330_cX12_parts 18 rfl
theorem dX12_parts_301 : decode cX12_parts 301 = .ok (.iaload, 1) := kDec_at dA330_cX12_parts 19 rfl
theorem dX12_parts_302 : decode cX12_parts 302 = .ok (.iastore, 1) := kDec_at dA330_cX12_parts 20 rfl
theorem dX12_parts_303 : decode cX12_parts 303 = .ok (.iinc 5 1, 3) := kDec_at dA330_cX12_parts 21 rfl
theorem dX12_parts_306 : decode cX12_parts 306 = .ok (.goto (-28), 3) := kDec_at dA330_cX12_parts 22 rfl
theorem dX12_parts_49 : decode cX12_parts 49 = .ok (.aload_n 0, 1) := kDec_at dA330_cX12_parts 23 rfl
set_option maxRecDepth 100000 in
theorem dA331_cX12_parts : kDec cX12_parts [(50, .getfield 73, 3), (53, .iload_n 3, 1), (54, .iconst 0, 1), (55, .iastore, 1), (56, .iload_n 2, 1), (57, .istore 4, 2), (59, .iload 4, 2), (61, .iload_n 3, 1), (62, .if_icmp .le 175, 3), (237, .iinc 3 (-1), 3), (240, .goto (-195), 3), (65, .iconst (-1), 1), (66, .istore 5, 2), (68, .iload 5, 2), (70, .aload_n 0, 1), (71, .getfield 161, 3), (74, .if_icmp .ge 157, 3), (231, .iinc 4 (-1), 3), (234, .goto (-175), 3), (77, .aload_n 0, 1), (78, .iload_n 3, 1), (79, .iload 4, 2), (81, .iload 5, 2), (83, .invokevirtual 199, 3)] = true := by decide +kernel
theorem dX12_parts_50 : decode cX12_parts 50 = .ok (.getfield 73, 3) := kDec_at dA331_cX12_parts 0 rfl
theorem dX12_parts_53 : decode cX12_parts 53 = .ok (.iload_n 3, 1) := kDec_at dA331_cX12_parts 1 rfl
theorem dX12_parts_54 : decode cX12_parts 54 = .ok (.iconst 0, 1) := kDec_at dA331_cX12_parts 2 rfl
theorem dX12_parts_55 : decode cX12_parts 55 = .ok (.iastore, 1) := kDec_at dA331_cX12_parts 3 rfl
theorem dX12_parts_56 : decode cX12_parts 56 = .ok (.iload_n 2, 1) := kDec_at dA331_cX12_parts 4 rfl
theorem dX12_parts_57 : decode cX12_parts 57 = .ok (.istore 4, 2) := kDec_at dA331_cX12_parts 5 rfl
theorem dX12_parts_59 : decode cX12_parts 59 = .ok (.iload 4, 2) := kDec_at dA331_cX12_parts 6 rfl
theorem dX12_parts_61 : decode cX12_parts 61 = .ok (.iload_n 3, 1) := kDec_at dA331_cX12_parts 7 rfl
theorem dX12_parts_62 : decode cX12_parts 62 = .ok (.if_icmp .le 175, 3) := kDec_at dA331_cX12_parts 8 rfl
theorem dX12_parts_237 : decode cX12_parts 237 = .ok (.iinc 3 (-1), 3) := kDec_at dA331_cX12_parts 9 rfl
theorem dX12_parts_240 : decode cX12_parts 240 = .ok (.goto (-195), 3) := kDec_at dA331_cX12_parts 10 rfl
theorem dX12_parts_65 : decode cX12_parts 65 = .ok (.iconst (-1), 1) := kDec_at dA331_cX12_parts 11 rfl
theorem dX12_parts_66 : decode cX12_parts 66 = .ok (.istore 5, 2) := kDec_at dA331_cX12_parts 12 rfl
theorem dX12_parts_68 : decode cX12_parts 68 = .ok (.iload 5, 2) := kDec_at dA331_cX12_parts 13 rfl
theorem dX12_parts_70 : decode cX12_parts 70 = .ok (.aload_n 0, 1) := kDec_at dA331_cX12_parts 14 rfl
theorem dX12_parts_71 : decode cX12_parts 71 = .ok (.getfield 161, 3) := kDec_at dA331_cX12_parts 15 rfl
theorem dX12_parts_74 : decode cX12_parts 74 = .ok (.if_icmp .ge 157, 3) := kDec_at dA331_cX12_parts 16 rfl
theorem dX12_parts_231 : decode cX12_parts 231 = .ok (.iinc 4 (-1), 3) := kDec_at dA331_cX12_parts 17 rfl
theorem dX12_parts_234 : decode cX12_parts 234 = .ok (.goto (-175), 3) := kDec_at dA331_cX12_parts 18 rfl
theorem dX12_parts_77 : decode cX12_parts 77 = .ok (.aload_n 0, 1) := kDec_at dA331_cX12_parts 19 rfl
theorem dX12_parts_78 : decode cX12_parts 78 = .ok (.iload_n 3, 1) := kDec_at dA331_cX12_parts 20 rfl
theorem dX12_parts_79 : decode cX12_parts 79 = .ok (.iload 4, 2) := kDec_at dA331_cX12_parts 21 rfl
theorem dX12_parts_81 : decode cX12_parts 81 = .ok (.iload 5, 2) := kDec_at dA331_cX12_parts 22 rfl
theorem dX12_parts_83 : decode cX12_parts 83 = .ok (.invokevirtual 199, 3) := kDec_at dA331_cX12_parts 23 rfl
set_option maxRecDepth 100000 in
theorem dA332_cX12_parts : kDec cX12_parts [(86, .ifCond .ne 6, 3), (92, .aload_n 0, 1), (93, .aload_n 0, 1), (94, .getfield 64, 3), (97, .iconst 0, 1), (98, .aload_n 0, 1), (99, .getfield 135, 3), (102, .invokevirtual 189, 3), (105, .iload 4, 2), (107, .iload_n 2, 1), (108, .if_icmp .ge 15, 3), (123, .iconst 0, 1), (124, .iadd, 1), (125, .istore 6, 2), (127, .iconst 1, 1), (128, .iload 4, 2), (130, .iload_n 2, 1), (131, .if_icmp .ge 13, 3), (144, .iconst 0, 1), (145, .iadd, 1), (146, .istore 7, 2), (148, .aload_n 0, 1), (149, .getfield 73, 3), (152, .iload_n 3, 1)] = true := by decide +kernel
theorem dX12_parts_86 : decode cX12_parts 86 = .ok (.ifCond .ne 6, 3) := kDec_at dA332_cX12_parts 0 rfl
theorem dX12_parts_92 : decode cX12_parts 92 = .ok (.aload_n 0, 1) := kDec_at dA332_cX12_parts 1 rfl
theorem dX12_parts_93 : decode cX12_parts 93 = .ok (.aload_n 0, 1) := kDec_at dA332_cX12_parts 2 rfl
theorem dX12_parts_94 : decode cX12_parts 94 = .ok (.getfield 64, 3) := kDec_at dA332_cX12_parts 3 rfl
theorem dX12_parts_97 : decode cX12_parts 97 = .ok (.iconst 0, 1) := kDec_at dA332_cX12_parts 4 rfl
theorem dX12_parts_98 : decode cX12_parts 98 = .ok (.aload_n 0, 1) := kDec_at dA332_cX12_parts 5 rfl
theorem dX12_parts_99 : decode cX12_parts 99 = .ok (.getfield 135, 3) := kDec_at dA332_cX12_parts 6 rfl
theorem dX12_parts_102 : decode cX12_parts 102 = .ok (.invokevirtual 189, 3) := kDec_at dA332_cX12_parts 7 rfl
theorem dX12_parts_105 : decode cX12_parts 105 = .ok (.iload 4, 2) := kDec_at dA332_cX12_parts 8 rfl
theorem dX12_parts_107 : decode cX12_parts 107 = .ok (.iload_n 2, 1) := kDec_at dA332_cX12_parts 9 rfl
theorem dX12_parts_108 : decode cX12_parts 108 = .ok (.if_icmp .ge 15, 3) := kDec_at dA332_cX12_parts 10 rfl
theorem dX12_parts_123 : decode cX12_parts 123 = .ok (.iconst 0, 1) := kDec_at dA332_cX12_parts 11 rfl
theorem dX12_parts_124 : decode cX12_parts 124 = .ok (.iadd, 1) := kDec_at dA332_cX12_parts 12 rfl
theorem dX12_parts_125 : decode cX12_parts 125 = .ok (.istore 6, 2) := kDec_at dA332_cX12_parts 13 rfl
theorem dX12_parts_127 : decode cX12_parts 127 = .ok (.iconst 1, 1) := kDec_at dA332_cX12_parts 14 rfl
theorem dX12_parts_128 : decode cX12_parts 128 = .ok (.iload 4, 2) := kDec_at dA332_cX12_parts 15 rfl
theorem dX12_parts_130 : decode cX12_parts 130 = .ok (.iload_n 2, 1) := kDec_at dA332_cX12_parts 16 rfl
theorem dX12_parts_131 : decode cX12_parts 131 = .ok (.if_icmp .ge 13, 3) := kDec_at dA332_cX12_parts 17 rfl
theorem dX12_parts_144 : decode cX12_parts 144 = .ok (.iconst 0, 1) := kDec_at dA332_cX12_parts 18 rfl
theorem dX12_parts_145 : decode cX12_parts 145 = .ok (.iadd, 1) := kDec_at dA332_cX12_parts 19 rfl
theorem dX12_parts_146 : decode cX12_parts 146 = .ok (.istore 7, 2) := kDec_at dA332_cX12_parts 20 rfl
theorem dX12_parts_148 : decode cX12_parts 148 = .ok (.aload_n 0, 1) := kDec_at dA332_cX12_parts 21 rfl
theorem dX12_parts_149 : decode cX12_parts 149 = .ok (.getfield 73, 3) := kDec_at dA332_cX12_parts 22 rfl
theorem dX12_parts_152 : decode cX12_parts 152 = .ok (.iload_n 3, 1) := kDec_at dA332_cX12_parts 23 rfl
set_option maxRecDepth 20000 in
theorem ggX12_parts_X12_costOf_ : GoodIn wsX12_parts wsX12_costOf_ := goodIn_r _ [74, 75, 76, 77, 15, 78, 79, 80, 81, 82, 83, 84, 85, 93, 94, 95, 96, 97, 98, 99, 100, 101, 102, 103, 104, 105, 106, 107, 108, 109, 110, 111, 112, 113, 114, 115, 116, 117, 118, 119, 120, 121, 122, 123, 124, 125, 126, 127, 128, 129, 130, 131, 132] rfl (by decide +kernel)
set_option maxRecDepth 20000 in
theorem gX12_parts_X12_costOf_ : GoodIn wsX12_parts (wsV RX12 189 RX12 yX12_costOf_ wsX12_costOf_) := goodIn_app (goodIn_r _ [71, 72, 73, 15] rfl (by decide +kernel)) ggX12_parts_X12_costOf_
set_option maxRecDepth 100000 in
theorem dA333_cX12_parts : kDec cX12_parts [(153, .iaload, 1), (154, .ifCond .le 39, 3), (193, .aload_n 0, 1), (194, .getfield 70, 3), (197, .iload_n 3, 1), (198, .iload 6, 2), (200, .iastore, 1), (201, .aload_n 0, 1), (202, .getfield 73, 3), (205, .iload_n 3, 1), (206, .iload 7, 2), (208, .iastore, 1), (209, .aload_n 0, 1), (210, .getfield 76, 3), (213, .iload_n 3, 1), (214, .iload 4, 2), (216, .iastore, 1), (217, .aload_n 0, 1), (218, .getfield 79, 3), (221, .iload_n 3, 1), (222, .iload 5, 2), (224, .iastore, 1), (225, .iinc 5 1, 3), (228, .goto (-160), 3)] = true := by decide +kernel
theorem dX12_parts_153 : decode cX12_parts 153 = .ok (.iaload, 1) := kDec_at dA333_cX12_parts 0 rfl
theorem dX12_parts_154 : decode cX12_parts 154 = .ok (.ifCond .le 39, 3) := kDec_at dA333_cX12_parts 1 rfl
theorem dX12_parts_193 : decode cX12_parts 193 = .ok (.aload_n 0, 1) := kDec_at dA333_cX12_parts 2 rfl
theorem dX12_parts_194 : decode cX12_parts 194 = .ok (.getfield 70, 3) := kDec_at dA333_cX12_parts 3 rfl
theorem dX12_parts_197 : decode cX12_parts 197 = .ok (.iload_n 3, 1) := kDec_at dA333_cX12_parts 4 rfl
theorem dX12_parts_198 : decode cX12_parts 198 = .ok (.iload 6, 2) := kDec_at dA333_cX12_parts 5 rfl
theorem dX12_parts_200 : decode cX12_parts 200 = .ok (.iastore, 1) := kDec_at dA333_cX12_parts 6 rfl
theorem dX12_parts_201 : decode cX12_parts 201 = .ok (.aload_n 0, 1) := kDec_at dA333_cX12_parts 7 rfl
theorem dX12_parts_202 : decode cX12_parts 202 = .ok (.getfield 73, 3) := kDec_at dA333_cX12_parts 8 rfl
theorem dX12_parts_205 : decode cX12_parts 205 = .ok (.iload_n 3, 1) := kDec_at dA333_cX12_parts 9 rfl
theorem dX12_parts_206 : decode cX12_parts 206 = .ok (.iload 7, 2) := kDec_at dA333_cX12_parts 10 rfl
theorem dX12_parts_208 : decode cX12_parts 208 = .ok (.iastore, 1) := kDec_at dA333_cX12_parts 11 rfl
theorem dX12_parts_209 : decode cX12_parts 209 = .ok (.aload_n 0, 1) := kDec_at dA333_cX12_parts 12 rfl
theorem dX12_parts_210 : decode cX12_parts 210 = .ok (.getfield 76, 3) := kDec_at dA333_cX12_parts 13 rfl
theorem dX12_parts_213 : decode cX12_parts 213 = .ok (.iload_n 3, 1) := kDec_at dA333_cX12_parts 14 rfl
theorem dX12_parts_214 : decode cX12_parts 214 = .ok (.iload 4, 2) := kDec_at dA333_cX12_parts 15 rfl
theorem dX12_parts_216 : decode cX12_parts 216 = .ok (.iastore, 1) := kDec_at dA333_cX12_parts 16 rfl
theorem dX12_parts_217 : decode cX12_parts 217 = .ok (.aload_n 0, 1) := kDec_at dA333_cX12_parts 17 rfl
theorem dX12_parts_218 : decode cX12_parts 218 = .ok (.getfield 79, 3) := kDec_at dA333_cX12_parts 18 rfl
theorem dX12_parts_221 : decode cX12_parts 221 = .ok (.iload_n 3, 1) := kDec_at dA333_cX12_parts 19 rfl
theorem dX12_parts_222 : decode cX12_parts 222 = .ok (.iload 5, 2) := kDec_at dA333_cX12_parts 20 rfl
theorem dX12_parts_224 : decode cX12_parts 224 = .ok (.iastore, 1) := kDec_at dA333_cX12_parts 21 rfl
theorem dX12_parts_225 : decode cX12_parts 225 = .ok (.iinc 5 1, 3) := kDec_at dA333_cX12_parts 22 rfl
theorem dX12_parts_228 : decode cX12_parts 228 = .ok (.goto (-160), 3) := kDec_at dA333_cX12_parts 23 rfl
set_option maxRecDepth 100000 in
theorem dA334_cX12_parts : kDec cX12_parts [(157, .iload 6, 2), (159, .aload_n 0, 1), (160, .getfield 70, 3), (163, .iload_n 3, 1), (164, .iaload, 1), (165, .if_icmp .gt 60, 3), (168, .iload 6, 2), (170, .aload_n 0, 1), (171, .getfield 70, 3), (174, .iload_n 3, 1), (175, .iaload, 1), (176, .if_icmp .ne 17, 3), (179, .iload 7, 2), (181, .aload_n 0, 1), (182, .getfield 73, 3), (185, .iload_n 3, 1), (186, .iaload, 1), (187, .if_icmp .lt 6, 3), (190, .goto 35, 3), (111, .iload_n 1, 1), (112, .aload_n 0, 1), (113, .getfield 70, 3), (116, .iload 4, 2), (118, .iaload, 1)] = true := by decide +kernel
theorem dX12_parts_157 : decode cX12_parts 157 = .ok (.iload 6, 2) := kDec_at dA334_cX12_parts 0 rfl
theorem dX12_parts_159 : decode cX12_parts 159 = .ok (.aload_n 0, 1) := kDec_at dA334_cX12_parts 1 rfl
theorem dX12_parts_160 : decode cX12_parts 160 = .ok (.getfield 70, 3) := kDec_at dA334_cX12_parts 2 rfl
theorem dX12_parts_163 : decode cX12_parts 163 = .ok (.iload_n 3, 1) := kDec_at dA334_cX12_parts 3 rfl
theorem dX12_parts_164 : decode cX12_parts 164 = .ok (.iaload, 1) := kDec_at dA334_cX12_parts 4 rfl
theorem dX12_parts_165 : decode cX12_parts 165 = .ok (.if_icmp .gt 60, 3) := kDec_at dA334_cX12_parts 5 rfl
theorem dX12_parts_168 : decode cX12_parts 168 = .ok (.iload 6, 2) := kDec_at dA334_cX12_parts 6 rfl
theorem dX12_parts_170 : decode cX12_parts 170 = .ok (.aload_n 0, 1) := kDec_at dA334_cX12_parts 7 rfl
theorem dX12_parts_171 : decode cX12_parts 171 = .ok (.getfield 70, 3) := kDec_at dA334_cX12_parts 8 rfl
theorem dX12_parts_174 : decode cX12_parts 174 = .ok (.iload_n 3, 1) := kDec_at dA334_cX12_parts 9 rfl
theorem dX12_parts_175 : decode cX12_parts 175 = .ok (.iaload, 1) := kDec_at dA334_cX12_parts 10 rfl
theorem dX12_parts_176 : decode cX12_parts 176 = .ok (.if_icmp .ne 17, 3) := kDec_at dA334_cX12_parts 11 rfl
theorem dX12_parts_179 : decode cX12_parts 179 = .ok (.iload 7, 2) := kDec_at dA334_cX12_parts 12 rfl
theorem dX12_parts_181 : decode cX12_parts 181 = .ok (.aload_n 0, 1) := kDec_at dA334_cX12_parts 13 rfl
theorem dX12_parts_182 : decode cX12_parts 182 = .ok (.getfield 73, 3) := kDec_at dA334_cX12_parts 14 rfl
theorem dX12_parts_185 : decode cX12_parts 185 = .ok (.iload_n 3, 1) := kDec_at dA334_cX12_parts 15 rfl
theorem dX12_parts_186 : decode cX12_parts 186 = .ok (.iaload, 1) := kDec_at dA334_cX12_parts 16 rfl
theorem dX12_parts_187 : decode cX12_parts 187 = .ok (.if_icmp .lt 6, 3) := kDec_at dA334_cX12_parts 17 rfl
theorem dX12_parts_190 : decode cX12_parts 190 = .ok (.goto 35, 3) := kDec_at dA334_cX12_parts 18 rfl
theorem dX12_parts_111 : decode cX12_parts 111 = .ok (.iload_n 1, 1) := kDec_at dA334_cX12_parts 19 rfl
theorem dX12_parts_112 : decode cX12_parts 112 = .ok (.aload_n 0, 1) := kDec_at dA334_cX12_parts 20 rfl
theorem dX12_parts_113 : decode cX12_parts 113 = .ok (.getfield 70, 3) := kDec_at dA334_cX12_parts 21 rfl
theorem dX12_parts_116 : decode cX12_parts 116 = .ok (.iload 4, 2) := kDec_at dA334_cX12_parts 22 rfl
theorem dX12_parts_118 : decode cX12_parts 118 = .ok (.iaload, 1) := kDec_at dA334_cX12_parts 23 rfl
set_option maxRecDepth 100000 in
theorem dA335_cX12_parts : kDec cX12_parts [(119, .iadd, 1), (120, .goto 4, 3), (134, .aload_n 0, 1), (135, .getfield 73, 3), (138, .iload 4, 2), (140, .iaload, 1), (141, .goto 4, 3), (89, .goto 136, 3)] = true := by decide +kernel
theorem dX12_parts_119 : decode cX12_parts 119 = .ok (.iadd, 1) := kDec_at dA335_cX12_parts 0 rfl
theorem dX12_parts_120 : decode cX12_parts 120 = .ok (.goto 4, 3) := kDec_at dA335_cX12_parts 1 rfl
theorem dX12_parts_134 : decode cX12_parts 134 = .ok (.aload_n 0, 1) := kDec_at dA335_cX12_parts 2 rfl
theorem dX12_parts_135 : decode cX12_parts 135 = .ok (.getfield 73, 3) := kDec_at dA335_cX12_parts 3 rfl
theorem dX12_parts_138 : decode cX12_parts 138 = .ok (.iload 4, 2) := kDec_at dA335_cX12_parts 4 rfl
theorem dX12_parts_140 : decode cX12_parts 140 = .ok (.iaload, 1) := kDec_at dA335_cX12_parts 5 rfl
theorem dX12_parts_141 : decode cX12_parts 141 = .ok (.goto 4, 3) := kDec_at dA335_cX12_parts 6 rfl
theorem dX12_parts_89 : decode cX12_parts 89 = .ok (.goto 136, 3) := kDec_at dA335_cX12_parts 7 rfl

end
