/-! 5g.chs -/
section
set_option maxHeartbeats 40000000 in
set_option maxRecDepth 100000 in
theorem f_X5_set (l : Launch) (dC : Nat → ClassId) (dI : Nat → Nat → Nat) (cI cS : ClassId) (sz : Nat) (nu : Nat) (au : Nat) (cap : Nat) (lu : Int32) (fu : Nat → Int32) (i : Int32) (v : Int32) (g_lu : 0 ≤ lu.toInt ∧ lu.toInt ≤ (cap : Int)) (hcap : cap ≤ 2400) : kMv l yX5_set wsX5_set ({ frames := 0, cells := 0, slots := 0, locals := 0 } : Room) [.ref nu, .int i, .int v] sz (dC, dI) vwCl [(cI, .int), (cS, .short)] [(nu, .inr (5, [.ref au, .int lu])), (au, .inl (cI, cap, .inl fu))] (fun _ => True) 0 0 (fun (A : Nat → Prop) (hh9 : Heap) => ∀ PZ9 : Prop, (∀ (fu' : Nat → Int32), kPD (dC, dI) vwCl A [(nu, .inr (5, [.ref au, .int lu])), (au, .inl (cI, cap, .inl fu'))] hh9 → (F_set lu i v fu fu') → PZ9) → PZ9) := by
  refine kMv_of (cc := cX5_set) (maxL := 3) (ret := none) (lv := [(0, .ref nu), (1, .int i), (2, .int v)]) (by decide +kernel) rfl rfl (Nat.le_of_ble_eq_true rfl) ?_
  intro p e s m below meth c A QQ ls hx hb hr hts hml hown hlocks hA hQQ hK hX hP hD hS hl
  have hown : s.vm.findClass RX5 = some m.cls := hown
  have hcf := k_cf hx hb hml hown hts
  have in_X5 : ∀ w ∈ wsX50, w ∈ wsX5_set := fun _ h => List.mem_cons_of_mem _ (List.mem_append_right _ (h))
  refine lv_iload_n hx hb dX5_set_0 rfl (lv_at hl 1 rfl) ?_
  refine lv_if_lt (tgt := 19) hx hb dX5_set_1 (by decide) (fun c_1 => ?_) (fun c_1 => ?_)
  · have tc_1 : i.toInt < 0 := v_lt c_1
    exact kl_v hQQ hx hb hr hlocks hS dX5_set_19 (fun PZ9 kZ9 => kZ9 fu (⟨hP, hD⟩) (Or.inr ⟨by omega, rfl⟩))
  · have tc_1 : 0 ≤ i.toInt := v_nlt c_1
    refine lv_iload_n hx hb dX5_set_4 rfl (lv_at hl 1 rfl) ?_
    refine lv_aload_n hx hb dX5_set_5 rfl (lv_at hl 0 rfl) ?_
    refine va_get (D := (dC, dI)) (ci := 5) (v := .int lu) (C := RX5) (T := TX5) (N := 2) hx hb hts in_X5 hown hK hP 0 rfl rfl 1 (Nat.le_of_ble_eq_true rfl) (hts (.fieldLink RX5 21 "TextMender$Numbers" "length" "I") (List.mem_of_getElem? (i := 1) rfl)) (fun _ h9 => h9) rfl dX5_set_6 ?_
    refine lv_icmp_ge (tgt := 19) hx hb dX5_set_9 (by decide) (fun c_2 => ?_) (fun c_2 => ?_)
    · have tc_2 : lu.toInt ≤ i.toInt := v_le c_2
      have rw2_0 := v_rng i
      exact kl_v hQQ hx hb hr hlocks hS dX5_set_19 (fun PZ9 kZ9 => kZ9 fu (⟨hP, hD⟩) (Or.inr ⟨by omega, rfl⟩))
    · have tc_2 : i.toInt < lu.toInt := v_nle c_2
      have rw2_0 := v_rng i
      refine lv_aload_n hx hb dX5_set_12 rfl (lv_at hl 0 rfl) ?_
      refine va_get (D := (dC, dI)) (ci := 5) (v := .ref au) (C := RX5) (T := TX5) (N := 2) hx hb hts in_X5 hown hK hP 0 rfl rfl 0 (Nat.le_of_ble_eq_true rfl) (hts (.fieldLink RX5 15 "TextMender$Numbers" "numbers" "[I") (List.mem_of_getElem? (i := 2) rfl)) (fun _ h9 => h9) rfl dX5_set_13 ?_
      refine lv_iload_n hx hb dX5_set_16 rfl (lv_at hl 1 rfl) ?_
      refine lv_iload_n hx hb dX5_set_17 rfl (lv_at hl 2 rfl) ?_
      obtain ⟨f_3, ef_3⟩ : ∃ g : Nat → Int32, g = upd fu (i : Int32).toNatClampNeg v := ⟨_, rfl⟩
      refine va_iast hx hb hK hP hD hS 1 0 rfl rfl (v_in (by omega)) dX5_set_18 (kWf (g := f_3) (F := fun f_3 => [(nu, .inr (5, [.ref au, .int lu])), (au, .inl (cI, cap, .inl f_3))]) ef_3 rfl (fun H locs hPn hDn hSn => ?_))
      clear hP hD hS
      have hP := hPn
      have hD := hDn
      have hS := hSn
      clear hPn hDn hSn
      exact kl_v hQQ hx hb hr hlocks hS dX5_set_19 (fun PZ9 kZ9 => kZ9 f_3 (⟨hP, hD⟩) (Or.inl ⟨by omega, by omega, ef_3⟩))

theorem LO_e {b l fm lm : Int32} {Bf : Int32 → Int32} {f g : Nat → Int32} {i i' : Nat} (h : LOI b Bf f i l g fm lm) (e : i = i') : LOI b Bf f i' l g fm lm := by rw [← e]; exact h

set_option maxHeartbeats 40000000 in
set_option maxRecDepth 100000 in
theorem f_X1_layOut (l : Launch) (dC : Nat → ClassId) (dI : Nat → Nat → Nat) (cI cS : ClassId) (sz : Nat) (oW : Nat) (nx : Nat) (oC : Nat) (oK : Nat) (nw : Nat) (w1 : Nat) (w2 : Nat) (w3 : Nat) (o7 : Nat) (o8 : Nat) (o9 : Nat) (w4 : Nat) (w5 : Nat) (w6 : Nat) (w7 : Nat) (aw : Nat) (o4 : Nat) (o5 : Nat) (a41 : Nat) (a42 : Nat) (a43 : Nat) (a51 : Nat) (a52 : Nat) (a53 : Nat) (ax : Nat) (ke : Int32) (tl : Int32) (fsh : Int32) (wi : Int32) (ri : Int32) (fm : Int32) (lm : Int32) (lw : Int32) (fw : Nat → Int32) (l4 : Int32) (f42 : Nat → Int32) (f43 : Nat → Int32) (l5 : Int32) (f52 : Nat → Int32) (f53 : Nat → Int32) (lx : Int32) (fx : Nat → Int32) (cd : Int32) (g_ke : 0 ≤ ke.toInt ∧ ke.toInt ≤ 200) (g_fsh : 0 ≤ fsh.toInt ∧ fsh.toInt ≤ 1) (g_fm : -1 ≤ fm.toInt ∧ fm.toInt ≤ 800) (g_lm : -1 ≤ lm.toInt ∧ lm.toInt ≤ 800) (g_lw : 0 ≤ lw.toInt ∧ lw.toInt ≤ 800) (g_lx : 0 ≤ lx.toInt ∧ lx.toInt ≤ 300) (hl100 : lx.toInt ≤ 100) (hlt : prg lx.toInt 0 65535 fx) (hT4 : HT 512 511 hsT f42 f43) (ho4 : (occ f43 512 : Int) ≤ 511) (hT5 : HT 512 511 hsT f52 f53) (ho5 : (occ f53 512 : Int) ≤ 511) : kMi l yX1_layOut wsX1_layOut ({ frames := 3, cells := 0, slots := 0, locals := 71 } : Room) [.ref oW, .int cd, .ref nx] sz (dC, dI) vwCl [(cI, .int), (cS, .short)] [(oW, .inr (1, [.ref oC, .ref oK, .ref nw, .ref w1, .ref w2, .ref w3, .ref o7, .ref o8, .ref o9, .ref w4, .ref w5, .ref w6, .ref w7, .int ke, .int tl, .int fsh, .int wi, .int ri, .int fm, .int lm])), (nw, .inr (5, [.ref aw, .int lw])), (aw, .inl (cI, 800, .inl fw)), (oC, .inr (2, [.ref o4, .ref o5])), (o4, .inr (10, [.ref a41, .ref a42, .ref a43, .int l4])), (a42, .inl (cI, 512, .inl f42)), (a43, .inl (cI, 512, .inl f43)), (o5, .inr (10, [.ref a51, .ref a52, .ref a53, .int l5])), (a52, .inl (cI, 512, .inl f52)), (a53, .inl (cI, 512, .inl f53)), (nx, .inr (5, [.ref ax, .int lx])), (ax, .inl (cI, 300, .inl fx))] (fun _ => True) 0 0 (fun (A : Nat → Prop) (r : Int32) (hh9 : Heap) => ∀ PZ9 : Prop, (∀ (lw' : Int32) (fw' : Nat → Int32) (fm' : Int32) (lm' : Int32), kPD (dC, dI) vwCl A [(oW, .inr (1, [.ref oC, .ref oK, .ref nw, .ref w1, .ref w2, .ref w3, .ref o7, .ref o8, .ref o9, .ref w4, .ref w5, .ref w6, .ref w7, .int ke, .int tl, .int fsh, .int wi, .int ri, .int fm', .int lm'])), (nw, .inr (5, [.ref aw, .int lw'])), (aw, .inl (cI, 800, .inl fw')), (oC, .inr (2, [.ref o4, .ref o5])), (o4, .inr (10, [.ref a41, .ref a42, .ref a43, .int l4])), (a42, .inl (cI, 512, .inl f42)), (a43, .inl (cI, 512, .inl f43)), (o5, .inr (10, [.ref a51, .ref a52, .ref a53, .int l5])), (a52, .inl (cI, 512, .inl f52)), (a53, .inl (cI, 512, .inl f53)), (nx, .inr (5, [.ref ax, .int lx])), (ax, .inl (cI, 300, .inl fx))] hh9 → (0 ≤ lw'.toInt ∧ lw'.toInt ≤ 800) → (-1 ≤ fm'.toInt ∧ fm'.toInt ≤ 800) → (-1 ≤ lm'.toInt ∧ lm'.toInt ≤ 800) → (-1 ≤ r.toInt ∧ r.toInt ≤ 299) → (F_lo r lw' fm' lm' fw' cd (Bc cd f42 f43 f52 f53) fx lx.toInt) → PZ9) → PZ9) := by
  refine kMi_of (cc := cX1_layOut) (maxL := 4) (ret := (some .int)) (lv := [(0, .ref oW), (1, .int cd), (2, .ref nx)]) (by decide +kernel) rfl rfl (Nat.le_of_ble_eq_true rfl) ?_
  intro p e s m below meth c A QQ ls hx hb hr hts hml hown hlocks hA hQQ hK hX hP hD hS hl
  have hown : s.vm.findClass RX1 = some m.cls := hown
  have hcf := k_cf hx hb hml hown hts
  have in_X1 : ∀ w ∈ wsX10, w ∈ wsX1_layOut := fun _ h => List.mem_cons_of_mem _ (List.mem_append_left _ (List.mem_append_left _ (List.mem_append_left _ (List.mem_append_left _ (List.mem_append_left _ (List.mem_append_left _ (List.mem_append_left _ (List.mem_append_left _ (List.mem_append_right _ (h))))))))))
  replace g_ke := hid g_ke
  replace g_fsh := hid g_fsh
  replace g_fm := hid g_fm
  replace g_lm := hid g_lm
  have z0 : (0 : Int32).toInt = 0 := rfl
  have z1 : (1 : Int32).toInt = 1 := rfl
  have zm1 : (-1 : Int32).toInt = -1 := rfl
  refine lv_aload_n hx hb dX1_layOut_0 rfl (lv_at hl 0 rfl) ?_
  refine va_get (D := (dC, dI)) (ci := 1) (v := .ref nw) (C := RX1) (T := TX1) (N := 20) hx hb hts in_X1 hown hK hP 0 rfl rfl 2 (Nat.le_of_ble_eq_true rfl) (hts (.fieldLink RX1 16 "TextMender$Choices" "bytes" "LTextMender$Numbers;") (List.mem_of_getElem? (i := 1) rfl)) (fun _ h9 => h9) rfl dX1_layOut_1 ?_
  refine lv_iconst (v := 0) hx hb dX1_layOut_4 (by decide) ?_
  refine kV_v (rest := []) (q0 := 0) (ci := 5) hcf (m_X5_cut l dC dI cI cS s.heap.size nw aw lw 0 (v_rr g_lw (by decide) (by decide))) kc_X5_cut gX1_layOut_X5_cut rfl rfl rfl ⟨Nat.le_of_ble_eq_true rfl, Nat.le_of_ble_eq_true rfl⟩ kX_t hK hP hD hS hA (posT mk_8 0) (posF mk_8 0) (kC_of mk_8 rfl rfl) (by decide +kernel) rfl rfl rfl hl rfl (Nat.le_of_ble_eq_true rfl) dX1_layOut_5 ⟨Nat.le_of_ble_eq_true rfl, Nat.le_of_ble_eq_true rfl⟩ (fun H locs hB hJ hSn => ?_)
  refine hB _ (fun lu_1 hPD9 hf1_0 hf1_1 hf1_2 => ?_)
  clear hB
  obtain ⟨hPn, hDn⟩ := kJi (m := mk_8) hJ rfl hPD9.1 hPD9.2 (wn := [(oW, .inr (1, [.ref oC, .ref oK, .ref nw, .ref w1, .ref w2, .ref w3, .ref o7, .ref o8, .ref o9, .ref w4, .ref w5, .ref w6, .ref w7, .int ke, .int tl, .int fsh, .int wi, .int ri, .int fm, .int lm])), (nw, .inr (5, [.ref aw, .int lu_1])), (aw, .inl (cI, 800, .inl fw)), (oC, .inr (2, [.ref o4, .ref o5])), (o4, .inr (10, [.ref a41, .ref a42, .ref a43, .int l4])), (a42, .inl (cI, 512, .inl f42)), (a43, .inl (cI, 512, .inl f43)), (o5, .inr (10, [.ref a51, .ref a52, .ref a53, .int l5])), (a52, .inl (cI, 512, .inl f52)), (a53, .inl (cI, 512, .inl f53)), (nx, .inr (5, [.ref ax, .int lx])), (ax, .inl (cI, 300, .inl fx))]) rfl
  clear hP hD hS hJ hPD9
  have hP := hPn
  have hD := hDn
  have hS := hSn
  clear hPn hDn hSn
  have ha1 : lu_1.toInt = 0 := F_cut_l hf1_2 (by first | decide | omega) (by first | omega | (show (0 : Int) ≤ _; omega))
  refine lv_aload_n hx hb dX1_layOut_8 rfl (lv_at hl 0 rfl) ?_
  refine lv_iconst (v := (-1)) hx hb dX1_layOut_9 (by decide) ?_
  refine va_put (D := (dC, dI)) (ci := 1) (v := .int (-1)) (ty := .int) (C := RX1) (T := TX1) (N := 20) hx hb hts in_X1 tyX1 tyX1_ok nmX1 hown hK hP hD hS 0 rfl rfl 18 (Nat.le_of_ble_eq_true rfl) (hts (.fieldLink RX1 82 "TextMender$Choices" "firstMark" "I") (List.mem_of_getElem? (i := 2) rfl)) (fun _ h9 => h9) rfl (tyX1_ok 18 (Nat.le_of_ble_eq_true rfl)) rfl rfl (Nat.le_of_ble_eq_true rfl) dX1_layOut_10 (kW (wn := [(oW, .inr (1, [.ref oC, .ref oK, .ref nw, .ref w1, .ref w2, .ref w3, .ref o7, .ref o8, .ref o9, .ref w4, .ref w5, .ref w6, .ref w7, .int ke, .int tl, .int fsh, .int wi, .int ri, .int (-1), .int lm])), (nw, .inr (5, [.ref aw, .int lu_1])), (aw, .inl (cI, 800, .inl fw)), (oC, .inr (2, [.ref o4, .ref o5])), (o4, .inr (10, [.ref a41, .ref a42, .ref a43, .int l4])), (a42, .inl (cI, 512, .inl f42)), (a43, .inl (cI, 512, .inl f43)), (o5, .inr (10, [.ref a51, .ref a52, .ref a53, .int l5])), (a52, .inl (cI, 512, .inl f52)), (a53, .inl (cI, 512, .inl f53)), (nx, .inr (5, [.ref ax, .int lx])), (ax, .inl (cI, 300, .inl fx))]) rfl (fun H locs hPn hDn hSn => ?_))
  clear hP hD hS
  have hP := hPn
  have hD := hDn
  have hS := hSn
  clear hPn hDn hSn
  refine lv_aload_n hx hb dX1_layOut_13 rfl (lv_at hl 0 rfl) ?_
  refine lv_iconst (v := (-1)) hx hb dX1_layOut_14 (by decide) ?_
  refine va_put (D := (dC, dI)) (ci := 1) (v := .int (-1)) (ty := .int) (C := RX1) (T := TX1) (N := 20) hx hb hts in_X1 tyX1 tyX1_ok nmX1 hown hK hP hD hS 0 rfl rfl 19 (Nat.le_of_ble_eq_true rfl) (hts (.fieldLink RX1 85 "TextMender$Choices" "lastMark" "I") (List.mem_of_getElem? (i := 3) rfl)) (fun _ h9 => h9) rfl (tyX1_ok 19 (Nat.le_of_ble_eq_true rfl)) rfl rfl (Nat.le_of_ble_eq_true rfl) dX1_layOut_15 (kW (wn := [(oW, .inr (1, [.ref oC, .ref oK, .ref nw, .ref w1, .ref w2, .ref w3, .ref o7, .ref o8, .ref o9, .ref w4, .ref w5, .ref w6, .ref w7, .int ke, .int tl, .int fsh, .int wi, .int ri, .int (-1), .int (-1)])), (nw, .inr (5, [.ref aw, .int lu_1])), (aw, .inl (cI, 800, .inl fw)), (oC, .inr (2, [.ref o4, .ref o5])), (o4, .inr (10, [.ref a41, .ref a42, .ref a43, .int l4])), (a42, .inl (cI, 512, .inl f42)), (a43, .inl (cI, 512, .inl f43)), (o5, .inr (10, [.ref a51, .ref a52, .ref a53, .int l5])), (a52, .inl (cI, 512, .inl f52)), (a53, .inl (cI, 512, .inl f53)), (nx, .inr (5, [.ref ax, .int lx])), (ax, .inl (cI, 300, .inl fx))]) rfl (fun H locs hPn hDn hSn => ?_))
  clear hP hD hS
  have hP := hPn
  have hD := hDn
  have hS := hSn
  clear hPn hDn hSn
  refine lv_iconst (v := 0) hx hb dX1_layOut_18 (by decide) ?_
  refine lv_istore_n (lv' := [(3, .int 0), (0, .ref oW), (1, .int cd), (2, .ref nx)]) hx hb dX1_layOut_19 rfl hl (by decide) rfl (fun ls hl => ?_)
  have LOOP_20 : ∀ (k_20 : Nat) (i : Int32) (lwa : Int32) (fma : Int32) (lma : Int32) (fwa : Nat → Int32) (H : Heap) (locs : List Loc) (ls : Array Slot), MSd (300 - i.toInt : Int) k_20 → (0 ≤ i.toInt ∧ i.toInt ≤ 100) → (0 ≤ lwa.toInt ∧ lwa.toInt ≤ 800) → (-1 ≤ fma.toInt ∧ fma.toInt ≤ 800) → (-1 ≤ lma.toInt ∧ lma.toInt ≤ 800) → (i.toInt ≤ lx.toInt) → (lwa.toInt ≤ 8 * i.toInt) → (LOI cd (Bc cd f42 f43 f52 f53) fx i.toNatClampNeg lwa fwa fma lma) → va_P (dC, dI) vwCl [(oW, .inr (1, [.ref oC, .ref oK, .ref nw, .ref w1, .ref w2, .ref w3, .ref o7, .ref o8, .ref o9, .ref w4, .ref w5, .ref w6, .ref w7, .int ke, .int tl, .int fsh, .int wi, .int ri, .int fma, .int lma])), (nw, .inr (5, [.ref aw, .int lwa])), (aw, .inl (cI, 800, .inl fwa)), (oC, .inr (2, [.ref o4, .ref o5])), (o4, .inr (10, [.ref a41, .ref a42, .ref a43, .int l4])), (a42, .inl (cI, 512, .inl f42)), (a43, .inl (cI, 512, .inl f43)), (o5, .inr (10, [.ref a51, .ref a52, .ref a53, .int l5])), (a52, .inl (cI, 512, .inl f52)), (a53, .inl (cI, 512, .inl f53)), (nx, .inr (5, [.ref ax, .int lx])), (ax, .inl (cI, 300, .inl fx))] H → va_D A [(oW, .inr (1, [.ref oC, .ref oK, .ref nw, .ref w1, .ref w2, .ref w3, .ref o7, .ref o8, .ref o9, .ref w4, .ref w5, .ref w6, .ref w7, .int ke, .int tl, .int fsh, .int wi, .int ri, .int fma, .int lma])), (nw, .inr (5, [.ref aw, .int lwa])), (aw, .inl (cI, 800, .inl fwa)), (oC, .inr (2, [.ref o4, .ref o5])), (o4, .inr (10, [.ref a41, .ref a42, .ref a43, .int l4])), (a42, .inl (cI, 512, .inl f42)), (a43, .inl (cI, 512, .inl f43)), (o5, .inr (10, [.ref a51, .ref a52, .ref a53, .int l5])), (a52, .inl (cI, 512, .inl f52)), (a53, .inl (cI, 512, .inl f53)), (nx, .inr (5, [.ref ax, .int lx])), (ax, .inl (cI, 300, .inl fx))] → va_S A s.heap H locs → lv_has ls 4 [(3, .int i), (0, .ref oW), (1, .int cd), (2, .ref nx)] → W p l e (headSpec wsX1_layOut ({ frames := 3, cells := 0, slots := 0, locals := 71 } : Room)).room s m ([.ref oW, .int cd, .ref nx] : List Value).toArray below meth c H locs 0 0 (MQ below QQ ([.ref oW, .int cd, .ref nx] : List Value).toArray s 0 0 A) (F0 m 20 ls []) := by
    clear hP hD hS hl
    try (clear ha1 hf1_0 hf1_1 hf1_2 g_lw)
    intro k_20
    induction k_20 with
    | zero =>
      intro i lwa fma lma fwa H locs ls hm_20 g_i g_lwa g_fma g_lma hil hl8 hlo hP hD hS hl
      exact ms_0 hm_20
    | succ k_20 ih_20 =>
      intro i lwa fma lma fwa H locs ls hm_20 g_i g_lwa g_fma g_lma hil hl8 hlo hP hD hS hl
      refine lv_iload_n hx hb dX1_layOut_20 rfl (lv_at hl 0 rfl) ?_
      refine lv_aload_n hx hb dX1_layOut_21 rfl (lv_at hl 3 rfl) ?_
      refine kV_i (rest := [.int i]) (q0 := 0) (ci := 5) hcf (m_X5_length l dC dI cI cS H.size nx ax lx ) kc_X5_length gX1_layOut_X5_length rfl rfl rfl ⟨Nat.le_of_ble_eq_true rfl, Nat.le_of_ble_eq_true rfl⟩ kX_t hK hP hD hS hA (posT mk_9 0) (posF mk_9 0) (kC_of mk_9 rfl rfl) (by decide +kernel) rfl rfl rfl hl rfl (Nat.le_of_ble_eq_true rfl) dX1_layOut_22 ⟨Nat.le_of_ble_eq_true rfl, Nat.le_of_ble_eq_true rfl⟩ (fun r_2 H locs hB hJ hSn => ?_)
      refine hB _ (fun hPD9 hf2_0 => ?_)
      clear hB
      obtain ⟨hPn, hDn⟩ := kJi (m := mk_9) hJ rfl hPD9.1 hPD9.2 (wn := [(oW, .inr (1, [.ref oC, .ref oK, .ref nw, .ref w1, .ref w2, .ref w3, .ref o7, .ref o8, .ref o9, .ref w4, .ref w5, .ref w6, .ref w7, .int ke, .int tl, .int fsh, .int wi, .int ri, .int fma, .int lma])), (nw, .inr (5, [.ref aw, .int lwa])), (aw, .inl (cI, 800, .inl fwa)), (oC, .inr (2, [.ref o4, .ref o5])), (o4, .inr (10, [.ref a41, .ref a42, .ref a43, .int l4])), (a42, .inl (cI, 512, .inl f42)), (a43, .inl (cI, 512, .inl f43)), (o5, .inr (10, [.ref a51, .ref a52, .ref a53, .int l5])), (a52, .inl (cI, 512, .inl f52)), (a53, .inl (cI, 512, .inl f53)), (nx, .inr (5, [.ref ax, .int lx])), (ax, .inl (cI, 300, .inl fx))]) rfl
      clear hP hD hS hJ hPD9
      have hP := hPn
      have hD := hDn
      have hS := hSn
      clear hPn hDn hSn
      rw [hf2_0]
      refine lv_icmp_ge (tgt := 97) hx hb dX1_layOut_25 (by decide) (fun c_3 => ?_) (fun c_3 => ?_)
      · have tc_3 : lx.toInt ≤ i.toInt := v_le c_3
        refine lv_iconst (v := (-1)) hx hb dX1_layOut_97 (by decide) ?_
        exact kl_i (v := (-1)) hQQ hx hb hr hlocks hS dX1_layOut_98 (fun PZ9 kZ9 => kZ9 lwa fwa fma lma (⟨hP, hD⟩) (g_lwa) (g_fma) (g_lma) (by decide) (Or.inl ⟨rfl, LO_e hlo (by have ci8 := v_clamp (x := i) (by omega); omega)⟩))
      · have tc_3 : i.toInt < lx.toInt := v_nle c_3
        have ci9 := v_clamp (x := i) (by omega)
        refine lv_aload_n hx hb dX1_layOut_28 rfl (lv_at hl 3 rfl) ?_
        refine lv_iload_n hx hb dX1_layOut_29 rfl (lv_at hl 0 rfl) ?_
        refine kV_i (rest := []) (q0 := 0) (ci := 5) hcf (m_X5_get l dC dI cI cS H.size nx ax 300 lx fx i (by omega) (by omega)) kc_X5_get gX1_layOut_X5_get rfl rfl rfl ⟨Nat.le_of_ble_eq_true rfl, Nat.le_of_ble_eq_true rfl⟩ kX_t hK hP hD hS hA (posT mk_10 0) (posF mk_10 0) (kC_of mk_10 rfl rfl) (by decide +kernel) rfl rfl rfl hl rfl (Nat.le_of_ble_eq_true rfl) dX1_layOut_30 ⟨Nat.le_of_ble_eq_true rfl, Nat.le_of_ble_eq_true rfl⟩ (fun r_4 H locs hB hJ hSn => ?_)
        refine hB _ (fun hPD9 hf4_0 => ?_)
        clear hB
        obtain ⟨hPn, hDn⟩ := kJi (m := mk_10) hJ rfl hPD9.1 hPD9.2 (wn := [(oW, .inr (1, [.ref oC, .ref oK, .ref nw, .ref w1, .ref w2, .ref w3, .ref o7, .ref o8, .ref o9, .ref w4, .ref w5, .ref w6, .ref w7, .int ke, .int tl, .int fsh, .int wi, .int ri, .int fma, .int lma])), (nw, .inr (5, [.ref aw, .int lwa])), (aw, .inl (cI, 800, .inl fwa)), (oC, .inr (2, [.ref o4, .ref o5])), (o4, .inr (10, [.ref a41, .ref a42, .ref a43, .int l4])), (a42, .inl (cI, 512, .inl f42)), (a43, .inl (cI, 512, .inl f43)), (o5, .inr (10, [.ref a51, .ref a52, .ref a53, .int l5])), (a52, .inl (cI, 512, .inl f52)), (a53, .inl (cI, 512, .inl f53)), (nx, .inr (5, [.ref ax, .int lx])), (ax, .inl (cI, 300, .inl fx))]) rfl
        clear hP hD hS hJ hPD9
        have hP := hPn
        have hD := hDn
        have hS := hSn
        clear hPn hDn hSn
        have hg4 : r_4 = fx i.toNatClampNeg := F_get_f hf4_0 (by omega) (by omega)
        have hgr4 : 0 ≤ r_4.toInt ∧ r_4.toInt ≤ 65535 := prg_at hlt hg4 (by omega) (by omega)
        refine lv_ldc hx hb hown (hts (.constant RX1 99 (65533)) (List.mem_of_getElem? (i := 4) rfl)) dX1_layOut_33 ?_
        refine lv_icmp_ne (tgt := 69) hx hb dX1_layOut_35 (by decide) (fun c_5 => ?_) (fun c_5 => ?_)
        · have tc_5 : ¬ r_4.toInt = 65533 := v_ne c_5
          refine lv_aload_n hx hb dX1_layOut_69 rfl (lv_at hl 1 rfl) ?_
          refine va_get (D := (dC, dI)) (ci := 1) (v := .ref oC) (C := RX1) (T := TX1) (N := 20) hx hb hts in_X1 hown hK hP 0 rfl rfl 0 (Nat.le_of_ble_eq_true rfl) (hts (.fieldLink RX1 42 "TextMender$Choices" "codes" "LTextMender$Codes;") (List.mem_of_getElem? (i := 5) rfl)) (fun _ h9 => h9) rfl dX1_layOut_70 ?_
          refine lv_iload_n hx hb dX1_layOut_73 rfl (lv_at hl 2 rfl) ?_
          refine lv_aload_n hx hb dX1_layOut_74 rfl (lv_at hl 3 rfl) ?_
          refine lv_iload_n hx hb dX1_layOut_75 rfl (lv_at hl 0 rfl) ?_
          refine kV_i (rest := [.int cd, .ref oC]) (q0 := 0) (ci := 5) hcf (m_X5_get l dC dI cI cS H.size nx ax 300 lx fx i (by omega) (by omega)) kc_X5_get gX1_layOut_X5_get rfl rfl rfl ⟨Nat.le_of_ble_eq_true rfl, Nat.le_of_ble_eq_true rfl⟩ kX_t hK hP hD hS hA (posT mk_10 0) (posF mk_10 0) (kC_of mk_10 rfl rfl) (by decide +kernel) rfl rfl rfl hl rfl (Nat.le_of_ble_eq_true rfl) dX1_layOut_76 ⟨Nat.le_of_ble_eq_true rfl, Nat.le_of_ble_eq_true rfl⟩ (fun r_6 H locs hB hJ hSn => ?_)
          refine hB _ (fun hPD9 hf6_0 => ?_)
          clear hB
          obtain ⟨hPn, hDn⟩ := kJi (m := mk_10) hJ rfl hPD9.1 hPD9.2 (wn := [(oW, .inr (1, [.ref oC, .ref oK, .ref nw, .ref w1, .ref w2, .ref w3, .ref o7, .ref o8, .ref o9, .ref w4, .ref w5, .ref w6, .ref w7, .int ke, .int tl, .int fsh, .int wi, .int ri, .int fma, .int lma])), (nw, .inr (5, [.ref aw, .int lwa])), (aw, .inl (cI, 800, .inl fwa)), (oC, .inr (2, [.ref o4, .ref o5])), (o4, .inr (10, [.ref a41, .ref a42, .ref a43, .int l4])), (a42, .inl (cI, 512, .inl f42)), (a43, .inl (cI, 512, .inl f43)), (o5, .inr (10, [.ref a51, .ref a52, .ref a53, .int l5])), (a52, .inl (cI, 512, .inl f52)), (a53, .inl (cI, 512, .inl f53)), (nx, .inr (5, [.ref ax, .int lx])), (ax, .inl (cI, 300, .inl fx))]) rfl
          clear hP hD hS hJ hPD9
          have hP := hPn
          have hD := hDn
          have hS := hSn
          clear hPn hDn hSn
          have hg6 : r_6 = fx i.toNatClampNeg := F_get_f hf6_0 (by omega) (by omega)
          have hgr6 : 0 ≤ r_6.toInt ∧ r_6.toInt ≤ 65535 := prg_at hlt hg6 (by omega) (by omega)
          refine lv_aload_n hx hb dX1_layOut_79 rfl (lv_at hl 1 rfl) ?_
          refine va_get (D := (dC, dI)) (ci := 1) (v := .ref nw) (C := RX1) (T := TX1) (N := 20) hx hb hts in_X1 hown hK hP 0 rfl rfl 2 (Nat.le_of_ble_eq_true rfl) (hts (.fieldLink RX1 16 "TextMender$Choices" "bytes" "LTextMender$Numbers;") (List.mem_of_getElem? (i := 1) rfl)) (fun _ h9 => h9) rfl dX1_layOut_80 ?_
          refine kV_i (rest := []) (q0 := 0) (ci := 2) hcf (f_X2_encode l dC dI cI cS H.size oC nw o4 o5 a41 a42 a43 a51 a52 a53 aw 800 l4 f42 f43 l5 f52 f53 lwa fwa cd r_6 (by omega) (by omega) (by omega) (by omega) (hT4) (ho4) (hT5) (ho5)) kc_X2_encode gX1_layOut_X2_encode rfl rfl rfl ⟨Nat.le_of_ble_eq_true rfl, Nat.le_of_ble_eq_true rfl⟩ kX_t hK hP hD hS hA ([2, 3, 4, 5, 6, 7, 8, 0, 1].filterMap (fun j => (posT mk_11 0)[j]?)) (posF mk_11 0) (kCp (ws := [(nw, .inr (5, [.ref aw, .int lwa])), (aw, .inl (cI, 800, .inl fwa)), (oC, .inr (2, [.ref o4, .ref o5])), (o4, .inr (10, [.ref a41, .ref a42, .ref a43, .int l4])), (a42, .inl (cI, 512, .inl f42)), (a43, .inl (cI, 512, .inl f43)), (o5, .inr (10, [.ref a51, .ref a52, .ref a53, .int l5])), (a52, .inl (cI, 512, .inl f52)), (a53, .inl (cI, 512, .inl f53))]) (kC_of mk_11 rfl rfl) rfl) (by decide +kernel) rfl rfl rfl hl rfl (Nat.le_of_ble_eq_true rfl) dX1_layOut_83 ⟨Nat.le_of_ble_eq_true rfl, Nat.le_of_ble_eq_true rfl⟩ (fun r_7 H locs hB hJ hSn => ?_)
          refine hB _ (fun lu_7 fu_7 hPD9 hf7_0 hf7_1 hf7_2 => ?_)
          clear hB
          obtain ⟨hPn, hDn⟩ := kJm (m := mk_11) hJ rfl hPD9.1 hPD9.2 [7, 8, 0, 1, 2, 3, 4, 5, 6] (by decide +kernel) (ws := [(nw, .inr (5, [.ref aw, .int lu_7])), (aw, .inl (cI, 800, .inl fu_7)), (oC, .inr (2, [.ref o4, .ref o5])), (o4, .inr (10, [.ref a41, .ref a42, .ref a43, .int l4])), (a42, .inl (cI, 512, .inl f42)), (a43, .inl (cI, 512, .inl f43)), (o5, .inr (10, [.ref a51, .ref a52, .ref a53, .int l5])), (a52, .inl (cI, 512, .inl f52)), (a53, .inl (cI, 512, .inl f53))]) rfl (wn := [(oW, .inr (1, [.ref oC, .ref oK, .ref nw, .ref w1, .ref w2, .ref w3, .ref o7, .ref o8, .ref o9, .ref w4, .ref w5, .ref w6, .ref w7, .int ke, .int tl, .int fsh, .int wi, .int ri, .int fma, .int lma])), (nw, .inr (5, [.ref aw, .int lu_7])), (aw, .inl (cI, 800, .inl fu_7)), (oC, .inr (2, [.ref o4, .ref o5])), (o4, .inr (10, [.ref a41, .ref a42, .ref a43, .int l4])), (a42, .inl (cI, 512, .inl f42)), (a43, .inl (cI, 512, .inl f43)), (o5, .inr (10, [.ref a51, .ref a52, .ref a53, .int l5])), (a52, .inl (cI, 512, .inl f52)), (a53, .inl (cI, 512, .inl f53)), (nx, .inr (5, [.ref ax, .int lx])), (ax, .inl (cI, 300, .inl fx))]) rfl
          clear hP hD hS hJ hPD9
          have hP := hPn
          have hD := hDn
          have hS := hSn
          clear hPn hDn hSn
          have hln7 := en_len hf7_2
          refine lv_if_ne (tgt := 91) hx hb dX1_layOut_86 (by decide) (fun c_8 => ?_) (fun c_8 => ?_)
          · have tc_8 : ¬ r_7.toInt = 0 := v_ne c_8
            obtain ⟨x_9, ex_9⟩ : ∃ y : Int32, y = i + 1 := ⟨_, rfl⟩
            have tx_9 : x_9.toInt = i.toInt + 1 := v_addR (l2 := 1) (h2 := 1) ex_9 g_i (by decide) (by decide) (by decide)
            refine lv_iinc (v := x_9) (lv' := [(3, .int x_9), (0, .ref oW), (1, .int cd), (2, .ref nx)]) hx hb dX1_layOut_91 hl (k := 0) rfl (by rw [ex_9]; rfl) (by decide) rfl (fun ls hl => ?_)
            refine lv_goto (tgt := 20) hx hb dX1_layOut_94 (by decide) ?_
            exact ih_20 x_9 lu_7 fma lma fu_7 _ _ _ (ms_lt hm_20 (by show ((300 - x_9.toInt : Int)) < 300 - i.toInt; omega) (by show (0 : Int) < 300 - i.toInt; omega)) (by show 0 ≤ x_9.toInt ∧ x_9.toInt ≤ 100; omega) (by show 0 ≤ lu_7.toInt ∧ lu_7.toInt ≤ 800; omega) (g_fma) (g_lma) (by show x_9.toInt ≤ lx.toInt; omega) (by show lu_7.toInt ≤ 8 * x_9.toInt; omega) (LO_n hlo (fun e9 => c_5 (hg4.trans e9)) hg6 (by rw [← hg6]) hf7_2 (by omega) (by rw [ix_eq (x := x_9) (N := i.toNatClampNeg + 1) (by omega)])) hP hD hS (lv_sub hl [0, 1, 2, 3] rfl)
          · have tc_8 : r_7.toInt = 0 := v_eq c_8
            refine lv_iload_n hx hb dX1_layOut_89 rfl (lv_at hl 0 rfl) ?_
            exact kl_i (v := i) hQQ hx hb hr hlocks hS dX1_layOut_90 (fun PZ9 kZ9 => kZ9 lu_7 fu_7 fma lma (⟨hP, hD⟩) (by omega) (g_fma) (g_lma) (v_rr g_i (by decide) (by decide)) (LO_f hlo (fun e9 => c_5 (hg4.trans e9)) hg6 (by rw [← hg6]) hf7_2 (by omega) (by omega) (by omega)))
        · have tc_5 : r_4.toInt = 65533 := v_eq c_5
          refine lv_aload_n hx hb dX1_layOut_38 rfl (lv_at hl 1 rfl) ?_
          refine lv_aload_n hx hb dX1_layOut_39 rfl (lv_at hl 1 rfl) ?_
          refine va_get (D := (dC, dI)) (ci := 1) (v := .int lma) (C := RX1) (T := TX1) (N := 20) hx hb hts in_X1 hown hK hP 0 rfl rfl 19 (Nat.le_of_ble_eq_true rfl) (hts (.fieldLink RX1 85 "TextMender$Choices" "lastMark" "I") (List.mem_of_getElem? (i := 3) rfl)) (fun _ h9 => h9) rfl dX1_layOut_40 ?_
          refine va_put (D := (dC, dI)) (ci := 1) (v := .int lma) (ty := .int) (C := RX1) (T := TX1) (N := 20) hx hb hts in_X1 tyX1 tyX1_ok nmX1 hown hK hP hD hS 0 rfl rfl 18 (Nat.le_of_ble_eq_true rfl) (hts (.fieldLink RX1 82 "TextMender$Choices" "firstMark" "I") (List.mem_of_getElem? (i := 2) rfl)) (fun _ h9 => h9) rfl (tyX1_ok 18 (Nat.le_of_ble_eq_true rfl)) rfl rfl (Nat.le_of_ble_eq_true rfl) dX1_layOut_43 (kW (wn := [(oW, .inr (1, [.ref oC, .ref oK, .ref nw, .ref w1, .ref w2, .ref w3, .ref o7, .ref o8, .ref o9, .ref w4, .ref w5, .ref w6, .ref w7, .int ke, .int tl, .int fsh, .int wi, .int ri, .int lma, .int lma])), (nw, .inr (5, [.ref aw, .int lwa])), (aw, .inl (cI, 800, .inl fwa)), (oC, .inr (2, [.ref o4, .ref o5])), (o4, .inr (10, [.ref a41, .ref a42, .ref a43, .int l4])), (a42, .inl (cI, 512, .inl f42)), (a43, .inl (cI, 512, .inl f43)), (o5, .inr (10, [.ref a51, .ref a52, .ref a53, .int l5])), (a52, .inl (cI, 512, .inl f52)), (a53, .inl (cI, 512, .inl f53)), (nx, .inr (5, [.ref ax, .int lx])), (ax, .inl (cI, 300, .inl fx))]) rfl (fun H locs hPn hDn hSn => ?_))
          clear hP hD hS
          have hP := hPn
          have hD := hDn
          have hS := hSn
          clear hPn hDn hSn
          refine lv_aload_n hx hb dX1_layOut_46 rfl (lv_at hl 1 rfl) ?_
          refine lv_aload_n hx hb dX1_layOut_47 rfl (lv_at hl 1 rfl) ?_
          refine va_get (D := (dC, dI)) (ci := 1) (v := .ref nw) (C := RX1) (T := TX1) (N := 20) hx hb hts in_X1 hown hK hP 0 rfl rfl 2 (Nat.le_of_ble_eq_true rfl) (hts (.fieldLink RX1 16 "TextMender$Choices" "bytes" "LTextMender$Numbers;") (List.mem_of_getElem? (i := 1) rfl)) (fun _ h9 => h9) rfl dX1_layOut_48 ?_
          refine kV_i (rest := [.ref oW]) (q0 := 0) (ci := 5) hcf (m_X5_length l dC dI cI cS H.size nw aw lwa ) kc_X5_length gX1_layOut_X5_length rfl rfl rfl ⟨Nat.le_of_ble_eq_true rfl, Nat.le_of_ble_eq_true rfl⟩ kX_t hK hP hD hS hA (posT mk_8 0) (posF mk_8 0) (kC_of mk_8 rfl rfl) (by decide +kernel) rfl rfl rfl hl rfl (Nat.le_of_ble_eq_true rfl) dX1_layOut_51 ⟨Nat.le_of_ble_eq_true rfl, Nat.le_of_ble_eq_true rfl⟩ (fun r_10 H locs hB hJ hSn => ?_)
          refine hB _ (fun hPD9 hf10_0 => ?_)
          clear hB
          obtain ⟨hPn, hDn⟩ := kJi (m := mk_8) hJ rfl hPD9.1 hPD9.2 (wn := [(oW, .inr (1, [.ref oC, .ref oK, .ref nw, .ref w1, .ref w2, .ref w3, .ref o7, .ref o8, .ref o9, .ref w4, .ref w5, .ref w6, .ref w7, .int ke, .int tl, .int fsh, .int wi, .int ri, .int lma, .int lma])), (nw, .inr (5, [.ref aw, .int lwa])), (aw, .inl (cI, 800, .inl fwa)), (oC, .inr (2, [.ref o4, .ref o5])), (o4, .inr (10, [.ref a41, .ref a42, .ref a43, .int l4])), (a42, .inl (cI, 512, .inl f42)), (a43, .inl (cI, 512, .inl f43)), (o5, .inr (10, [.ref a51, .ref a52, .ref a53, .int l5])), (a52, .inl (cI, 512, .inl f52)), (a53, .inl (cI, 512, .inl f53)), (nx, .inr (5, [.ref ax, .int lx])), (ax, .inl (cI, 300, .inl fx))]) rfl
          clear hP hD hS hJ hPD9
          have hP := hPn
          have hD := hDn
          have hS := hSn
          clear hPn hDn hSn
          rw [hf10_0]
          refine va_put (D := (dC, dI)) (ci := 1) (v := .int lwa) (ty := .int) (C := RX1) (T := TX1) (N := 20) hx hb hts in_X1 tyX1 tyX1_ok nmX1 hown hK hP hD hS 0 rfl rfl 19 (Nat.le_of_ble_eq_true rfl) (hts (.fieldLink RX1 85 "TextMender$Choices" "lastMark" "I") (List.mem_of_getElem? (i := 3) rfl)) (fun _ h9 => h9) rfl (tyX1_ok 19 (Nat.le_of_ble_eq_true rfl)) rfl rfl (Nat.le_of_ble_eq_true rfl) dX1_layOut_54 (kW (wn := [(oW, .inr (1, [.ref oC, .ref oK, .ref nw, .ref w1, .ref w2, .ref w3, .ref o7, .ref o8, .ref o9, .ref w4, .ref w5, .ref w6, .ref w7, .int ke, .int tl, .int fsh, .int wi, .int ri, .int lma, .int lwa])), (nw, .inr (5, [.ref aw, .int lwa])), (aw, .inl (cI, 800, .inl fwa)), (oC, .inr (2, [.ref o4, .ref o5])), (o4, .inr (10, [.ref a41, .ref a42, .ref a43, .int l4])), (a42, .inl (cI, 512, .inl f42)), (a43, .inl (cI, 512, .inl f43)), (o5, .inr (10, [.ref a51, .ref a52, .ref a53, .int l5])), (a52, .inl (cI, 512, .inl f52)), (a53, .inl (cI, 512, .inl f53)), (nx, .inr (5, [.ref ax, .int lx])), (ax, .inl (cI, 300, .inl fx))]) rfl (fun H locs hPn hDn hSn => ?_))
          clear hP hD hS
          have hP := hPn
          have hD := hDn
          have hS := hSn
          clear hPn hDn hSn
          refine lv_aload_n hx hb dX1_layOut_57 rfl (lv_at hl 1 rfl) ?_
          refine va_get (D := (dC, dI)) (ci := 1) (v := .ref nw) (C := RX1) (T := TX1) (N := 20) hx hb hts in_X1 hown hK hP 0 rfl rfl 2 (Nat.le_of_ble_eq_true rfl) (hts (.fieldLink RX1 16 "TextMender$Choices" "bytes" "LTextMender$Numbers;") (List.mem_of_getElem? (i := 1) rfl)) (fun _ h9 => h9) rfl dX1_layOut_58 ?_
          refine lv_iconst (v := 0) hx hb dX1_layOut_61 (by decide) ?_
          refine kV_i (rest := []) (q0 := 0) (ci := 5) hcf (m_X5_add l dC dI cI cS H.size nw aw 800 lwa fwa 0 (by omega) (by omega)) kc_X5_add gX1_layOut_X5_add rfl rfl rfl ⟨Nat.le_of_ble_eq_true rfl, Nat.le_of_ble_eq_true rfl⟩ kX_t hK hP hD hS hA (posT mk_68 0) (posF mk_68 0) (kC_of mk_68 rfl rfl) (by decide +kernel) rfl rfl rfl hl rfl (Nat.le_of_ble_eq_true rfl) dX1_layOut_62 ⟨Nat.le_of_ble_eq_true rfl, Nat.le_of_ble_eq_true rfl⟩ (fun r_11 H locs hB hJ hSn => ?_)
          refine hB _ (fun lu_11 fu_11 hPD9 hf11_0 hf11_1 hf11_2 => ?_)
          clear hB
          obtain ⟨hPn, hDn⟩ := kJi (m := mk_68) hJ rfl hPD9.1 hPD9.2 (wn := [(oW, .inr (1, [.ref oC, .ref oK, .ref nw, .ref w1, .ref w2, .ref w3, .ref o7, .ref o8, .ref o9, .ref w4, .ref w5, .ref w6, .ref w7, .int ke, .int tl, .int fsh, .int wi, .int ri, .int lma, .int lwa])), (nw, .inr (5, [.ref aw, .int lu_11])), (aw, .inl (cI, 800, .inl fu_11)), (oC, .inr (2, [.ref o4, .ref o5])), (o4, .inr (10, [.ref a41, .ref a42, .ref a43, .int l4])), (a42, .inl (cI, 512, .inl f42)), (a43, .inl (cI, 512, .inl f43)), (o5, .inr (10, [.ref a51, .ref a52, .ref a53, .int l5])), (a52, .inl (cI, 512, .inl f52)), (a53, .inl (cI, 512, .inl f53)), (nx, .inr (5, [.ref ax, .int lx])), (ax, .inl (cI, 300, .inl fx))]) rfl
          clear hP hD hS hJ hPD9
          have hP := hPn
          have hD := hDn
          have hS := hSn
          clear hPn hDn hSn
          have ha11 := F_add_l hf11_2 (by omega)
          refine lv_pop hx hb dX1_layOut_65 rfl ?_
          refine lv_goto (tgt := 91) hx hb dX1_layOut_66 (by decide) ?_
          obtain ⟨x_12, ex_12⟩ : ∃ y : Int32, y = i + 1 := ⟨_, rfl⟩
          have tx_12 : x_12.toInt = i.toInt + 1 := v_addR (l2 := 1) (h2 := 1) ex_12 g_i (by decide) (by decide) (by decide)
          refine lv_iinc (v := x_12) (lv' := [(3, .int x_12), (0, .ref oW), (1, .int cd), (2, .ref nx)]) hx hb dX1_layOut_91 hl (k := 0) rfl (by rw [ex_12]; rfl) (by decide) rfl (fun ls hl => ?_)
          refine lv_goto (tgt := 20) hx hb dX1_layOut_94 (by decide) ?_
          exact ih_20 x_12 lu_11 lma lwa fu_11 _ _ _ (ms_lt hm_20 (by show ((300 - x_12.toInt : Int)) < 300 - i.toInt; omega) (by show (0 : Int) < 300 - i.toInt; omega)) (by show 0 ≤ x_12.toInt ∧ x_12.toInt ≤ 100; omega) (by show 0 ≤ lu_11.toInt ∧ lu_11.toInt ≤ 800; omega) (g_lma) (v_rr g_lwa (by decide) (by decide)) (by show x_12.toInt ≤ lx.toInt; omega) (by show lu_11.toInt ≤ 8 * x_12.toInt; omega) (LO_m hlo (by rw [← hg4]; exact c_5) hf11_2 rfl (by omega) (by omega) rfl (by omega) (by rw [ix_eq (x := x_12) (N := i.toNatClampNeg + 1) (by omega)])) hP hD hS (lv_sub hl [0, 1, 2, 3] rfl)
  exact LOOP_20 _ 0 lu_1 (-1) (-1) fw _ _ _ (ms_s _) (by decide) (by show 0 ≤ lu_1.toInt ∧ lu_1.toInt ≤ 800; omega) (by decide) (by decide) (by show 0 ≤ lx.toInt; omega) (by show lu_1.toInt ≤ 8 * 0; omega) (LO_0 rfl (by omega) rfl rfl) hP hD hS (lv_sub hl [0, 1, 2, 3] rfl)

theorem tl_b {T : Int32 → Int32 → Int32} {D : Nat → Nat} {X W1 W2 W3 : Nat → Int32} {m q : Nat} (ht : TLK T D X m W1 W2 W3 q) (h3 : ¬ W3 q = -1) : (0 ≤ (W1 q).toInt ∧ (W1 q).toInt ≤ 65535) ∧ 0 ≤ (W2 q).toInt ∧ (W2 q).toInt ≤ 160000 := by
  rcases ht with ⟨t1, _⟩ | ⟨c, t1, t2, t3, t4, t5, t6, t7, t8, t9⟩
  · exact absurd t1 h3
  · omega
theorem tl_lb {l : Int} {pp pp' z : Int32} {W W' : Nat → Int32} (h : ∀ p : Nat, pp.toInt < (p : Int) → (p : Int) ≤ l → (W p).toInt = -1 ∨ (0 ≤ (W p).toInt ∧ (W p).toInt ≤ l - p)) (e : W' = upd W pp.toNatClampNeg z) (h0 : 0 ≤ pp.toInt) (hp : pp'.toInt = pp.toInt - 1) (hz : z.toInt = -1 ∨ (0 ≤ z.toInt ∧ z.toInt ≤ l - pp.toInt)) : ∀ p : Nat, pp'.toInt < (p : Int) → (p : Int) ≤ l → (W' p).toInt = -1 ∨ (0 ≤ (W' p).toInt ∧ (W' p).toInt ≤ l - p) := by
  intro p p1 p2
  have c := v_clamp h0
  by_cases w : p = pp.toNatClampNeg
  · rw [e, w, pk_us]
    rcases hz with hz | hz
    · exact Or.inl hz
    · exact Or.inr (by omega)
  · rw [e, pk_un w]; exact h p (by omega) p2

set_option maxHeartbeats 40000000 in
set_option maxRecDepth 100000 in
theorem f_X1_findTails (l : Launch) (dC : Nat → ClassId) (dI : Nat → Nat → Nat) (cI cS : ClassId) (sz : Nat) (oW : Nat) (oC : Nat) (oK : Nat) (nw : Nat) (w1 : Nat) (w2 : Nat) (w3 : Nat) (o7 : Nat) (o8 : Nat) (o9 : Nat) (w4 : Nat) (w5 : Nat) (w6 : Nat) (w7 : Nat) (aw : Nat) (o4 : Nat) (o5 : Nat) (a41 : Nat) (a42 : Nat) (a43 : Nat) (a51 : Nat) (a52 : Nat) (a53 : Nat) (k1 : Nat) (k2 : Nat) (ke : Int32) (tl : Int32) (fsh : Int32) (wi : Int32) (ri : Int32) (fm : Int32) (lm : Int32) (fW1 : Nat → Int32) (fW2 : Nat → Int32) (fW3 : Nat → Int32) (lw : Int32) (fw : Nat → Int32) (l4 : Int32) (f41 : Nat → Int32) (l5 : Int32) (f51 : Nat → Int32) (lK : Int32) (fK1 : Nat → Int32) (fK2 : Nat → Int32) (g_ke : 0 ≤ ke.toInt ∧ ke.toInt ≤ 200) (g_fsh : 0 ≤ fsh.toInt ∧ fsh.toInt ≤ 1) (g_fm : -1 ≤ fm.toInt ∧ fm.toInt ≤ 800) (g_lm : -1 ≤ lm.toInt ∧ lm.toInt ≤ 800) (g_lw : 0 ≤ lw.toInt ∧ lw.toInt ≤ 800) (g_lK : 0 ≤ lK.toInt ∧ lK.toInt ≤ 300) (hlw : lm.toInt < lw.toInt) (hlm0 : 0 ≤ lm.toInt) (hby : prg lw.toInt 0 255 fw) (hL4 : prg 256 (-1) 65535 f41) (hL5 : prg 256 (-1) 65535 f51) (hT : HT 1024 1023 hsK fK1 fK2) (ho : (occ fK2 1024 : Int) ≤ lK.toInt) (hV : prg 1024 (-1) 200 fK2) : kMv l yX1_findTails wsX1_findTails ({ frames := 3, cells := 0, slots := 0, locals := 74 } : Room) [.ref oW] sz (dC, dI) vwCl [(cI, .int), (cS, .short)] [(oW, .inr (1, [.ref oC, .ref oK, .ref nw, .ref w1, .ref w2, .ref w3, .ref o7, .ref o8, .ref o9, .ref w4, .ref w5, .ref w6, .ref w7, .int ke, .int tl, .int fsh, .int wi, .int ri, .int fm, .int lm])), (w1, .inl (cI, 801, .inl fW1)), (w2, .inl (cI, 801, .inl fW2)), (w3, .inl (cI, 801, .inl fW3)), (nw, .inr (5, [.ref aw, .int lw])), (aw, .inl (cI, 800, .inl fw)), (oC, .inr (2, [.ref o4, .ref o5])), (o4, .inr (10, [.ref a41, .ref a42, .ref a43, .int l4])), (a41, .inl (cI, 256, .inl f41)), (o5, .inr (10, [.ref a51, .ref a52, .ref a53, .int l5])), (a51, .inl (cI, 256, .inl f51)), (oK, .inr (3, [.ref k1, .ref k2, .int lK])), (k1, .inl (cI, 1024, .inl fK1)), (k2, .inl (cI, 1024, .inl fK2))] (va_Nw (.methodLinkNest RX2 52 yX11_isLetter "TextMender")) 0 0 (fun (A : Nat → Prop) (hh9 : Heap) => ∀ PZ9 : Prop, (∀ (fW1' : Nat → Int32) (fW2' : Nat → Int32) (fW3' : Nat → Int32), kPD (dC, dI) vwCl A [(oW, .inr (1, [.ref oC, .ref oK, .ref nw, .ref w1, .ref w2, .ref w3, .ref o7, .ref o8, .ref o9, .ref w4, .ref w5, .ref w6, .ref w7, .int ke, .int tl, .int fsh, .int wi, .int ri, .int fm, .int lm])), (w1, .inl (cI, 801, .inl fW1')), (w2, .inl (cI, 801, .inl fW2')), (w3, .inl (cI, 801, .inl fW3')), (nw, .inr (5, [.ref aw, .int lw])), (aw, .inl (cI, 800, .inl fw)), (oC, .inr (2, [.ref o4, .ref o5])), (o4, .inr (10, [.ref a41, .ref a42, .ref a43, .int l4])), (a41, .inl (cI, 256, .inl f41)), (o5, .inr (10, [.ref a51, .ref a52, .ref a53, .int l5])), (a51, .inl (cI, 256, .inl f51)), (oK, .inr (3, [.ref k1, .ref k2, .int lK])), (k1, .inl (cI, 1024, .inl fK1)), (k2, .inl (cI, 1024, .inl fK2))] hh9 → (∀ p : Nat, lm.toInt < (p : Int) → (p : Int) ≤ lw.toInt → TLK (tcC fK1 fK2) (dl wi f41 f51 fw lw.toInt) (dx wi f41 f51 fw lw.toInt) lw.toNatClampNeg fW1' fW2' fW3' p) → PZ9) → PZ9) := by
  refine kMv_of (cc := cX1_findTails) (maxL := 5) (ret := none) (lv := [(0, .ref oW)]) (by decide +kernel) rfl rfl (Nat.le_of_ble_eq_true rfl) ?_
  intro p e s m below meth c A QQ ls hx hb hr hts hml hown hlocks hA hQQ hK hX hP hD hS hl
  have hown : s.vm.findClass RX1 = some m.cls := hown
  have hcf := k_cf hx hb hml hown hts
  have hN52 := hX
  have in_X1 : ∀ w ∈ wsX10, w ∈ wsX1_findTails := fun _ h => List.mem_cons_of_mem _ (List.mem_append_left _ (List.mem_append_left _ (List.mem_append_left _ (List.mem_append_left _ (List.mem_append_left _ (List.mem_append_left _ (List.mem_append_left _ (List.mem_append_left _ (List.mem_append_left _ (List.mem_append_right _ (h)))))))))))
  replace g_ke := hid g_ke
  replace g_fsh := hid g_fsh
  replace g_fm := hid g_fm
  have z0 : (0 : Int32).toInt = 0 := rfl
  have z1 : (1 : Int32).toInt = 1 := rfl
  have zm1 : (-1 : Int32).toInt = -1 := rfl
  have cw9 := v_clamp (x := lw) (by omega)
  refine lv_aload_n hx hb dX1_findTails_0 rfl (lv_at hl 0 rfl) ?_
  refine va_get (D := (dC, dI)) (ci := 1) (v := .ref nw) (C := RX1) (T := TX1) (N := 20) hx hb hts in_X1 hown hK hP 0 rfl rfl 2 (Nat.le_of_ble_eq_true rfl) (hts (.fieldLink RX1 16 "TextMender$Choices" "bytes" "LTextMender$Numbers;") (List.mem_of_getElem? (i := 1) rfl)) (fun _ h9 => h9) rfl dX1_findTails_1 ?_
  refine kV_i (rest := []) (q0 := 0) (ci := 5) hcf (m_X5_length l dC dI cI cS s.heap.size nw aw lw ) kc_X5_length gX1_findTails_X5_length rfl rfl rfl ⟨Nat.le_of_ble_eq_true rfl, Nat.le_of_ble_eq_true rfl⟩ kX_t hK hP hD hS hA (posT mk_69 0) (posF mk_69 0) (kC_of mk_69 rfl rfl) (by decide +kernel) rfl rfl rfl hl rfl (Nat.le_of_ble_eq_true rfl) dX1_findTails_4 ⟨Nat.le_of_ble_eq_true rfl, Nat.le_of_ble_eq_true rfl⟩ (fun r_1 H locs hB hJ hSn => ?_)
  refine hB _ (fun hPD9 hf1_0 => ?_)
  clear hB
  obtain ⟨hPn, hDn⟩ := kJi (m := mk_69) hJ rfl hPD9.1 hPD9.2 (wn := [(oW, .inr (1, [.ref oC, .ref oK, .ref nw, .ref w1, .ref w2, .ref w3, .ref o7, .ref o8, .ref o9, .ref w4, .ref w5, .ref w6, .ref w7, .int ke, .int tl, .int fsh, .int wi, .int ri, .int fm, .int lm])), (w1, .inl (cI, 801, .inl fW1)), (w2, .inl (cI, 801, .inl fW2)), (w3, .inl (cI, 801, .inl fW3)), (nw, .inr (5, [.ref aw, .int lw])), (aw, .inl (cI, 800, .inl fw)), (oC, .inr (2, [.ref o4, .ref o5])), (o4, .inr (10, [.ref a41, .ref a42, .ref a43, .int l4])), (a41, .inl (cI, 256, .inl f41)), (o5, .inr (10, [.ref a51, .ref a52, .ref a53, .int l5])), (a51, .inl (cI, 256, .inl f51)), (oK, .inr (3, [.ref k1, .ref k2, .int lK])), (k1, .inl (cI, 1024, .inl fK1)), (k2, .inl (cI, 1024, .inl fK2))]) rfl
  clear hP hD hS hJ hPD9
  have hP := hPn
  have hD := hDn
  have hS := hSn
  clear hPn hDn hSn
  rw [hf1_0]
  refine lv_sipush (v := 800) hx hb dX1_findTails_7 (by decide) ?_
  refine va_mmin hx hb (by rw [hml]; exact hl.1.symm) hown (hts (.methodLink RX1 135 Lib.Math.min.name) (List.mem_of_getElem? (i := 2) rfl)) (hts (.static Lib.Math.min.name) (List.mem_of_getElem? (i := 3) rfl)) (hts (.initialized "java/lang/Math") (List.mem_of_getElem? (i := 4) rfl)) (hts (.code Lib.Math.min.name Lib.Math.min.code 2 (some .int)) (List.mem_of_getElem? (i := 5) rfl)) (Nat.le_of_ble_eq_true rfl) (Nat.le_of_ble_eq_true rfl) (Nat.zero_le _) (Nat.zero_le _) dX1_findTails_10 ?_
  refine lv_topi (fun x_2 ex_2 => ?_)
  have tx_2 : x_2.toInt ≤ lw.toInt ∧ x_2.toInt ≤ 800 ∧ (x_2.toInt = lw.toInt ∨ x_2.toInt = 800) := v_min ex_2
  refine lv_istore_n (lv' := [(1, .int x_2), (0, .ref oW)]) hx hb dX1_findTails_13 rfl hl (by decide) rfl (fun ls hl => ?_)
  have e9 : x_2 = lw := v_inj (by omega)
  rw [e9] at hl
  refine lv_aload_n hx hb dX1_findTails_14 rfl (lv_at hl 1 rfl) ?_
  refine va_get (D := (dC, dI)) (ci := 1) (v := .ref w1) (C := RX1) (T := TX1) (N := 20) hx hb hts in_X1 hown hK hP 0 rfl rfl 3 (Nat.le_of_ble_eq_true rfl) (hts (.fieldLink RX1 20 "TextMender$Choices" "tailFirst" "[I") (List.mem_of_getElem? (i := 6) rfl)) (fun _ h9 => h9) rfl dX1_findTails_15 ?_
  refine lv_iload_n hx hb dX1_findTails_18 rfl (lv_at hl 0 rfl) ?_
  refine lv_bipush (v := 32) hx hb dX1_findTails_19 (by decide) ?_
  obtain ⟨f_3, ef_3⟩ : ∃ g : Nat → Int32, g = upd fW1 (lw : Int32).toNatClampNeg 32 := ⟨_, rfl⟩
  refine va_iast hx hb hK hP hD hS 1 0 rfl rfl (v_inR g_lw (by decide) (by decide)) dX1_findTails_21 (kWf (g := f_3) (F := fun f_3 => [(oW, .inr (1, [.ref oC, .ref oK, .ref nw, .ref w1, .ref w2, .ref w3, .ref o7, .ref o8, .ref o9, .ref w4, .ref w5, .ref w6, .ref w7, .int ke, .int tl, .int fsh, .int wi, .int ri, .int fm, .int lm])), (w1, .inl (cI, 801, .inl f_3)), (w2, .inl (cI, 801, .inl fW2)), (w3, .inl (cI, 801, .inl fW3)), (nw, .inr (5, [.ref aw, .int lw])), (aw, .inl (cI, 800, .inl fw)), (oC, .inr (2, [.ref o4, .ref o5])), (o4, .inr (10, [.ref a41, .ref a42, .ref a43, .int l4])), (a41, .inl (cI, 256, .inl f41)), (o5, .inr (10, [.ref a51, .ref a52, .ref a53, .int l5])), (a51, .inl (cI, 256, .inl f51)), (oK, .inr (3, [.ref k1, .ref k2, .int lK])), (k1, .inl (cI, 1024, .inl fK1)), (k2, .inl (cI, 1024, .inl fK2))]) ef_3 rfl (fun H locs hPn hDn hSn => ?_))
  clear hP hD hS
  have hP := hPn
  have hD := hDn
  have hS := hSn
  clear hPn hDn hSn
  refine lv_aload_n hx hb dX1_findTails_22 rfl (lv_at hl 1 rfl) ?_
  refine va_get (D := (dC, dI)) (ci := 1) (v := .ref w2) (C := RX1) (T := TX1) (N := 20) hx hb hts in_X1 hown hK hP 0 rfl rfl 4 (Nat.le_of_ble_eq_true rfl) (hts (.fieldLink RX1 24 "TextMender$Choices" "tailSum" "[I") (List.mem_of_getElem? (i := 7) rfl)) (fun _ h9 => h9) rfl dX1_findTails_23 ?_
  refine lv_iload_n hx hb dX1_findTails_26 rfl (lv_at hl 0 rfl) ?_
  refine lv_iconst (v := 0) hx hb dX1_findTails_27 (by decide) ?_
  obtain ⟨f_4, ef_4⟩ : ∃ g : Nat → Int32, g = upd fW2 (lw : Int32).toNatClampNeg 0 := ⟨_, rfl⟩
  refine va_iast hx hb hK hP hD hS 2 0 rfl rfl (v_inR g_lw (by decide) (by decide)) dX1_findTails_28 (kWf (g := f_4) (F := fun f_4 => [(oW, .inr (1, [.ref oC, .ref oK, .ref nw, .ref w1, .ref w2, .ref w3, .ref o7, .ref o8, .ref o9, .ref w4, .ref w5, .ref w6, .ref w7, .int ke, .int tl, .int fsh, .int wi, .int ri, .int fm, .int lm])), (w1, .inl (cI, 801, .inl f_3)), (w2, .inl (cI, 801, .inl f_4)), (w3, .inl (cI, 801, .inl fW3)), (nw, .inr (5, [.ref aw, .int lw])), (aw, .inl (cI, 800, .inl fw)), (oC, .inr (2, [.ref o4, .ref o5])), (o4, .inr (10, [.ref a41, .ref a42, .ref a43, .int l4])), (a41, .inl (cI, 256, .inl f41)), (o5, .inr (10, [.ref a51, .ref a52, .ref a53, .int l5])), (a51, .inl (cI, 256, .inl f51)), (oK, .inr (3, [.ref k1, .ref k2, .int lK])), (k1, .inl (cI, 1024, .inl fK1)), (k2, .inl (cI, 1024, .inl fK2))]) ef_4 rfl (fun H locs hPn hDn hSn => ?_))
  clear hP hD hS
  have hP := hPn
  have hD := hDn
  have hS := hSn
  clear hPn hDn hSn
  refine lv_aload_n hx hb dX1_findTails_29 rfl (lv_at hl 1 rfl) ?_
  refine va_get (D := (dC, dI)) (ci := 1) (v := .ref w3) (C := RX1) (T := TX1) (N := 20) hx hb hts in_X1 hown hK hP 0 rfl rfl 5 (Nat.le_of_ble_eq_true rfl) (hts (.fieldLink RX1 27 "TextMender$Choices" "tailLetters" "[I") (List.mem_of_getElem? (i := 8) rfl)) (fun _ h9 => h9) rfl dX1_findTails_30 ?_
  refine lv_iload_n hx hb dX1_findTails_33 rfl (lv_at hl 0 rfl) ?_
  refine lv_iconst (v := 0) hx hb dX1_findTails_34 (by decide) ?_
  obtain ⟨f_5, ef_5⟩ : ∃ g : Nat → Int32, g = upd fW3 (lw : Int32).toNatClampNeg 0 := ⟨_, rfl⟩
  refine va_iast hx hb hK hP hD hS 3 0 rfl rfl (v_inR g_lw (by decide) (by decide)) dX1_findTails_35 (kWf (g := f_5) (F := fun f_5 => [(oW, .inr (1, [.ref oC, .ref oK, .ref nw, .ref w1, .ref w2, .ref w3, .ref o7, .ref o8, .ref o9, .ref w4, .ref w5, .ref w6, .ref w7, .int ke, .int tl, .int fsh, .int wi, .int ri, .int fm, .int lm])), (w1, .inl (cI, 801, .inl f_3)), (w2, .inl (cI, 801, .inl f_4)), (w3, .inl (cI, 801, .inl f_5)), (nw, .inr (5, [.ref aw, .int lw])), (aw, .inl (cI, 800, .inl fw)), (oC, .inr (2, [.ref o4, .ref o5])), (o4, .inr (10, [.ref a41, .ref a42, .ref a43, .int l4])), (a41, .inl (cI, 256, .inl f41)), (o5, .inr (10, [.ref a51, .ref a52, .ref a53, .int l5])), (a51, .inl (cI, 256, .inl f51)), (oK, .inr (3, [.ref k1, .ref k2, .int lK])), (k1, .inl (cI, 1024, .inl fK1)), (k2, .inl (cI, 1024, .inl fK2))]) ef_5 rfl (fun H locs hPn hDn hSn => ?_))
  clear hP hD hS
  have hP := hPn
  have hD := hDn
  have hS := hSn
  clear hPn hDn hSn
  refine lv_iload_n hx hb dX1_findTails_36 rfl (lv_at hl 0 rfl) ?_
  refine lv_iconst (v := 1) hx hb dX1_findTails_37 (by decide) ?_
  refine lv_isub hx hb dX1_findTails_38 ?_
  refine lv_topi (fun x_6 ex_6 => ?_)
  have tx_6 : x_6.toInt = lw.toInt - 1 := v_subR (l2 := 1) (h2 := 1) ex_6 g_lw (by decide) (by decide) (by decide)
  refine lv_istore_n (lv' := [(2, .int x_6), (1, .int lw), (0, .ref oW)]) hx hb dX1_findTails_39 rfl hl (by decide) rfl (fun ls hl => ?_)
  have LOOP_40 : ∀ (k_40 : Nat) (p_ : Int32) (fta1 : Nat → Int32) (fta2 : Nat → Int32) (fta3 : Nat → Int32) (H : Heap) (locs : List Loc) (ls : Array Slot), MSd (p_.toInt + 1 : Int) k_40 → (-1 ≤ p_.toInt ∧ p_.toInt ≤ 799) → (lm.toInt ≤ p_.toInt ∧ p_.toInt < lw.toInt) → (∀ p : Nat, p_.toInt < (p : Int) → (p : Int) ≤ lw.toInt → (fta3 p).toInt = -1 ∨ (0 ≤ (fta3 p).toInt ∧ (fta3 p).toInt ≤ lw.toInt - p)) → (∀ p : Nat, p_.toInt < (p : Int) → (p : Int) ≤ lw.toInt → TLK (tcC fK1 fK2) (dl wi f41 f51 fw lw.toInt) (dx wi f41 f51 fw lw.toInt) lw.toNatClampNeg fta1 fta2 fta3 p) → va_P (dC, dI) vwCl [(oW, .inr (1, [.ref oC, .ref oK, .ref nw, .ref w1, .ref w2, .ref w3, .ref o7, .ref o8, .ref o9, .ref w4, .ref w5, .ref w6, .ref w7, .int ke, .int tl, .int fsh, .int wi, .int ri, .int fm, .int lm])), (w1, .inl (cI, 801, .inl fta1)), (w2, .inl (cI, 801, .inl fta2)), (w3, .inl (cI, 801, .inl fta3)), (nw, .inr (5, [.ref aw, .int lw])), (aw, .inl (cI, 800, .inl fw)), (oC, .inr (2, [.ref o4, .ref o5])), (o4, .inr (10, [.ref a41, .ref a42, .ref a43, .int l4])), (a41, .inl (cI, 256, .inl f41)), (o5, .inr (10, [.ref a51, .ref a52, .ref a53, .int l5])), (a51, .inl (cI, 256, .inl f51)), (oK, .inr (3, [.ref k1, .ref k2, .int lK])), (k1, .inl (cI, 1024, .inl fK1)), (k2, .inl (cI, 1024, .inl fK2))] H → va_D A [(oW, .inr (1, [.ref oC, .ref oK, .ref nw, .ref w1, .ref w2, .ref w3, .ref o7, .ref o8, .ref o9, .ref w4, .ref w5, .ref w6, .ref w7, .int ke, .int tl, .int fsh, .int wi, .int ri, .int fm, .int lm])), (w1, .inl (cI, 801, .inl fta1)), (w2, .inl (cI, 801, .inl fta2)), (w3, .inl (cI, 801, .inl fta3)), (nw, .inr (5, [.ref aw, .int lw])), (aw, .inl (cI, 800, .inl fw)), (oC, .inr (2, [.ref o4, .ref o5])), (o4, .inr (10, [.ref a41, .ref a42, .ref a43, .int l4])), (a41, .inl (cI, 256, .inl f41)), (o5, .inr (10, [.ref a51, .ref a52, .ref a53, .int l5])), (a51, .inl (cI, 256, .inl f51)), (oK, .inr (3, [.ref k1, .ref k2, .int lK])), (k1, .inl (cI, 1024, .inl fK1)), (k2, .inl (cI, 1024, .inl fK2))] → va_S A s.heap H locs → lv_has ls 5 [(2, .int p_), (1, .int lw), (0, .ref oW)] → W p l e (headSpec wsX1_findTails ({ frames := 3, cells := 0, slots := 0, locals := 74 } : Room)).room s m ([.ref oW] : List Value).toArray below meth c H locs 0 0 (MQ below QQ ([.ref oW] : List Value).toArray s 0 0 A) (F0 m 40 ls []) := by
    clear hP hD hS hl
    intro k_40
    induction k_40 with
    | zero =>
      intro p_ fta1 fta2 fta3 H locs ls hm_40 g_p_ hpl hlb htl hP hD hS hl
      exact ms_0 hm_40
    | succ k_40 ih_40 =>
      intro p_ fta1 fta2 fta3 H locs ls hm_40 g_p_ hpl hlb htl hP hD hS hl
      refine lv_iload_n hx hb dX1_findTails_40 rfl (lv_at hl 0 rfl) ?_
      refine lv_aload_n hx hb dX1_findTails_41 rfl (lv_at hl 2 rfl) ?_
      refine va_get (D := (dC, dI)) (ci := 1) (v := .int lm) (C := RX1) (T := TX1) (N := 20) hx hb hts in_X1 hown hK hP 0 rfl rfl 19 (Nat.le_of_ble_eq_true rfl) (hts (.fieldLink RX1 85 "TextMender$Choices" "lastMark" "I") (List.mem_of_getElem? (i := 9) rfl)) (fun _ h9 => h9) rfl dX1_findTails_42 ?_
      refine lv_icmp_le (tgt := 185) hx hb dX1_findTails_45 (by decide) (fun c_7 => ?_) (fun c_7 => ?_)
      · have tc_7 : p_.toInt ≤ lm.toInt := v_le c_7
        exact kl_v hQQ hx hb hr hlocks hS dX1_findTails_185 (fun PZ9 kZ9 => kZ9 fta1 fta2 fta3 (⟨hP, hD⟩) (fun p p1 p2 => htl p (by omega) p2))
      · have tc_7 : lm.toInt < p_.toInt := v_nle c_7
        refine lv_iload_n hx hb dX1_findTails_48 rfl (lv_at hl 0 rfl) ?_
        refine lv_if_lt (tgt := 185) hx hb dX1_findTails_49 (by decide) (fun c_8 => by exfalso; have tc_8 : p_.toInt < 0 := v_lt c_8; omega) (fun c_8 => ?_)
        have tc_8 : 0 ≤ p_.toInt := v_nlt c_8
        have cp9 := v_clamp (x := p_) (by omega)
        refine lv_aload_n hx hb dX1_findTails_52 rfl (lv_at hl 2 rfl) ?_
        refine va_get (D := (dC, dI)) (ci := 1) (v := .ref oC) (C := RX1) (T := TX1) (N := 20) hx hb hts in_X1 hown hK hP 0 rfl rfl 0 (Nat.le_of_ble_eq_true rfl) (hts (.fieldLink RX1 42 "TextMender$Choices" "codes" "LTextMender$Codes;") (List.mem_of_getElem? (i := 10) rfl)) (fun _ h9 => h9) rfl dX1_findTails_53 ?_
        refine lv_aload_n hx hb dX1_findTails_56 rfl (lv_at hl 2 rfl) ?_
        refine va_get (D := (dC, dI)) (ci := 1) (v := .int wi) (C := RX1) (T := TX1) (N := 20) hx hb hts in_X1 hown hK hP 0 rfl rfl 16 (Nat.le_of_ble_eq_true rfl) (hts (.fieldLink RX1 76 "TextMender$Choices" "writtenIn" "I") (List.mem_of_getElem? (i := 11) rfl)) (fun _ h9 => h9) rfl dX1_findTails_57 ?_
        refine lv_aload_n hx hb dX1_findTails_60 rfl (lv_at hl 2 rfl) ?_
        refine va_get (D := (dC, dI)) (ci := 1) (v := .ref nw) (C := RX1) (T := TX1) (N := 20) hx hb hts in_X1 hown hK hP 0 rfl rfl 2 (Nat.le_of_ble_eq_true rfl) (hts (.fieldLink RX1 16 "TextMender$Choices" "bytes" "LTextMender$Numbers;") (List.mem_of_getElem? (i := 1) rfl)) (fun _ h9 => h9) rfl dX1_findTails_61 ?_
        refine lv_iload_n hx hb dX1_findTails_64 rfl (lv_at hl 0 rfl) ?_
        refine lv_iload_n hx hb dX1_findTails_65 rfl (lv_at hl 1 rfl) ?_
        refine kV_i (rest := []) (q0 := 0) (ci := 2) hcf (f_X2_decode l dC dI cI cS H.size oC nw o4 o5 a41 a42 a43 a51 a52 a53 aw 800 l4 f41 l5 f51 lw fw wi p_ lw (by omega) (by omega) (by omega) (by omega) (hby) (hL4) (hL5)) kc_X2_decode gX1_findTails_X2_decode rfl rfl rfl ⟨Nat.le_of_ble_eq_true rfl, Nat.le_of_ble_eq_true rfl⟩ (kX_1 hN52) hK hP hD hS hA ([2, 3, 4, 5, 6, 0, 1].filterMap (fun j => (posT mk_70 0)[j]?)) (posF mk_70 0) (kCp (ws := [(nw, .inr (5, [.ref aw, .int lw])), (aw, .inl (cI, 800, .inl fw)), (oC, .inr (2, [.ref o4, .ref o5])), (o4, .inr (10, [.ref a41, .ref a42, .ref a43, .int l4])), (a41, .inl (cI, 256, .inl f41)), (o5, .inr (10, [.ref a51, .ref a52, .ref a53, .int l5])), (a51, .inl (cI, 256, .inl f51))]) (kC_of mk_70 rfl rfl) rfl) (by decide +kernel) rfl rfl rfl hl rfl (Nat.le_of_ble_eq_true rfl) dX1_findTails_66 ⟨Nat.le_of_ble_eq_true rfl, Nat.le_of_ble_eq_true rfl⟩ (fun r_9 H locs hB hJ hSn => ?_)
        refine hB _ (fun hPD9 hf9_0 => ?_)
        clear hB
        obtain ⟨hPn, hDn⟩ := kJm (m := mk_70) hJ rfl hPD9.1 hPD9.2 [5, 6, 0, 1, 2, 3, 4] (by decide +kernel) (ws := [(nw, .inr (5, [.ref aw, .int lw])), (aw, .inl (cI, 800, .inl fw)), (oC, .inr (2, [.ref o4, .ref o5])), (o4, .inr (10, [.ref a41, .ref a42, .ref a43, .int l4])), (a41, .inl (cI, 256, .inl f41)), (o5, .inr (10, [.ref a51, .ref a52, .ref a53, .int l5])), (a51, .inl (cI, 256, .inl f51))]) rfl (wn := [(oW, .inr (1, [.ref oC, .ref oK, .ref nw, .ref w1, .ref w2, .ref w3, .ref o7, .ref o8, .ref o9, .ref w4, .ref w5, .ref w6, .ref w7, .int ke, .int tl, .int fsh, .int wi, .int ri, .int fm, .int lm])), (w1, .inl (cI, 801, .inl fta1)), (w2, .inl (cI, 801, .inl fta2)), (w3, .inl (cI, 801, .inl fta3)), (nw, .inr (5, [.ref aw, .int lw])), (aw, .inl (cI, 800, .inl fw)), (oC, .inr (2, [.ref o4, .ref o5])), (o4, .inr (10, [.ref a41, .ref a42, .ref a43, .int l4])), (a41, .inl (cI, 256, .inl f41)), (o5, .inr (10, [.ref a51, .ref a52, .ref a53, .int l5])), (a51, .inl (cI, 256, .inl f51)), (oK, .inr (3, [.ref k1, .ref k2, .int lK])), (k1, .inl (cI, 1024, .inl fK1)), (k2, .inl (cI, 1024, .inl fK2))]) rfl
        clear hP hD hS hJ hPD9
        have hP := hPn
        have hD := hDn
        have hS := hSn
        clear hPn hDn hSn
        refine lv_istore_n (lv' := [(3, .int r_9), (2, .int p_), (1, .int lw), (0, .ref oW)]) hx hb dX1_findTails_69 rfl hl (by decide) rfl (fun ls hl => ?_)
        refine lv_iload_n hx hb dX1_findTails_70 rfl (lv_at hl 0 rfl) ?_
        refine lv_iconst (v := (-1)) hx hb dX1_findTails_71 (by decide) ?_
        refine lv_icmp_ne (tgt := 79) hx hb dX1_findTails_72 (by decide) (fun c_10 => ?_) (fun c_10 => ?_)
        · have tc_10 : ¬ r_9.toInt = (-1) := v_ne c_10
          obtain ⟨l9, x9, hD9, hr9, hx9, hy9⟩ := F_dc_1 hf9_0 c_10
          have hp9 := Dec_pos hD9
          have hd9 := dl_of hD9
          refine lv_iload_n hx hb dX1_findTails_79 rfl (lv_at hl 1 rfl) ?_
          refine lv_iload_n hx hb dX1_findTails_80 rfl (lv_at hl 0 rfl) ?_
          refine kS_i (rest := [.int p_]) hcf (f_X2_bytesIn l dC dI cI cS H.size r_9 (by omega)) kc_X2_bytesIn gX1_findTails_X2_bytesIn rfl rfl ⟨Nat.le_of_ble_eq_true rfl, Nat.le_of_ble_eq_true rfl⟩ kX_t hK hP hD hS hA (posT mk_71 0) (posF mk_71 0) (kC_of mk_71 rfl rfl) (by decide +kernel) rfl hl rfl (Nat.le_of_ble_eq_true rfl) dX1_findTails_81 ⟨Nat.le_of_ble_eq_true rfl, Nat.le_of_ble_eq_true rfl⟩ (fun r_11 H locs hB hJ hSn => ?_)
          refine hB _ (fun hPD9 hf11_0 hf11_1 => ?_)
          clear hB
          obtain ⟨hPn, hDn⟩ := kJi (m := mk_71) hJ rfl hPD9.1 hPD9.2 (wn := [(oW, .inr (1, [.ref oC, .ref oK, .ref nw, .ref w1, .ref w2, .ref w3, .ref o7, .ref o8, .ref o9, .ref w4, .ref w5, .ref w6, .ref w7, .int ke, .int tl, .int fsh, .int wi, .int ri, .int fm, .int lm])), (w1, .inl (cI, 801, .inl fta1)), (w2, .inl (cI, 801, .inl fta2)), (w3, .inl (cI, 801, .inl fta3)), (nw, .inr (5, [.ref aw, .int lw])), (aw, .inl (cI, 800, .inl fw)), (oC, .inr (2, [.ref o4, .ref o5])), (o4, .inr (10, [.ref a41, .ref a42, .ref a43, .int l4])), (a41, .inl (cI, 256, .inl f41)), (o5, .inr (10, [.ref a51, .ref a52, .ref a53, .int l5])), (a51, .inl (cI, 256, .inl f51)), (oK, .inr (3, [.ref k1, .ref k2, .int lK])), (k1, .inl (cI, 1024, .inl fK1)), (k2, .inl (cI, 1024, .inl fK2))]) rfl
          clear hP hD hS hJ hPD9
          have hP := hPn
          have hD := hDn
          have hS := hSn
          clear hPn hDn hSn
          refine lv_iadd hx hb dX1_findTails_84 ?_
          refine lv_topi (fun x_12 ex_12 => ?_)
          have tx_12 : x_12.toInt = p_.toInt + r_11.toInt := v_addR ex_12 g_p_ hf11_0 (by decide) (by decide)
          refine lv_istore (lv' := [(4, .int x_12), (3, .int r_9), (2, .int p_), (1, .int lw), (0, .ref oW)]) hx hb dX1_findTails_85 hl (by decide) rfl (fun ls hl => ?_)
          refine lv_iload hx hb dX1_findTails_87 (lv_at hl 0 rfl) ?_
          refine lv_iload_n hx hb dX1_findTails_89 rfl (lv_at hl 2 rfl) ?_
          refine lv_icmp_le (tgt := 110) hx hb dX1_findTails_90 (by decide) (fun c_13 => by exfalso; have tc_13 : x_12.toInt ≤ p_.toInt := v_le c_13; omega) (fun c_13 => ?_)
          have tc_13 : p_.toInt < x_12.toInt := v_nle c_13
          refine lv_iload hx hb dX1_findTails_93 (lv_at hl 0 rfl) ?_
          refine lv_iload_n hx hb dX1_findTails_95 rfl (lv_at hl 3 rfl) ?_
          refine lv_icmp_gt (tgt := 110) hx hb dX1_findTails_96 (by decide) (fun c_14 => by exfalso; have tc_14 : lw.toInt < x_12.toInt := v_lt c_14; omega) (fun c_14 => ?_)
          have tc_14 : x_12.toInt ≤ lw.toInt := v_nlt c_14
          have cn9 := v_clamp (x := x_12) (by omega)
          refine lv_aload_n hx hb dX1_findTails_99 rfl (lv_at hl 4 rfl) ?_
          refine va_get (D := (dC, dI)) (ci := 1) (v := .ref w3) (C := RX1) (T := TX1) (N := 20) hx hb hts in_X1 hown hK hP 0 rfl rfl 5 (Nat.le_of_ble_eq_true rfl) (hts (.fieldLink RX1 27 "TextMender$Choices" "tailLetters" "[I") (List.mem_of_getElem? (i := 8) rfl)) (fun _ h9 => h9) rfl dX1_findTails_100 ?_
          refine lv_iload hx hb dX1_findTails_103 (lv_at hl 0 rfl) ?_
          refine va_iald hx hb hK hP 3 0 rfl rfl (v_in (by omega)) dX1_findTails_105 ?_
          refine lv_topi (fun x_15 ex_15 => ?_)
          have ho_x_15 : x_15.toInt = -1 ∨ (0 ≤ x_15.toInt ∧ x_15.toInt ≤ lw.toInt - x_12.toInt) := by have q9 := hlb x_12.toNatClampNeg (by omega) (by omega); rw [ex_15]; omega
          refine lv_iconst (v := (-1)) hx hb dX1_findTails_106 (by decide) ?_
          refine lv_icmp_ne (tgt := 120) hx hb dX1_findTails_107 (by decide) (fun c_16 => ?_) (fun c_16 => ?_)
          · have tc_16 : ¬ x_15.toInt = (-1) := v_ne c_16
            refine lv_aload_n hx hb dX1_findTails_120 rfl (lv_at hl 4 rfl) ?_
            refine va_get (D := (dC, dI)) (ci := 1) (v := .ref w1) (C := RX1) (T := TX1) (N := 20) hx hb hts in_X1 hown hK hP 0 rfl rfl 3 (Nat.le_of_ble_eq_true rfl) (hts (.fieldLink RX1 20 "TextMender$Choices" "tailFirst" "[I") (List.mem_of_getElem? (i := 6) rfl)) (fun _ h9 => h9) rfl dX1_findTails_121 ?_
            refine lv_iload_n hx hb dX1_findTails_124 rfl (lv_at hl 2 rfl) ?_
            refine lv_iload_n hx hb dX1_findTails_125 rfl (lv_at hl 1 rfl) ?_
            refine kS_i (rest := [.int p_, .ref w1]) hcf (f_X2_letterIn l dC dI cI cS H.size r_9 ) kc_X2_letterIn gX1_findTails_X2_letterIn rfl rfl ⟨Nat.le_of_ble_eq_true rfl, Nat.le_of_ble_eq_true rfl⟩ kX_t hK hP hD hS hA (posT mk_71 0) (posF mk_71 0) (kC_of mk_71 rfl rfl) (by decide +kernel) rfl hl rfl (Nat.le_of_ble_eq_true rfl) dX1_findTails_126 ⟨Nat.le_of_ble_eq_true rfl, Nat.le_of_ble_eq_true rfl⟩ (fun r_17 H locs hB hJ hSn => ?_)
            refine hB _ (fun hPD9 hf17_0 => ?_)
            clear hB
            obtain ⟨hPn, hDn⟩ := kJi (m := mk_71) hJ rfl hPD9.1 hPD9.2 (wn := [(oW, .inr (1, [.ref oC, .ref oK, .ref nw, .ref w1, .ref w2, .ref w3, .ref o7, .ref o8, .ref o9, .ref w4, .ref w5, .ref w6, .ref w7, .int ke, .int tl, .int fsh, .int wi, .int ri, .int fm, .int lm])), (w1, .inl (cI, 801, .inl fta1)), (w2, .inl (cI, 801, .inl fta2)), (w3, .inl (cI, 801, .inl fta3)), (nw, .inr (5, [.ref aw, .int lw])), (aw, .inl (cI, 800, .inl fw)), (oC, .inr (2, [.ref o4, .ref o5])), (o4, .inr (10, [.ref a41, .ref a42, .ref a43, .int l4])), (a41, .inl (cI, 256, .inl f41)), (o5, .inr (10, [.ref a51, .ref a52, .ref a53, .int l5])), (a51, .inl (cI, 256, .inl f51)), (oK, .inr (3, [.ref k1, .ref k2, .int lK])), (k1, .inl (cI, 1024, .inl fK1)), (k2, .inl (cI, 1024, .inl fK2))]) rfl
            clear hP hD hS hJ hPD9
            have hP := hPn
            have hD := hDn
            have hS := hSn
            clear hPn hDn hSn
            obtain ⟨f_18, ef_18⟩ : ∃ g : Nat → Int32, g = upd fta1 (p_ : Int32).toNatClampNeg r_17 := ⟨_, rfl⟩
            refine va_iast hx hb hK hP hD hS 1 0 rfl rfl (v_in (by omega)) dX1_findTails_129 (kWf (g := f_18) (F := fun f_18 => [(oW, .inr (1, [.ref oC, .ref oK, .ref nw, .ref w1, .ref w2, .ref w3, .ref o7, .ref o8, .ref o9, .ref w4, .ref w5, .ref w6, .ref w7, .int ke, .int tl, .int fsh, .int wi, .int ri, .int fm, .int lm])), (w1, .inl (cI, 801, .inl f_18)), (w2, .inl (cI, 801, .inl fta2)), (w3, .inl (cI, 801, .inl fta3)), (nw, .inr (5, [.ref aw, .int lw])), (aw, .inl (cI, 800, .inl fw)), (oC, .inr (2, [.ref o4, .ref o5])), (o4, .inr (10, [.ref a41, .ref a42, .ref a43, .int l4])), (a41, .inl (cI, 256, .inl f41)), (o5, .inr (10, [.ref a51, .ref a52, .ref a53, .int l5])), (a51, .inl (cI, 256, .inl f51)), (oK, .inr (3, [.ref k1, .ref k2, .int lK])), (k1, .inl (cI, 1024, .inl fK1)), (k2, .inl (cI, 1024, .inl fK2))]) ef_18 rfl (fun H locs hPn hDn hSn => ?_))
            clear hP hD hS
            have hP := hPn
            have hD := hDn
            have hS := hSn
            clear hPn hDn hSn
            refine lv_aload_n hx hb dX1_findTails_130 rfl (lv_at hl 4 rfl) ?_
            refine va_get (D := (dC, dI)) (ci := 1) (v := .ref w2) (C := RX1) (T := TX1) (N := 20) hx hb hts in_X1 hown hK hP 0 rfl rfl 4 (Nat.le_of_ble_eq_true rfl) (hts (.fieldLink RX1 24 "TextMender$Choices" "tailSum" "[I") (List.mem_of_getElem? (i := 7) rfl)) (fun _ h9 => h9) rfl dX1_findTails_131 ?_
            refine lv_iload_n hx hb dX1_findTails_134 rfl (lv_at hl 2 rfl) ?_
            refine lv_aload_n hx hb dX1_findTails_135 rfl (lv_at hl 4 rfl) ?_
            refine va_get (D := (dC, dI)) (ci := 1) (v := .ref w2) (C := RX1) (T := TX1) (N := 20) hx hb hts in_X1 hown hK hP 0 rfl rfl 4 (Nat.le_of_ble_eq_true rfl) (hts (.fieldLink RX1 24 "TextMender$Choices" "tailSum" "[I") (List.mem_of_getElem? (i := 7) rfl)) (fun _ h9 => h9) rfl dX1_findTails_136 ?_
            refine lv_iload hx hb dX1_findTails_139 (lv_at hl 0 rfl) ?_
            refine va_iald hx hb hK hP 2 0 rfl rfl (v_in (by omega)) dX1_findTails_141 ?_
            refine lv_topi (fun x_19 ex_19 => ?_)
            have ho_x_19 : 0 ≤ x_19.toInt ∧ x_19.toInt ≤ 160000 := by have q9 := tl_b (htl x_12.toNatClampNeg (by omega) (by omega)) (fun e9 => c_16 (ex_15.trans e9)); rw [ex_19]; omega
            refine lv_aload_n hx hb dX1_findTails_142 rfl (lv_at hl 4 rfl) ?_
            refine va_get (D := (dC, dI)) (ci := 1) (v := .ref oK) (C := RX1) (T := TX1) (N := 20) hx hb hts in_X1 hown hK hP 0 rfl rfl 1 (Nat.le_of_ble_eq_true rfl) (hts (.fieldLink RX1 46 "TextMender$Choices" "costs" "LTextMender$Costs;") (List.mem_of_getElem? (i := 12) rfl)) (fun _ h9 => h9) rfl dX1_findTails_143 ?_
            refine lv_aload_n hx hb dX1_findTails_146 rfl (lv_at hl 4 rfl) ?_
            refine va_get (D := (dC, dI)) (ci := 1) (v := .ref w1) (C := RX1) (T := TX1) (N := 20) hx hb hts in_X1 hown hK hP 0 rfl rfl 3 (Nat.le_of_ble_eq_true rfl) (hts (.fieldLink RX1 20 "TextMender$Choices" "tailFirst" "[I") (List.mem_of_getElem? (i := 6) rfl)) (fun _ h9 => h9) rfl dX1_findTails_147 ?_
            refine lv_iload_n hx hb dX1_findTails_150 rfl (lv_at hl 2 rfl) ?_
            refine va_iald hx hb hK hP 1 0 rfl rfl (v_in (by omega)) dX1_findTails_151 ?_
            refine lv_topi (fun x_20 ex_20 => ?_)
            have hx0 : x_20 = r_17 := by rw [ex_20, ef_18, pk_us]
            have hx1 : 0 ≤ x_20.toInt ∧ x_20.toInt ≤ 65535 := by rw [hx0]; omega
            refine lv_aload_n hx hb dX1_findTails_152 rfl (lv_at hl 4 rfl) ?_
            refine va_get (D := (dC, dI)) (ci := 1) (v := .ref w1) (C := RX1) (T := TX1) (N := 20) hx hb hts in_X1 hown hK hP 0 rfl rfl 3 (Nat.le_of_ble_eq_true rfl) (hts (.fieldLink RX1 20 "TextMender$Choices" "tailFirst" "[I") (List.mem_of_getElem? (i := 6) rfl)) (fun _ h9 => h9) rfl dX1_findTails_153 ?_
            refine lv_iload hx hb dX1_findTails_156 (lv_at hl 0 rfl) ?_
            refine va_iald hx hb hK hP 1 0 rfl rfl (v_in (by omega)) dX1_findTails_158 ?_
            refine lv_topi (fun x_21 ex_21 => ?_)
            have hfn9 : x_21 = fta1 x_12.toNatClampNeg := by rw [ex_21, ef_18, pk_un (by omega)]
            have hf8 : 0 ≤ x_21.toInt ∧ x_21.toInt ≤ 65535 := by have q9 := tl_b (htl x_12.toNatClampNeg (by omega) (by omega)) (fun e9 => c_16 (ex_15.trans e9)); rw [hfn9]; omega
            refine kV_i (rest := [.int x_19, .int p_, .ref w2]) (q0 := 0) (ci := 3) hcf (f_X3_of l dC dI cI cS H.size oK k1 k2 lK fK1 fK2 x_20 x_21 (g_lK) (by omega) (by omega) (hT) (ho) (hV)) kc_X3_of gX1_findTails_X3_of rfl rfl rfl ⟨Nat.le_of_ble_eq_true rfl, Nat.le_of_ble_eq_true rfl⟩ kX_t hK hP hD hS hA (posT mk_72 0) (posF mk_72 0) (kC_of mk_72 rfl rfl) (by decide +kernel) rfl rfl rfl hl rfl (Nat.le_of_ble_eq_true rfl) dX1_findTails_159 ⟨Nat.le_of_ble_eq_true rfl, Nat.le_of_ble_eq_true rfl⟩ (fun r_22 H locs hB hJ hSn => ?_)
            refine hB _ (fun hPD9 hf22_0 hf22_1 => ?_)
            clear hB
            obtain ⟨hPn, hDn⟩ := kJi (m := mk_72) hJ rfl hPD9.1 hPD9.2 (wn := [(oW, .inr (1, [.ref oC, .ref oK, .ref nw, .ref w1, .ref w2, .ref w3, .ref o7, .ref o8, .ref o9, .ref w4, .ref w5, .ref w6, .ref w7, .int ke, .int tl, .int fsh, .int wi, .int ri, .int fm, .int lm])), (w1, .inl (cI, 801, .inl f_18)), (w2, .inl (cI, 801, .inl fta2)), (w3, .inl (cI, 801, .inl fta3)), (nw, .inr (5, [.ref aw, .int lw])), (aw, .inl (cI, 800, .inl fw)), (oC, .inr (2, [.ref o4, .ref o5])), (o4, .inr (10, [.ref a41, .ref a42, .ref a43, .int l4])), (a41, .inl (cI, 256, .inl f41)), (o5, .inr (10, [.ref a51, .ref a52, .ref a53, .int l5])), (a51, .inl (cI, 256, .inl f51)), (oK, .inr (3, [.ref k1, .ref k2, .int lK])), (k1, .inl (cI, 1024, .inl fK1)), (k2, .inl (cI, 1024, .inl fK2))]) rfl
            clear hP hD hS hJ hPD9
            have hP := hPn
            have hD := hDn
            have hS := hSn
            clear hPn hDn hSn
            refine lv_iadd hx hb dX1_findTails_162 ?_
            refine lv_topi (fun x_23 ex_23 => ?_)
            have tx_23 : x_23.toInt = x_19.toInt + r_22.toInt := v_add ex_23 (by show -2147483648 ≤ x_19.toInt + r_22.toInt; omega) (by show x_19.toInt + r_22.toInt < 2147483648; omega)
            obtain ⟨f_24, ef_24⟩ : ∃ g : Nat → Int32, g = upd fta2 (p_ : Int32).toNatClampNeg x_23 := ⟨_, rfl⟩
            refine va_iast hx hb hK hP hD hS 2 0 rfl rfl (v_in (by omega)) dX1_findTails_163 (kWf (g := f_24) (F := fun f_24 => [(oW, .inr (1, [.ref oC, .ref oK, .ref nw, .ref w1, .ref w2, .ref w3, .ref o7, .ref o8, .ref o9, .ref w4, .ref w5, .ref w6, .ref w7, .int ke, .int tl, .int fsh, .int wi, .int ri, .int fm, .int lm])), (w1, .inl (cI, 801, .inl f_18)), (w2, .inl (cI, 801, .inl f_24)), (w3, .inl (cI, 801, .inl fta3)), (nw, .inr (5, [.ref aw, .int lw])), (aw, .inl (cI, 800, .inl fw)), (oC, .inr (2, [.ref o4, .ref o5])), (o4, .inr (10, [.ref a41, .ref a42, .ref a43, .int l4])), (a41, .inl (cI, 256, .inl f41)), (o5, .inr (10, [.ref a51, .ref a52, .ref a53, .int l5])), (a51, .inl (cI, 256, .inl f51)), (oK, .inr (3, [.ref k1, .ref k2, .int lK])), (k1, .inl (cI, 1024, .inl fK1)), (k2, .inl (cI, 1024, .inl fK2))]) ef_24 rfl (fun H locs hPn hDn hSn => ?_))
            clear hP hD hS
            have hP := hPn
            have hD := hDn
            have hS := hSn
            clear hPn hDn hSn
            refine lv_aload_n hx hb dX1_findTails_164 rfl (lv_at hl 4 rfl) ?_
            refine va_get (D := (dC, dI)) (ci := 1) (v := .ref w3) (C := RX1) (T := TX1) (N := 20) hx hb hts in_X1 hown hK hP 0 rfl rfl 5 (Nat.le_of_ble_eq_true rfl) (hts (.fieldLink RX1 27 "TextMender$Choices" "tailLetters" "[I") (List.mem_of_getElem? (i := 8) rfl)) (fun _ h9 => h9) rfl dX1_findTails_165 ?_
            refine lv_iload_n hx hb dX1_findTails_168 rfl (lv_at hl 2 rfl) ?_
            refine lv_aload_n hx hb dX1_findTails_169 rfl (lv_at hl 4 rfl) ?_
            refine va_get (D := (dC, dI)) (ci := 1) (v := .ref w3) (C := RX1) (T := TX1) (N := 20) hx hb hts in_X1 hown hK hP 0 rfl rfl 5 (Nat.le_of_ble_eq_true rfl) (hts (.fieldLink RX1 27 "TextMender$Choices" "tailLetters" "[I") (List.mem_of_getElem? (i := 8) rfl)) (fun _ h9 => h9) rfl dX1_findTails_170 ?_
            refine lv_iload hx hb dX1_findTails_173 (lv_at hl 0 rfl) ?_
            refine va_iald hx hb hK hP 3 0 rfl rfl (v_in (by omega)) dX1_findTails_175 ?_
            refine k_i (y := x_15) ex_15.symm ?_
            refine lv_iconst (v := 1) hx hb dX1_findTails_176 (by decide) ?_
            refine lv_iadd hx hb dX1_findTails_177 ?_
            refine lv_topi (fun x_25 ex_25 => ?_)
            have tx_25 : x_25.toInt = x_15.toInt + 1 := v_add ex_25 (by show -2147483648 ≤ x_15.toInt + 1; omega) (by show x_15.toInt + 1 < 2147483648; omega)
            obtain ⟨f_26, ef_26⟩ : ∃ g : Nat → Int32, g = upd fta3 (p_ : Int32).toNatClampNeg x_25 := ⟨_, rfl⟩
            refine va_iast hx hb hK hP hD hS 3 0 rfl rfl (v_in (by omega)) dX1_findTails_178 (kWf (g := f_26) (F := fun f_26 => [(oW, .inr (1, [.ref oC, .ref oK, .ref nw, .ref w1, .ref w2, .ref w3, .ref o7, .ref o8, .ref o9, .ref w4, .ref w5, .ref w6, .ref w7, .int ke, .int tl, .int fsh, .int wi, .int ri, .int fm, .int lm])), (w1, .inl (cI, 801, .inl f_18)), (w2, .inl (cI, 801, .inl f_24)), (w3, .inl (cI, 801, .inl f_26)), (nw, .inr (5, [.ref aw, .int lw])), (aw, .inl (cI, 800, .inl fw)), (oC, .inr (2, [.ref o4, .ref o5])), (o4, .inr (10, [.ref a41, .ref a42, .ref a43, .int l4])), (a41, .inl (cI, 256, .inl f41)), (o5, .inr (10, [.ref a51, .ref a52, .ref a53, .int l5])), (a51, .inl (cI, 256, .inl f51)), (oK, .inr (3, [.ref k1, .ref k2, .int lK])), (k1, .inl (cI, 1024, .inl fK1)), (k2, .inl (cI, 1024, .inl fK2))]) ef_26 rfl (fun H locs hPn hDn hSn => ?_))
            clear hP hD hS
            have hP := hPn
            have hD := hDn
            have hS := hSn
            clear hPn hDn hSn
            obtain ⟨x_27, ex_27⟩ : ∃ y : Int32, y = p_ + (-1) := ⟨_, rfl⟩
            have tx_27 : x_27.toInt = p_.toInt + (-1) := v_addR (l2 := (-1)) (h2 := (-1)) ex_27 g_p_ (by decide) (by decide) (by decide)
            refine lv_iinc (v := x_27) (lv' := [(2, .int x_27), (4, .int x_12), (3, .int r_9), (1, .int lw), (0, .ref oW)]) hx hb dX1_findTails_179 hl (k := 2) rfl (by rw [ex_27]; rfl) (by decide) rfl (fun ls hl => ?_)
            refine lv_goto (tgt := 40) hx hb dX1_findTails_182 (by decide) ?_
            exact ih_40 x_27 f_18 f_24 f_26 _ _ _ (ms_lt hm_40 (by show ((x_27.toInt + 1 : Int)) < p_.toInt + 1; omega) (by show (0 : Int) < p_.toInt + 1; omega)) (by show -1 ≤ x_27.toInt ∧ x_27.toInt ≤ 799; omega) (by show lm.toInt ≤ x_27.toInt ∧ x_27.toInt < lw.toInt; omega) (tl_lb hlb ef_26 (by omega) (by omega) (by first | exact Or.inl rfl | exact Or.inr (by omega))) (fun p p1 p2 => (Nat.lt_or_ge p_.toNatClampNeg p).elim (fun w9 => tl_k (htl p (by omega) p2) (by omega) (Or.inl ef_18) (Or.inl ef_24) ef_26) (fun w9 => (show p = p_.toNatClampNeg by omega) ▸ (tl_y (x := r_17) (htl x_12.toNatClampNeg (by omega) (by omega)) (by rw [hd9.1]; omega) (by rw [hd9.1]; omega) (fun e9 => c_16 (ex_15.trans e9)) (by rw [hd9.2]; exact v_inj (by omega)) ef_18 ef_24 ef_26 ex_19 hfn9 ex_15 (by rw [← hx0]; exact hf22_1) (by omega) (by omega) (by omega) (by omega) (by omega)))) hP hD hS (lv_sub hl [0, 3, 4] rfl)
          · have tc_16 : x_15.toInt = (-1) := v_eq c_16
            refine lv_aload_n hx hb dX1_findTails_110 rfl (lv_at hl 4 rfl) ?_
            refine va_get (D := (dC, dI)) (ci := 1) (v := .ref w3) (C := RX1) (T := TX1) (N := 20) hx hb hts in_X1 hown hK hP 0 rfl rfl 5 (Nat.le_of_ble_eq_true rfl) (hts (.fieldLink RX1 27 "TextMender$Choices" "tailLetters" "[I") (List.mem_of_getElem? (i := 8) rfl)) (fun _ h9 => h9) rfl dX1_findTails_111 ?_
            refine lv_iload_n hx hb dX1_findTails_114 rfl (lv_at hl 2 rfl) ?_
            refine lv_iconst (v := (-1)) hx hb dX1_findTails_115 (by decide) ?_
            obtain ⟨f_28, ef_28⟩ : ∃ g : Nat → Int32, g = upd fta3 (p_ : Int32).toNatClampNeg (-1) := ⟨_, rfl⟩
            refine va_iast hx hb hK hP hD hS 3 0 rfl rfl (v_in (by omega)) dX1_findTails_116 (kWf (g := f_28) (F := fun f_28 => [(oW, .inr (1, [.ref oC, .ref oK, .ref nw, .ref w1, .ref w2, .ref w3, .ref o7, .ref o8, .ref o9, .ref w4, .ref w5, .ref w6, .ref w7, .int ke, .int tl, .int fsh, .int wi, .int ri, .int fm, .int lm])), (w1, .inl (cI, 801, .inl fta1)), (w2, .inl (cI, 801, .inl fta2)), (w3, .inl (cI, 801, .inl f_28)), (nw, .inr (5, [.ref aw, .int lw])), (aw, .inl (cI, 800, .inl fw)), (oC, .inr (2, [.ref o4, .ref o5])), (o4, .inr (10, [.ref a41, .ref a42, .ref a43, .int l4])), (a41, .inl (cI, 256, .inl f41)), (o5, .inr (10, [.ref a51, .ref a52, .ref a53, .int l5])), (a51, .inl (cI, 256, .inl f51)), (oK, .inr (3, [.ref k1, .ref k2, .int lK])), (k1, .inl (cI, 1024, .inl fK1)), (k2, .inl (cI, 1024, .inl fK2))]) ef_28 rfl (fun H locs hPn hDn hSn => ?_))
            clear hP hD hS
            have hP := hPn
            have hD := hDn
            have hS := hSn
            clear hPn hDn hSn
            refine lv_goto (tgt := 179) hx hb dX1_findTails_117 (by decide) ?_
            obtain ⟨x_29, ex_29⟩ : ∃ y : Int32, y = p_ + (-1) := ⟨_, rfl⟩
            have tx_29 : x_29.toInt = p_.toInt + (-1) := v_addR (l2 := (-1)) (h2 := (-1)) ex_29 g_p_ (by decide) (by decide) (by decide)
            refine lv_iinc (v := x_29) (lv' := [(2, .int x_29), (4, .int x_12), (3, .int r_9), (1, .int lw), (0, .ref oW)]) hx hb dX1_findTails_179 hl (k := 2) rfl (by rw [ex_29]; rfl) (by decide) rfl (fun ls hl => ?_)
            refine lv_goto (tgt := 40) hx hb dX1_findTails_182 (by decide) ?_
            exact ih_40 x_29 fta1 fta2 f_28 _ _ _ (ms_lt hm_40 (by show ((x_29.toInt + 1 : Int)) < p_.toInt + 1; omega) (by show (0 : Int) < p_.toInt + 1; omega)) (by show -1 ≤ x_29.toInt ∧ x_29.toInt ≤ 799; omega) (by show lm.toInt ≤ x_29.toInt ∧ x_29.toInt < lw.toInt; omega) (tl_lb hlb ef_28 (by omega) (by omega) (by first | exact Or.inl rfl | exact Or.inr (by omega))) (fun p p1 p2 => (Nat.lt_or_ge p_.toNatClampNeg p).elim (fun w9 => tl_k (x := 0) (y := 0) (htl p (by omega) p2) (by omega) (Or.inr rfl) (Or.inr rfl) ef_28) (fun w9 => (show p = p_.toNatClampNeg by omega) ▸ (tl_n ef_28 (tl_non (htl x_12.toNatClampNeg (by omega) (by omega)) (by rw [hd9.1]; omega) (by rw [← ex_15]; exact c_16) (by omega))))) hP hD hS (lv_sub hl [0, 3, 4] rfl)
        · have tc_10 : r_9.toInt = (-1) := v_eq c_10
          refine lv_iconst (v := (-1)) hx hb dX1_findTails_75 (by decide) ?_
          refine lv_goto (tgt := 85) hx hb dX1_findTails_76 (by decide) ?_
          refine lv_istore (lv' := [(4, .int (-1)), (3, .int r_9), (2, .int p_), (1, .int lw), (0, .ref oW)]) hx hb dX1_findTails_85 hl (by decide) rfl (fun ls hl => ?_)
          refine lv_iload hx hb dX1_findTails_87 (lv_at hl 0 rfl) ?_
          refine lv_iload_n hx hb dX1_findTails_89 rfl (lv_at hl 2 rfl) ?_
          refine lv_icmp_le (tgt := 110) hx hb dX1_findTails_90 (by decide) (fun c_30 => ?_) (fun c_30 => by exfalso; have tc_30 : p_.toInt < (-1) := v_nle c_30; omega)
          have tc_30 : (-1) ≤ p_.toInt := v_le c_30
          refine lv_aload_n hx hb dX1_findTails_110 rfl (lv_at hl 4 rfl) ?_
          refine va_get (D := (dC, dI)) (ci := 1) (v := .ref w3) (C := RX1) (T := TX1) (N := 20) hx hb hts in_X1 hown hK hP 0 rfl rfl 5 (Nat.le_of_ble_eq_true rfl) (hts (.fieldLink RX1 27 "TextMender$Choices" "tailLetters" "[I") (List.mem_of_getElem? (i := 8) rfl)) (fun _ h9 => h9) rfl dX1_findTails_111 ?_
          refine lv_iload_n hx hb dX1_findTails_114 rfl (lv_at hl 2 rfl) ?_
          refine lv_iconst (v := (-1)) hx hb dX1_findTails_115 (by decide) ?_
          obtain ⟨f_31, ef_31⟩ : ∃ g : Nat → Int32, g = upd fta3 (p_ : Int32).toNatClampNeg (-1) := ⟨_, rfl⟩
          refine va_iast hx hb hK hP hD hS 3 0 rfl rfl (v_in (by omega)) dX1_findTails_116 (kWf (g := f_31) (F := fun f_31 => [(oW, .inr (1, [.ref oC, .ref oK, .ref nw, .ref w1, .ref w2, .ref w3, .ref o7, .ref o8, .ref o9, .ref w4, .ref w5, .ref w6, .ref w7, .int ke, .int tl, .int fsh, .int wi, .int ri, .int fm, .int lm])), (w1, .inl (cI, 801, .inl fta1)), (w2, .inl (cI, 801, .inl fta2)), (w3, .inl (cI, 801, .inl f_31)), (nw, .inr (5, [.ref aw, .int lw])), (aw, .inl (cI, 800, .inl fw)), (oC, .inr (2, [.ref o4, .ref o5])), (o4, .inr (10, [.ref a41, .ref a42, .ref a43, .int l4])), (a41, .inl (cI, 256, .inl f41)), (o5, .inr (10, [.ref a51, .ref a52, .ref a53, .int l5])), (a51, .inl (cI, 256, .inl f51)), (oK, .inr (3, [.ref k1, .ref k2, .int lK])), (k1, .inl (cI, 1024, .inl fK1)), (k2, .inl (cI, 1024, .inl fK2))]) ef_31 rfl (fun H locs hPn hDn hSn => ?_))
          clear hP hD hS
          have hP := hPn
          have hD := hDn
          have hS := hSn
          clear hPn hDn hSn
          refine lv_goto (tgt := 179) hx hb dX1_findTails_117 (by decide) ?_
          obtain ⟨x_32, ex_32⟩ : ∃ y : Int32, y = p_ + (-1) := ⟨_, rfl⟩
          have tx_32 : x_32.toInt = p_.toInt + (-1) := v_addR (l2 := (-1)) (h2 := (-1)) ex_32 g_p_ (by decide) (by decide) (by decide)
          refine lv_iinc (v := x_32) (lv' := [(2, .int x_32), (4, .int (-1)), (3, .int r_9), (1, .int lw), (0, .ref oW)]) hx hb dX1_findTails_179 hl (k := 2) rfl (by rw [ex_32]; rfl) (by decide) rfl (fun ls hl => ?_)
          refine lv_goto (tgt := 40) hx hb dX1_findTails_182 (by decide) ?_
          exact ih_40 x_32 fta1 fta2 f_31 _ _ _ (ms_lt hm_40 (by show ((x_32.toInt + 1 : Int)) < p_.toInt + 1; omega) (by show (0 : Int) < p_.toInt + 1; omega)) (by show -1 ≤ x_32.toInt ∧ x_32.toInt ≤ 799; omega) (by show lm.toInt ≤ x_32.toInt ∧ x_32.toInt < lw.toInt; omega) (tl_lb hlb ef_31 (by omega) (by omega) (by first | exact Or.inl rfl | exact Or.inr (by omega))) (fun p p1 p2 => (Nat.lt_or_ge p_.toNatClampNeg p).elim (fun w9 => tl_k (x := 0) (y := 0) (htl p (by omega) p2) (by omega) (Or.inr rfl) (Or.inr rfl) ef_31) (fun w9 => (show p = p_.toNatClampNeg by omega) ▸ (tl_n ef_31 (tl_no0 (F_dc_0 hf9_0 c_10) (by omega))))) hP hD hS (lv_sub hl [0, 3, 4] rfl)
  exact LOOP_40 _ x_6 f_3 f_4 f_5 _ _ _ (ms_s _) (v_rr (v_difR (l := (-1)) (h := 799) (l2 := 1) (h2 := 1) tx_6 g_lw (by decide) (by decide) (by decide)) (by decide) (by decide)) (by show lm.toInt ≤ x_6.toInt ∧ x_6.toInt < lw.toInt; omega) (fun p p1 p2 => by have ep : p = lw.toNatClampNeg := (by omega); rw [ep, ef_5, pk_us]; exact Or.inr (by show (0 : Int) ≤ 0 ∧ (0 : Int) ≤ _; omega)) (fun p p1 p2 => tl_0 ef_3 ef_4 ef_5 (by omega)) hP hD hS (lv_sub hl [0, 1, 2] rfl)

theorem F_dc_n {r cd : Int32} {L4 L5 g : Nat → Int32} {n : Int} {p : Nat} (h : F_dc r cd L4 L5 g n p) (e : ¬ r = -1) : ¬ dl cd L4 L5 g n p = 0 := by
  obtain ⟨l, x, a, _⟩ := F_dc_1 h e
  have := Dec_pos a
  rw [(dl_of a).1]
  omega

set_option maxHeartbeats 40000000 in
set_option maxRecDepth 100000 in
theorem f_X1_comesBack (l : Launch) (dC : Nat → ClassId) (dI : Nat → Nat → Nat) (cI cS : ClassId) (sz : Nat) (oW : Nat) (oC : Nat) (oK : Nat) (nw : Nat) (w1 : Nat) (w2 : Nat) (w3 : Nat) (o7 : Nat) (o8 : Nat) (o9 : Nat) (w4 : Nat) (w5 : Nat) (w6 : Nat) (w7 : Nat) (aw : Nat) (o4 : Nat) (o5 : Nat) (a41 : Nat) (a42 : Nat) (a43 : Nat) (a51 : Nat) (a52 : Nat) (a53 : Nat) (ke : Int32) (tl : Int32) (fsh : Int32) (wi : Int32) (ri : Int32) (fm : Int32) (lm : Int32) (lw : Int32) (fw : Nat → Int32) (l4 : Int32) (f41 : Nat → Int32) (l5 : Int32) (f51 : Nat → Int32) (g_ke : 0 ≤ ke.toInt ∧ ke.toInt ≤ 200) (g_fsh : 0 ≤ fsh.toInt ∧ fsh.toInt ≤ 1) (g_fm : -1 ≤ fm.toInt ∧ fm.toInt ≤ 800) (g_lm : -1 ≤ lm.toInt ∧ lm.toInt ≤ 800) (g_lw : 0 ≤ lw.toInt ∧ lw.toInt ≤ 800) (hlm0 : 0 ≤ lm.toInt) (hby : prg lw.toInt 0 255 fw) (hL4 : prg 256 (-1) 65535 f41) (hL5 : prg 256 (-1) 65535 f51) : kMi l yX1_comesBack wsX1_comesBack ({ frames := 3, cells := 0, slots := 0, locals := 74 } : Room) [.ref oW] sz (dC, dI) vwCl [(cI, .int), (cS, .short)] [(oW, .inr (1, [.ref oC, .ref oK, .ref nw, .ref w1, .ref w2, .ref w3, .ref o7, .ref o8, .ref o9, .ref w4, .ref w5, .ref w6, .ref w7, .int ke, .int tl, .int fsh, .int wi, .int ri, .int fm, .int lm])), (nw, .inr (5, [.ref aw, .int lw])), (aw, .inl (cI, 800, .inl fw)), (oC, .inr (2, [.ref o4, .ref o5])), (o4, .inr (10, [.ref a41, .ref a42, .ref a43, .int l4])), (a41, .inl (cI, 256, .inl f41)), (o5, .inr (10, [.ref a51, .ref a52, .ref a53, .int l5])), (a51, .inl (cI, 256, .inl f51))] (va_Nw (.methodLinkNest RX2 52 yX11_isLetter "TextMender")) 0 0 (fun (A : Nat → Prop) (r : Int32) (hh9 : Heap) => ∀ PZ9 : Prop, (kPD (dC, dI) vwCl A [(oW, .inr (1, [.ref oC, .ref oK, .ref nw, .ref w1, .ref w2, .ref w3, .ref o7, .ref o8, .ref o9, .ref w4, .ref w5, .ref w6, .ref w7, .int ke, .int tl, .int fsh, .int wi, .int ri, .int fm, .int lm])), (nw, .inr (5, [.ref aw, .int lw])), (aw, .inl (cI, 800, .inl fw)), (oC, .inr (2, [.ref o4, .ref o5])), (o4, .inr (10, [.ref a41, .ref a42, .ref a43, .int l4])), (a41, .inl (cI, 256, .inl f41)), (o5, .inr (10, [.ref a51, .ref a52, .ref a53, .int l5])), (a51, .inl (cI, 256, .inl f51))] hh9 → (0 ≤ r.toInt ∧ r.toInt ≤ 1) → ((r = 1 ∧ (dl ri f41 f51 fw lw.toInt lm.toNatClampNeg = 0 ∧ (fm.toInt = -1 ∨ dl ri f41 f51 fw lw.toInt fm.toNatClampNeg = 0))) ∨ (r = 0 ∧ ¬ (dl ri f41 f51 fw lw.toInt lm.toNatClampNeg = 0 ∧ (fm.toInt = -1 ∨ dl ri f41 f51 fw lw.toInt fm.toNatClampNeg = 0)))) → PZ9) → PZ9) := by
  refine kMi_of (cc := cX1_comesBack) (maxL := 2) (ret := (some .boolean)) (lv := [(0, .ref oW)]) (by decide +kernel) rfl rfl (Nat.le_of_ble_eq_true rfl) ?_
  intro p e s m below meth c A QQ ls hx hb hr hts hml hown hlocks hA hQQ hK hX hP hD hS hl
  have hown : s.vm.findClass RX1 = some m.cls := hown
  have hcf := k_cf hx hb hml hown hts
  have hN52 := hX
  have in_X1 : ∀ w ∈ wsX10, w ∈ wsX1_comesBack := fun _ h => List.mem_cons_of_mem _ (List.mem_append_left _ (List.mem_append_left _ (List.mem_append_left _ (List.mem_append_left _ (List.mem_append_left _ (List.mem_append_right _ (h)))))))
  replace g_ke := hid g_ke
  replace g_fsh := hid g_fsh
  refine lv_aload_n hx hb dX1_comesBack_0 rfl (lv_at hl 0 rfl) ?_
  refine va_get (D := (dC, dI)) (ci := 1) (v := .ref nw) (C := RX1) (T := TX1) (N := 20) hx hb hts in_X1 hown hK hP 0 rfl rfl 2 (Nat.le_of_ble_eq_true rfl) (hts (.fieldLink RX1 16 "TextMender$Choices" "bytes" "LTextMender$Numbers;") (List.mem_of_getElem? (i := 1) rfl)) (fun _ h9 => h9) rfl dX1_comesBack_1 ?_
  refine kV_i (rest := []) (q0 := 0) (ci := 5) hcf (m_X5_length l dC dI cI cS s.heap.size nw aw lw ) kc_X5_length gX1_comesBack_X5_length rfl rfl rfl ⟨Nat.le_of_ble_eq_true rfl, Nat.le_of_ble_eq_true rfl⟩ kX_t hK hP hD hS hA (posT mk_73 0) (posF mk_73 0) (kC_of mk_73 rfl rfl) (by decide +kernel) rfl rfl rfl hl rfl (Nat.le_of_ble_eq_true rfl) dX1_comesBack_4 ⟨Nat.le_of_ble_eq_true rfl, Nat.le_of_ble_eq_true rfl⟩ (fun r_1 H locs hB hJ hSn => ?_)
  refine hB _ (fun hPD9 hf1_0 => ?_)
  clear hB
  obtain ⟨hPn, hDn⟩ := kJi (m := mk_73) hJ rfl hPD9.1 hPD9.2 (wn := [(oW, .inr (1, [.ref oC, .ref oK, .ref nw, .ref w1, .ref w2, .ref w3, .ref o7, .ref o8, .ref o9, .ref w4, .ref w5, .ref w6, .ref w7, .int ke, .int tl, .int fsh, .int wi, .int ri, .int fm, .int lm])), (nw, .inr (5, [.ref aw, .int lw])), (aw, .inl (cI, 800, .inl fw)), (oC, .inr (2, [.ref o4, .ref o5])), (o4, .inr (10, [.ref a41, .ref a42, .ref a43, .int l4])), (a41, .inl (cI, 256, .inl f41)), (o5, .inr (10, [.ref a51, .ref a52, .ref a53, .int l5])), (a51, .inl (cI, 256, .inl f51))]) rfl
  clear hP hD hS hJ hPD9
  have hP := hPn
  have hD := hDn
  have hS := hSn
  clear hPn hDn hSn
  rw [hf1_0]
  refine lv_istore_n (lv' := [(1, .int lw), (0, .ref oW)]) hx hb dX1_comesBack_7 rfl hl (by decide) rfl (fun ls hl => ?_)
  refine lv_aload_n hx hb dX1_comesBack_8 rfl (lv_at hl 1 rfl) ?_
  refine va_get (D := (dC, dI)) (ci := 1) (v := .ref oC) (C := RX1) (T := TX1) (N := 20) hx hb hts in_X1 hown hK hP 0 rfl rfl 0 (Nat.le_of_ble_eq_true rfl) (hts (.fieldLink RX1 42 "TextMender$Choices" "codes" "LTextMender$Codes;") (List.mem_of_getElem? (i := 2) rfl)) (fun _ h9 => h9) rfl dX1_comesBack_9 ?_
  refine lv_aload_n hx hb dX1_comesBack_12 rfl (lv_at hl 1 rfl) ?_
  refine va_get (D := (dC, dI)) (ci := 1) (v := .int ri) (C := RX1) (T := TX1) (N := 20) hx hb hts in_X1 hown hK hP 0 rfl rfl 17 (Nat.le_of_ble_eq_true rfl) (hts (.fieldLink RX1 79 "TextMender$Choices" "readIn" "I") (List.mem_of_getElem? (i := 3) rfl)) (fun _ h9 => h9) rfl dX1_comesBack_13 ?_
  refine lv_aload_n hx hb dX1_comesBack_16 rfl (lv_at hl 1 rfl) ?_
  refine va_get (D := (dC, dI)) (ci := 1) (v := .ref nw) (C := RX1) (T := TX1) (N := 20) hx hb hts in_X1 hown hK hP 0 rfl rfl 2 (Nat.le_of_ble_eq_true rfl) (hts (.fieldLink RX1 16 "TextMender$Choices" "bytes" "LTextMender$Numbers;") (List.mem_of_getElem? (i := 1) rfl)) (fun _ h9 => h9) rfl dX1_comesBack_17 ?_
  refine lv_aload_n hx hb dX1_comesBack_20 rfl (lv_at hl 1 rfl) ?_
  refine va_get (D := (dC, dI)) (ci := 1) (v := .int lm) (C := RX1) (T := TX1) (N := 20) hx hb hts in_X1 hown hK hP 0 rfl rfl 19 (Nat.le_of_ble_eq_true rfl) (hts (.fieldLink RX1 85 "TextMender$Choices" "lastMark" "I") (List.mem_of_getElem? (i := 4) rfl)) (fun _ h9 => h9) rfl dX1_comesBack_21 ?_
  refine lv_iload_n hx hb dX1_comesBack_24 rfl (lv_at hl 0 rfl) ?_
  refine kV_i (rest := []) (q0 := 0) (ci := 2) hcf (f_X2_decode l dC dI cI cS H.size oC nw o4 o5 a41 a42 a43 a51 a52 a53 aw 800 l4 f41 l5 f51 lw fw ri lm lw (by omega) (by omega) (by omega) (by omega) (hby) (hL4) (hL5)) kc_X2_decode gX1_comesBack_X2_decode rfl rfl rfl ⟨Nat.le_of_ble_eq_true rfl, Nat.le_of_ble_eq_true rfl⟩ (kX_1 hN52) hK hP hD hS hA ([2, 3, 4, 5, 6, 0, 1].filterMap (fun j => (posT mk_74 0)[j]?)) (posF mk_74 0) (kCp (ws := [(nw, .inr (5, [.ref aw, .int lw])), (aw, .inl (cI, 800, .inl fw)), (oC, .inr (2, [.ref o4, .ref o5])), (o4, .inr (10, [.ref a41, .ref a42, .ref a43, .int l4])), (a41, .inl (cI, 256, .inl f41)), (o5, .inr (10, [.ref a51, .ref a52, .ref a53, .int l5])), (a51, .inl (cI, 256, .inl f51))]) (kC_of mk_74 rfl rfl) rfl) (by decide +kernel) rfl rfl rfl hl rfl (Nat.le_of_ble_eq_true rfl) dX1_comesBack_25 ⟨Nat.le_of_ble_eq_true rfl, Nat.le_of_ble_eq_true rfl⟩ (fun r_2 H locs hB hJ hSn => ?_)
  refine hB _ (fun hPD9 hf2_0 => ?_)
  clear hB
  obtain ⟨hPn, hDn⟩ := kJm (m := mk_74) hJ rfl hPD9.1 hPD9.2 [5, 6, 0, 1, 2, 3, 4] (by decide +kernel) (ws := [(nw, .inr (5, [.ref aw, .int lw])), (aw, .inl (cI, 800, .inl fw)), (oC, .inr (2, [.ref o4, .ref o5])), (o4, .inr (10, [.ref a41, .ref a42, .ref a43, .int l4])), (a41, .inl (cI, 256, .inl f41)), (o5, .inr (10, [.ref a51, .ref a52, .ref a53, .int l5])), (a51, .inl (cI, 256, .inl f51))]) rfl (wn := [(oW, .inr (1, [.ref oC, .ref oK, .ref nw, .ref w1, .ref w2, .ref w3, .ref o7, .ref o8, .ref o9, .ref w4, .ref w5, .ref w6, .ref w7, .int ke, .int tl, .int fsh, .int wi, .int ri, .int fm, .int lm])), (nw, .inr (5, [.ref aw, .int lw])), (aw, .inl (cI, 800, .inl fw)), (oC, .inr (2, [.ref o4, .ref o5])), (o4, .inr (10, [.ref a41, .ref a42, .ref a43, .int l4])), (a41, .inl (cI, 256, .inl f41)), (o5, .inr (10, [.ref a51, .ref a52, .ref a53, .int l5])), (a51, .inl (cI, 256, .inl f51))]) rfl
  clear hP hD hS hJ hPD9
  have hP := hPn
  have hD := hDn
  have hS := hSn
  clear hPn hDn hSn
  refine lv_iconst (v := (-1)) hx hb dX1_comesBack_28 (by decide) ?_
  refine lv_icmp_ne (tgt := 68) hx hb dX1_comesBack_29 (by decide) (fun c_3 => ?_) (fun c_3 => ?_)
  · have tc_3 : ¬ r_2.toInt = (-1) := v_ne c_3
    refine lv_iconst (v := 0) hx hb dX1_comesBack_68 (by decide) ?_
    exact kl_z (v := 0) hQQ hx hb hr hlocks hS dX1_comesBack_69 (rfl) (fun PZ9 kZ9 => kZ9 (⟨hP, hD⟩) (by decide) (Or.inr ⟨rfl, fun h9 => F_dc_n hf2_0 c_3 h9.1⟩))
  · have tc_3 : r_2.toInt = (-1) := v_eq c_3
    refine lv_aload_n hx hb dX1_comesBack_32 rfl (lv_at hl 1 rfl) ?_
    refine va_get (D := (dC, dI)) (ci := 1) (v := .int fm) (C := RX1) (T := TX1) (N := 20) hx hb hts in_X1 hown hK hP 0 rfl rfl 18 (Nat.le_of_ble_eq_true rfl) (hts (.fieldLink RX1 82 "TextMender$Choices" "firstMark" "I") (List.mem_of_getElem? (i := 5) rfl)) (fun _ h9 => h9) rfl dX1_comesBack_33 ?_
    refine lv_iconst (v := (-1)) hx hb dX1_comesBack_36 (by decide) ?_
    refine lv_icmp_eq (tgt := 64) hx hb dX1_comesBack_37 (by decide) (fun c_4 => ?_) (fun c_4 => ?_)
    · have tc_4 : fm.toInt = (-1) := v_eq c_4
      refine lv_iconst (v := 1) hx hb dX1_comesBack_64 (by decide) ?_
      refine lv_goto (tgt := 69) hx hb dX1_comesBack_65 (by decide) ?_
      exact kl_z (v := 1) hQQ hx hb hr hlocks hS dX1_comesBack_69 (rfl) (fun PZ9 kZ9 => kZ9 (⟨hP, hD⟩) (by decide) (Or.inl ⟨rfl, F_dc_0 hf2_0 c_3, Or.inl (by omega)⟩))
    · have tc_4 : ¬ fm.toInt = (-1) := v_ne c_4
      refine lv_aload_n hx hb dX1_comesBack_40 rfl (lv_at hl 1 rfl) ?_
      refine va_get (D := (dC, dI)) (ci := 1) (v := .ref oC) (C := RX1) (T := TX1) (N := 20) hx hb hts in_X1 hown hK hP 0 rfl rfl 0 (Nat.le_of_ble_eq_true rfl) (hts (.fieldLink RX1 42 "TextMender$Choices" "codes" "LTextMender$Codes;") (List.mem_of_getElem? (i := 2) rfl)) (fun _ h9 => h9) rfl dX1_comesBack_41 ?_
      refine lv_aload_n hx hb dX1_comesBack_44 rfl (lv_at hl 1 rfl) ?_
      refine va_get (D := (dC, dI)) (ci := 1) (v := .int ri) (C := RX1) (T := TX1) (N := 20) hx hb hts in_X1 hown hK hP 0 rfl rfl 17 (Nat.le_of_ble_eq_true rfl) (hts (.fieldLink RX1 79 "TextMender$Choices" "readIn" "I") (List.mem_of_getElem? (i := 3) rfl)) (fun _ h9 => h9) rfl dX1_comesBack_45 ?_
      refine lv_aload_n hx hb dX1_comesBack_48 rfl (lv_at hl 1 rfl) ?_
      refine va_get (D := (dC, dI)) (ci := 1) (v := .ref nw) (C := RX1) (T := TX1) (N := 20) hx hb hts in_X1 hown hK hP 0 rfl rfl 2 (Nat.le_of_ble_eq_true rfl) (hts (.fieldLink RX1 16 "TextMender$Choices" "bytes" "LTextMender$Numbers;") (List.mem_of_getElem? (i := 1) rfl)) (fun _ h9 => h9) rfl dX1_comesBack_49 ?_
      refine lv_aload_n hx hb dX1_comesBack_52 rfl (lv_at hl 1 rfl) ?_
      refine va_get (D := (dC, dI)) (ci := 1) (v := .int fm) (C := RX1) (T := TX1) (N := 20) hx hb hts in_X1 hown hK hP 0 rfl rfl 18 (Nat.le_of_ble_eq_true rfl) (hts (.fieldLink RX1 82 "TextMender$Choices" "firstMark" "I") (List.mem_of_getElem? (i := 5) rfl)) (fun _ h9 => h9) rfl dX1_comesBack_53 ?_
      refine lv_iload_n hx hb dX1_comesBack_56 rfl (lv_at hl 0 rfl) ?_
      refine kV_i (rest := []) (q0 := 0) (ci := 2) hcf (f_X2_decode l dC dI cI cS H.size oC nw o4 o5 a41 a42 a43 a51 a52 a53 aw 800 l4 f41 l5 f51 lw fw ri fm lw (by omega) (by omega) (by omega) (by omega) (hby) (hL4) (hL5)) kc_X2_decode gX1_comesBack_X2_decode rfl rfl rfl ⟨Nat.le_of_ble_eq_true rfl, Nat.le_of_ble_eq_true rfl⟩ (kX_1 hN52) hK hP hD hS hA ([2, 3, 4, 5, 6, 0, 1].filterMap (fun j => (posT mk_74 0)[j]?)) (posF mk_74 0) (kCp (ws := [(nw, .inr (5, [.ref aw, .int lw])), (aw, .inl (cI, 800, .inl fw)), (oC, .inr (2, [.ref o4, .ref o5])), (o4, .inr (10, [.ref a41, .ref a42, .ref a43, .int l4])), (a41, .inl (cI, 256, .inl f41)), (o5, .inr (10, [.ref a51, .ref a52, .ref a53, .int l5])), (a51, .inl (cI, 256, .inl f51))]) (kC_of mk_74 rfl rfl) rfl) (by decide +kernel) rfl rfl rfl hl rfl (Nat.le_of_ble_eq_true rfl) dX1_comesBack_57 ⟨Nat.le_of_ble_eq_true rfl, Nat.le_of_ble_eq_true rfl⟩ (fun r_5 H locs hB hJ hSn => ?_)
      refine hB _ (fun hPD9 hf5_0 => ?_)
      clear hB
      obtain ⟨hPn, hDn⟩ := kJm (m := mk_74) hJ rfl hPD9.1 hPD9.2 [5, 6, 0, 1, 2, 3, 4] (by decide +kernel) (ws := [(nw, .inr (5, [.ref aw, .int lw])), (aw, .inl (cI, 800, .inl fw)), (oC, .inr (2, [.ref o4, .ref o5])), (o4, .inr (10, [.ref a41, .ref a42, .ref a43, .int l4])), (a41, .inl (cI, 256, .inl f41)), (o5, .inr (10, [.ref a51, .ref a52, .ref a53, .int l5])), (a51, .inl (cI, 256, .inl f51))]) rfl (wn := [(oW, .inr (1, [.ref oC, .ref oK, .ref nw, .ref w1, .ref w2, .ref w3, .ref o7, .ref o8, .ref o9, .ref w4, .ref w5, .ref w6, .ref w7, .int ke, .int tl, .int fsh, .int wi, .int ri, .int fm, .int lm])), (nw, .inr (5, [.ref aw, .int lw])), (aw, .inl (cI, 800, .inl fw)), (oC, .inr (2, [.ref o4, .ref o5])), (o4, .inr (10, [.ref a41, .ref a42, .ref a43, .int l4])), (a41, .inl (cI, 256, .inl f41)), (o5, .inr (10, [.ref a51, .ref a52, .ref a53, .int l5])), (a51, .inl (cI, 256, .inl f51))]) rfl
      clear hP hD hS hJ hPD9
      have hP := hPn
      have hD := hDn
      have hS := hSn
      clear hPn hDn hSn
      refine lv_iconst (v := (-1)) hx hb dX1_comesBack_60 (by decide) ?_
      refine lv_icmp_ne (tgt := 68) hx hb dX1_comesBack_61 (by decide) (fun c_6 => ?_) (fun c_6 => ?_)
      · have tc_6 : ¬ r_5.toInt = (-1) := v_ne c_6
        refine lv_iconst (v := 0) hx hb dX1_comesBack_68 (by decide) ?_
        exact kl_z (v := 0) hQQ hx hb hr hlocks hS dX1_comesBack_69 (rfl) (fun PZ9 kZ9 => kZ9 (⟨hP, hD⟩) (by decide) (Or.inr ⟨rfl, fun h9 => h9.2.elim (fun e9 => by omega) (F_dc_n hf5_0 c_6)⟩))
      · have tc_6 : r_5.toInt = (-1) := v_eq c_6
        refine lv_iconst (v := 1) hx hb dX1_comesBack_64 (by decide) ?_
        refine lv_goto (tgt := 69) hx hb dX1_comesBack_65 (by decide) ?_
        exact kl_z (v := 1) hQQ hx hb hr hlocks hS dX1_comesBack_69 (rfl) (fun PZ9 kZ9 => kZ9 (⟨hP, hD⟩) (by decide) (Or.inl ⟨rfl, F_dc_0 hf2_0 c_3, Or.inr (F_dc_0 hf5_0 c_6)⟩))

end

/-! 5h.a.rows -/
section
set_option maxRecDepth 100000 in
theorem dA328_cX1_keep : kDec cX1_keep [(0, .aload_n 0, 1), (1, .getfield 65, 3), (4, .sipush 200, 3), (7, .if_icmp .ne 16, 3), (23, .aload_n 0, 1), (24, .getfield 65, 3), (27, .sipush 199, 3), (30, .invokestatic 135, 3), (33, .istore 5, 2), (35, .aload_n 0, 1), (36, .iload 5, 2), (38, .iconst 1, 1), (39, .iadd, 1), (40, .putfield 65, 3), (43, .iload 5, 2), (45, .ifCond .le 86, 3), (131, .aload_n 0, 1), (132, .getfield 30, 3), (135, .iload 5, 2), (137, .iload_n 1, 1), (138, .iconst (-1), 1), (139, .if_icmp .ne 7, 3), (146, .iload_n 1, 1), (147, .iastore, 1)] = true := by decide +kernel
theorem dX1_keep_0 : decode cX1_keep 0 = .ok (.aload_n 0, 1) := kDec_at dA328_cX1_keep 0 rfl
theorem dX1_keep_1 : decode cX1_keep 1 = .ok (.getfield 65, 3) := kDec_at dA328_cX1_keep 1 rfl
theorem dX1_keep_4 : decode cX1_keep 4 = .ok (.sipush 200, 3) := kDec_at dA328_cX1_keep 2 rfl
theorem dX1_keep_7 : decode cX1_keep 7 = .ok (.if_icmp .ne 16, 3) := kDec_at dA328_cX1_keep 3 rfl
theorem dX1_keep_23 : decode cX1_keep 23 = .ok (.aload_n 0, 1) := kDec_at dA328_cX1_keep 4 rfl
theorem dX1_keep_24 : decode cX1_keep 24 = .ok (.getfield 65, 3) := kDec_at dA328_cX1_keep 5 rfl
theorem dX1_keep_27 : decode cX1_keep 27 = .ok (.sipush 199, 3) := kDec_at dA328_cX1_keep 6 rfl
theorem dX1_keep_30 : decode cX1_keep 30 = .ok (.invokestatic 135, 3) := kDec_at dA328_cX1_keep 7 rfl
theorem dX1_keep_33 : decode cX1_keep 33 = .ok (.istore 5, 2) := kDec_at dA328_cX1_keep 8 rfl
theorem dX1_keep_35 : decode cX1_keep 35 = .ok (.aload_n 0, 1) := kDec_at dA328_cX1_keep 9 rfl
theorem dX1_keep_36 : decode cX1_keep 36 = .ok (.iload 5, 2) := kDec_at dA328_cX1_keep 10 rfl
theorem dX1_keep_38 : decode cX1_keep 38 = .ok (.iconst 1, 1) := kDec_at dA328_cX1_keep 11 rfl
theorem dX1_keep_39 : decode cX1_keep 39 = .ok (.iadd, 1) := kDec_at dA328_cX1_keep 12 rfl
theorem dX1_keep_40 : decode cX1_keep 40 = .ok (.putfield 65, 3) := kDec_at dA328_cX1_keep 13 rfl
theorem dX1_keep_43 : decode cX1_keep 43 = .ok (.iload 5, 2) := kDec_at dA328_cX1_keep 14 rfl
theorem dX1_keep_45 : decode cX1_keep 45 = .ok (.ifCond .le 86, 3) := kDec_at dA328_cX1_keep 15 rfl
theorem dX1_keep_131 : decode cX1_keep 131 = .ok (.aload_n 0, 1) := kDec_at dA328_cX1_keep 16 rfl
theorem dX1_keep_132 : decode cX1_keep 132 = .ok (.getfield 30, 3) := kDec_at dA328_cX1_keep 17 rfl
theorem dX1_keep_135 : decode cX1_keep 135 = .ok (.iload 5, 2) := kDec_at dA328_cX1_keep 18 rfl
theorem dX1_keep_137 : decode cX1_keep 137 = .ok (.iload_n 1, 1) := kDec_at dA328_cX1_keep 19 rfl
theorem dX1_keep_138 : decode cX1_keep 138 = .ok (.iconst (-1), 1) := kDec_at dA328_cX1_keep 20 rfl
theorem dX1_keep_139 : decode cX1_keep 139 = .ok (.if_icmp .ne 7, 3) := kDec_at dA328_cX1_keep 21 rfl
theorem dX1_keep_146 : decode cX1_keep 146 = .ok (.iload_n 1, 1) := kDec_at dA328_cX1_keep 22 rfl
theorem dX1_keep_147 : decode cX1_keep 147 = .ok (.iastore, 1) := kDec_at dA328_cX1_keep 23 rfl
set_option maxRecDepth 100000 in
theorem dA329_cX1_keep : kDec cX1_keep [(148, .aload_n 0, 1), (149, .getfield 33, 3), (152, .iload 5, 2), (154, .iload_n 1, 1), (155, .iconst (-1), 1), (156, .if_icmp .ne 7, 3), (163, .iload_n 2, 1), (164, .iastore, 1), (165, .aload_n 0, 1), (166, .getfield 36, 3), (169, .iload 5, 2), (171, .iload_n 3, 1), (172, .iastore, 1), (173, .aload_n 0, 1), (174, .getfield 39, 3), (177, .iload 5, 2), (179, .iload 4, 2), (181, .iastore, 1), (182, .return_, 1), (142, .iload_n 2, 1), (143, .goto 4, 3), (159, .iconst (-1), 1), (160, .goto 4, 3), (48, .aload_n 0, 1)] = true := by decide +kernel
theorem dX1_keep_148 : decode cX1_keep 148 = .ok (.aload_n 0, 1) := kDec_at dA329_cX1_keep 0 rfl
theorem dX1_keep_149 : decode cX1_keep 149 = .ok (.getfield 33, 3) := kDec_at dA329_cX1_keep 1 rfl
theorem dX1_keep_152 : decode cX1_keep 152 = .ok (.iload 5, 2) := kDec_at dA329_cX1_keep 2 rfl
theorem dX1_keep_154 : decode cX1_keep 154 = .ok (.iload_n 1, 1) := kDec_at dA329_cX1_keep 3 rfl
theorem dX1_keep_155 : decode cX1_keep 155 = .ok (.iconst (-1), 1) := kDec_at dA329_cX1_keep 4 rfl
theorem dX1_keep_156 : decode cX1_keep 156 = .ok (.if_icmp .ne 7, 3) := kDec_at dA329_cX1_keep 5 rfl
theorem dX1_keep_163 : decode cX1_keep 163 = .ok (.iload_n 2, 1) := kDec_at dA329_cX1_keep 6 rfl
theorem dX1_keep_164 : decode cX1_keep 164 = .ok (.iastore, 1) := kDec_at dA329_cX1_keep 7 rfl
theorem dX1_keep_165 : decode cX1_keep 165 = .ok (.aload_n 0, 1) := kDec_at dA329_cX1_keep 8 rfl
theorem dX1_keep_166 : decode cX1_keep 166 = .ok (.getfield 36, 3) := kDec_at dA329_cX1_keep 9 rfl
theorem dX1_keep_169 : decode cX1_keep 169 = .ok (.iload 5, 2) := kDec_at dA329_cX1_keep 10 rfl
theorem dX1_keep_171 : decode cX1_keep 171 = .ok (.iload_n 3, 1) := kDec_at dA329_cX1_keep 11 rfl
theorem dX1_keep_172 : decode cX1_keep 172 = .ok (.iastore, 1) := kDec_at dA329_cX1_keep 12 rfl
theorem dX1_keep_173 : decode cX1_keep 173 = .ok (.aload_n 0, 1) := kDec_at dA329_cX1_keep 13 rfl
theorem dX1_keep_174 : decode cX1_keep 174 = .ok (.getfield 39, 3) := kDec_at dA329_cX1_keep 14 rfl
theorem dX1_keep_177 : decode cX1_keep 177 = .ok (.iload 5, 2) := kDec_at dA329_cX1_keep 15 rfl
theorem dX1_keep_179 : decode cX1_keep 179 = .ok (.iload 4, 2) := kDec_at dA329_cX1_keep 16 rfl
theorem dX1_keep_181 : decode cX1_keep 181 = .ok (.iastore, 1) := kDec_at dA329_cX1_keep 17 rfl
theorem dX1_keep_182 : decode cX1_keep 182 = .ok (.return_, 1) := kDec_at dA329_cX1_keep 18 rfl
theorem dX1_keep_142 : decode cX1_keep 142 = .ok (.iload_n 2, 1) := kDec_at dA329_cX1_keep 19 rfl
theorem dX1_keep_143 : decode cX1_keep 143 = .ok (.goto 4, 3) := kDec_at dA329_cX1_keep 20 rfl
theorem dX1_keep_159 : decode cX1_keep 159 = .ok (.iconst (-1), 1) := kDec_at dA329_cX1_keep 21 rfl
theorem dX1_keep_160 : decode cX1_keep 160 = .ok (.goto 4, 3) := kDec_at dA329_cX1_keep 22 rfl
theorem dX1_keep_48 : decode cX1_keep 48 = .ok (.aload_n 0, 1) := kDec_at dA329_cX1_keep 23 rfl
set_option maxRecDepth 100000 in
theorem dA330_cX1_keep : kDec cX1_keep [(49, .getfield 36, 3), (52, .iload 5, 2), (54, .iconst 1, 1), (55, .isub, 1), (56, .iaload, 1), (57, .iload_n 3, 1), (58, .if_icmp .le 73, 3), (61, .aload_n 0, 1), (62, .getfield 30, 3), (65, .iload 5, 2), (67, .aload_n 0, 1), (68, .getfield 30, 3), (71, .iload 5, 2), (73, .iconst 1, 1), (74, .isub, 1), (75, .iaload, 1), (76, .iastore, 1), (77, .aload_n 0, 1), (78, .getfield 33, 3), (81, .iload 5, 2), (83, .aload_n 0, 1), (84, .getfield 33, 3), (87, .iload 5, 2), (89, .iconst 1, 1)] = true := by decide +kernel
theorem dX1_keep_49 : decode cX1_keep 49 = .ok (.getfield 36, 3) := kDec_at dA330_cX1_keep 0 rfl
theorem dX1_keep_52 : decode cX1_keep 52 = .ok (.iload 5, 2) := kDec_at dA330_cX1_keep 1 rfl
theorem dX1_keep_54 : decode cX1_keep 54 = .ok (.iconst 1, 1) := kDec_at dA330_cX1_keep 2 rfl
theorem dX1_keep_55 : decode cX1_keep 55 = .ok (.isub, 1) := kDec_at dA330_cX1_keep 3 rfl
theorem dX1_keep_56 : decode cX1_keep 56 = .ok (.iaload, 1) := kDec_at dA330_cX1_keep 4 rfl
theorem dX1_keep_57 : decode cX1_keep 57 = .ok (.iload_n 3, 1) := kDec_at dA330_cX1_keep 5 rfl
theorem dX1_keep_58 : decode cX1_keep 58 = .ok (.if_icmp .le 73, 3) := kDec_at dA330_cX1_keep 6 rfl
theorem dX1_keep_61 : decode cX1_keep 61 = .ok (.aload_n 0, 1) := kDec_at dA330_cX1_keep 7 rfl
theorem dX1_keep_62 : decode cX1_keep 62 = .ok (.getfield 30, 3) := kDec_at dA330_cX1_keep 8 rfl
theorem dX1_keep_65 : decode cX1_keep 65 = .ok (.iload 5, 2) := kDec_at dA330_cX1_keep 9 rfl
theorem dX1_keep_67 : decode cX1_keep 67 = .ok (.aload_n 0, 1) := kDec_at dA330_cX1_keep 10 rfl
theorem dX1_keep_68 : decode cX1_keep 68 = .ok (.getfield 30, 3) := kDec_at dA330_cX1_keep 11 rfl
theorem dX1_keep_71 : decode cX1_keep 71 = .ok (.iload 5, 2) := kDec_at dA330_cX1_keep 12 rfl
theorem dX1_keep_73 : decode cX1_keep 73 = .ok (.iconst 1, 1) := kDec_at dA330_cX1_keep 13 rfl
theorem dX1_keep_74 : decode cX1_keep 74 = .ok (.isub, 1) := kDec_at dA330_cX1_keep 14 rfl
theorem dX1_keep_75 : decode cX1_keep 75 = .ok (.iaload, 1) := kDec_at dA330_cX1_keep 15 rfl
theorem dX1_keep_76 : decode cX1_keep 76 = .ok (.iastore, 1) := kDec_at dA330_cX1_keep 16 rfl
theorem dX1_keep_77 : decode cX1_keep 77 = .ok (.aload_n 0, 1) := kDec_at dA330_cX1_keep 17 rfl
theorem dX1_keep_78 : decode cX1_keep 78 = .ok (.getfield 33, 3) := kDec_at dA330_cX1_keep 18 rfl
theorem dX1_keep_81 : decode cX1_keep 81 = .ok (.iload 5, 2) := kDec_at dA330_cX1_keep 19 rfl
theorem dX1_keep_83 : decode cX1_keep 83 = .ok (.aload_n 0, 1) := kDec_at dA330_cX1_keep 20 rfl
theorem dX1_keep_84 : decode cX1_keep 84 = .ok (.getfield 33, 3) := kDec_at dA330_cX1_keep 21 rfl
theorem dX1_keep_87 : decode cX1_keep 87 = .ok (.iload 5, 2) := kDec_at dA330_cX1_keep 22 rfl
theorem dX1_keep_89 : decode cX1_keep 89 = .ok (.iconst 1, 1) := kDec_at dA330_cX1_keep 23 rfl
set_option maxRecDepth 100000 in
theorem dA331_cX1_keep : kDec cX1_keep [(90, .isub, 1), (91, .iaload, 1), (92, .iastore, 1), (93, .aload_n 0, 1), (94, .getfield 36, 3), (97, .iload 5, 2), (99, .aload_n 0, 1), (100, .getfield 36, 3), (103, .iload 5, 2), (105, .iconst 1, 1), (106, .isub, 1), (107, .iaload, 1), (108, .iastore, 1), (109, .aload_n 0, 1), (110, .getfield 39, 3), (113, .iload 5, 2), (115, .aload_n 0, 1), (116, .getfield 39, 3), (119, .iload 5, 2), (121, .iconst 1, 1), (122, .isub, 1), (123, .iaload, 1), (124, .iastore, 1), (125, .iinc 5 (-1), 3)] = true := by decide +kernel
theorem dX1_keep_90 : decode cX1_keep 90 = .ok (.isub, 1) := kDec_at dA331_cX1_keep 0 rfl
theorem dX1_keep_91 : decode cX1_keep 91 = .ok (.iaload, 1) := kDec_at dA331_cX1_keep 1 rfl
theorem dX1_keep_92 : decode cX1_keep 92 = .ok (.iastore, 1) := kDec_at dA331_cX1_keep 2 rfl
theorem dX1_keep_93 : decode cX1_keep 93 = .ok (.aload_n 0, 1) := kDec_at dA331_cX1_keep 3 rfl
theorem dX1_keep_94 : decode cX1_keep 94 = .ok (.getfield 36, 3) := kDec_at dA331_cX1_keep 4 rfl
theorem dX1_keep_97 : decode cX1_keep 97 = .ok (.iload 5, 2) := kDec_at dA331_cX1_keep 5 rfl
theorem dX1_keep_99 : decode cX1_keep 99 = .ok (.aload_n 0, 1) := kDec_at dA331_cX1_keep 6 rfl
theorem dX1_keep_100 : decode cX1_keep 100 = .ok (.getfield 36, 3) := kDec_at dA331_cX1_keep 7 rfl
theorem dX1_keep_103 : decode cX1_keep 103 = .ok (.iload 5, 2) := kDec_at dA331_cX1_keep 8 rfl
theorem dX1_keep_105 : decode cX1_keep 105 = .ok (.iconst 1, 1) := kDec_at dA331_cX1_keep 9 rfl
theorem dX1_keep_106 : decode cX1_keep 106 = .ok (.isub, 1) := kDec_at dA331_cX1_keep 10 rfl
theorem dX1_keep_107 : decode cX1_keep 107 = .ok (.iaload, 1) := kDec_at dA331_cX1_keep 11 rfl
theorem dX1_keep_108 : decode cX1_keep 108 = .ok (.iastore, 1) := kDec_at dA331_cX1_keep 12 rfl
theorem dX1_keep_109 : decode cX1_keep 109 = .ok (.aload_n 0, 1) := kDec_at dA331_cX1_keep 13 rfl
theorem dX1_keep_110 : decode cX1_keep 110 = .ok (.getfield 39, 3) := kDec_at dA331_cX1_keep 14 rfl
theorem dX1_keep_113 : decode cX1_keep 113 = .ok (.iload 5, 2) := kDec_at dA331_cX1_keep 15 rfl
theorem dX1_keep_115 : decode cX1_keep 115 = .ok (.aload_n 0, 1) := kDec_at dA331_cX1_keep 16 rfl
theorem dX1_keep_116 : decode cX1_keep 116 = .ok (.getfield 39, 3) := kDec_at dA331_cX1_keep 17 rfl
theorem dX1_keep_119 : decode cX1_keep 119 = .ok (.iload 5, 2) := kDec_at dA331_cX1_keep 18 rfl
theorem dX1_keep_121 : decode cX1_keep 121 = .ok (.iconst 1, 1) := kDec_at dA331_cX1_keep 19 rfl
theorem dX1_keep_122 : decode cX1_keep 122 = .ok (.isub, 1) := kDec_at dA331_cX1_keep 20 rfl
theorem dX1_keep_123 : decode cX1_keep 123 = .ok (.iaload, 1) := kDec_at dA331_cX1_keep 21 rfl
theorem dX1_keep_124 : decode cX1_keep 124 = .ok (.iastore, 1) := kDec_at dA331_cX1_keep 22 rfl
theorem dX1_keep_125 : decode cX1_keep 125 = .ok (.iinc 5 (-1), 3) := kDec_at dA331_cX1_keep 23 rfl
set_option maxRecDepth 100000 in
theorem dA332_cX1_keep : kDec cX1_keep [(128, .goto (-85), 3), (10, .iload_n 3, 1), (11, .aload_n 0, 1), (12, .getfield 36, 3), (15, .sipush 199, 3), (18, .iaload, 1), (19, .if_icmp .lt 4, 3), (22, .return_, 1)] = true := by decide +kernel
theorem dX1_keep_128 : decode cX1_keep 128 = .ok (.goto (-85), 3) := kDec_at dA332_cX1_keep 0 rfl
theorem dX1_keep_10 : decode cX1_keep 10 = .ok (.iload_n 3, 1) := kDec_at dA332_cX1_keep 1 rfl
theorem dX1_keep_11 : decode cX1_keep 11 = .ok (.aload_n 0, 1) := kDec_at dA332_cX1_keep 2 rfl
theorem dX1_keep_12 : decode cX1_keep 12 = .ok (.getfield 36, 3) := kDec_at dA332_cX1_keep 3 rfl
theorem dX1_keep_15 : decode cX1_keep 15 = .ok (.sipush 199, 3) := kDec_at dA332_cX1_keep 4 rfl
theorem dX1_keep_18 : decode cX1_keep 18 = .ok (.iaload, 1) := kDec_at dA332_cX1_keep 5 rfl
theorem dX1_keep_19 : decode cX1_keep 19 = .ok (.if_icmp .lt 4, 3) := kDec_at dA332_cX1_keep 6 rfl
theorem dX1_keep_22 : decode cX1_keep 22 = .ok (.return_, 1) := kDec_at dA332_cX1_keep 7 rfl

end

/-! 5h.chs -/
section
theorem KPL_s4 {W4 W5 W6 W7 G4 G5 G6 G7 H4 H5 H6 H7 : Nat → Int32} {pl pl' a0 a1 a2 a3 x y z u : Int32} {hi : Int} (h : KPL W4 W5 W6 W7 G4 G5 G6 G7 pl.toInt hi) (h0 : 1 ≤ pl.toInt) (ha0 : a0.toInt = pl.toInt - 1) (ha1 : a1.toInt = pl.toInt - 1) (ha2 : a2.toInt = pl.toInt - 1) (ha3 : a3.toInt = pl.toInt - 1) (e4 : x = G4 a0.toNatClampNeg) (e5 : y = G5 a1.toNatClampNeg) (e6 : z = G6 a2.toNatClampNeg) (e7 : u = G7 a3.toNatClampNeg) (g4 : H4 = upd G4 pl.toNatClampNeg x) (g5 : H5 = upd G5 pl.toNatClampNeg y) (g6 : H6 = upd G6 pl.toNatClampNeg z) (g7 : H7 = upd G7 pl.toNatClampNeg u) (hp : pl'.toInt = pl.toInt - 1) : KPL W4 W5 W6 W7 H4 H5 H6 H7 pl'.toInt hi := by
  have q1 : a1 = a0 := v_inj (by omega)
  have q2 : a2 = a0 := v_inj (by omega)
  have q3 : a3 = a0 := v_inj (by omega)
  subst q1
  subst q2
  subst q3
  exact KPL_s h h0 ha0 e4 e5 e6 e7 g4 g5 g6 g7 hp
theorem kp_big {W4 W5 W6 W7 G4 G5 G6 G7 : Nat → Int32} {pl pl' a q : Int32} {k0 : Nat} {hi s : Int} (h : KPL W4 W5 W6 W7 G4 G5 G6 G7 pl.toInt hi) (hb : ∀ i : Nat, pl.toInt ≤ i → i < k0 → s < CA W4 W5 W6 W7 i 2) (ha : a.toInt = pl.toInt - 1) (h1 : 1 ≤ pl.toInt) (eq : q = G6 a.toNatClampNeg) (hq : s < q.toInt) (hp : pl'.toInt = pl.toInt - 1) : ∀ i : Nat, pl'.toInt ≤ i → i < k0 → s < CA W4 W5 W6 W7 i 2 := by
  intro i i1 i2
  have ca := v_clamp (x := a) (by omega)
  by_cases w : i = a.toNatClampNeg
  · rw [w, ← (h a.toNatClampNeg).1 2 (by omega) (by omega)]
    show s < (G6 a.toNatClampNeg).toInt
    rw [← eq]; exact hq
  · exact hb i (by omega) i2

theorem kp_id {k k0 k1 : Nat} {B A : Nat → Nat → Int} {e : Nat → Int} (h : INSk k k B e A) (e0 : k = k0 ∧ k = k1) : INSk k0 k1 B e A := by
  obtain ⟨q1, q2⟩ := e0
  subst q1
  subst q2
  exact h

theorem kp_b0 {W4 W5 W6 W7 : Nat → Int32} {pl ke q : Int32} {s : Int} {j : Nat} (hk : (pl.toInt = ke.toInt ∧ 0 ≤ ke.toInt) ∨ (ke.toInt = 200 ∧ pl.toInt = 199)) (eq : q = W6 j) (h : (ke.toInt < 200) ∨ (ke.toInt = 200 ∧ j = 199 ∧ s < q.toInt)) : ∀ i : Nat, pl.toInt ≤ i → i < ke.toNatClampNeg → s < CA W4 W5 W6 W7 i 2 := by
  intro i i1 i2
  have c := v_clamp (x := ke) (by omega)
  rcases h with h | ⟨h1, h2, h3⟩
  · omega
  · have e : i = 199 := by omega
    rw [e, ← h2]
    show s < (W6 j).toInt
    rw [← eq]; exact h3

set_option maxHeartbeats 40000000 in
set_option maxRecDepth 100000 in
theorem f_X1_keep (l : Launch) (dC : Nat → ClassId) (dI : Nat → Nat → Nat) (cI cS : ClassId) (sz : Nat) (oW : Nat) (oC : Nat) (oK : Nat) (nw : Nat) (w1 : Nat) (w2 : Nat) (w3 : Nat) (o7 : Nat) (o8 : Nat) (o9 : Nat) (w4 : Nat) (w5 : Nat) (w6 : Nat) (w7 : Nat) (ke : Int32) (tl : Int32) (fsh : Int32) (wi : Int32) (ri : Int32) (fm : Int32) (lm : Int32) (fW4 : Nat → Int32) (fW5 : Nat → Int32) (fW6 : Nat → Int32) (fW7 : Nat → Int32) (a : Int32) (b : Int32) (sm : Int32) (ls_ : Int32) (g_ke : 0 ≤ ke.toInt ∧ ke.toInt ≤ 200) (g_fsh : 0 ≤ fsh.toInt ∧ fsh.toInt ≤ 1) (g_fm : -1 ≤ fm.toInt ∧ fm.toInt ≤ 800) (g_lm : -1 ≤ lm.toInt ∧ lm.toInt ≤ 800) (hsr : srtA ke.toNatClampNeg (CA fW4 fW5 fW6 fW7)) : kMv l yX1_keep wsX1_keep ({ frames := 1, cells := 0, slots := 0, locals := 21 } : Room) [.ref oW, .int a, .int b, .int sm, .int ls_] sz (dC, dI) vwCl [(cI, .int), (cS, .short)] [(oW, .inr (1, [.ref oC, .ref oK, .ref nw, .ref w1, .ref w2, .ref w3, .ref o7, .ref o8, .ref o9, .ref w4, .ref w5, .ref w6, .ref w7, .int ke, .int tl, .int fsh, .int wi, .int ri, .int fm, .int lm])), (w4, .inl (cI, 200, .inl fW4)), (w5, .inl (cI, 200, .inl fW5)), (w6, .inl (cI, 200, .inl fW6)), (w7, .inl (cI, 200, .inl fW7))] (fun _ => True) 0 0 (fun (A : Nat → Prop) (hh9 : Heap) => ∀ PZ9 : Prop, (∀ (ke' : Int32) (fW4' : Nat → Int32) (fW5' : Nat → Int32) (fW6' : Nat → Int32) (fW7' : Nat → Int32), kPD (dC, dI) vwCl A [(oW, .inr (1, [.ref oC, .ref oK, .ref nw, .ref w1, .ref w2, .ref w3, .ref o7, .ref o8, .ref o9, .ref w4, .ref w5, .ref w6, .ref w7, .int ke', .int tl, .int fsh, .int wi, .int ri, .int fm, .int lm])), (w4, .inl (cI, 200, .inl fW4')), (w5, .inl (cI, 200, .inl fW5')), (w6, .inl (cI, 200, .inl fW6')), (w7, .inl (cI, 200, .inl fW7'))] hh9 → (0 ≤ ke'.toInt ∧ ke'.toInt ≤ 200) → ((ke.toInt < 200 ∧ ke'.toInt = ke.toInt + 1) ∨ (ke.toInt = 200 ∧ ke'.toInt = 200)) → (INSk ke.toNatClampNeg ke'.toNatClampNeg (CA fW4 fW5 fW6 fW7) (ent a.toInt b.toInt sm.toInt ls_.toInt) (CA fW4' fW5' fW6' fW7')) → PZ9) → PZ9) := by
  refine kMv_of (cc := cX1_keep) (maxL := 6) (ret := none) (lv := [(0, .ref oW), (1, .int a), (2, .int b), (3, .int sm), (4, .int ls_)]) (by decide +kernel) rfl rfl (Nat.le_of_ble_eq_true rfl) ?_
  intro p e s m below meth c A QQ ls hx hb hr hts hml hown hlocks hA hQQ hK hX hP hD hS hl
  have hown : s.vm.findClass RX1 = some m.cls := hown
  have hcf := k_cf hx hb hml hown hts
  have in_X1 : ∀ w ∈ wsX10, w ∈ wsX1_keep := fun _ h => List.mem_cons_of_mem _ (List.mem_append_right _ (h))
  replace g_fsh := hid g_fsh
  replace g_fm := hid g_fm
  replace g_lm := hid g_lm
  have z0 : (0 : Int32).toInt = 0 := rfl
  have z1 : (1 : Int32).toInt = 1 := rfl
  have zm1 : (-1 : Int32).toInt = -1 := rfl
  have ck9 := v_clamp (x := ke) (by omega)
  have z199 : Int32.toNatClampNeg 199 = 199 := rfl
  refine lv_aload_n hx hb dX1_keep_0 rfl (lv_at hl 0 rfl) ?_
  refine va_get (D := (dC, dI)) (ci := 1) (v := .int ke) (C := RX1) (T := TX1) (N := 20) hx hb hts in_X1 hown hK hP 0 rfl rfl 13 (Nat.le_of_ble_eq_true rfl) (hts (.fieldLink RX1 65 "TextMender$Choices" "kept" "I") (List.mem_of_getElem? (i := 1) rfl)) (fun _ h9 => h9) rfl dX1_keep_1 ?_
  refine lv_sipush (v := 200) hx hb dX1_keep_4 (by decide) ?_
  refine lv_icmp_ne (tgt := 23) hx hb dX1_keep_7 (by decide) (fun c_1 => ?_) (fun c_1 => ?_)
  · have tc_1 : ¬ ke.toInt = 200 := v_ne c_1
    refine lv_aload_n hx hb dX1_keep_23 rfl (lv_at hl 0 rfl) ?_
    refine va_get (D := (dC, dI)) (ci := 1) (v := .int ke) (C := RX1) (T := TX1) (N := 20) hx hb hts in_X1 hown hK hP 0 rfl rfl 13 (Nat.le_of_ble_eq_true rfl) (hts (.fieldLink RX1 65 "TextMender$Choices" "kept" "I") (List.mem_of_getElem? (i := 1) rfl)) (fun _ h9 => h9) rfl dX1_keep_24 ?_
    refine lv_sipush (v := 199) hx hb dX1_keep_27 (by decide) ?_
    refine va_mmin hx hb (by rw [hml]; exact hl.1.symm) hown (hts (.methodLink RX1 135 Lib.Math.min.name) (List.mem_of_getElem? (i := 3) rfl)) (hts (.static Lib.Math.min.name) (List.mem_of_getElem? (i := 4) rfl)) (hts (.initialized "java/lang/Math") (List.mem_of_getElem? (i := 5) rfl)) (hts (.code Lib.Math.min.name Lib.Math.min.code 2 (some .int)) (List.mem_of_getElem? (i := 6) rfl)) (Nat.le_of_ble_eq_true rfl) (Nat.le_of_ble_eq_true rfl) (Nat.zero_le _) (Nat.zero_le _) dX1_keep_30 ?_
    refine lv_topi (fun x_2 ex_2 => ?_)
    have tx_2 : x_2.toInt ≤ ke.toInt ∧ x_2.toInt ≤ 199 ∧ (x_2.toInt = ke.toInt ∨ x_2.toInt = 199) := v_min ex_2
    refine lv_istore (lv' := [(5, .int x_2), (0, .ref oW), (1, .int a), (2, .int b), (3, .int sm), (4, .int ls_)]) hx hb dX1_keep_33 hl (by decide) rfl (fun ls hl => ?_)
    refine lv_aload_n hx hb dX1_keep_35 rfl (lv_at hl 1 rfl) ?_
    refine lv_iload hx hb dX1_keep_36 (lv_at hl 0 rfl) ?_
    refine lv_iconst (v := 1) hx hb dX1_keep_38 (by decide) ?_
    refine lv_iadd hx hb dX1_keep_39 ?_
    refine lv_topi (fun x_3 ex_3 => ?_)
    have tx_3 : x_3.toInt = x_2.toInt + 1 := v_add ex_3 (by show -2147483648 ≤ x_2.toInt + 1; omega) (by show x_2.toInt + 1 < 2147483648; omega)
    refine va_put (D := (dC, dI)) (ci := 1) (v := .int x_3) (ty := .int) (C := RX1) (T := TX1) (N := 20) hx hb hts in_X1 tyX1 tyX1_ok nmX1 hown hK hP hD hS 0 rfl rfl 13 (Nat.le_of_ble_eq_true rfl) (hts (.fieldLink RX1 65 "TextMender$Choices" "kept" "I") (List.mem_of_getElem? (i := 1) rfl)) (fun _ h9 => h9) rfl (tyX1_ok 13 (Nat.le_of_ble_eq_true rfl)) rfl rfl (Nat.le_of_ble_eq_true rfl) dX1_keep_40 (kW (wn := [(oW, .inr (1, [.ref oC, .ref oK, .ref nw, .ref w1, .ref w2, .ref w3, .ref o7, .ref o8, .ref o9, .ref w4, .ref w5, .ref w6, .ref w7, .int x_3, .int tl, .int fsh, .int wi, .int ri, .int fm, .int lm])), (w4, .inl (cI, 200, .inl fW4)), (w5, .inl (cI, 200, .inl fW5)), (w6, .inl (cI, 200, .inl fW6)), (w7, .inl (cI, 200, .inl fW7))]) rfl (fun H locs hPn hDn hSn => ?_))
    clear hP hD hS
    have hP := hPn
    have hD := hDn
    have hS := hSn
    clear hPn hDn hSn
    have LOOP_43 : ∀ (k_43 : Nat) (pl : Int32) (fd_ : Nat → Int32) (fe_ : Nat → Int32) (ff_ : Nat → Int32) (fg_ : Nat → Int32) (H : Heap) (locs : List Loc) (ls : Array Slot), MSd (pl.toInt : Int) k_43 → (0 ≤ pl.toInt ∧ pl.toInt ≤ 199) → (pl.toInt ≤ ke.toInt) → (KPL fW4 fW5 fW6 fW7 fd_ fe_ ff_ fg_ pl.toInt (x_2.toInt)) → (∀ i : Nat, pl.toInt ≤ i → i < ke.toNatClampNeg → sm.toInt < CA fW4 fW5 fW6 fW7 i 2) → va_P (dC, dI) vwCl [(oW, .inr (1, [.ref oC, .ref oK, .ref nw, .ref w1, .ref w2, .ref w3, .ref o7, .ref o8, .ref o9, .ref w4, .ref w5, .ref w6, .ref w7, .int x_3, .int tl, .int fsh, .int wi, .int ri, .int fm, .int lm])), (w4, .inl (cI, 200, .inl fd_)), (w5, .inl (cI, 200, .inl fe_)), (w6, .inl (cI, 200, .inl ff_)), (w7, .inl (cI, 200, .inl fg_))] H → va_D A [(oW, .inr (1, [.ref oC, .ref oK, .ref nw, .ref w1, .ref w2, .ref w3, .ref o7, .ref o8, .ref o9, .ref w4, .ref w5, .ref w6, .ref w7, .int x_3, .int tl, .int fsh, .int wi, .int ri, .int fm, .int lm])), (w4, .inl (cI, 200, .inl fd_)), (w5, .inl (cI, 200, .inl fe_)), (w6, .inl (cI, 200, .inl ff_)), (w7, .inl (cI, 200, .inl fg_))] → va_S A s.heap H locs → lv_has ls 6 [(5, .int pl), (0, .ref oW), (1, .int a), (2, .int b), (3, .int sm), (4, .int ls_)] → W p l e (headSpec wsX1_keep ({ frames := 1, cells := 0, slots := 0, locals := 21 } : Room)).room s m ([.ref oW, .int a, .int b, .int sm, .int ls_] : List Value).toArray below meth c H locs 0 0 (MQ below QQ ([.ref oW, .int a, .int b, .int sm, .int ls_] : List Value).toArray s 0 0 A) (F0 m 43 ls []) := by
      clear hP hD hS hl
      intro k_43
      induction k_43 with
      | zero =>
        intro pl fd_ fe_ ff_ fg_ H locs ls hm_43 g_pl hpk hkp hbg hP hD hS hl
        exact ms_0 hm_43
      | succ k_43 ih_43 =>
        intro pl fd_ fe_ ff_ fg_ H locs ls hm_43 g_pl hpk hkp hbg hP hD hS hl
        refine lv_iload hx hb dX1_keep_43 (lv_at hl 0 rfl) ?_
        refine lv_if_le (tgt := 131) hx hb dX1_keep_45 (by decide) (fun c_4 => ?_) (fun c_4 => ?_)
        · have tc_4 : pl.toInt ≤ 0 := v_le c_4
          refine lv_aload_n hx hb dX1_keep_131 rfl (lv_at hl 1 rfl) ?_
          refine va_get (D := (dC, dI)) (ci := 1) (v := .ref w4) (C := RX1) (T := TX1) (N := 20) hx hb hts in_X1 hown hK hP 0 rfl rfl 9 (Nat.le_of_ble_eq_true rfl) (hts (.fieldLink RX1 30 "TextMender$Choices" "firstByte" "[I") (List.mem_of_getElem? (i := 7) rfl)) (fun _ h9 => h9) rfl dX1_keep_132 ?_
          refine lv_iload hx hb dX1_keep_135 (lv_at hl 0 rfl) ?_
          refine lv_iload_n hx hb dX1_keep_137 rfl (lv_at hl 2 rfl) ?_
          refine lv_iconst (v := (-1)) hx hb dX1_keep_138 (by decide) ?_
          refine lv_icmp_ne (tgt := 146) hx hb dX1_keep_139 (by decide) (fun c_5 => ?_) (fun c_5 => ?_)
          · have tc_5 : ¬ a.toInt = (-1) := v_ne c_5
            refine lv_iload_n hx hb dX1_keep_146 rfl (lv_at hl 2 rfl) ?_
            obtain ⟨f_6, ef_6⟩ : ∃ g : Nat → Int32, g = upd fd_ (pl : Int32).toNatClampNeg a := ⟨_, rfl⟩
            refine va_iast hx hb hK hP hD hS 1 0 rfl rfl (v_inR g_pl (by decide) (by decide)) dX1_keep_147 (kWf (g := f_6) (F := fun f_6 => [(oW, .inr (1, [.ref oC, .ref oK, .ref nw, .ref w1, .ref w2, .ref w3, .ref o7, .ref o8, .ref o9, .ref w4, .ref w5, .ref w6, .ref w7, .int x_3, .int tl, .int fsh, .int wi, .int ri, .int fm, .int lm])), (w4, .inl (cI, 200, .inl f_6)), (w5, .inl (cI, 200, .inl fe_)), (w6, .inl (cI, 200, .inl ff_)), (w7, .inl (cI, 200, .inl fg_))]) ef_6 rfl (fun H locs hPn hDn hSn => ?_))
            clear hP hD hS
            have hP := hPn
            have hD := hDn
            have hS := hSn
            clear hPn hDn hSn
            refine lv_aload_n hx hb dX1_keep_148 rfl (lv_at hl 1 rfl) ?_
            refine va_get (D := (dC, dI)) (ci := 1) (v := .ref w5) (C := RX1) (T := TX1) (N := 20) hx hb hts in_X1 hown hK hP 0 rfl rfl 10 (Nat.le_of_ble_eq_true rfl) (hts (.fieldLink RX1 33 "TextMender$Choices" "secondByte" "[I") (List.mem_of_getElem? (i := 8) rfl)) (fun _ h9 => h9) rfl dX1_keep_149 ?_
            refine lv_iload hx hb dX1_keep_152 (lv_at hl 0 rfl) ?_
            refine lv_iload_n hx hb dX1_keep_154 rfl (lv_at hl 2 rfl) ?_
            refine lv_iconst (v := (-1)) hx hb dX1_keep_155 (by decide) ?_
            refine lv_icmp_ne (tgt := 163) hx hb dX1_keep_156 (by decide) (fun c_7 => ?_) (fun c_7 => by exfalso; have tc_7 : a.toInt = (-1) := v_eq c_7; omega)
            have tc_7 : ¬ a.toInt = (-1) := v_ne c_7
            refine lv_iload_n hx hb dX1_keep_163 rfl (lv_at hl 3 rfl) ?_
            obtain ⟨f_8, ef_8⟩ : ∃ g : Nat → Int32, g = upd fe_ (pl : Int32).toNatClampNeg b := ⟨_, rfl⟩
            refine va_iast hx hb hK hP hD hS 2 0 rfl rfl (v_inR g_pl (by decide) (by decide)) dX1_keep_164 (kWf (g := f_8) (F := fun f_8 => [(oW, .inr (1, [.ref oC, .ref oK, .ref nw, .ref w1, .ref w2, .ref w3, .ref o7, .ref o8, .ref o9, .ref w4, .ref w5, .ref w6, .ref w7, .int x_3, .int tl, .int fsh, .int wi, .int ri, .int fm, .int lm])), (w4, .inl (cI, 200, .inl f_6)), (w5, .inl (cI, 200, .inl f_8)), (w6, .inl (cI, 200, .inl ff_)), (w7, .inl (cI, 200, .inl fg_))]) ef_8 rfl (fun H locs hPn hDn hSn => ?_))
            clear hP hD hS
            have hP := hPn
            have hD := hDn
            have hS := hSn
            clear hPn hDn hSn
            refine lv_aload_n hx hb dX1_keep_165 rfl (lv_at hl 1 rfl) ?_
            refine va_get (D := (dC, dI)) (ci := 1) (v := .ref w6) (C := RX1) (T := TX1) (N := 20) hx hb hts in_X1 hown hK hP 0 rfl rfl 11 (Nat.le_of_ble_eq_true rfl) (hts (.fieldLink RX1 36 "TextMender$Choices" "costOf" "[I") (List.mem_of_getElem? (i := 2) rfl)) (fun _ h9 => h9) rfl dX1_keep_166 ?_
            refine lv_iload hx hb dX1_keep_169 (lv_at hl 0 rfl) ?_
            refine lv_iload_n hx hb dX1_keep_171 rfl (lv_at hl 4 rfl) ?_
            obtain ⟨f_9, ef_9⟩ : ∃ g : Nat → Int32, g = upd ff_ (pl : Int32).toNatClampNeg sm := ⟨_, rfl⟩
            refine va_iast hx hb hK hP hD hS 3 0 rfl rfl (v_inR g_pl (by decide) (by decide)) dX1_keep_172 (kWf (g := f_9) (F := fun f_9 => [(oW, .inr (1, [.ref oC, .ref oK, .ref nw, .ref w1, .ref w2, .ref w3, .ref o7, .ref o8, .ref o9, .ref w4, .ref w5, .ref w6, .ref w7, .int x_3, .int tl, .int fsh, .int wi, .int ri, .int fm, .int lm])), (w4, .inl (cI, 200, .inl f_6)), (w5, .inl (cI, 200, .inl f_8)), (w6, .inl (cI, 200, .inl f_9)), (w7, .inl (cI, 200, .inl fg_))]) ef_9 rfl (fun H locs hPn hDn hSn => ?_))
            clear hP hD hS
            have hP := hPn
            have hD := hDn
            have hS := hSn
            clear hPn hDn hSn
            refine lv_aload_n hx hb dX1_keep_173 rfl (lv_at hl 1 rfl) ?_
            refine va_get (D := (dC, dI)) (ci := 1) (v := .ref w7) (C := RX1) (T := TX1) (N := 20) hx hb hts in_X1 hown hK hP 0 rfl rfl 12 (Nat.le_of_ble_eq_true rfl) (hts (.fieldLink RX1 39 "TextMender$Choices" "lengthOf" "[I") (List.mem_of_getElem? (i := 9) rfl)) (fun _ h9 => h9) rfl dX1_keep_174 ?_
            refine lv_iload hx hb dX1_keep_177 (lv_at hl 0 rfl) ?_
            refine lv_iload hx hb dX1_keep_179 (lv_at hl 5 rfl) ?_
            obtain ⟨f_10, ef_10⟩ : ∃ g : Nat → Int32, g = upd fg_ (pl : Int32).toNatClampNeg ls_ := ⟨_, rfl⟩
            refine va_iast hx hb hK hP hD hS 4 0 rfl rfl (v_inR g_pl (by decide) (by decide)) dX1_keep_181 (kWf (g := f_10) (F := fun f_10 => [(oW, .inr (1, [.ref oC, .ref oK, .ref nw, .ref w1, .ref w2, .ref w3, .ref o7, .ref o8, .ref o9, .ref w4, .ref w5, .ref w6, .ref w7, .int x_3, .int tl, .int fsh, .int wi, .int ri, .int fm, .int lm])), (w4, .inl (cI, 200, .inl f_6)), (w5, .inl (cI, 200, .inl f_8)), (w6, .inl (cI, 200, .inl f_9)), (w7, .inl (cI, 200, .inl f_10))]) ef_10 rfl (fun H locs hPn hDn hSn => ?_))
            clear hP hD hS
            have hP := hPn
            have hD := hDn
            have hS := hSn
            clear hPn hDn hSn
            exact kl_v hQQ hx hb hr hlocks hS dX1_keep_182 (fun PZ9 kZ9 => kZ9 x_3 f_6 f_8 f_9 f_10 (⟨hP, hD⟩) (by omega) (by show (ke.toInt < 200 ∧ x_3.toInt = ke.toInt + 1) ∨ (ke.toInt = 200 ∧ x_3.toInt = 200); omega) (kp_end hkp hsr (by omega) (by omega) (by have c8 := v_clamp (x := x_3) (by omega); omega) ef_6 ef_8 ef_9 ef_10 (by show _ = (if a.toInt = -1 then b.toInt else a.toInt); rw [if_neg (by omega)]) (by show _ = (if a.toInt = -1 then -1 else b.toInt); rw [if_neg (by omega)]) rfl rfl hbg (Or.inl (by omega))))
          · have tc_5 : a.toInt = (-1) := v_eq c_5
            refine lv_iload_n hx hb dX1_keep_142 rfl (lv_at hl 3 rfl) ?_
            refine lv_goto (tgt := 147) hx hb dX1_keep_143 (by decide) ?_
            obtain ⟨f_11, ef_11⟩ : ∃ g : Nat → Int32, g = upd fd_ (pl : Int32).toNatClampNeg b := ⟨_, rfl⟩
            refine va_iast hx hb hK hP hD hS 1 0 rfl rfl (v_inR g_pl (by decide) (by decide)) dX1_keep_147 (kWf (g := f_11) (F := fun f_11 => [(oW, .inr (1, [.ref oC, .ref oK, .ref nw, .ref w1, .ref w2, .ref w3, .ref o7, .ref o8, .ref o9, .ref w4, .ref w5, .ref w6, .ref w7, .int x_3, .int tl, .int fsh, .int wi, .int ri, .int fm, .int lm])), (w4, .inl (cI, 200, .inl f_11)), (w5, .inl (cI, 200, .inl fe_)), (w6, .inl (cI, 200, .inl ff_)), (w7, .inl (cI, 200, .inl fg_))]) ef_11 rfl (fun H locs hPn hDn hSn => ?_))
            clear hP hD hS
            have hP := hPn
            have hD := hDn
            have hS := hSn
            clear hPn hDn hSn
            refine lv_aload_n hx hb dX1_keep_148 rfl (lv_at hl 1 rfl) ?_
            refine va_get (D := (dC, dI)) (ci := 1) (v := .ref w5) (C := RX1) (T := TX1) (N := 20) hx hb hts in_X1 hown hK hP 0 rfl rfl 10 (Nat.le_of_ble_eq_true rfl) (hts (.fieldLink RX1 33 "TextMender$Choices" "secondByte" "[I") (List.mem_of_getElem? (i := 8) rfl)) (fun _ h9 => h9) rfl dX1_keep_149 ?_
            refine lv_iload hx hb dX1_keep_152 (lv_at hl 0 rfl) ?_
            refine lv_iload_n hx hb dX1_keep_154 rfl (lv_at hl 2 rfl) ?_
            refine lv_iconst (v := (-1)) hx hb dX1_keep_155 (by decide) ?_
            refine lv_icmp_ne (tgt := 163) hx hb dX1_keep_156 (by decide) (fun c_12 => by exfalso; have tc_12 : ¬ a.toInt = (-1) := v_ne c_12; omega) (fun c_12 => ?_)
            have tc_12 : a.toInt = (-1) := v_eq c_12
            refine lv_iconst (v := (-1)) hx hb dX1_keep_159 (by decide) ?_
            refine lv_goto (tgt := 164) hx hb dX1_keep_160 (by decide) ?_
            obtain ⟨f_13, ef_13⟩ : ∃ g : Nat → Int32, g = upd fe_ (pl : Int32).toNatClampNeg (-1) := ⟨_, rfl⟩
            refine va_iast hx hb hK hP hD hS 2 0 rfl rfl (v_inR g_pl (by decide) (by decide)) dX1_keep_164 (kWf (g := f_13) (F := fun f_13 => [(oW, .inr (1, [.ref oC, .ref oK, .ref nw, .ref w1, .ref w2, .ref w3, .ref o7, .ref o8, .ref o9, .ref w4, .ref w5, .ref w6, .ref w7, .int x_3, .int tl, .int fsh, .int wi, .int ri, .int fm, .int lm])), (w4, .inl (cI, 200, .inl f_11)), (w5, .inl (cI, 200, .inl f_13)), (w6, .inl (cI, 200, .inl ff_)), (w7, .inl (cI, 200, .inl fg_))]) ef_13 rfl (fun H locs hPn hDn hSn => ?_))
            clear hP hD hS
            have hP := hPn
            have hD := hDn
            have hS := hSn
            clear hPn hDn hSn
            refine lv_aload_n hx hb dX1_keep_165 rfl (lv_at hl 1 rfl) ?_
            refine va_get (D := (dC, dI)) (ci := 1) (v := .ref w6) (C := RX1) (T := TX1) (N := 20) hx hb hts in_X1 hown hK hP 0 rfl rfl 11 (Nat.le_of_ble_eq_true rfl) (hts (.fieldLink RX1 36 "TextMender$Choices" "costOf" "[I") (List.mem_of_getElem? (i := 2) rfl)) (fun _ h9 => h9) rfl dX1_keep_166 ?_
            refine lv_iload hx hb dX1_keep_169 (lv_at hl 0 rfl) ?_
            refine lv_iload_n hx hb dX1_keep_171 rfl (lv_at hl 4 rfl) ?_
            obtain ⟨f_14, ef_14⟩ : ∃ g : Nat → Int32, g = upd ff_ (pl : Int32).toNatClampNeg sm := ⟨_, rfl⟩
            refine va_iast hx hb hK hP hD hS 3 0 rfl rfl (v_inR g_pl (by decide) (by decide)) dX1_keep_172 (kWf (g := f_14) (F := fun f_14 => [(oW, .inr (1, [.ref oC, .ref oK, .ref nw, .ref w1, .ref w2, .ref w3, .ref o7, .ref o8, .ref o9, .ref w4, .ref w5, .ref w6, .ref w7, .int x_3, .int tl, .int fsh, .int wi, .int ri, .int fm, .int lm])), (w4, .inl (cI, 200, .inl f_11)), (w5, .inl (cI, 200, .inl f_13)), (w6, .inl (cI, 200, .inl f_14)), (w7, .inl (cI, 200, .inl fg_))]) ef_14 rfl (fun H locs hPn hDn hSn => ?_))
            clear hP hD hS
            have hP := hPn
            have hD := hDn
            have hS := hSn
            clear hPn hDn hSn
            refine lv_aload_n hx hb dX1_keep_173 rfl (lv_at hl 1 rfl) ?_
            refine va_get (D := (dC, dI)) (ci := 1) (v := .ref w7) (C := RX1) (T := TX1) (N := 20) hx hb hts in_X1 hown hK hP 0 rfl rfl 12 (Nat.le_of_ble_eq_true rfl) (hts (.fieldLink RX1 39 "TextMender$Choices" "lengthOf" "[I") (List.mem_of_getElem? (i := 9) rfl)) (fun _ h9 => h9) rfl dX1_keep_174 ?_
            refine lv_iload hx hb dX1_keep_177 (lv_at hl 0 rfl) ?_
            refine lv_iload hx hb dX1_keep_179 (lv_at hl 5 rfl) ?_
            obtain ⟨f_15, ef_15⟩ : ∃ g : Nat → Int32, g = upd fg_ (pl : Int32).toNatClampNeg ls_ := ⟨_, rfl⟩
            refine va_iast hx hb hK hP hD hS 4 0 rfl rfl (v_inR g_pl (by decide) (by decide)) dX1_keep_181 (kWf (g := f_15) (F := fun f_15 => [(oW, .inr (1, [.ref oC, .ref oK, .ref nw, .ref w1, .ref w2, .ref w3, .ref o7, .ref o8, .ref o9, .ref w4, .ref w5, .ref w6, .ref w7, .int x_3, .int tl, .int fsh, .int wi, .int ri, .int fm, .int lm])), (w4, .inl (cI, 200, .inl f_11)), (w5, .inl (cI, 200, .inl f_13)), (w6, .inl (cI, 200, .inl f_14)), (w7, .inl (cI, 200, .inl f_15))]) ef_15 rfl (fun H locs hPn hDn hSn => ?_))
            clear hP hD hS
            have hP := hPn
            have hD := hDn
            have hS := hSn
            clear hPn hDn hSn
            exact kl_v hQQ hx hb hr hlocks hS dX1_keep_182 (fun PZ9 kZ9 => kZ9 x_3 f_11 f_13 f_14 f_15 (⟨hP, hD⟩) (by omega) (by show (ke.toInt < 200 ∧ x_3.toInt = ke.toInt + 1) ∨ (ke.toInt = 200 ∧ x_3.toInt = 200); omega) (kp_end hkp hsr (by omega) (by omega) (by have c8 := v_clamp (x := x_3) (by omega); omega) ef_11 ef_13 ef_14 ef_15 (by show _ = (if a.toInt = -1 then b.toInt else a.toInt); rw [if_pos (by omega)]) (by show _ = (if a.toInt = -1 then -1 else b.toInt); rw [if_pos (by omega)]; rfl) rfl rfl hbg (Or.inl (by omega))))
        · have tc_4 : 0 < pl.toInt := v_nle c_4
          refine lv_aload_n hx hb dX1_keep_48 rfl (lv_at hl 1 rfl) ?_
          refine va_get (D := (dC, dI)) (ci := 1) (v := .ref w6) (C := RX1) (T := TX1) (N := 20) hx hb hts in_X1 hown hK hP 0 rfl rfl 11 (Nat.le_of_ble_eq_true rfl) (hts (.fieldLink RX1 36 "TextMender$Choices" "costOf" "[I") (List.mem_of_getElem? (i := 2) rfl)) (fun _ h9 => h9) rfl dX1_keep_49 ?_
          refine lv_iload hx hb dX1_keep_52 (lv_at hl 0 rfl) ?_
          refine lv_iconst (v := 1) hx hb dX1_keep_54 (by decide) ?_
          refine lv_isub hx hb dX1_keep_55 ?_
          refine lv_topi (fun x_16 ex_16 => ?_)
          have tx_16 : x_16.toInt = pl.toInt - 1 := v_subR (l2 := 1) (h2 := 1) ex_16 g_pl (by decide) (by decide) (by decide)
          refine va_iald hx hb hK hP 3 0 rfl rfl (v_in (by omega)) dX1_keep_56 ?_
          refine lv_topi (fun x_17 ex_17 => ?_)
          refine lv_iload_n hx hb dX1_keep_57 rfl (lv_at hl 4 rfl) ?_
          refine lv_icmp_le (tgt := 131) hx hb dX1_keep_58 (by decide) (fun c_18 => ?_) (fun c_18 => ?_)
          · have tc_18 : x_17.toInt ≤ sm.toInt := v_le c_18
            have rw18_0 := v_rng x_17
            have rw18_1 := v_rng sm
            refine lv_aload_n hx hb dX1_keep_131 rfl (lv_at hl 1 rfl) ?_
            refine va_get (D := (dC, dI)) (ci := 1) (v := .ref w4) (C := RX1) (T := TX1) (N := 20) hx hb hts in_X1 hown hK hP 0 rfl rfl 9 (Nat.le_of_ble_eq_true rfl) (hts (.fieldLink RX1 30 "TextMender$Choices" "firstByte" "[I") (List.mem_of_getElem? (i := 7) rfl)) (fun _ h9 => h9) rfl dX1_keep_132 ?_
            refine lv_iload hx hb dX1_keep_135 (lv_at hl 0 rfl) ?_
            refine lv_iload_n hx hb dX1_keep_137 rfl (lv_at hl 2 rfl) ?_
            refine lv_iconst (v := (-1)) hx hb dX1_keep_138 (by decide) ?_
            refine lv_icmp_ne (tgt := 146) hx hb dX1_keep_139 (by decide) (fun c_19 => ?_) (fun c_19 => ?_)
            · have tc_19 : ¬ a.toInt = (-1) := v_ne c_19
              refine lv_iload_n hx hb dX1_keep_146 rfl (lv_at hl 2 rfl) ?_
              obtain ⟨f_20, ef_20⟩ : ∃ g : Nat → Int32, g = upd fd_ (pl : Int32).toNatClampNeg a := ⟨_, rfl⟩
              refine va_iast hx hb hK hP hD hS 1 0 rfl rfl (v_inR g_pl (by decide) (by decide)) dX1_keep_147 (kWf (g := f_20) (F := fun f_20 => [(oW, .inr (1, [.ref oC, .ref oK, .ref nw, .ref w1, .ref w2, .ref w3, .ref o7, .ref o8, .ref o9, .ref w4, .ref w5, .ref w6, .ref w7, .int x_3, .int tl, .int fsh, .int wi, .int ri, .int fm, .int lm])), (w4, .inl (cI, 200, .inl f_20)), (w5, .inl (cI, 200, .inl fe_)), (w6, .inl (cI, 200, .inl ff_)), (w7, .inl (cI, 200, .inl fg_))]) ef_20 rfl (fun H locs hPn hDn hSn => ?_))
              clear hP hD hS
              have hP := hPn
              have hD := hDn
              have hS := hSn
              clear hPn hDn hSn
              refine lv_aload_n hx hb dX1_keep_148 rfl (lv_at hl 1 rfl) ?_
              refine va_get (D := (dC, dI)) (ci := 1) (v := .ref w5) (C := RX1) (T := TX1) (N := 20) hx hb hts in_X1 hown hK hP 0 rfl rfl 10 (Nat.le_of_ble_eq_true rfl) (hts (.fieldLink RX1 33 "TextMender$Choices" "secondByte" "[I") (List.mem_of_getElem? (i := 8) rfl)) (fun _ h9 => h9) rfl dX1_keep_149 ?_
              refine lv_iload hx hb dX1_keep_152 (lv_at hl 0 rfl) ?_
              refine lv_iload_n hx hb dX1_keep_154 rfl (lv_at hl 2 rfl) ?_
              refine lv_iconst (v := (-1)) hx hb dX1_keep_155 (by decide) ?_
              refine lv_icmp_ne (tgt := 163) hx hb dX1_keep_156 (by decide) (fun c_21 => ?_) (fun c_21 => by exfalso; have tc_21 : a.toInt = (-1) := v_eq c_21; omega)
              have tc_21 : ¬ a.toInt = (-1) := v_ne c_21
              refine lv_iload_n hx hb dX1_keep_163 rfl (lv_at hl 3 rfl) ?_
              obtain ⟨f_22, ef_22⟩ : ∃ g : Nat → Int32, g = upd fe_ (pl : Int32).toNatClampNeg b := ⟨_, rfl⟩
              refine va_iast hx hb hK hP hD hS 2 0 rfl rfl (v_inR g_pl (by decide) (by decide)) dX1_keep_164 (kWf (g := f_22) (F := fun f_22 => [(oW, .inr (1, [.ref oC, .ref oK, .ref nw, .ref w1, .ref w2, .ref w3, .ref o7, .ref o8, .ref o9, .ref w4, .ref w5, .ref w6, .ref w7, .int x_3, .int tl, .int fsh, .int wi, .int ri, .int fm, .int lm])), (w4, .inl (cI, 200, .inl f_20)), (w5, .inl (cI, 200, .inl f_22)), (w6, .inl (cI, 200, .inl ff_)), (w7, .inl (cI, 200, .inl fg_))]) ef_22 rfl (fun H locs hPn hDn hSn => ?_))
              clear hP hD hS
              have hP := hPn
              have hD := hDn
              have hS := hSn
              clear hPn hDn hSn
              refine lv_aload_n hx hb dX1_keep_165 rfl (lv_at hl 1 rfl) ?_
              refine va_get (D := (dC, dI)) (ci := 1) (v := .ref w6) (C := RX1) (T := TX1) (N := 20) hx hb hts in_X1 hown hK hP 0 rfl rfl 11 (Nat.le_of_ble_eq_true rfl) (hts (.fieldLink RX1 36 "TextMender$Choices" "costOf" "[I") (List.mem_of_getElem? (i := 2) rfl)) (fun _ h9 => h9) rfl dX1_keep_166 ?_
              refine lv_iload hx hb dX1_keep_169 (lv_at hl 0 rfl) ?_
              refine lv_iload_n hx hb dX1_keep_171 rfl (lv_at hl 4 rfl) ?_
              obtain ⟨f_23, ef_23⟩ : ∃ g : Nat → Int32, g = upd ff_ (pl : Int32).toNatClampNeg sm := ⟨_, rfl⟩
              refine va_iast hx hb hK hP hD hS 3 0 rfl rfl (v_inR g_pl (by decide) (by decide)) dX1_keep_172 (kWf (g := f_23) (F := fun f_23 => [(oW, .inr (1, [.ref oC, .ref oK, .ref nw, .ref w1, .ref w2, .ref w3, .ref o7, .ref o8, .ref o9, .ref w4, .ref w5, .ref w6, .ref w7, .int x_3, .int tl, .int fsh, .int wi, .int ri, .int fm, .int lm])), (w4, .inl (cI, 200, .inl f_20)), (w5, .inl (cI, 200, .inl f_22)), (w6, .inl (cI, 200, .inl f_23)), (w7, .inl (cI, 200, .inl fg_))]) ef_23 rfl (fun H locs hPn hDn hSn => ?_))
              clear hP hD hS
              have hP := hPn
              have hD := hDn
              have hS := hSn
              clear hPn hDn hSn
              refine lv_aload_n hx hb dX1_keep_173 rfl (lv_at hl 1 rfl) ?_
              refine va_get (D := (dC, dI)) (ci := 1) (v := .ref w7) (C := RX1) (T := TX1) (N := 20) hx hb hts in_X1 hown hK hP 0 rfl rfl 12 (Nat.le_of_ble_eq_true rfl) (hts (.fieldLink RX1 39 "TextMender$Choices" "lengthOf" "[I") (List.mem_of_getElem? (i := 9) rfl)) (fun _ h9 => h9) rfl dX1_keep_174 ?_
              refine lv_iload hx hb dX1_keep_177 (lv_at hl 0 rfl) ?_
              refine lv_iload hx hb dX1_keep_179 (lv_at hl 5 rfl) ?_
              obtain ⟨f_24, ef_24⟩ : ∃ g : Nat → Int32, g = upd fg_ (pl : Int32).toNatClampNeg ls_ := ⟨_, rfl⟩
              refine va_iast hx hb hK hP hD hS 4 0 rfl rfl (v_inR g_pl (by decide) (by decide)) dX1_keep_181 (kWf (g := f_24) (F := fun f_24 => [(oW, .inr (1, [.ref oC, .ref oK, .ref nw, .ref w1, .ref w2, .ref w3, .ref o7, .ref o8, .ref o9, .ref w4, .ref w5, .ref w6, .ref w7, .int x_3, .int tl, .int fsh, .int wi, .int ri, .int fm, .int lm])), (w4, .inl (cI, 200, .inl f_20)), (w5, .inl (cI, 200, .inl f_22)), (w6, .inl (cI, 200, .inl f_23)), (w7, .inl (cI, 200, .inl f_24))]) ef_24 rfl (fun H locs hPn hDn hSn => ?_))
              clear hP hD hS
              have hP := hPn
              have hD := hDn
              have hS := hSn
              clear hPn hDn hSn
              exact kl_v hQQ hx hb hr hlocks hS dX1_keep_182 (fun PZ9 kZ9 => kZ9 x_3 f_20 f_22 f_23 f_24 (⟨hP, hD⟩) (by omega) (by show (ke.toInt < 200 ∧ x_3.toInt = ke.toInt + 1) ∨ (ke.toInt = 200 ∧ x_3.toInt = 200); omega) (kp_end hkp hsr (by omega) (by omega) (by have c8 := v_clamp (x := x_3) (by omega); omega) ef_20 ef_22 ef_23 ef_24 (by show _ = (if a.toInt = -1 then b.toInt else a.toInt); rw [if_neg (by omega)]) (by show _ = (if a.toInt = -1 then -1 else b.toInt); rw [if_neg (by omega)]) rfl rfl hbg (Or.inr ⟨x_16, x_17, by omega, ex_17, by show _ ≤ sm.toInt; omega⟩)))
            · have tc_19 : a.toInt = (-1) := v_eq c_19
              refine lv_iload_n hx hb dX1_keep_142 rfl (lv_at hl 3 rfl) ?_
              refine lv_goto (tgt := 147) hx hb dX1_keep_143 (by decide) ?_
              obtain ⟨f_25, ef_25⟩ : ∃ g : Nat → Int32, g = upd fd_ (pl : Int32).toNatClampNeg b := ⟨_, rfl⟩
              refine va_iast hx hb hK hP hD hS 1 0 rfl rfl (v_inR g_pl (by decide) (by decide)) dX1_keep_147 (kWf (g := f_25) (F := fun f_25 => [(oW, .inr (1, [.ref oC, .ref oK, .ref nw, .ref w1, .ref w2, .ref w3, .ref o7, .ref o8, .ref o9, .ref w4, .ref w5, .ref w6, .ref w7, .int x_3, .int tl, .int fsh, .int wi, .int ri, .int fm, .int lm])), (w4, .inl (cI, 200, .inl f_25)), (w5, .inl (cI, 200, .inl fe_)), (w6, .inl (cI, 200, .inl ff_)), (w7, .inl (cI, 200, .inl fg_))]) ef_25 rfl (fun H locs hPn hDn hSn => ?_))
              clear hP hD hS
              have hP := hPn
              have hD := hDn
              have hS := hSn
              clear hPn hDn hSn
              refine lv_aload_n hx hb dX1_keep_148 rfl (lv_at hl 1 rfl) ?_
              refine va_get (D := (dC, dI)) (ci := 1) (v := .ref w5) (C := RX1) (T := TX1) (N := 20) hx hb hts in_X1 hown hK hP 0 rfl rfl 10 (Nat.le_of_ble_eq_true rfl) (hts (.fieldLink RX1 33 "TextMender$Choices" "secondByte" "[I") (List.mem_of_getElem? (i := 8) rfl)) (fun _ h9 => h9) rfl dX1_keep_149 ?_
              refine lv_iload hx hb dX1_keep_152 (lv_at hl 0 rfl) ?_
              refine lv_iload_n hx hb dX1_keep_154 rfl (lv_at hl 2 rfl) ?_
              refine lv_iconst (v := (-1)) hx hb dX1_keep_155 (by decide) ?_
              refine lv_icmp_ne (tgt := 163) hx hb dX1_keep_156 (by decide) (fun c_26 => by exfalso; have tc_26 : ¬ a.toInt = (-1) := v_ne c_26; omega) (fun c_26 => ?_)
              have tc_26 : a.toInt = (-1) := v_eq c_26
              refine lv_iconst (v := (-1)) hx hb dX1_keep_159 (by decide) ?_
              refine lv_goto (tgt := 164) hx hb dX1_keep_160 (by decide) ?_
              obtain ⟨f_27, ef_27⟩ : ∃ g : Nat → Int32, g = upd fe_ (pl : Int32).toNatClampNeg (-1) := ⟨_, rfl⟩
              refine va_iast hx hb hK hP hD hS 2 0 rfl rfl (v_inR g_pl (by decide) (by decide)) dX1_keep_164 (kWf (g := f_27) (F := fun f_27 => [(oW, .inr (1, [.ref oC, .ref oK, .ref nw, .ref w1, .ref w2, .ref w3, .ref o7, .ref o8, .ref o9, .ref w4, .ref w5, .ref w6, .ref w7, .int x_3, .int tl, .int fsh, .int wi, .int ri, .int fm, .int lm])), (w4, .inl (cI, 200, .inl f_25)), (w5, .inl (cI, 200, .inl f_27)), (w6, .inl (cI, 200, .inl ff_)), (w7, .inl (cI, 200, .inl fg_))]) ef_27 rfl (fun H locs hPn hDn hSn => ?_))
              clear hP hD hS
              have hP := hPn
              have hD := hDn
              have hS := hSn
              clear hPn hDn hSn
              refine lv_aload_n hx hb dX1_keep_165 rfl (lv_at hl 1 rfl) ?_
              refine va_get (D := (dC, dI)) (ci := 1) (v := .ref w6) (C := RX1) (T := TX1) (N := 20) hx hb hts in_X1 hown hK hP 0 rfl rfl 11 (Nat.le_of_ble_eq_true rfl) (hts (.fieldLink RX1 36 "TextMender$Choices" "costOf" "[I") (List.mem_of_getElem? (i := 2) rfl)) (fun _ h9 => h9) rfl dX1_keep_166 ?_
              refine lv_iload hx hb dX1_keep_169 (lv_at hl 0 rfl) ?_
              refine lv_iload_n hx hb dX1_keep_171 rfl (lv_at hl 4 rfl) ?_
              obtain ⟨f_28, ef_28⟩ : ∃ g : Nat → Int32, g = upd ff_ (pl : Int32).toNatClampNeg sm := ⟨_, rfl⟩
              refine va_iast hx hb hK hP hD hS 3 0 rfl rfl (v_inR g_pl (by decide) (by decide)) dX1_keep_172 (kWf (g := f_28) (F := fun f_28 => [(oW, .inr (1, [.ref oC, .ref oK, .ref nw, .ref w1, .ref w2, .ref w3, .ref o7, .ref o8, .ref o9, .ref w4, .ref w5, .ref w6, .ref w7, .int x_3, .int tl, .int fsh, .int wi, .int ri, .int fm, .int lm])), (w4, .inl (cI, 200, .inl f_25)), (w5, .inl (cI, 200, .inl f_27)), (w6, .inl (cI, 200, .inl f_28)), (w7, .inl (cI, 200, .inl fg_))]) ef_28 rfl (fun H locs hPn hDn hSn => ?_))
              clear hP hD hS
              have hP := hPn
              have hD := hDn
              have hS := hSn
              clear hPn hDn hSn
              refine lv_aload_n hx hb dX1_keep_173 rfl (lv_at hl 1 rfl) ?_
              refine va_get (D := (dC, dI)) (ci := 1) (v := .ref w7) (C := RX1) (T := TX1) (N := 20) hx hb hts in_X1 hown hK hP 0 rfl rfl 12 (Nat.le_of_ble_eq_true rfl) (hts (.fieldLink RX1 39 "TextMender$Choices" "lengthOf" "[I") (List.mem_of_getElem? (i := 9) rfl)) (fun _ h9 => h9) rfl dX1_keep_174 ?_
              refine lv_iload hx hb dX1_keep_177 (lv_at hl 0 rfl) ?_
              refine lv_iload hx hb dX1_keep_179 (lv_at hl 5 rfl) ?_
              obtain ⟨f_29, ef_29⟩ : ∃ g : Nat → Int32, g = upd fg_ (pl : Int32).toNatClampNeg ls_ := ⟨_, rfl⟩
              refine va_iast hx hb hK hP hD hS 4 0 rfl rfl (v_inR g_pl (by decide) (by decide)) dX1_keep_181 (kWf (g := f_29) (F := fun f_29 => [(oW, .inr (1, [.ref oC, .ref oK, .ref nw, .ref w1, .ref w2, .ref w3, .ref o7, .ref o8, .ref o9, .ref w4, .ref w5, .ref w6, .ref w7, .int x_3, .int tl, .int fsh, .int wi, .int ri, .int fm, .int lm])), (w4, .inl (cI, 200, .inl f_25)), (w5, .inl (cI, 200, .inl f_27)), (w6, .inl (cI, 200, .inl f_28)), (w7, .inl (cI, 200, .inl f_29))]) ef_29 rfl (fun H locs hPn hDn hSn => ?_))
              clear hP hD hS
              have hP := hPn
              have hD := hDn
              have hS := hSn
              clear hPn hDn hSn
              exact kl_v hQQ hx hb hr hlocks hS dX1_keep_182 (fun PZ9 kZ9 => kZ9 x_3 f_25 f_27 f_28 f_29 (⟨hP, hD⟩) (by omega) (by show (ke.toInt < 200 ∧ x_3.toInt = ke.toInt + 1) ∨ (ke.toInt = 200 ∧ x_3.toInt = 200); omega) (kp_end hkp hsr (by omega) (by omega) (by have c8 := v_clamp (x := x_3) (by omega); omega) ef_25 ef_27 ef_28 ef_29 (by show _ = (if a.toInt = -1 then b.toInt else a.toInt); rw [if_pos (by omega)]) (by show _ = (if a.toInt = -1 then -1 else b.toInt); rw [if_pos (by omega)]; rfl) rfl rfl hbg (Or.inr ⟨x_16, x_17, by omega, ex_17, by show _ ≤ sm.toInt; omega⟩)))
          · have tc_18 : sm.toInt < x_17.toInt := v_nle c_18
            have rw18_0 := v_rng x_17
            have rw18_1 := v_rng sm
            refine lv_aload_n hx hb dX1_keep_61 rfl (lv_at hl 1 rfl) ?_
            refine va_get (D := (dC, dI)) (ci := 1) (v := .ref w4) (C := RX1) (T := TX1) (N := 20) hx hb hts in_X1 hown hK hP 0 rfl rfl 9 (Nat.le_of_ble_eq_true rfl) (hts (.fieldLink RX1 30 "TextMender$Choices" "firstByte" "[I") (List.mem_of_getElem? (i := 7) rfl)) (fun _ h9 => h9) rfl dX1_keep_62 ?_
            refine lv_iload hx hb dX1_keep_65 (lv_at hl 0 rfl) ?_
            refine lv_aload_n hx hb dX1_keep_67 rfl (lv_at hl 1 rfl) ?_
            refine va_get (D := (dC, dI)) (ci := 1) (v := .ref w4) (C := RX1) (T := TX1) (N := 20) hx hb hts in_X1 hown hK hP 0 rfl rfl 9 (Nat.le_of_ble_eq_true rfl) (hts (.fieldLink RX1 30 "TextMender$Choices" "firstByte" "[I") (List.mem_of_getElem? (i := 7) rfl)) (fun _ h9 => h9) rfl dX1_keep_68 ?_
            refine lv_iload hx hb dX1_keep_71 (lv_at hl 0 rfl) ?_
            refine lv_iconst (v := 1) hx hb dX1_keep_73 (by decide) ?_
            refine lv_isub hx hb dX1_keep_74 ?_
            refine lv_topi (fun x_30 ex_30 => ?_)
            have tx_30 : x_30.toInt = pl.toInt - 1 := v_subR (l2 := 1) (h2 := 1) ex_30 g_pl (by decide) (by decide) (by decide)
            refine va_iald hx hb hK hP 1 0 rfl rfl (v_in (by omega)) dX1_keep_75 ?_
            refine lv_topi (fun x_31 ex_31 => ?_)
            obtain ⟨f_32, ef_32⟩ : ∃ g : Nat → Int32, g = upd fd_ (pl : Int32).toNatClampNeg x_31 := ⟨_, rfl⟩
            refine va_iast hx hb hK hP hD hS 1 0 rfl rfl (v_inR g_pl (by decide) (by decide)) dX1_keep_76 (kWf (g := f_32) (F := fun f_32 => [(oW, .inr (1, [.ref oC, .ref oK, .ref nw, .ref w1, .ref w2, .ref w3, .ref o7, .ref o8, .ref o9, .ref w4, .ref w5, .ref w6, .ref w7, .int x_3, .int tl, .int fsh, .int wi, .int ri, .int fm, .int lm])), (w4, .inl (cI, 200, .inl f_32)), (w5, .inl (cI, 200, .inl fe_)), (w6, .inl (cI, 200, .inl ff_)), (w7, .inl (cI, 200, .inl fg_))]) ef_32 rfl (fun H locs hPn hDn hSn => ?_))
            clear hP hD hS
            have hP := hPn
            have hD := hDn
            have hS := hSn
            clear hPn hDn hSn
            refine lv_aload_n hx hb dX1_keep_77 rfl (lv_at hl 1 rfl) ?_
            refine va_get (D := (dC, dI)) (ci := 1) (v := .ref w5) (C := RX1) (T := TX1) (N := 20) hx hb hts in_X1 hown hK hP 0 rfl rfl 10 (Nat.le_of_ble_eq_true rfl) (hts (.fieldLink RX1 33 "TextMender$Choices" "secondByte" "[I") (List.mem_of_getElem? (i := 8) rfl)) (fun _ h9 => h9) rfl dX1_keep_78 ?_
            refine lv_iload hx hb dX1_keep_81 (lv_at hl 0 rfl) ?_
            refine lv_aload_n hx hb dX1_keep_83 rfl (lv_at hl 1 rfl) ?_
            refine va_get (D := (dC, dI)) (ci := 1) (v := .ref w5) (C := RX1) (T := TX1) (N := 20) hx hb hts in_X1 hown hK hP 0 rfl rfl 10 (Nat.le_of_ble_eq_true rfl) (hts (.fieldLink RX1 33 "TextMender$Choices" "secondByte" "[I") (List.mem_of_getElem? (i := 8) rfl)) (fun _ h9 => h9) rfl dX1_keep_84 ?_
            refine lv_iload hx hb dX1_keep_87 (lv_at hl 0 rfl) ?_
            refine lv_iconst (v := 1) hx hb dX1_keep_89 (by decide) ?_
            refine lv_isub hx hb dX1_keep_90 ?_
            refine lv_topi (fun x_33 ex_33 => ?_)
            have tx_33 : x_33.toInt = pl.toInt - 1 := v_subR (l2 := 1) (h2 := 1) ex_33 g_pl (by decide) (by decide) (by decide)
            refine va_iald hx hb hK hP 2 0 rfl rfl (v_in (by omega)) dX1_keep_91 ?_
            refine lv_topi (fun x_34 ex_34 => ?_)
            obtain ⟨f_35, ef_35⟩ : ∃ g : Nat → Int32, g = upd fe_ (pl : Int32).toNatClampNeg x_34 := ⟨_, rfl⟩
            refine va_iast hx hb hK hP hD hS 2 0 rfl rfl (v_inR g_pl (by decide) (by decide)) dX1_keep_92 (kWf (g := f_35) (F := fun f_35 => [(oW, .inr (1, [.ref oC, .ref oK, .ref nw, .ref w1, .ref w2, .ref w3, .ref o7, .ref o8, .ref o9, .ref w4, .ref w5, .ref w6, .ref w7, .int x_3, .int tl, .int fsh, .int wi, .int ri, .int fm, .int lm])), (w4, .inl (cI, 200, .inl f_32)), (w5, .inl (cI, 200, .inl f_35)), (w6, .inl (cI, 200, .inl ff_)), (w7, .inl (cI, 200, .inl fg_))]) ef_35 rfl (fun H locs hPn hDn hSn => ?_))
            clear hP hD hS
            have hP := hPn
            have hD := hDn
            have hS := hSn
            clear hPn hDn hSn
            refine lv_aload_n hx hb dX1_keep_93 rfl (lv_at hl 1 rfl) ?_
            refine va_get (D := (dC, dI)) (ci := 1) (v := .ref w6) (C := RX1) (T := TX1) (N := 20) hx hb hts in_X1 hown hK hP 0 rfl rfl 11 (Nat.le_of_ble_eq_true rfl) (hts (.fieldLink RX1 36 "TextMender$Choices" "costOf" "[I") (List.mem_of_getElem? (i := 2) rfl)) (fun _ h9 => h9) rfl dX1_keep_94 ?_
            refine lv_iload hx hb dX1_keep_97 (lv_at hl 0 rfl) ?_
            refine lv_aload_n hx hb dX1_keep_99 rfl (lv_at hl 1 rfl) ?_
            refine va_get (D := (dC, dI)) (ci := 1) (v := .ref w6) (C := RX1) (T := TX1) (N := 20) hx hb hts in_X1 hown hK hP 0 rfl rfl 11 (Nat.le_of_ble_eq_true rfl) (hts (.fieldLink RX1 36 "TextMender$Choices" "costOf" "[I") (List.mem_of_getElem? (i := 2) rfl)) (fun _ h9 => h9) rfl dX1_keep_100 ?_
            refine lv_iload hx hb dX1_keep_103 (lv_at hl 0 rfl) ?_
            refine lv_iconst (v := 1) hx hb dX1_keep_105 (by decide) ?_
            refine lv_isub hx hb dX1_keep_106 ?_
            refine lv_topi (fun x_36 ex_36 => ?_)
            have tx_36 : x_36.toInt = pl.toInt - 1 := v_subR (l2 := 1) (h2 := 1) ex_36 g_pl (by decide) (by decide) (by decide)
            refine va_iald hx hb hK hP 3 0 rfl rfl (v_in (by omega)) dX1_keep_107 ?_
            refine lv_topi (fun x_37 ex_37 => ?_)
            obtain ⟨f_38, ef_38⟩ : ∃ g : Nat → Int32, g = upd ff_ (pl : Int32).toNatClampNeg x_37 := ⟨_, rfl⟩
            refine va_iast hx hb hK hP hD hS 3 0 rfl rfl (v_inR g_pl (by decide) (by decide)) dX1_keep_108 (kWf (g := f_38) (F := fun f_38 => [(oW, .inr (1, [.ref oC, .ref oK, .ref nw, .ref w1, .ref w2, .ref w3, .ref o7, .ref o8, .ref o9, .ref w4, .ref w5, .ref w6, .ref w7, .int x_3, .int tl, .int fsh, .int wi, .int ri, .int fm, .int lm])), (w4, .inl (cI, 200, .inl f_32)), (w5, .inl (cI, 200, .inl f_35)), (w6, .inl (cI, 200, .inl f_38)), (w7, .inl (cI, 200, .inl fg_))]) ef_38 rfl (fun H locs hPn hDn hSn => ?_))
            clear hP hD hS
            have hP := hPn
            have hD := hDn
            have hS := hSn
            clear hPn hDn hSn
            refine lv_aload_n hx hb dX1_keep_109 rfl (lv_at hl 1 rfl) ?_
            refine va_get (D := (dC, dI)) (ci := 1) (v := .ref w7) (C := RX1) (T := TX1) (N := 20) hx hb hts in_X1 hown hK hP 0 rfl rfl 12 (Nat.le_of_ble_eq_true rfl) (hts (.fieldLink RX1 39 "TextMender$Choices" "lengthOf" "[I") (List.mem_of_getElem? (i := 9) rfl)) (fun _ h9 => h9) rfl dX1_keep_110 ?_
            refine lv_iload hx hb dX1_keep_113 (lv_at hl 0 rfl) ?_
            refine lv_aload_n hx hb dX1_keep_115 rfl (lv_at hl 1 rfl) ?_
            refine va_get (D := (dC, dI)) (ci := 1) (v := .ref w7) (C := RX1) (T := TX1) (N := 20) hx hb hts in_X1 hown hK hP 0 rfl rfl 12 (Nat.le_of_ble_eq_true rfl) (hts (.fieldLink RX1 39 "TextMender$Choices" "lengthOf" "[I") (List.mem_of_getElem? (i := 9) rfl)) (fun _ h9 => h9) rfl dX1_keep_116 ?_
            refine lv_iload hx hb dX1_keep_119 (lv_at hl 0 rfl) ?_
            refine lv_iconst (v := 1) hx hb dX1_keep_121 (by decide) ?_
            refine lv_isub hx hb dX1_keep_122 ?_
            refine lv_topi (fun x_39 ex_39 => ?_)
            have tx_39 : x_39.toInt = pl.toInt - 1 := v_subR (l2 := 1) (h2 := 1) ex_39 g_pl (by decide) (by decide) (by decide)
            refine va_iald hx hb hK hP 4 0 rfl rfl (v_in (by omega)) dX1_keep_123 ?_
            refine lv_topi (fun x_40 ex_40 => ?_)
            obtain ⟨f_41, ef_41⟩ : ∃ g : Nat → Int32, g = upd fg_ (pl : Int32).toNatClampNeg x_40 := ⟨_, rfl⟩
            refine va_iast hx hb hK hP hD hS 4 0 rfl rfl (v_inR g_pl (by decide) (by decide)) dX1_keep_124 (kWf (g := f_41) (F := fun f_41 => [(oW, .inr (1, [.ref oC, .ref oK, .ref nw, .ref w1, .ref w2, .ref w3, .ref o7, .ref o8, .ref o9, .ref w4, .ref w5, .ref w6, .ref w7, .int x_3, .int tl, .int fsh, .int wi, .int ri, .int fm, .int lm])), (w4, .inl (cI, 200, .inl f_32)), (w5, .inl (cI, 200, .inl f_35)), (w6, .inl (cI, 200, .inl f_38)), (w7, .inl (cI, 200, .inl f_41))]) ef_41 rfl (fun H locs hPn hDn hSn => ?_))
            clear hP hD hS
            have hP := hPn
            have hD := hDn
            have hS := hSn
            clear hPn hDn hSn
            obtain ⟨x_42, ex_42⟩ : ∃ y : Int32, y = pl + (-1) := ⟨_, rfl⟩
            have tx_42 : x_42.toInt = pl.toInt + (-1) := v_addR (l2 := (-1)) (h2 := (-1)) ex_42 g_pl (by decide) (by decide) (by decide)
            refine lv_iinc (v := x_42) (lv' := [(5, .int x_42), (0, .ref oW), (1, .int a), (2, .int b), (3, .int sm), (4, .int ls_)]) hx hb dX1_keep_125 hl (k := 0) rfl (by rw [ex_42]; rfl) (by decide) rfl (fun ls hl => ?_)
            refine lv_goto (tgt := 43) hx hb dX1_keep_128 (by decide) ?_
            exact ih_43 x_42 f_32 f_35 f_38 f_41 _ _ _ (ms_lt hm_43 (by show ((x_42.toInt : Int)) < pl.toInt; omega) (by show (0 : Int) < pl.toInt; omega)) (by show 0 ≤ x_42.toInt ∧ x_42.toInt ≤ 199; omega) (by show x_42.toInt ≤ ke.toInt; omega) (KPL_s4 hkp (by omega) (a0 := x_30) (by omega) (a1 := x_33) (by omega) (a2 := x_36) (by omega) (a3 := x_39) (by omega) ex_31 ex_34 ex_37 ex_40 ef_32 ef_35 ef_38 ef_41 (by omega)) (kp_big hkp hbg (by omega) (by omega) ex_17 (by omega) (by omega)) hP hD hS (lv_sub hl [0, 1, 2, 3, 4, 5] rfl)
    exact LOOP_43 _ x_2 fW4 fW5 fW6 fW7 _ _ _ (ms_s _) (by show 0 ≤ x_2.toInt ∧ x_2.toInt ≤ 199; omega) (by show x_2.toInt ≤ ke.toInt; omega) (KPL_0 rfl) (kp_b0 (j := 0) (q := fW6 0) (by omega) rfl (by omega)) hP hD hS (lv_sub hl [0, 1, 2, 3, 4, 5] rfl)
  · have tc_1 : ke.toInt = 200 := v_eq c_1
    refine lv_iload_n hx hb dX1_keep_10 rfl (lv_at hl 3 rfl) ?_
    refine lv_aload_n hx hb dX1_keep_11 rfl (lv_at hl 0 rfl) ?_
    refine va_get (D := (dC, dI)) (ci := 1) (v := .ref w6) (C := RX1) (T := TX1) (N := 20) hx hb hts in_X1 hown hK hP 0 rfl rfl 11 (Nat.le_of_ble_eq_true rfl) (hts (.fieldLink RX1 36 "TextMender$Choices" "costOf" "[I") (List.mem_of_getElem? (i := 2) rfl)) (fun _ h9 => h9) rfl dX1_keep_12 ?_
    refine lv_sipush (v := 199) hx hb dX1_keep_15 (by decide) ?_
    refine va_iald hx hb hK hP 3 0 rfl rfl (by unfold vp_in; decide) dX1_keep_18 ?_
    refine lv_topi (fun x_43 ex_43 => ?_)
    refine lv_icmp_lt (tgt := 23) hx hb dX1_keep_19 (by decide) (fun c_44 => ?_) (fun c_44 => ?_)
    · have tc_44 : sm.toInt < x_43.toInt := v_lt c_44
      have rw44_0 := v_rng sm
      have rw44_1 := v_rng x_43
      refine lv_aload_n hx hb dX1_keep_23 rfl (lv_at hl 0 rfl) ?_
      refine va_get (D := (dC, dI)) (ci := 1) (v := .int ke) (C := RX1) (T := TX1) (N := 20) hx hb hts in_X1 hown hK hP 0 rfl rfl 13 (Nat.le_of_ble_eq_true rfl) (hts (.fieldLink RX1 65 "TextMender$Choices" "kept" "I") (List.mem_of_getElem? (i := 1) rfl)) (fun _ h9 => h9) rfl dX1_keep_24 ?_
      refine lv_sipush (v := 199) hx hb dX1_keep_27 (by decide) ?_
      refine va_mmin hx hb (by rw [hml]; exact hl.1.symm) hown (hts (.methodLink RX1 135 Lib.Math.min.name) (List.mem_of_getElem? (i := 3) rfl)) (hts (.static Lib.Math.min.name) (List.mem_of_getElem? (i := 4) rfl)) (hts (.initialized "java/lang/Math") (List.mem_of_getElem? (i := 5) rfl)) (hts (.code Lib.Math.min.name Lib.Math.min.code 2 (some .int)) (List.mem_of_getElem? (i := 6) rfl)) (Nat.le_of_ble_eq_true rfl) (Nat.le_of_ble_eq_true rfl) (Nat.zero_le _) (Nat.zero_le _) dX1_keep_30 ?_
      refine lv_topi (fun x_45 ex_45 => ?_)
      have tx_45 : x_45.toInt ≤ ke.toInt ∧ x_45.toInt ≤ 199 ∧ (x_45.toInt = ke.toInt ∨ x_45.toInt = 199) := v_min ex_45
      refine lv_istore (lv' := [(5, .int x_45), (0, .ref oW), (1, .int a), (2, .int b), (3, .int sm), (4, .int ls_)]) hx hb dX1_keep_33 hl (by decide) rfl (fun ls hl => ?_)
      refine lv_aload_n hx hb dX1_keep_35 rfl (lv_at hl 1 rfl) ?_
      refine lv_iload hx hb dX1_keep_36 (lv_at hl 0 rfl) ?_
      refine lv_iconst (v := 1) hx hb dX1_keep_38 (by decide) ?_
      refine lv_iadd hx hb dX1_keep_39 ?_
      refine lv_topi (fun x_46 ex_46 => ?_)
      have tx_46 : x_46.toInt = x_45.toInt + 1 := v_add ex_46 (by show -2147483648 ≤ x_45.toInt + 1; omega) (by show x_45.toInt + 1 < 2147483648; omega)
      refine va_put (D := (dC, dI)) (ci := 1) (v := .int x_46) (ty := .int) (C := RX1) (T := TX1) (N := 20) hx hb hts in_X1 tyX1 tyX1_ok nmX1 hown hK hP hD hS 0 rfl rfl 13 (Nat.le_of_ble_eq_true rfl) (hts (.fieldLink RX1 65 "TextMender$Choices" "kept" "I") (List.mem_of_getElem? (i := 1) rfl)) (fun _ h9 => h9) rfl (tyX1_ok 13 (Nat.le_of_ble_eq_true rfl)) rfl rfl (Nat.le_of_ble_eq_true rfl) dX1_keep_40 (kW (wn := [(oW, .inr (1, [.ref oC, .ref oK, .ref nw, .ref w1, .ref w2, .ref w3, .ref o7, .ref o8, .ref o9, .ref w4, .ref w5, .ref w6, .ref w7, .int x_46, .int tl, .int fsh, .int wi, .int ri, .int fm, .int lm])), (w4, .inl (cI, 200, .inl fW4)), (w5, .inl (cI, 200, .inl fW5)), (w6, .inl (cI, 200, .inl fW6)), (w7, .inl (cI, 200, .inl fW7))]) rfl (fun H locs hPn hDn hSn => ?_))
      clear hP hD hS
      have hP := hPn
      have hD := hDn
      have hS := hSn
      clear hPn hDn hSn
      have LOOP_43 : ∀ (k_43 : Nat) (pl : Int32) (fd_ : Nat → Int32) (fe_ : Nat → Int32) (ff_ : Nat → Int32) (fg_ : Nat → Int32) (H : Heap) (locs : List Loc) (ls : Array Slot), MSd (pl.toInt : Int) k_43 → (0 ≤ pl.toInt ∧ pl.toInt ≤ 199) → (pl.toInt ≤ ke.toInt) → (KPL fW4 fW5 fW6 fW7 fd_ fe_ ff_ fg_ pl.toInt (x_45.toInt)) → (∀ i : Nat, pl.toInt ≤ i → i < ke.toNatClampNeg → sm.toInt < CA fW4 fW5 fW6 fW7 i 2) → va_P (dC, dI) vwCl [(oW, .inr (1, [.ref oC, .ref oK, .ref nw, .ref w1, .ref w2, .ref w3, .ref o7, .ref o8, .ref o9, .ref w4, .ref w5, .ref w6, .ref w7, .int x_46, .int tl, .int fsh, .int wi, .int ri, .int fm, .int lm])), (w4, .inl (cI, 200, .inl fd_)), (w5, .inl (cI, 200, .inl fe_)), (w6, .inl (cI, 200, .inl ff_)), (w7, .inl (cI, 200, .inl fg_))] H → va_D A [(oW, .inr (1, [.ref oC, .ref oK, .ref nw, .ref w1, .ref w2, .ref w3, .ref o7, .ref o8, .ref o9, .ref w4, .ref w5, .ref w6, .ref w7, .int x_46, .int tl, .int fsh, .int wi, .int ri, .int fm, .int lm])), (w4, .inl (cI, 200, .inl fd_)), (w5, .inl (cI, 200, .inl fe_)), (w6, .inl (cI, 200, .inl ff_)), (w7, .inl (cI, 200, .inl fg_))] → va_S A s.heap H locs → lv_has ls 6 [(5, .int pl), (0, .ref oW), (1, .int a), (2, .int b), (3, .int sm), (4, .int ls_)] → W p l e (headSpec wsX1_keep ({ frames := 1, cells := 0, slots := 0, locals := 21 } : Room)).room s m ([.ref oW, .int a, .int b, .int sm, .int ls_] : List Value).toArray below meth c H locs 0 0 (MQ below QQ ([.ref oW, .int a, .int b, .int sm, .int ls_] : List Value).toArray s 0 0 A) (F0 m 43 ls []) := by
        clear hP hD hS hl
        intro k_43
        induction k_43 with
        | zero =>
          intro pl fd_ fe_ ff_ fg_ H locs ls hm_43 g_pl hpk hkp hbg hP hD hS hl
          exact ms_0 hm_43
        | succ k_43 ih_43 =>
          intro pl fd_ fe_ ff_ fg_ H locs ls hm_43 g_pl hpk hkp hbg hP hD hS hl
          refine lv_iload hx hb dX1_keep_43 (lv_at hl 0 rfl) ?_
          refine lv_if_le (tgt := 131) hx hb dX1_keep_45 (by decide) (fun c_47 => ?_) (fun c_47 => ?_)
          · have tc_47 : pl.toInt ≤ 0 := v_le c_47
            refine lv_aload_n hx hb dX1_keep_131 rfl (lv_at hl 1 rfl) ?_
            refine va_get (D := (dC, dI)) (ci := 1) (v := .ref w4) (C := RX1) (T := TX1) (N := 20) hx hb hts in_X1 hown hK hP 0 rfl rfl 9 (Nat.le_of_ble_eq_true rfl) (hts (.fieldLink RX1 30 "TextMender$Choices" "firstByte" "[I") (List.mem_of_getElem? (i := 7) rfl)) (fun _ h9 => h9) rfl dX1_keep_132 ?_
            refine lv_iload hx hb dX1_keep_135 (lv_at hl 0 rfl) ?_
            refine lv_iload_n hx hb dX1_keep_137 rfl (lv_at hl 2 rfl) ?_
            refine lv_iconst (v := (-1)) hx hb dX1_keep_138 (by decide) ?_
            refine lv_icmp_ne (tgt := 146) hx hb dX1_keep_139 (by decide) (fun c_48 => ?_) (fun c_48 => ?_)
            · have tc_48 : ¬ a.toInt = (-1) := v_ne c_48
              refine lv_iload_n hx hb dX1_keep_146 rfl (lv_at hl 2 rfl) ?_
              obtain ⟨f_49, ef_49⟩ : ∃ g : Nat → Int32, g = upd fd_ (pl : Int32).toNatClampNeg a := ⟨_, rfl⟩
              refine va_iast hx hb hK hP hD hS 1 0 rfl rfl (v_inR g_pl (by decide) (by decide)) dX1_keep_147 (kWf (g := f_49) (F := fun f_49 => [(oW, .inr (1, [.ref oC, .ref oK, .ref nw, .ref w1, .ref w2, .ref w3, .ref o7, .ref o8, .ref o9, .ref w4, .ref w5, .ref w6, .ref w7, .int x_46, .int tl, .int fsh, .int wi, .int ri, .int fm, .int lm])), (w4, .inl (cI, 200, .inl f_49)), (w5, .inl (cI, 200, .inl fe_)), (w6, .inl (cI, 200, .inl ff_)), (w7, .inl (cI, 200, .inl fg_))]) ef_49 rfl (fun H locs hPn hDn hSn => ?_))
              clear hP hD hS
              have hP := hPn
              have hD := hDn
              have hS := hSn
              clear hPn hDn hSn
              refine lv_aload_n hx hb dX1_keep_148 rfl (lv_at hl 1 rfl) ?_
              refine va_get (D := (dC, dI)) (ci := 1) (v := .ref w5) (C := RX1) (T := TX1) (N := 20) hx hb hts in_X1 hown hK hP 0 rfl rfl 10 (Nat.le_of_ble_eq_true rfl) (hts (.fieldLink RX1 33 "TextMender$Choices" "secondByte" "[I") (List.mem_of_getElem? (i := 8) rfl)) (fun _ h9 => h9) rfl dX1_keep_149 ?_
              refine lv_iload hx hb dX1_keep_152 (lv_at hl 0 rfl) ?_
              refine lv_iload_n hx hb dX1_keep_154 rfl (lv_at hl 2 rfl) ?_
              refine lv_iconst (v := (-1)) hx hb dX1_keep_155 (by decide) ?_
              refine lv_icmp_ne (tgt := 163) hx hb dX1_keep_156 (by decide) (fun c_50 => ?_) (fun c_50 => by exfalso; have tc_50 : a.toInt = (-1) := v_eq c_50; omega)
              have tc_50 : ¬ a.toInt = (-1) := v_ne c_50
              refine lv_iload_n hx hb dX1_keep_163 rfl (lv_at hl 3 rfl) ?_
              obtain ⟨f_51, ef_51⟩ : ∃ g : Nat → Int32, g = upd fe_ (pl : Int32).toNatClampNeg b := ⟨_, rfl⟩
              refine va_iast hx hb hK hP hD hS 2 0 rfl rfl (v_inR g_pl (by decide) (by decide)) dX1_keep_164 (kWf (g := f_51) (F := fun f_51 => [(oW, .inr (1, [.ref oC, .ref oK, .ref nw, .ref w1, .ref w2, .ref w3, .ref o7, .ref o8, .ref o9, .ref w4, .ref w5, .ref w6, .ref w7, .int x_46, .int tl, .int fsh, .int wi, .int ri, .int fm, .int lm])), (w4, .inl (cI, 200, .inl f_49)), (w5, .inl (cI, 200, .inl f_51)), (w6, .inl (cI, 200, .inl ff_)), (w7, .inl (cI, 200, .inl fg_))]) ef_51 rfl (fun H locs hPn hDn hSn => ?_))
              clear hP hD hS
              have hP := hPn
              have hD := hDn
              have hS := hSn
              clear hPn hDn hSn
              refine lv_aload_n hx hb dX1_keep_165 rfl (lv_at hl 1 rfl) ?_
              refine va_get (D := (dC, dI)) (ci := 1) (v := .ref w6) (C := RX1) (T := TX1) (N := 20) hx hb hts in_X1 hown hK hP 0 rfl rfl 11 (Nat.le_of_ble_eq_true rfl) (hts (.fieldLink RX1 36 "TextMender$Choices" "costOf" "[I") (List.mem_of_getElem? (i := 2) rfl)) (fun _ h9 => h9) rfl dX1_keep_166 ?_
              refine lv_iload hx hb dX1_keep_169 (lv_at hl 0 rfl) ?_
              refine lv_iload_n hx hb dX1_keep_171 rfl (lv_at hl 4 rfl) ?_
              obtain ⟨f_52, ef_52⟩ : ∃ g : Nat → Int32, g = upd ff_ (pl : Int32).toNatClampNeg sm := ⟨_, rfl⟩
              refine va_iast hx hb hK hP hD hS 3 0 rfl rfl (v_inR g_pl (by decide) (by decide)) dX1_keep_172 (kWf (g := f_52) (F := fun f_52 => [(oW, .inr (1, [.ref oC, .ref oK, .ref nw, .ref w1, .ref w2, .ref w3, .ref o7, .ref o8, .ref o9, .ref w4, .ref w5, .ref w6, .ref w7, .int x_46, .int tl, .int fsh, .int wi, .int ri, .int fm, .int lm])), (w4, .inl (cI, 200, .inl f_49)), (w5, .inl (cI, 200, .inl f_51)), (w6, .inl (cI, 200, .inl f_52)), (w7, .inl (cI, 200, .inl fg_))]) ef_52 rfl (fun H locs hPn hDn hSn => ?_))
              clear hP hD hS
              have hP := hPn
              have hD := hDn
              have hS := hSn
              clear hPn hDn hSn
              refine lv_aload_n hx hb dX1_keep_173 rfl (lv_at hl 1 rfl) ?_
              refine va_get (D := (dC, dI)) (ci := 1) (v := .ref w7) (C := RX1) (T := TX1) (N := 20) hx hb hts in_X1 hown hK hP 0 rfl rfl 12 (Nat.le_of_ble_eq_true rfl) (hts (.fieldLink RX1 39 "TextMender$Choices" "lengthOf" "[I") (List.mem_of_getElem? (i := 9) rfl)) (fun _ h9 => h9) rfl dX1_keep_174 ?_
              refine lv_iload hx hb dX1_keep_177 (lv_at hl 0 rfl) ?_
              refine lv_iload hx hb dX1_keep_179 (lv_at hl 5 rfl) ?_
              obtain ⟨f_53, ef_53⟩ : ∃ g : Nat → Int32, g = upd fg_ (pl : Int32).toNatClampNeg ls_ := ⟨_, rfl⟩
              refine va_iast hx hb hK hP hD hS 4 0 rfl rfl (v_inR g_pl (by decide) (by decide)) dX1_keep_181 (kWf (g := f_53) (F := fun f_53 => [(oW, .inr (1, [.ref oC, .ref oK, .ref nw, .ref w1, .ref w2, .ref w3, .ref o7, .ref o8, .ref o9, .ref w4, .ref w5, .ref w6, .ref w7, .int x_46, .int tl, .int fsh, .int wi, .int ri, .int fm, .int lm])), (w4, .inl (cI, 200, .inl f_49)), (w5, .inl (cI, 200, .inl f_51)), (w6, .inl (cI, 200, .inl f_52)), (w7, .inl (cI, 200, .inl f_53))]) ef_53 rfl (fun H locs hPn hDn hSn => ?_))
              clear hP hD hS
              have hP := hPn
              have hD := hDn
              have hS := hSn
              clear hPn hDn hSn
              exact kl_v hQQ hx hb hr hlocks hS dX1_keep_182 (fun PZ9 kZ9 => kZ9 x_46 f_49 f_51 f_52 f_53 (⟨hP, hD⟩) (by omega) (by show (ke.toInt < 200 ∧ x_46.toInt = ke.toInt + 1) ∨ (ke.toInt = 200 ∧ x_46.toInt = 200); omega) (kp_end hkp hsr (by omega) (by omega) (by have c8 := v_clamp (x := x_46) (by omega); omega) ef_49 ef_51 ef_52 ef_53 (by show _ = (if a.toInt = -1 then b.toInt else a.toInt); rw [if_neg (by omega)]) (by show _ = (if a.toInt = -1 then -1 else b.toInt); rw [if_neg (by omega)]) rfl rfl hbg (Or.inl (by omega))))
            · have tc_48 : a.toInt = (-1) := v_eq c_48
              refine lv_iload_n hx hb dX1_keep_142 rfl (lv_at hl 3 rfl) ?_
              refine lv_goto (tgt := 147) hx hb dX1_keep_143 (by decide) ?_
              obtain ⟨f_54, ef_54⟩ : ∃ g : Nat → Int32, g = upd fd_ (pl : Int32).toNatClampNeg b := ⟨_, rfl⟩
              refine va_iast hx hb hK hP hD hS 1 0 rfl rfl (v_inR g_pl (by decide) (by decide)) dX1_keep_147 (kWf (g := f_54) (F := fun f_54 => [(oW, .inr (1, [.ref oC, .ref oK, .ref nw, .ref w1, .ref w2, .ref w3, .ref o7, .ref o8, .ref o9, .ref w4, .ref w5, .ref w6, .ref w7, .int x_46, .int tl, .int fsh, .int wi, .int ri, .int fm, .int lm])), (w4, .inl (cI, 200, .inl f_54)), (w5, .inl (cI, 200, .inl fe_)), (w6, .inl (cI, 200, .inl ff_)), (w7, .inl (cI, 200, .inl fg_))]) ef_54 rfl (fun H locs hPn hDn hSn => ?_))
              clear hP hD hS
              have hP := hPn
              have hD := hDn
              have hS := hSn
              clear hPn hDn hSn
              refine lv_aload_n hx hb dX1_keep_148 rfl (lv_at hl 1 rfl) ?_
              refine va_get (D := (dC, dI)) (ci := 1) (v := .ref w5) (C := RX1) (T := TX1) (N := 20) hx hb hts in_X1 hown hK hP 0 rfl rfl 10 (Nat.le_of_ble_eq_true rfl) (hts (.fieldLink RX1 33 "TextMender$Choices" "secondByte" "[I") (List.mem_of_getElem? (i := 8) rfl)) (fun _ h9 => h9) rfl dX1_keep_149 ?_
              refine lv_iload hx hb dX1_keep_152 (lv_at hl 0 rfl) ?_
              refine lv_iload_n hx hb dX1_keep_154 rfl (lv_at hl 2 rfl) ?_
              refine lv_iconst (v := (-1)) hx hb dX1_keep_155 (by decide) ?_
              refine lv_icmp_ne (tgt := 163) hx hb dX1_keep_156 (by decide) (fun c_55 => by exfalso; have tc_55 : ¬ a.toInt = (-1) := v_ne c_55; omega) (fun c_55 => ?_)
              have tc_55 : a.toInt = (-1) := v_eq c_55
              refine lv_iconst (v := (-1)) hx hb dX1_keep_159 (by decide) ?_
              refine lv_goto (tgt := 164) hx hb dX1_keep_160 (by decide) ?_
              obtain ⟨f_56, ef_56⟩ : ∃ g : Nat → Int32, g = upd fe_ (pl : Int32).toNatClampNeg (-1) := ⟨_, rfl⟩
              refine va_iast hx hb hK hP hD hS 2 0 rfl rfl (v_inR g_pl (by decide) (by decide)) dX1_keep_164 (kWf (g := f_56) (F := fun f_56 => [(oW, .inr (1, [.ref oC, .ref oK, .ref nw, .ref w1, .ref w2, .ref w3, .ref o7, .ref o8, .ref o9, .ref w4, .ref w5, .ref w6, .ref w7, .int x_46, .int tl, .int fsh, .int wi, .int ri, .int fm, .int lm])), (w4, .inl (cI, 200, .inl f_54)), (w5, .inl (cI, 200, .inl f_56)), (w6, .inl (cI, 200, .inl ff_)), (w7, .inl (cI, 200, .inl fg_))]) ef_56 rfl (fun H locs hPn hDn hSn => ?_))
              clear hP hD hS
              have hP := hPn
              have hD := hDn
              have hS := hSn
              clear hPn hDn hSn
              refine lv_aload_n hx hb dX1_keep_165 rfl (lv_at hl 1 rfl) ?_
              refine va_get (D := (dC, dI)) (ci := 1) (v := .ref w6) (C := RX1) (T := TX1) (N := 20) hx hb hts in_X1 hown hK hP 0 rfl rfl 11 (Nat.le_of_ble_eq_true rfl) (hts (.fieldLink RX1 36 "TextMender$Choices" "costOf" "[I") (List.mem_of_getElem? (i := 2) rfl)) (fun _ h9 => h9) rfl dX1_keep_166 ?_
              refine lv_iload hx hb dX1_keep_169 (lv_at hl 0 rfl) ?_
              refine lv_iload_n hx hb dX1_keep_171 rfl (lv_at hl 4 rfl) ?_
              obtain ⟨f_57, ef_57⟩ : ∃ g : Nat → Int32, g = upd ff_ (pl : Int32).toNatClampNeg sm := ⟨_, rfl⟩
              refine va_iast hx hb hK hP hD hS 3 0 rfl rfl (v_inR g_pl (by decide) (by decide)) dX1_keep_172 (kWf (g := f_57) (F := fun f_57 => [(oW, .inr (1, [.ref oC, .ref oK, .ref nw, .ref w1, .ref w2, .ref w3, .ref o7, .ref o8, .ref o9, .ref w4, .ref w5, .ref w6, .ref w7, .int x_46, .int tl, .int fsh, .int wi, .int ri, .int fm, .int lm])), (w4, .inl (cI, 200, .inl f_54)), (w5, .inl (cI, 200, .inl f_56)), (w6, .inl (cI, 200, .inl f_57)), (w7, .inl (cI, 200, .inl fg_))]) ef_57 rfl (fun H locs hPn hDn hSn => ?_))
              clear hP hD hS
              have hP := hPn
              have hD := hDn
              have hS := hSn
              clear hPn hDn hSn
              refine lv_aload_n hx hb dX1_keep_173 rfl (lv_at hl 1 rfl) ?_
              refine va_get (D := (dC, dI)) (ci := 1) (v := .ref w7) (C := RX1) (T := TX1) (N := 20) hx hb hts in_X1 hown hK hP 0 rfl rfl 12 (Nat.le_of_ble_eq_true rfl) (hts (.fieldLink RX1 39 "TextMender$Choices" "lengthOf" "[I") (List.mem_of_getElem? (i := 9) rfl)) (fun _ h9 => h9) rfl dX1_keep_174 ?_
              refine lv_iload hx hb dX1_keep_177 (lv_at hl 0 rfl) ?_
              refine lv_iload hx hb dX1_keep_179 (lv_at hl 5 rfl) ?_
              obtain ⟨f_58, ef_58⟩ : ∃ g : Nat → Int32, g = upd fg_ (pl : Int32).toNatClampNeg ls_ := ⟨_, rfl⟩
              refine va_iast hx hb hK hP hD hS 4 0 rfl rfl (v_inR g_pl (by decide) (by decide)) dX1_keep_181 (kWf (g := f_58) (F := fun f_58 => [(oW, .inr (1, [.ref oC, .ref oK, .ref nw, .ref w1, .ref w2, .ref w3, .ref o7, .ref o8, .ref o9, .ref w4, .ref w5, .ref w6, .ref w7, .int x_46, .int tl, .int fsh, .int wi, .int ri, .int fm, .int lm])), (w4, .inl (cI, 200, .inl f_54)), (w5, .inl (cI, 200, .inl f_56)), (w6, .inl (cI, 200, .inl f_57)), (w7, .inl (cI, 200, .inl f_58))]) ef_58 rfl (fun H locs hPn hDn hSn => ?_))
              clear hP hD hS
              have hP := hPn
              have hD := hDn
              have hS := hSn
              clear hPn hDn hSn
              exact kl_v hQQ hx hb hr hlocks hS dX1_keep_182 (fun PZ9 kZ9 => kZ9 x_46 f_54 f_56 f_57 f_58 (⟨hP, hD⟩) (by omega) (by show (ke.toInt < 200 ∧ x_46.toInt = ke.toInt + 1) ∨ (ke.toInt = 200 ∧ x_46.toInt = 200); omega) (kp_end hkp hsr (by omega) (by omega) (by have c8 := v_clamp (x := x_46) (by omega); omega) ef_54 ef_56 ef_57 ef_58 (by show _ = (if a.toInt = -1 then b.toInt else a.toInt); rw [if_pos (by omega)]) (by show _ = (if a.toInt = -1 then -1 else b.toInt); rw [if_pos (by omega)]; rfl) rfl rfl hbg (Or.inl (by omega))))
          · have tc_47 : 0 < pl.toInt := v_nle c_47
            refine lv_aload_n hx hb dX1_keep_48 rfl (lv_at hl 1 rfl) ?_
            refine va_get (D := (dC, dI)) (ci := 1) (v := .ref w6) (C := RX1) (T := TX1) (N := 20) hx hb hts in_X1 hown hK hP 0 rfl rfl 11 (Nat.le_of_ble_eq_true rfl) (hts (.fieldLink RX1 36 "TextMender$Choices" "costOf" "[I") (List.mem_of_getElem? (i := 2) rfl)) (fun _ h9 => h9) rfl dX1_keep_49 ?_
            refine lv_iload hx hb dX1_keep_52 (lv_at hl 0 rfl) ?_
            refine lv_iconst (v := 1) hx hb dX1_keep_54 (by decide) ?_
            refine lv_isub hx hb dX1_keep_55 ?_
            refine lv_topi (fun x_59 ex_59 => ?_)
            have tx_59 : x_59.toInt = pl.toInt - 1 := v_subR (l2 := 1) (h2 := 1) ex_59 g_pl (by decide) (by decide) (by decide)
            refine va_iald hx hb hK hP 3 0 rfl rfl (v_in (by omega)) dX1_keep_56 ?_
            refine lv_topi (fun x_60 ex_60 => ?_)
            refine lv_iload_n hx hb dX1_keep_57 rfl (lv_at hl 4 rfl) ?_
            refine lv_icmp_le (tgt := 131) hx hb dX1_keep_58 (by decide) (fun c_61 => ?_) (fun c_61 => ?_)
            · have tc_61 : x_60.toInt ≤ sm.toInt := v_le c_61
              have rw61_0 := v_rng x_60
              refine lv_aload_n hx hb dX1_keep_131 rfl (lv_at hl 1 rfl) ?_
              refine va_get (D := (dC, dI)) (ci := 1) (v := .ref w4) (C := RX1) (T := TX1) (N := 20) hx hb hts in_X1 hown hK hP 0 rfl rfl 9 (Nat.le_of_ble_eq_true rfl) (hts (.fieldLink RX1 30 "TextMender$Choices" "firstByte" "[I") (List.mem_of_getElem? (i := 7) rfl)) (fun _ h9 => h9) rfl dX1_keep_132 ?_
              refine lv_iload hx hb dX1_keep_135 (lv_at hl 0 rfl) ?_
              refine lv_iload_n hx hb dX1_keep_137 rfl (lv_at hl 2 rfl) ?_
              refine lv_iconst (v := (-1)) hx hb dX1_keep_138 (by decide) ?_
              refine lv_icmp_ne (tgt := 146) hx hb dX1_keep_139 (by decide) (fun c_62 => ?_) (fun c_62 => ?_)
              · have tc_62 : ¬ a.toInt = (-1) := v_ne c_62
                refine lv_iload_n hx hb dX1_keep_146 rfl (lv_at hl 2 rfl) ?_
                obtain ⟨f_63, ef_63⟩ : ∃ g : Nat → Int32, g = upd fd_ (pl : Int32).toNatClampNeg a := ⟨_, rfl⟩
                refine va_iast hx hb hK hP hD hS 1 0 rfl rfl (v_inR g_pl (by decide) (by decide)) dX1_keep_147 (kWf (g := f_63) (F := fun f_63 => [(oW, .inr (1, [.ref oC, .ref oK, .ref nw, .ref w1, .ref w2, .ref w3, .ref o7, .ref o8, .ref o9, .ref w4, .ref w5, .ref w6, .ref w7, .int x_46, .int tl, .int fsh, .int wi, .int ri, .int fm, .int lm])), (w4, .inl (cI, 200, .inl f_63)), (w5, .inl (cI, 200, .inl fe_)), (w6, .inl (cI, 200, .inl ff_)), (w7, .inl (cI, 200, .inl fg_))]) ef_63 rfl (fun H locs hPn hDn hSn => ?_))
                clear hP hD hS
                have hP := hPn
                have hD := hDn
                have hS := hSn
                clear hPn hDn hSn
                refine lv_aload_n hx hb dX1_keep_148 rfl (lv_at hl 1 rfl) ?_
                refine va_get (D := (dC, dI)) (ci := 1) (v := .ref w5) (C := RX1) (T := TX1) (N := 20) hx hb hts in_X1 hown hK hP 0 rfl rfl 10 (Nat.le_of_ble_eq_true rfl) (hts (.fieldLink RX1 33 "TextMender$Choices" "secondByte" "[I") (List.mem_of_getElem? (i := 8) rfl)) (fun _ h9 => h9) rfl dX1_keep_149 ?_
                refine lv_iload hx hb dX1_keep_152 (lv_at hl 0 rfl) ?_
                refine lv_iload_n hx hb dX1_keep_154 rfl (lv_at hl 2 rfl) ?_
                refine lv_iconst (v := (-1)) hx hb dX1_keep_155 (by decide) ?_
                refine lv_icmp_ne (tgt := 163) hx hb dX1_keep_156 (by decide) (fun c_64 => ?_) (fun c_64 => by exfalso; have tc_64 : a.toInt = (-1) := v_eq c_64; omega)
                have tc_64 : ¬ a.toInt = (-1) := v_ne c_64
                refine lv_iload_n hx hb dX1_keep_163 rfl (lv_at hl 3 rfl) ?_
                obtain ⟨f_65, ef_65⟩ : ∃ g : Nat → Int32, g = upd fe_ (pl : Int32).toNatClampNeg b := ⟨_, rfl⟩
                refine va_iast hx hb hK hP hD hS 2 0 rfl rfl (v_inR g_pl (by decide) (by decide)) dX1_keep_164 (kWf (g := f_65) (F := fun f_65 => [(oW, .inr (1, [.ref oC, .ref oK, .ref nw, .ref w1, .ref w2, .ref w3, .ref o7, .ref o8, .ref o9, .ref w4, .ref w5, .ref w6, .ref w7, .int x_46, .int tl, .int fsh, .int wi, .int ri, .int fm, .int lm])), (w4, .inl (cI, 200, .inl f_63)), (w5, .inl (cI, 200, .inl f_65)), (w6, .inl (cI, 200, .inl ff_)), (w7, .inl (cI, 200, .inl fg_))]) ef_65 rfl (fun H locs hPn hDn hSn => ?_))
                clear hP hD hS
                have hP := hPn
                have hD := hDn
                have hS := hSn
                clear hPn hDn hSn
                refine lv_aload_n hx hb dX1_keep_165 rfl (lv_at hl 1 rfl) ?_
                refine va_get (D := (dC, dI)) (ci := 1) (v := .ref w6) (C := RX1) (T := TX1) (N := 20) hx hb hts in_X1 hown hK hP 0 rfl rfl 11 (Nat.le_of_ble_eq_true rfl) (hts (.fieldLink RX1 36 "TextMender$Choices" "costOf" "[I") (List.mem_of_getElem? (i := 2) rfl)) (fun _ h9 => h9) rfl dX1_keep_166 ?_
                refine lv_iload hx hb dX1_keep_169 (lv_at hl 0 rfl) ?_
                refine lv_iload_n hx hb dX1_keep_171 rfl (lv_at hl 4 rfl) ?_
                obtain ⟨f_66, ef_66⟩ : ∃ g : Nat → Int32, g = upd ff_ (pl : Int32).toNatClampNeg sm := ⟨_, rfl⟩
                refine va_iast hx hb hK hP hD hS 3 0 rfl rfl (v_inR g_pl (by decide) (by decide)) dX1_keep_172 (kWf (g := f_66) (F := fun f_66 => [(oW, .inr (1, [.ref oC, .ref oK, .ref nw, .ref w1, .ref w2, .ref w3, .ref o7, .ref o8, .ref o9, .ref w4, .ref w5, .ref w6, .ref w7, .int x_46, .int tl, .int fsh, .int wi, .int ri, .int fm, .int lm])), (w4, .inl (cI, 200, .inl f_63)), (w5, .inl (cI, 200, .inl f_65)), (w6, .inl (cI, 200, .inl f_66)), (w7, .inl (cI, 200, .inl fg_))]) ef_66 rfl (fun H locs hPn hDn hSn => ?_))
                clear hP hD hS
                have hP := hPn
                have hD := hDn
                have hS := hSn
                clear hPn hDn hSn
                refine lv_aload_n hx hb dX1_keep_173 rfl (lv_at hl 1 rfl) ?_
                refine va_get (D := (dC, dI)) (ci := 1) (v := .ref w7) (C := RX1) (T := TX1) (N := 20) hx hb hts in_X1 hown hK hP 0 rfl rfl 12 (Nat.le_of_ble_eq_true rfl) (hts (.fieldLink RX1 39 "TextMender$Choices" "lengthOf" "[I") (List.mem_of_getElem? (i := 9) rfl)) (fun _ h9 => h9) rfl dX1_keep_174 ?_
                refine lv_iload hx hb dX1_keep_177 (lv_at hl 0 rfl) ?_
                refine lv_iload hx hb dX1_keep_179 (lv_at hl 5 rfl) ?_
                obtain ⟨f_67, ef_67⟩ : ∃ g : Nat → Int32, g = upd fg_ (pl : Int32).toNatClampNeg ls_ := ⟨_, rfl⟩
                refine va_iast hx hb hK hP hD hS 4 0 rfl rfl (v_inR g_pl (by decide) (by decide)) dX1_keep_181 (kWf (g := f_67) (F := fun f_67 => [(oW, .inr (1, [.ref oC, .ref oK, .ref nw, .ref w1, .ref w2, .ref w3, .ref o7, .ref o8, .ref o9, .ref w4, .ref w5, .ref w6, .ref w7, .int x_46, .int tl, .int fsh, .int wi, .int ri, .int fm, .int lm])), (w4, .inl (cI, 200, .inl f_63)), (w5, .inl (cI, 200, .inl f_65)), (w6, .inl (cI, 200, .inl f_66)), (w7, .inl (cI, 200, .inl f_67))]) ef_67 rfl (fun H locs hPn hDn hSn => ?_))
                clear hP hD hS
                have hP := hPn
                have hD := hDn
                have hS := hSn
                clear hPn hDn hSn
                exact kl_v hQQ hx hb hr hlocks hS dX1_keep_182 (fun PZ9 kZ9 => kZ9 x_46 f_63 f_65 f_66 f_67 (⟨hP, hD⟩) (by omega) (by show (ke.toInt < 200 ∧ x_46.toInt = ke.toInt + 1) ∨ (ke.toInt = 200 ∧ x_46.toInt = 200); omega) (kp_end hkp hsr (by omega) (by omega) (by have c8 := v_clamp (x := x_46) (by omega); omega) ef_63 ef_65 ef_66 ef_67 (by show _ = (if a.toInt = -1 then b.toInt else a.toInt); rw [if_neg (by omega)]) (by show _ = (if a.toInt = -1 then -1 else b.toInt); rw [if_neg (by omega)]) rfl rfl hbg (Or.inr ⟨x_59, x_60, by omega, ex_60, by show _ ≤ sm.toInt; omega⟩)))
              · have tc_62 : a.toInt = (-1) := v_eq c_62
                refine lv_iload_n hx hb dX1_keep_142 rfl (lv_at hl 3 rfl) ?_
                refine lv_goto (tgt := 147) hx hb dX1_keep_143 (by decide) ?_
                obtain ⟨f_68, ef_68⟩ : ∃ g : Nat → Int32, g = upd fd_ (pl : Int32).toNatClampNeg b := ⟨_, rfl⟩
                refine va_iast hx hb hK hP hD hS 1 0 rfl rfl (v_inR g_pl (by decide) (by decide)) dX1_keep_147 (kWf (g := f_68) (F := fun f_68 => [(oW, .inr (1, [.ref oC, .ref oK, .ref nw, .ref w1, .ref w2, .ref w3, .ref o7, .ref o8, .ref o9, .ref w4, .ref w5, .ref w6, .ref w7, .int x_46, .int tl, .int fsh, .int wi, .int ri, .int fm, .int lm])), (w4, .inl (cI, 200, .inl f_68)), (w5, .inl (cI, 200, .inl fe_)), (w6, .inl (cI, 200, .inl ff_)), (w7, .inl (cI, 200, .inl fg_))]) ef_68 rfl (fun H locs hPn hDn hSn => ?_))
                clear hP hD hS
                have hP := hPn
                have hD := hDn
                have hS := hSn
                clear hPn hDn hSn
                refine lv_aload_n hx hb dX1_keep_148 rfl (lv_at hl 1 rfl) ?_
                refine va_get (D := (dC, dI)) (ci := 1) (v := .ref w5) (C := RX1) (T := TX1) (N := 20) hx hb hts in_X1 hown hK hP 0 rfl rfl 10 (Nat.le_of_ble_eq_true rfl) (hts (.fieldLink RX1 33 "TextMender$Choices" "secondByte" "[I") (List.mem_of_getElem? (i := 8) rfl)) (fun _ h9 => h9) rfl dX1_keep_149 ?_
                refine lv_iload hx hb dX1_keep_152 (lv_at hl 0 rfl) ?_
                refine lv_iload_n hx hb dX1_keep_154 rfl (lv_at hl 2 rfl) ?_
                refine lv_iconst (v := (-1)) hx hb dX1_keep_155 (by decide) ?_
                refine lv_icmp_ne (tgt := 163) hx hb dX1_keep_156 (by decide) (fun c_69 => by exfalso; have tc_69 : ¬ a.toInt = (-1) := v_ne c_69; omega) (fun c_69 => ?_)
                have tc_69 : a.toInt = (-1) := v_eq c_69
                refine lv_iconst (v := (-1)) hx hb dX1_keep_159 (by decide) ?_
                refine lv_goto (tgt := 164) hx hb dX1_keep_160 (by decide) ?_
                obtain ⟨f_70, ef_70⟩ : ∃ g : Nat → Int32, g = upd fe_ (pl : Int32).toNatClampNeg (-1) := ⟨_, rfl⟩
                refine va_iast hx hb hK hP hD hS 2 0 rfl rfl (v_inR g_pl (by decide) (by decide)) dX1_keep_164 (kWf (g := f_70) (F := fun f_70 => [(oW, .inr (1, [.ref oC, .ref oK, .ref nw, .ref w1, .ref w2, .ref w3, .ref o7, .ref o8, .ref o9, .ref w4, .ref w5, .ref w6, .ref w7, .int x_46, .int tl, .int fsh, .int wi, .int ri, .int fm, .int lm])), (w4, .inl (cI, 200, .inl f_68)), (w5, .inl (cI, 200, .inl f_70)), (w6, .inl (cI, 200, .inl ff_)), (w7, .inl (cI, 200, .inl fg_))]) ef_70 rfl (fun H locs hPn hDn hSn => ?_))
                clear hP hD hS
                have hP := hPn
                have hD := hDn
                have hS := hSn
                clear hPn hDn hSn
                refine lv_aload_n hx hb dX1_keep_165 rfl (lv_at hl 1 rfl) ?_
                refine va_get (D := (dC, dI)) (ci := 1) (v := .ref w6) (C := RX1) (T := TX1) (N := 20) hx hb hts in_X1 hown hK hP 0 rfl rfl 11 (Nat.le_of_ble_eq_true rfl) (hts (.fieldLink RX1 36 "TextMender$Choices" "costOf" "[I") (List.mem_of_getElem? (i := 2) rfl)) (fun _ h9 => h9) rfl dX1_keep_166 ?_
                refine lv_iload hx hb dX1_keep_169 (lv_at hl 0 rfl) ?_
                refine lv_iload_n hx hb dX1_keep_171 rfl (lv_at hl 4 rfl) ?_
                obtain ⟨f_71, ef_71⟩ : ∃ g : Nat → Int32, g = upd ff_ (pl : Int32).toNatClampNeg sm := ⟨_, rfl⟩
                refine va_iast hx hb hK hP hD hS 3 0 rfl rfl (v_inR g_pl (by decide) (by decide)) dX1_keep_172 (kWf (g := f_71) (F := fun f_71 => [(oW, .inr (1, [.ref oC, .ref oK, .ref nw, .ref w1, .ref w2, .ref w3, .ref o7, .ref o8, .ref o9, .ref w4, .ref w5, .ref w6, .ref w7, .int x_46, .int tl, .int fsh, .int wi, .int ri, .int fm, .int lm])), (w4, .inl (cI, 200, .inl f_68)), (w5, .inl (cI, 200, .inl f_70)), (w6, .inl (cI, 200, .inl f_71)), (w7, .inl (cI, 200, .inl fg_))]) ef_71 rfl (fun H locs hPn hDn hSn => ?_))
                clear hP hD hS
                have hP := hPn
                have hD := hDn
                have hS := hSn
                clear hPn hDn hSn
                refine lv_aload_n hx hb dX1_keep_173 rfl (lv_at hl 1 rfl) ?_
                refine va_get (D := (dC, dI)) (ci := 1) (v := .ref w7) (C := RX1) (T := TX1) (N := 20) hx hb hts in_X1 hown hK hP 0 rfl rfl 12 (Nat.le_of_ble_eq_true rfl) (hts (.fieldLink RX1 39 "TextMender$Choices" "lengthOf" "[I") (List.mem_of_getElem? (i := 9) rfl)) (fun _ h9 => h9) rfl dX1_keep_174 ?_
                refine lv_iload hx hb dX1_keep_177 (lv_at hl 0 rfl) ?_
                refine lv_iload hx hb dX1_keep_179 (lv_at hl 5 rfl) ?_
                obtain ⟨f_72, ef_72⟩ : ∃ g : Nat → Int32, g = upd fg_ (pl : Int32).toNatClampNeg ls_ := ⟨_, rfl⟩
                refine va_iast hx hb hK hP hD hS 4 0 rfl rfl (v_inR g_pl (by decide) (by decide)) dX1_keep_181 (kWf (g := f_72) (F := fun f_72 => [(oW, .inr (1, [.ref oC, .ref oK, .ref nw, .ref w1, .ref w2, .ref w3, .ref o7, .ref o8, .ref o9, .ref w4, .ref w5, .ref w6, .ref w7, .int x_46, .int tl, .int fsh, .int wi, .int ri, .int fm, .int lm])), (w4, .inl (cI, 200, .inl f_68)), (w5, .inl (cI, 200, .inl f_70)), (w6, .inl (cI, 200, .inl f_71)), (w7, .inl (cI, 200, .inl f_72))]) ef_72 rfl (fun H locs hPn hDn hSn => ?_))
                clear hP hD hS
                have hP := hPn
                have hD := hDn
                have hS := hSn
                clear hPn hDn hSn
                exact kl_v hQQ hx hb hr hlocks hS dX1_keep_182 (fun PZ9 kZ9 => kZ9 x_46 f_68 f_70 f_71 f_72 (⟨hP, hD⟩) (by omega) (by show (ke.toInt < 200 ∧ x_46.toInt = ke.toInt + 1) ∨ (ke.toInt = 200 ∧ x_46.toInt = 200); omega) (kp_end hkp hsr (by omega) (by omega) (by have c8 := v_clamp (x := x_46) (by omega); omega) ef_68 ef_70 ef_71 ef_72 (by show _ = (if a.toInt = -1 then b.toInt else a.toInt); rw [if_pos (by omega)]) (by show _ = (if a.toInt = -1 then -1 else b.toInt); rw [if_pos (by omega)]; rfl) rfl rfl hbg (Or.inr ⟨x_59, x_60, by omega, ex_60, by show _ ≤ sm.toInt; omega⟩)))
            · have tc_61 : sm.toInt < x_60.toInt := v_nle c_61
              have rw61_0 := v_rng x_60
              refine lv_aload_n hx hb dX1_keep_61 rfl (lv_at hl 1 rfl) ?_
              refine va_get (D := (dC, dI)) (ci := 1) (v := .ref w4) (C := RX1) (T := TX1) (N := 20) hx hb hts in_X1 hown hK hP 0 rfl rfl 9 (Nat.le_of_ble_eq_true rfl) (hts (.fieldLink RX1 30 "TextMender$Choices" "firstByte" "[I") (List.mem_of_getElem? (i := 7) rfl)) (fun _ h9 => h9) rfl dX1_keep_62 ?_
              refine lv_iload hx hb dX1_keep_65 (lv_at hl 0 rfl) ?_
              refine lv_aload_n hx hb dX1_keep_67 rfl (lv_at hl 1 rfl) ?_
              refine va_get (D := (dC, dI)) (ci := 1) (v := .ref w4) (C := RX1) (T := TX1) (N := 20) hx hb hts in_X1 hown hK hP 0 rfl rfl 9 (Nat.le_of_ble_eq_true rfl) (hts (.fieldLink RX1 30 "TextMender$Choices" "firstByte" "[I") (List.mem_of_getElem? (i := 7) rfl)) (fun _ h9 => h9) rfl dX1_keep_68 ?_
              refine lv_iload hx hb dX1_keep_71 (lv_at hl 0 rfl) ?_
              refine lv_iconst (v := 1) hx hb dX1_keep_73 (by decide) ?_
              refine lv_isub hx hb dX1_keep_74 ?_
              refine lv_topi (fun x_73 ex_73 => ?_)
              have tx_73 : x_73.toInt = pl.toInt - 1 := v_subR (l2 := 1) (h2 := 1) ex_73 g_pl (by decide) (by decide) (by decide)
              refine va_iald hx hb hK hP 1 0 rfl rfl (v_in (by omega)) dX1_keep_75 ?_
              refine lv_topi (fun x_74 ex_74 => ?_)
              obtain ⟨f_75, ef_75⟩ : ∃ g : Nat → Int32, g = upd fd_ (pl : Int32).toNatClampNeg x_74 := ⟨_, rfl⟩
              refine va_iast hx hb hK hP hD hS 1 0 rfl rfl (v_inR g_pl (by decide) (by decide)) dX1_keep_76 (kWf (g := f_75) (F := fun f_75 => [(oW, .inr (1, [.ref oC, .ref oK, .ref nw, .ref w1, .ref w2, .ref w3, .ref o7, .ref o8, .ref o9, .ref w4, .ref w5, .ref w6, .ref w7, .int x_46, .int tl, .int fsh, .int wi, .int ri, .int fm, .int lm])), (w4, .inl (cI, 200, .inl f_75)), (w5, .inl (cI, 200, .inl fe_)), (w6, .inl (cI, 200, .inl ff_)), (w7, .inl (cI, 200, .inl fg_))]) ef_75 rfl (fun H locs hPn hDn hSn => ?_))
              clear hP hD hS
              have hP := hPn
              have hD := hDn
              have hS := hSn
              clear hPn hDn hSn
              refine lv_aload_n hx hb dX1_keep_77 rfl (lv_at hl 1 rfl) ?_
              refine va_get (D := (dC, dI)) (ci := 1) (v := .ref w5) (C := RX1) (T := TX1) (N := 20) hx hb hts in_X1 hown hK hP 0 rfl rfl 10 (Nat.le_of_ble_eq_true rfl) (hts (.fieldLink RX1 33 "TextMender$Choices" "secondByte" "[I") (List.mem_of_getElem? (i := 8) rfl)) (fun _ h9 => h9) rfl dX1_keep_78 ?_
              refine lv_iload hx hb dX1_keep_81 (lv_at hl 0 rfl) ?_
              refine lv_aload_n hx hb dX1_keep_83 rfl (lv_at hl 1 rfl) ?_
              refine va_get (D := (dC, dI)) (ci := 1) (v := .ref w5) (C := RX1) (T := TX1) (N := 20) hx hb hts in_X1 hown hK hP 0 rfl rfl 10 (Nat.le_of_ble_eq_true rfl) (hts (.fieldLink RX1 33 "TextMender$Choices" "secondByte" "[I") (List.mem_of_getElem? (i := 8) rfl)) (fun _ h9 => h9) rfl dX1_keep_84 ?_
              refine lv_iload hx hb dX1_keep_87 (lv_at hl 0 rfl) ?_
              refine lv_iconst (v := 1) hx hb dX1_keep_89 (by decide) ?_
              refine lv_isub hx hb dX1_keep_90 ?_
              refine lv_topi (fun x_76 ex_76 => ?_)
              have tx_76 : x_76.toInt = pl.toInt - 1 := v_subR (l2 := 1) (h2 := 1) ex_76 g_pl (by decide) (by decide) (by decide)
              refine va_iald hx hb hK hP 2 0 rfl rfl (v_in (by omega)) dX1_keep_91 ?_
              refine lv_topi (fun x_77 ex_77 => ?_)
              obtain ⟨f_78, ef_78⟩ : ∃ g : Nat → Int32, g = upd fe_ (pl : Int32).toNatClampNeg x_77 := ⟨_, rfl⟩
              refine va_iast hx hb hK hP hD hS 2 0 rfl rfl (v_inR g_pl (by decide) (by decide)) dX1_keep_92 (kWf (g := f_78) (F := fun f_78 => [(oW, .inr (1, [.ref oC, .ref oK, .ref nw, .ref w1, .ref w2, .ref w3, .ref o7, .ref o8, .ref o9, .ref w4, .ref w5, .ref w6, .ref w7, .int x_46, .int tl, .int fsh, .int wi, .int ri, .int fm, .int lm])), (w4, .inl (cI, 200, .inl f_75)), (w5, .inl (cI, 200, .inl f_78)), (w6, .inl (cI, 200, .inl ff_)), (w7, .inl (cI, 200, .inl fg_))]) ef_78 rfl (fun H locs hPn hDn hSn => ?_))
              clear hP hD hS
              have hP := hPn
              have hD := hDn
              have hS := hSn
              clear hPn hDn hSn
              refine lv_aload_n hx hb dX1_keep_93 rfl (lv_at hl 1 rfl) ?_
              refine va_get (D := (dC, dI)) (ci := 1) (v := .ref w6) (C := RX1) (T := TX1) (N := 20) hx hb hts in_X1 hown hK hP 0 rfl rfl 11 (Nat.le_of_ble_eq_true rfl) (hts (.fieldLink RX1 36 "TextMender$Choices" "costOf" "[I") (List.mem_of_getElem? (i := 2) rfl)) (fun _ h9 => h9) rfl dX1_keep_94 ?_
              refine lv_iload hx hb dX1_keep_97 (lv_at hl 0 rfl) ?_
              refine lv_aload_n hx hb dX1_keep_99 rfl (lv_at hl 1 rfl) ?_
              refine va_get (D := (dC, dI)) (ci := 1) (v := .ref w6) (C := RX1) (T := TX1) (N := 20) hx hb hts in_X1 hown hK hP 0 rfl rfl 11 (Nat.le_of_ble_eq_true rfl) (hts (.fieldLink RX1 36 "TextMender$Choices" "costOf" "[I") (List.mem_of_getElem? (i := 2) rfl)) (fun _ h9 => h9) rfl dX1_keep_100 ?_
              refine lv_iload hx hb dX1_keep_103 (lv_at hl 0 rfl) ?_
              refine lv_iconst (v := 1) hx hb dX1_keep_105 (by decide) ?_
              refine lv_isub hx hb dX1_keep_106 ?_
              refine lv_topi (fun x_79 ex_79 => ?_)
              have tx_79 : x_79.toInt = pl.toInt - 1 := v_subR (l2 := 1) (h2 := 1) ex_79 g_pl (by decide) (by decide) (by decide)
              refine va_iald hx hb hK hP 3 0 rfl rfl (v_in (by omega)) dX1_keep_107 ?_
              refine lv_topi (fun x_80 ex_80 => ?_)
              obtain ⟨f_81, ef_81⟩ : ∃ g : Nat → Int32, g = upd ff_ (pl : Int32).toNatClampNeg x_80 := ⟨_, rfl⟩
              refine va_iast hx hb hK hP hD hS 3 0 rfl rfl (v_inR g_pl (by decide) (by decide)) dX1_keep_108 (kWf (g := f_81) (F := fun f_81 => [(oW, .inr (1, [.ref oC, .ref oK, .ref nw, .ref w1, .ref w2, .ref w3, .ref o7, .ref o8, .ref o9, .ref w4, .ref w5, .ref w6, .ref w7, .int x_46, .int tl, .int fsh, .int wi, .int ri, .int fm, .int lm])), (w4, .inl (cI, 200, .inl f_75)), (w5, .inl (cI, 200, .inl f_78)), (w6, .inl (cI, 200, .inl f_81)), (w7, .inl (cI, 200, .inl fg_))]) ef_81 rfl (fun H locs hPn hDn hSn => ?_))
              clear hP hD hS
              have hP := hPn
              have hD := hDn
              have hS := hSn
              clear hPn hDn hSn
              refine lv_aload_n hx hb dX1_keep_109 rfl (lv_at hl 1 rfl) ?_
              refine va_get (D := (dC, dI)) (ci := 1) (v := .ref w7) (C := RX1) (T := TX1) (N := 20) hx hb hts in_X1 hown hK hP 0 rfl rfl 12 (Nat.le_of_ble_eq_true rfl) (hts (.fieldLink RX1 39 "TextMender$Choices" "lengthOf" "[I") (List.mem_of_getElem? (i := 9) rfl)) (fun _ h9 => h9) rfl dX1_keep_110 ?_
              refine lv_iload hx hb dX1_keep_113 (lv_at hl 0 rfl) ?_
              refine lv_aload_n hx hb dX1_keep_115 rfl (lv_at hl 1 rfl) ?_
              refine va_get (D := (dC, dI)) (ci := 1) (v := .ref w7) (C := RX1) (T := TX1) (N := 20) hx hb hts in_X1 hown hK hP 0 rfl rfl 12 (Nat.le_of_ble_eq_true rfl) (hts (.fieldLink RX1 39 "TextMender$Choices" "lengthOf" "[I") (List.mem_of_getElem? (i := 9) rfl)) (fun _ h9 => h9) rfl dX1_keep_116 ?_
              refine lv_iload hx hb dX1_keep_119 (lv_at hl 0 rfl) ?_
              refine lv_iconst (v := 1) hx hb dX1_keep_121 (by decide) ?_
              refine lv_isub hx hb dX1_keep_122 ?_
              refine lv_topi (fun x_82 ex_82 => ?_)
              have tx_82 : x_82.toInt = pl.toInt - 1 := v_subR (l2 := 1) (h2 := 1) ex_82 g_pl (by decide) (by decide) (by decide)
              refine va_iald hx hb hK hP 4 0 rfl rfl (v_in (by omega)) dX1_keep_123 ?_
              refine lv_topi (fun x_83 ex_83 => ?_)
              obtain ⟨f_84, ef_84⟩ : ∃ g : Nat → Int32, g = upd fg_ (pl : Int32).toNatClampNeg x_83 := ⟨_, rfl⟩
              refine va_iast hx hb hK hP hD hS 4 0 rfl rfl (v_inR g_pl (by decide) (by decide)) dX1_keep_124 (kWf (g := f_84) (F := fun f_84 => [(oW, .inr (1, [.ref oC, .ref oK, .ref nw, .ref w1, .ref w2, .ref w3, .ref o7, .ref o8, .ref o9, .ref w4, .ref w5, .ref w6, .ref w7, .int x_46, .int tl, .int fsh, .int wi, .int ri, .int fm, .int lm])), (w4, .inl (cI, 200, .inl f_75)), (w5, .inl (cI, 200, .inl f_78)), (w6, .inl (cI, 200, .inl f_81)), (w7, .inl (cI, 200, .inl f_84))]) ef_84 rfl (fun H locs hPn hDn hSn => ?_))
              clear hP hD hS
              have hP := hPn
              have hD := hDn
              have hS := hSn
              clear hPn hDn hSn
              obtain ⟨x_85, ex_85⟩ : ∃ y : Int32, y = pl + (-1) := ⟨_, rfl⟩
              have tx_85 : x_85.toInt = pl.toInt + (-1) := v_addR (l2 := (-1)) (h2 := (-1)) ex_85 g_pl (by decide) (by decide) (by decide)
              refine lv_iinc (v := x_85) (lv' := [(5, .int x_85), (0, .ref oW), (1, .int a), (2, .int b), (3, .int sm), (4, .int ls_)]) hx hb dX1_keep_125 hl (k := 0) rfl (by rw [ex_85]; rfl) (by decide) rfl (fun ls hl => ?_)
              refine lv_goto (tgt := 43) hx hb dX1_keep_128 (by decide) ?_
              exact ih_43 x_85 f_75 f_78 f_81 f_84 _ _ _ (ms_lt hm_43 (by show ((x_85.toInt : Int)) < pl.toInt; omega) (by show (0 : Int) < pl.toInt; omega)) (by show 0 ≤ x_85.toInt ∧ x_85.toInt ≤ 199; omega) (by show x_85.toInt ≤ ke.toInt; omega) (KPL_s4 hkp (by omega) (a0 := x_73) (by omega) (a1 := x_76) (by omega) (a2 := x_79) (by omega) (a3 := x_82) (by omega) ex_74 ex_77 ex_80 ex_83 ef_75 ef_78 ef_81 ef_84 (by omega)) (kp_big hkp hbg (by omega) (by omega) ex_60 (by omega) (by omega)) hP hD hS (lv_sub hl [0, 1, 2, 3, 4, 5] rfl)
      exact LOOP_43 _ x_45 fW4 fW5 fW6 fW7 _ _ _ (ms_s _) (by show 0 ≤ x_45.toInt ∧ x_45.toInt ≤ 199; omega) (by show x_45.toInt ≤ ke.toInt; omega) (KPL_0 rfl) (kp_b0 (by omega) ex_43 (by omega)) hP hD hS (lv_sub hl [0, 1, 2, 3, 4, 5] rfl)
    · have tc_44 : x_43.toInt ≤ sm.toInt := v_nlt c_44
      have rw44_0 := v_rng sm
      have rw44_1 := v_rng x_43
      exact kl_v hQQ hx hb hr hlocks hS dX1_keep_22 (fun PZ9 kZ9 => kZ9 ke fW4 fW5 fW6 fW7 (⟨hP, hD⟩) (g_ke) (by show (ke.toInt < 200 ∧ ke.toInt = ke.toInt + 1) ∨ (ke.toInt = 200 ∧ ke.toInt = 200); omega) (kp_id (kp_full (by rw [show (200 : Nat) = ke.toNatClampNeg from (by omega)]; exact hsr) ex_43 (by show _ ≤ sm.toInt; omega)) (by omega)))

end

/-! 5i.a.rows -/
section
set_option maxRecDepth 100000 in
theorem dA333_cX1_tryWhole : kDec cX1_tryWhole [(0, .aload_n 0, 1), (1, .getfield 62, 3), (4, .aload_n 0, 1), (5, .getfield 59, 3), (8, .invokevirtual 120, 3), (11, .iconst 0, 1), (12, .istore_n 3, 1), (13, .iload_n 3, 1), (14, .sipush 800, 3), (17, .if_icmp .ge 49, 3), (66, .aload_n 0, 1), (67, .getfield 62, 3), (70, .invokevirtual 162, 3), (73, .istore_n 3, 1), (74, .iload_n 3, 1), (75, .aload_n 0, 1), (76, .getfield 85, 3), (79, .if_icmp .le 20, 3), (82, .iload_n 3, 1), (83, .sipush 800, 3), (86, .if_icmp .gt 13, 3), (89, .aload_n 0, 1), (90, .getfield 27, 3), (93, .iload_n 3, 1)] = true := by decide +kernel
theorem dX1_tryWhole_0 : decode cX1_tryWhole 0 = .ok (.aload_n 0, 1) := kDec_at dA333_cX1_tryWhole 0 rfl
theorem dX1_tryWhole_1 : decode cX1_tryWhole 1 = .ok (.getfield 62, 3) := kDec_at dA333_cX1_tryWhole 1 rfl
theorem dX1_tryWhole_4 : decode cX1_tryWhole 4 = .ok (.aload_n 0, 1) := kDec_at dA333_cX1_tryWhole 2 rfl
theorem dX1_tryWhole_5 : decode cX1_tryWhole 5 = .ok (.getfield 59, 3) := kDec_at dA333_cX1_tryWhole 3 rfl
theorem dX1_tryWhole_8 : decode cX1_tryWhole 8 = .ok (.invokevirtual 120, 3) := kDec_at dA333_cX1_tryWhole 4 rfl
theorem dX1_tryWhole_11 : decode cX1_tryWhole 11 = .ok (.iconst 0, 1) := kDec_at dA333_cX1_tryWhole 5 rfl
theorem dX1_tryWhole_12 : decode cX1_tryWhole 12 = .ok (.istore_n 3, 1) := kDec_at dA333_cX1_tryWhole 6 rfl
theorem dX1_tryWhole_13 : decode cX1_tryWhole 13 = .ok (.iload_n 3, 1) := kDec_at dA333_cX1_tryWhole 7 rfl
theorem dX1_tryWhole_14 : decode cX1_tryWhole 14 = .ok (.sipush 800, 3) := kDec_at dA333_cX1_tryWhole 8 rfl
theorem dX1_tryWhole_17 : decode cX1_tryWhole 17 = .ok (.if_icmp .ge 49, 3) := kDec_at dA333_cX1_tryWhole 9 rfl
theorem dX1_tryWhole_66 : decode cX1_tryWhole 66 = .ok (.aload_n 0, 1) := kDec_at dA333_cX1_tryWhole 10 rfl
theorem dX1_tryWhole_67 : decode cX1_tryWhole 67 = .ok (.getfield 62, 3) := kDec_at dA333_cX1_tryWhole 11 rfl
theorem dX1_tryWhole_70 : decode cX1_tryWhole 70 = .ok (.invokevirtual 162, 3) := kDec_at dA333_cX1_tryWhole 12 rfl
theorem dX1_tryWhole_73 : decode cX1_tryWhole 73 = .ok (.istore_n 3, 1) := kDec_at dA333_cX1_tryWhole 13 rfl
theorem dX1_tryWhole_74 : decode cX1_tryWhole 74 = .ok (.iload_n 3, 1) := kDec_at dA333_cX1_tryWhole 14 rfl
theorem dX1_tryWhole_75 : decode cX1_tryWhole 75 = .ok (.aload_n 0, 1) := kDec_at dA333_cX1_tryWhole 15 rfl
theorem dX1_tryWhole_76 : decode cX1_tryWhole 76 = .ok (.getfield 85, 3) := kDec_at dA333_cX1_tryWhole 16 rfl
theorem dX1_tryWhole_79 : decode cX1_tryWhole 79 = .ok (.if_icmp .le 20, 3) := kDec_at dA333_cX1_tryWhole 17 rfl
theorem dX1_tryWhole_82 : decode cX1_tryWhole 82 = .ok (.iload_n 3, 1) := kDec_at dA333_cX1_tryWhole 18 rfl
theorem dX1_tryWhole_83 : decode cX1_tryWhole 83 = .ok (.sipush 800, 3) := kDec_at dA333_cX1_tryWhole 19 rfl
theorem dX1_tryWhole_86 : decode cX1_tryWhole 86 = .ok (.if_icmp .gt 13, 3) := kDec_at dA333_cX1_tryWhole 20 rfl
theorem dX1_tryWhole_89 : decode cX1_tryWhole 89 = .ok (.aload_n 0, 1) := kDec_at dA333_cX1_tryWhole 21 rfl
theorem dX1_tryWhole_90 : decode cX1_tryWhole 90 = .ok (.getfield 27, 3) := kDec_at dA333_cX1_tryWhole 22 rfl
theorem dX1_tryWhole_93 : decode cX1_tryWhole 93 = .ok (.iload_n 3, 1) := kDec_at dA333_cX1_tryWhole 23 rfl
set_option maxRecDepth 20000 in
theorem gX8_takeAll_all : wsX8_takeAll.all goodWord = true := by
  unfold wsX8_takeAll
  exact good_c (by decide +kernel) (good_a ((by decide +kernel)) gX8_clsall)
set_option maxRecDepth 20000 in
theorem ggX1_tryWhole_X8_takeAll : GoodIn wsX1_tryWhole wsX8_takeAll := goodIn_sub (fun _ h => List.mem_cons_of_mem _ (List.mem_append_left _ (List.mem_append_left _ (List.mem_append_left _ (List.mem_append_left _ (List.mem_append_left _ (List.mem_append_left _ (List.mem_append_right _ (h))))))))) gX8_takeAll_all
set_option maxRecDepth 20000 in
theorem gX1_tryWhole_X8_takeAll : GoodIn wsX1_tryWhole (wsV RX1 120 RX8 yX8_takeAll wsX8_takeAll) := goodIn_app (goodIn_r _ [10, 11, 12, 13] rfl (by decide +kernel)) ggX1_tryWhole_X8_takeAll
set_option maxRecDepth 20000 in
theorem ggX1_tryWhole_X8_reached : GoodIn wsX1_tryWhole wsX8_reached := goodIn_sub (fun _ h => List.mem_cons_of_mem _ (List.mem_append_left _ (List.mem_append_left _ (List.mem_append_left _ (List.mem_append_left _ (List.mem_append_left _ (List.mem_append_right _ (h)))))))) gX8_reached_all
set_option maxRecDepth 20000 in
theorem gX1_tryWhole_X8_reached : GoodIn wsX1_tryWhole (wsV RX1 162 RX8 yX8_reached wsX8_reached) := goodIn_app (goodIn_r _ [14, 15, 16, 13] rfl (by decide +kernel)) ggX1_tryWhole_X8_reached
set_option maxRecDepth 100000 in
theorem dA334_cX1_tryWhole : kDec cX1_tryWhole [(94, .iaload, 1), (95, .iconst (-1), 1), (96, .if_icmp .ne 4, 3), (100, .aload_n 0, 1), (101, .getfield 62, 3), (104, .invokevirtual 169, 3), (107, .aload_n 0, 1), (108, .getfield 27, 3), (111, .iload_n 3, 1), (112, .iaload, 1), (113, .iadd, 1), (114, .istore 4, 2), (116, .iload 4, 2), (118, .sipush 300, 3), (121, .if_icmp .gt 41, 3), (162, .return_, 1), (124, .aload_n 0, 1), (125, .dup, 1), (126, .getfield 69, 3), (129, .iconst 1, 1), (130, .iadd, 1), (131, .putfield 69, 3), (134, .aload_n 0, 1), (135, .iload_n 1, 1)] = true := by decide +kernel
theorem dX1_tryWhole_94 : decode cX1_tryWhole 94 = .ok (.iaload, 1) := kDec_at dA334_cX1_tryWhole 0 rfl
theorem dX1_tryWhole_95 : decode cX1_tryWhole 95 = .ok (.iconst (-1), 1) := kDec_at dA334_cX1_tryWhole 1 rfl
theorem dX1_tryWhole_96 : decode cX1_tryWhole 96 = .ok (.if_icmp .ne 4, 3) := kDec_at dA334_cX1_tryWhole 2 rfl
theorem dX1_tryWhole_100 : decode cX1_tryWhole 100 = .ok (.aload_n 0, 1) := kDec_at dA334_cX1_tryWhole 3 rfl
theorem dX1_tryWhole_101 : decode cX1_tryWhole 101 = .ok (.getfield 62, 3) := kDec_at dA334_cX1_tryWhole 4 rfl
theorem dX1_tryWhole_104 : decode cX1_tryWhole 104 = .ok (.invokevirtual 169, 3) := kDec_at dA334_cX1_tryWhole 5 rfl
theorem dX1_tryWhole_107 : decode cX1_tryWhole 107 = .ok (.aload_n 0, 1) := kDec_at dA334_cX1_tryWhole 6 rfl
theorem dX1_tryWhole_108 : decode cX1_tryWhole 108 = .ok (.getfield 27, 3) := kDec_at dA334_cX1_tryWhole 7 rfl
theorem dX1_tryWhole_111 : decode cX1_tryWhole 111 = .ok (.iload_n 3, 1) := kDec_at dA334_cX1_tryWhole 8 rfl
theorem dX1_tryWhole_112 : decode cX1_tryWhole 112 = .ok (.iaload, 1) := kDec_at dA334_cX1_tryWhole 9 rfl
theorem dX1_tryWhole_113 : decode cX1_tryWhole 113 = .ok (.iadd, 1) := kDec_at dA334_cX1_tryWhole 10 rfl
theorem dX1_tryWhole_114 : decode cX1_tryWhole 114 = .ok (.istore 4, 2) := kDec_at dA334_cX1_tryWhole 11 rfl
theorem dX1_tryWhole_116 : decode cX1_tryWhole 116 = .ok (.iload 4, 2) := kDec_at dA334_cX1_tryWhole 12 rfl
theorem dX1_tryWhole_118 : decode cX1_tryWhole 118 = .ok (.sipush 300, 3) := kDec_at dA334_cX1_tryWhole 13 rfl
theorem dX1_tryWhole_121 : decode cX1_tryWhole 121 = .ok (.if_icmp .gt 41, 3) := kDec_at dA334_cX1_tryWhole 14 rfl
theorem dX1_tryWhole_162 : decode cX1_tryWhole 162 = .ok (.return_, 1) := kDec_at dA334_cX1_tryWhole 15 rfl
theorem dX1_tryWhole_124 : decode cX1_tryWhole 124 = .ok (.aload_n 0, 1) := kDec_at dA334_cX1_tryWhole 16 rfl
theorem dX1_tryWhole_125 : decode cX1_tryWhole 125 = .ok (.dup, 1) := kDec_at dA334_cX1_tryWhole 17 rfl
theorem dX1_tryWhole_126 : decode cX1_tryWhole 126 = .ok (.getfield 69, 3) := kDec_at dA334_cX1_tryWhole 18 rfl
theorem dX1_tryWhole_129 : decode cX1_tryWhole 129 = .ok (.iconst 1, 1) := kDec_at dA334_cX1_tryWhole 19 rfl
theorem dX1_tryWhole_130 : decode cX1_tryWhole 130 = .ok (.iadd, 1) := kDec_at dA334_cX1_tryWhole 20 rfl
theorem dX1_tryWhole_131 : decode cX1_tryWhole 131 = .ok (.putfield 69, 3) := kDec_at dA334_cX1_tryWhole 21 rfl
theorem dX1_tryWhole_134 : decode cX1_tryWhole 134 = .ok (.aload_n 0, 1) := kDec_at dA334_cX1_tryWhole 22 rfl
theorem dX1_tryWhole_135 : decode cX1_tryWhole 135 = .ok (.iload_n 1, 1) := kDec_at dA334_cX1_tryWhole 23 rfl
set_option maxRecDepth 20000 in
theorem ggX1_tryWhole_X8_letters : GoodIn wsX1_tryWhole wsX8_letters := goodIn_sub (fun _ h => List.mem_cons_of_mem _ (List.mem_append_left _ (List.mem_append_left _ (List.mem_append_right _ (h))))) gX8_letters_all
set_option maxRecDepth 20000 in
theorem gX1_tryWhole_X8_letters : GoodIn wsX1_tryWhole (wsV RX1 169 RX8 yX8_letters wsX8_letters) := goodIn_app (goodIn_r _ [24, 25, 26, 13] rfl (by decide +kernel)) ggX1_tryWhole_X8_letters
set_option maxRecDepth 100000 in
theorem dA335_cX1_tryWhole : kDec cX1_tryWhole [(136, .iload_n 2, 1), (137, .aload_n 0, 1), (138, .getfield 62, 3), (141, .aload_n 0, 1), (142, .getfield 20, 3), (145, .iload_n 3, 1), (146, .iaload, 1), (147, .invokevirtual 172, 3), (150, .aload_n 0, 1), (151, .getfield 24, 3), (154, .iload_n 3, 1), (155, .iaload, 1), (156, .iadd, 1), (157, .iload 4, 2), (159, .invokevirtual 175, 3), (99, .return_, 1), (20, .aload_n 0, 1), (21, .getfield 62, 3), (24, .invokevirtual 162, 3), (27, .aload_n 0, 1), (28, .getfield 85, 3), (31, .if_icmp .gt 35, 3), (34, .aload_n 0, 1), (35, .getfield 62, 3)] = true := by decide +kernel
theorem dX1_tryWhole_136 : decode cX1_tryWhole 136 = .ok (.iload_n 2, 1) := kDec_at dA335_cX1_tryWhole 0 rfl
theorem dX1_tryWhole_137 : decode cX1_tryWhole 137 = .ok (.aload_n 0, 1) := kDec_at dA335_cX1_tryWhole 1 rfl
theorem dX1_tryWhole_138 : decode cX1_tryWhole 138 = .ok (.getfield 62, 3) := kDec_at dA335_cX1_tryWhole 2 rfl
theorem dX1_tryWhole_141 : decode cX1_tryWhole 141 = .ok (.aload_n 0, 1) := kDec_at dA335_cX1_tryWhole 3 rfl
theorem dX1_tryWhole_142 : decode cX1_tryWhole 142 = .ok (.getfield 20, 3) := kDec_at dA335_cX1_tryWhole 4 rfl
theorem dX1_tryWhole_145 : decode cX1_tryWhole 145 = .ok (.iload_n 3, 1) := kDec_at dA335_cX1_tryWhole 5 rfl
theorem dX1_tryWhole_146 : decode cX1_tryWhole 146 = .ok (.iaload, 1) := kDec_at dA335_cX1_tryWhole 6 rfl
theorem dX1_tryWhole_147 : decode cX1_tryWhole 147 = .ok (.invokevirtual 172, 3) := kDec_at dA335_cX1_tryWhole 7 rfl
theorem dX1_tryWhole_150 : decode cX1_tryWhole 150 = .ok (.aload_n 0, 1) := kDec_at dA335_cX1_tryWhole 8 rfl
theorem dX1_tryWhole_151 : decode cX1_tryWhole 151 = .ok (.getfield 24, 3) := kDec_at dA335_cX1_tryWhole 9 rfl
theorem dX1_tryWhole_154 : decode cX1_tryWhole 154 = .ok (.iload_n 3, 1) := kDec_at dA335_cX1_tryWhole 10 rfl
theorem dX1_tryWhole_155 : decode cX1_tryWhole 155 = .ok (.iaload, 1) := kDec_at dA335_cX1_tryWhole 11 rfl
theorem dX1_tryWhole_156 : decode cX1_tryWhole 156 = .ok (.iadd, 1) := kDec_at dA335_cX1_tryWhole 12 rfl
theorem dX1_tryWhole_157 : decode cX1_tryWhole 157 = .ok (.iload 4, 2) := kDec_at dA335_cX1_tryWhole 13 rfl
theorem dX1_tryWhole_159 : decode cX1_tryWhole 159 = .ok (.invokevirtual 175, 3) := kDec_at dA335_cX1_tryWhole 14 rfl
theorem dX1_tryWhole_99 : decode cX1_tryWhole 99 = .ok (.return_, 1) := kDec_at dA335_cX1_tryWhole 15 rfl
theorem dX1_tryWhole_20 : decode cX1_tryWhole 20 = .ok (.aload_n 0, 1) := kDec_at dA335_cX1_tryWhole 16 rfl
theorem dX1_tryWhole_21 : decode cX1_tryWhole 21 = .ok (.getfield 62, 3) := kDec_at dA335_cX1_tryWhole 17 rfl
theorem dX1_tryWhole_24 : decode cX1_tryWhole 24 = .ok (.invokevirtual 162, 3) := kDec_at dA335_cX1_tryWhole 18 rfl
theorem dX1_tryWhole_27 : decode cX1_tryWhole 27 = .ok (.aload_n 0, 1) := kDec_at dA335_cX1_tryWhole 19 rfl
theorem dX1_tryWhole_28 : decode cX1_tryWhole 28 = .ok (.getfield 85, 3) := kDec_at dA335_cX1_tryWhole 20 rfl
theorem dX1_tryWhole_31 : decode cX1_tryWhole 31 = .ok (.if_icmp .gt 35, 3) := kDec_at dA335_cX1_tryWhole 21 rfl
theorem dX1_tryWhole_34 : decode cX1_tryWhole 34 = .ok (.aload_n 0, 1) := kDec_at dA335_cX1_tryWhole 22 rfl
theorem dX1_tryWhole_35 : decode cX1_tryWhole 35 = .ok (.getfield 62, 3) := kDec_at dA335_cX1_tryWhole 23 rfl
set_option maxRecDepth 20000 in
theorem ggX1_tryWhole_X8_sumWith : GoodIn wsX1_tryWhole wsX8_sumWith := goodIn_sub (fun _ h => List.mem_cons_of_mem _ (List.mem_append_left _ (List.mem_append_right _ (h)))) gX8_sumWith_all
set_option maxRecDepth 20000 in
theorem gX1_tryWhole_X8_sumWith : GoodIn wsX1_tryWhole (wsV RX1 172 RX8 yX8_sumWith wsX8_sumWith) := goodIn_app (goodIn_r _ [27, 28, 29, 13] rfl (by decide +kernel)) ggX1_tryWhole_X8_sumWith
set_option maxRecDepth 20000 in
theorem gX1_keep_all : wsX1_keep.all goodWord = true := by
  unfold wsX1_keep
  exact good_c (by decide +kernel) (good_a ((by decide +kernel)) gX1_clsall)
set_option maxRecDepth 20000 in
theorem ggX1_tryWhole_X1_keep : GoodIn wsX1_tryWhole wsX1_keep := goodIn_sub (fun _ h => List.mem_cons_of_mem _ (List.mem_append_right _ (h))) gX1_keep_all
set_option maxRecDepth 20000 in
theorem gX1_tryWhole_X1_keep : GoodIn wsX1_tryWhole (wsV RX1 175 RX1 yX1_keep wsX1_keep) := goodIn_app (goodIn_r _ [30, 31, 32, 33] rfl (by decide +kernel)) ggX1_tryWhole_X1_keep
set_option maxRecDepth 100000 in
theorem dA336_cX1_tryWhole : kDec cX1_tryWhole [(38, .aload_n 0, 1), (39, .getfield 76, 3), (42, .aload_n 0, 1), (43, .getfield 16, 3), (46, .aload_n 0, 1), (47, .getfield 16, 3), (50, .invokevirtual 91, 3), (53, .invokevirtual 165, 3), (56, .ifCond .ne 4, 3), (60, .iinc 3 1, 3), (63, .goto (-50), 3), (59, .return_, 1)] = true := by decide +kernel
theorem dX1_tryWhole_38 : decode cX1_tryWhole 38 = .ok (.aload_n 0, 1) := kDec_at dA336_cX1_tryWhole 0 rfl
theorem dX1_tryWhole_39 : decode cX1_tryWhole 39 = .ok (.getfield 76, 3) := kDec_at dA336_cX1_tryWhole 1 rfl
theorem dX1_tryWhole_42 : decode cX1_tryWhole 42 = .ok (.aload_n 0, 1) := kDec_at dA336_cX1_tryWhole 2 rfl
theorem dX1_tryWhole_43 : decode cX1_tryWhole 43 = .ok (.getfield 16, 3) := kDec_at dA336_cX1_tryWhole 3 rfl
theorem dX1_tryWhole_46 : decode cX1_tryWhole 46 = .ok (.aload_n 0, 1) := kDec_at dA336_cX1_tryWhole 4 rfl
theorem dX1_tryWhole_47 : decode cX1_tryWhole 47 = .ok (.getfield 16, 3) := kDec_at dA336_cX1_tryWhole 5 rfl
theorem dX1_tryWhole_50 : decode cX1_tryWhole 50 = .ok (.invokevirtual 91, 3) := kDec_at dA336_cX1_tryWhole 6 rfl
theorem dX1_tryWhole_53 : decode cX1_tryWhole 53 = .ok (.invokevirtual 165, 3) := kDec_at dA336_cX1_tryWhole 7 rfl
theorem dX1_tryWhole_56 : decode cX1_tryWhole 56 = .ok (.ifCond .ne 4, 3) := kDec_at dA336_cX1_tryWhole 8 rfl
theorem dX1_tryWhole_60 : decode cX1_tryWhole 60 = .ok (.iinc 3 1, 3) := kDec_at dA336_cX1_tryWhole 9 rfl
theorem dX1_tryWhole_63 : decode cX1_tryWhole 63 = .ok (.goto (-50), 3) := kDec_at dA336_cX1_tryWhole 10 rfl
theorem dX1_tryWhole_59 : decode cX1_tryWhole 59 = .ok (.return_, 1) := kDec_at dA336_cX1_tryWhole 11 rfl
set_option maxRecDepth 20000 in
theorem ggX1_tryWhole_X5_length : GoodIn wsX1_tryWhole wsX5_length := goodIn_sub (fun _ h => List.mem_cons_of_mem _ (List.mem_append_left _ (List.mem_append_left _ (List.mem_append_left _ (List.mem_append_left _ (List.mem_append_right _ (h))))))) gX5_length_all
set_option maxRecDepth 20000 in
theorem gX1_tryWhole_X5_length : GoodIn wsX1_tryWhole (wsV RX1 91 RX5 yX5_length wsX5_length) := goodIn_app (goodIn_r _ [17, 18, 19, 20] rfl (by decide +kernel)) ggX1_tryWhole_X5_length
set_option maxRecDepth 20000 in
theorem ggX1_tryWhole_X8_step : GoodIn wsX1_tryWhole wsX8_step := goodIn_sub (fun _ h => List.mem_cons_of_mem _ (List.mem_append_left _ (List.mem_append_left _ (List.mem_append_left _ (List.mem_append_right _ (h)))))) gX8_step_all
set_option maxRecDepth 20000 in
theorem gX1_tryWhole_X8_step : GoodIn wsX1_tryWhole (wsV RX1 165 RX8 yX8_step wsX8_step) := goodIn_app (goodIn_r _ [21, 22, 23, 13] rfl (by decide +kernel)) ggX1_tryWhole_X8_step

end

/-! 5i.chs -/
section
theorem m2_s {n : Nat} {k k' : Int} (h : k = (m200 n : Int)) (e : (k < 200 ∧ k' = k + 1) ∨ (k = 200 ∧ k' = 200)) : k' = (m200 (n + 1) : Int) := by
  have s := m200_s n
  have l := m200_l (n + 1)
  rcases e with ⟨e1, e2⟩ | ⟨e1, e2⟩
  · have := s.2.2 (by omega)
    omega
  · omega

theorem kp_id2 {k0 k1 q0 q1 : Nat} {B A : Nat → Nat → Int} {e : Nat → Int} (h : INSk q0 q1 B e A) (e0 : q0 = k0) (e1 : q1 = k1) : INSk k0 k1 B e A := by
  subst e0
  subst e1
  exact h
theorem s8_0' {r re re' la la' su su' le le' : Int32} {T : Int32 → Int32 → Int32} {D : Nat → Nat} {X : Nat → Int32} (h : F_s8 r re re' la la' su su' le le' T D X) (h0 : r.toInt = 0) : D re.toNatClampNeg = 0 := by
  rcases h with ⟨a, _⟩ | ⟨_, a1, _⟩
  · rw [a] at h0; exact absurd h0 (by decide)
  · exact a1

theorem tl_c {T : Int32 → Int32 → Int32} {D : Nat → Nat} {X W1 W2 W3 : Nat → Int32} {m q : Nat} (ht : TLK T D X m W1 W2 W3 q) : -1 ≤ (W3 q).toInt ∧ (W3 q).toInt ≤ 800 := by
  rcases ht with ⟨t1, _⟩ | ⟨c, t1, t2, _⟩
  · rw [t1]; decide
  · omega

theorem m2_s' {n n' : Nat} {k k' : Int} (h : k = (m200 n : Int)) (e : (k < 200 ∧ k' = k + 1) ∨ (k = 200 ∧ k' = 200)) (hn : n' = n + 1) : k' = (m200 n' : Int) := by
  rw [hn]; exact m2_s h e

set_option maxHeartbeats 40000000 in
set_option maxRecDepth 100000 in
theorem f_X1_tryWhole (l : Launch) (dC : Nat → ClassId) (dI : Nat → Nat → Nat) (cI cS : ClassId) (sz : Nat) (oW : Nat) (oC : Nat) (oK : Nat) (nw : Nat) (w1 : Nat) (w2 : Nat) (w3 : Nat) (o7 : Nat) (o8 : Nat) (o9 : Nat) (w4 : Nat) (w5 : Nat) (w6 : Nat) (w7 : Nat) (aw : Nat) (o4 : Nat) (o5 : Nat) (a41 : Nat) (a42 : Nat) (a43 : Nat) (a51 : Nat) (a52 : Nat) (a53 : Nat) (k1 : Nat) (k2 : Nat) (ke : Int32) (tl : Int32) (fsh : Int32) (wi : Int32) (ri : Int32) (fm : Int32) (lm : Int32) (fW1 : Nat → Int32) (fW2 : Nat → Int32) (fW3 : Nat → Int32) (fW4 : Nat → Int32) (fW5 : Nat → Int32) (fW6 : Nat → Int32) (fW7 : Nat → Int32) (lw : Int32) (fw : Nat → Int32) (re8 : Int32) (la8 : Int32) (su8 : Int32) (le8 : Int32) (re9 : Int32) (la9 : Int32) (su9 : Int32) (le9 : Int32) (l4 : Int32) (f41 : Nat → Int32) (l5 : Int32) (f51 : Nat → Int32) (lK : Int32) (fK1 : Nat → Int32) (fK2 : Nat → Int32) (a : Int32) (b : Int32) (gV : Nat → (Nat → Int) → Prop) (gt : Nat) (g_ke : 0 ≤ ke.toInt ∧ ke.toInt ≤ 200) (g_fsh : 0 ≤ fsh.toInt ∧ fsh.toInt ≤ 1) (g_fm : -1 ≤ fm.toInt ∧ fm.toInt ≤ 800) (g_lm : -1 ≤ lm.toInt ∧ lm.toInt ≤ 800) (g_lw : 0 ≤ lw.toInt ∧ lw.toInt ≤ 800) (g_la8 : 0 ≤ la8.toInt ∧ la8.toInt ≤ 65535) (g_lK : 0 ≤ lK.toInt ∧ lK.toInt ≤ 300) (hlw : lm.toInt < lw.toInt) (hlm0 : 0 ≤ lm.toInt) (hby : prg lw.toInt 0 255 fw) (hL4 : prg 256 (-1) 65535 f41) (hL5 : prg 256 (-1) 65535 f51) (hT : HT 1024 1023 hsK fK1 fK2) (ho : (occ fK2 1024 : Int) ≤ lK.toInt) (hV : prg 1024 (-1) 200 fK2) (htl : ∀ p : Nat, lm.toInt < (p : Int) → (p : Int) ≤ lw.toInt → TLK (tcC fK1 fK2) (dl wi f41 f51 fw lw.toInt) (dx wi f41 f51 fw lw.toInt) lw.toNatClampNeg fW1 fW2 fW3 p) (hn88 : 0 ≤ su8.toInt ∧ su8.toInt ≤ 200 * le8.toInt ∧ 0 ≤ le8.toInt ∧ le8.toInt ≤ re8.toInt ∧ re8.toInt ≤ lw.toInt) (hke : ke.toInt = (m200 tl.toNatClampNeg : Int)) (hsr : srtA (m200 tl.toNatClampNeg) (CA fW4 fW5 fW6 fW7)) (htl0 : 0 ≤ tl.toInt ∧ tl.toInt ≤ 65536) (hrs8 : RS (tcC fK1 fK2) re8 la8 su8 le8 (dl wi f41 f51 fw lw.toInt) (dx wi f41 f51 fw lw.toInt)) (hVt : ∀ e, gV gt e ↔ RDV wi f41 f51 (tcC fK1 fK2) fw lw.toInt a.toInt b.toInt e) : kMv l yX1_tryWhole wsX1_tryWhole ({ frames := 4, cells := 0, slots := 0, locals := 99 } : Room) [.ref oW, .int a, .int b] sz (dC, dI) vwCl [(cI, .int), (cS, .short)] [(oW, .inr (1, [.ref oC, .ref oK, .ref nw, .ref w1, .ref w2, .ref w3, .ref o7, .ref o8, .ref o9, .ref w4, .ref w5, .ref w6, .ref w7, .int ke, .int tl, .int fsh, .int wi, .int ri, .int fm, .int lm])), (w1, .inl (cI, 801, .inl fW1)), (w2, .inl (cI, 801, .inl fW2)), (w3, .inl (cI, 801, .inl fW3)), (w4, .inl (cI, 200, .inl fW4)), (w5, .inl (cI, 200, .inl fW5)), (w6, .inl (cI, 200, .inl fW6)), (w7, .inl (cI, 200, .inl fW7)), (nw, .inr (5, [.ref aw, .int lw])), (aw, .inl (cI, 800, .inl fw)), (o8, .inr (8, [.ref oC, .ref oK, .int re8, .int la8, .int su8, .int le8])), (o9, .inr (8, [.ref oC, .ref oK, .int re9, .int la9, .int su9, .int le9])), (oC, .inr (2, [.ref o4, .ref o5])), (o4, .inr (10, [.ref a41, .ref a42, .ref a43, .int l4])), (a41, .inl (cI, 256, .inl f41)), (o5, .inr (10, [.ref a51, .ref a52, .ref a53, .int l5])), (a51, .inl (cI, 256, .inl f51)), (oK, .inr (3, [.ref k1, .ref k2, .int lK])), (k1, .inl (cI, 1024, .inl fK1)), (k2, .inl (cI, 1024, .inl fK2))] (va_Nw (.methodLinkNest RX2 52 yX11_isLetter "TextMender")) 0 0 (fun (A : Nat → Prop) (hh9 : Heap) => ∀ PZ9 : Prop, (∀ (re9' : Int32) (la9' : Int32) (su9' : Int32) (le9' : Int32) (ke' : Int32) (tl' : Int32) (fW4' : Nat → Int32) (fW5' : Nat → Int32) (fW6' : Nat → Int32) (fW7' : Nat → Int32), kPD (dC, dI) vwCl A [(oW, .inr (1, [.ref oC, .ref oK, .ref nw, .ref w1, .ref w2, .ref w3, .ref o7, .ref o8, .ref o9, .ref w4, .ref w5, .ref w6, .ref w7, .int ke', .int tl', .int fsh, .int wi, .int ri, .int fm, .int lm])), (w1, .inl (cI, 801, .inl fW1)), (w2, .inl (cI, 801, .inl fW2)), (w3, .inl (cI, 801, .inl fW3)), (w4, .inl (cI, 200, .inl fW4')), (w5, .inl (cI, 200, .inl fW5')), (w6, .inl (cI, 200, .inl fW6')), (w7, .inl (cI, 200, .inl fW7')), (nw, .inr (5, [.ref aw, .int lw])), (aw, .inl (cI, 800, .inl fw)), (o8, .inr (8, [.ref oC, .ref oK, .int re8, .int la8, .int su8, .int le8])), (o9, .inr (8, [.ref oC, .ref oK, .int re9', .int la9', .int su9', .int le9'])), (oC, .inr (2, [.ref o4, .ref o5])), (o4, .inr (10, [.ref a41, .ref a42, .ref a43, .int l4])), (a41, .inl (cI, 256, .inl f41)), (o5, .inr (10, [.ref a51, .ref a52, .ref a53, .int l5])), (a51, .inl (cI, 256, .inl f51)), (oK, .inr (3, [.ref k1, .ref k2, .int lK])), (k1, .inl (cI, 1024, .inl fK1)), (k2, .inl (cI, 1024, .inl fK2))] hh9 → (0 ≤ ke'.toInt ∧ ke'.toInt ≤ 200) → (tl.toInt ≤ tl'.toInt ∧ tl'.toInt ≤ tl.toInt + 1) → (ke'.toInt = (m200 tl'.toNatClampNeg : Int)) → (STP gV gt tl.toNatClampNeg (CA fW4 fW5 fW6 fW7) tl'.toNatClampNeg (CA fW4' fW5' fW6' fW7')) → PZ9) → PZ9) := by
  refine kMv_of (cc := cX1_tryWhole) (maxL := 5) (ret := none) (lv := [(0, .ref oW), (1, .int a), (2, .int b)]) (by decide +kernel) rfl rfl (Nat.le_of_ble_eq_true rfl) ?_
  intro p e s m below meth c A QQ ls hx hb hr hts hml hown hlocks hA hQQ hK hX hP hD hS hl
  have hown : s.vm.findClass RX1 = some m.cls := hown
  have hcf := k_cf hx hb hml hown hts
  have hN52 := hX
  have in_X1 : ∀ w ∈ wsX10, w ∈ wsX1_tryWhole := fun _ h => List.mem_cons_of_mem _ (List.mem_append_left _ (List.mem_append_left _ (List.mem_append_left _ (List.mem_append_left _ (List.mem_append_left _ (List.mem_append_left _ (List.mem_append_left _ (List.mem_append_left _ (List.mem_append_left _ (List.mem_append_left _ (List.mem_append_left _ (List.mem_append_left _ (List.mem_append_right _ (h))))))))))))))
  replace g_fsh := hid g_fsh
  replace g_fm := hid g_fm
  have z0 : (0 : Int32).toInt = 0 := rfl
  have z1 : (1 : Int32).toInt = 1 := rfl
  have zm1 : (-1 : Int32).toInt = -1 := rfl
  have cw9 := v_clamp (x := lw) (by omega)
  have ctl := v_clamp (x := tl) (by omega)
  have ck9 := v_clamp (x := ke) (by omega)
  have ml9 := m200_l tl.toNatClampNeg
  refine lv_aload_n hx hb dX1_tryWhole_0 rfl (lv_at hl 0 rfl) ?_
  refine va_get (D := (dC, dI)) (ci := 1) (v := .ref o9) (C := RX1) (T := TX1) (N := 20) hx hb hts in_X1 hown hK hP 0 rfl rfl 8 (Nat.le_of_ble_eq_true rfl) (hts (.fieldLink RX1 62 "TextMender$Choices" "whole" "LTextMender$Reading;") (List.mem_of_getElem? (i := 1) rfl)) (fun _ h9 => h9) rfl dX1_tryWhole_1 ?_
  refine lv_aload_n hx hb dX1_tryWhole_4 rfl (lv_at hl 0 rfl) ?_
  refine va_get (D := (dC, dI)) (ci := 1) (v := .ref o8) (C := RX1) (T := TX1) (N := 20) hx hb hts in_X1 hown hK hP 0 rfl rfl 7 (Nat.le_of_ble_eq_true rfl) (hts (.fieldLink RX1 59 "TextMender$Choices" "middle" "LTextMender$Reading;") (List.mem_of_getElem? (i := 2) rfl)) (fun _ h9 => h9) rfl dX1_tryWhole_5 ?_
  refine kV_v (rest := []) (q0 := 0) (ci := 8) hcf (f_X8_takeAll l dC dI cI cS s.heap.size o9 o8 oC oK re9 la9 su9 le9 re8 la8 su8 le8 ) kc_X8_takeAll gX1_tryWhole_X8_takeAll rfl rfl rfl ⟨Nat.le_of_ble_eq_true rfl, Nat.le_of_ble_eq_true rfl⟩ kX_t hK hP hD hS hA ([1, 0].filterMap (fun j => (posT mk_75 0)[j]?)) (posF mk_75 0) (kCp (ws := [(o8, .inr (8, [.ref oC, .ref oK, .int re8, .int la8, .int su8, .int le8])), (o9, .inr (8, [.ref oC, .ref oK, .int re9, .int la9, .int su9, .int le9]))]) (kC_of mk_75 rfl rfl) rfl) (by decide +kernel) rfl rfl rfl hl rfl (Nat.le_of_ble_eq_true rfl) dX1_tryWhole_8 ⟨Nat.le_of_ble_eq_true rfl, Nat.le_of_ble_eq_true rfl⟩ (fun H locs hB hJ hSn => ?_)
  refine hB _ (fun reE_1 laE_1 suE_1 leE_1 hPD9 hf1_0 => ?_)
  clear hB
  obtain ⟨hPn, hDn⟩ := kJm (m := mk_75) hJ rfl hPD9.1 hPD9.2 [1, 0] (by decide +kernel) (ws := [(o8, .inr (8, [.ref oC, .ref oK, .int re8, .int la8, .int su8, .int le8])), (o9, .inr (8, [.ref oC, .ref oK, .int reE_1, .int laE_1, .int suE_1, .int leE_1]))]) rfl (wn := [(oW, .inr (1, [.ref oC, .ref oK, .ref nw, .ref w1, .ref w2, .ref w3, .ref o7, .ref o8, .ref o9, .ref w4, .ref w5, .ref w6, .ref w7, .int ke, .int tl, .int fsh, .int wi, .int ri, .int fm, .int lm])), (w1, .inl (cI, 801, .inl fW1)), (w2, .inl (cI, 801, .inl fW2)), (w3, .inl (cI, 801, .inl fW3)), (w4, .inl (cI, 200, .inl fW4)), (w5, .inl (cI, 200, .inl fW5)), (w6, .inl (cI, 200, .inl fW6)), (w7, .inl (cI, 200, .inl fW7)), (nw, .inr (5, [.ref aw, .int lw])), (aw, .inl (cI, 800, .inl fw)), (o8, .inr (8, [.ref oC, .ref oK, .int re8, .int la8, .int su8, .int le8])), (o9, .inr (8, [.ref oC, .ref oK, .int reE_1, .int laE_1, .int suE_1, .int leE_1])), (oC, .inr (2, [.ref o4, .ref o5])), (o4, .inr (10, [.ref a41, .ref a42, .ref a43, .int l4])), (a41, .inl (cI, 256, .inl f41)), (o5, .inr (10, [.ref a51, .ref a52, .ref a53, .int l5])), (a51, .inl (cI, 256, .inl f51)), (oK, .inr (3, [.ref k1, .ref k2, .int lK])), (k1, .inl (cI, 1024, .inl fK1)), (k2, .inl (cI, 1024, .inl fK2))]) rfl
  clear hP hD hS hJ hPD9
  have hP := hPn
  have hD := hDn
  have hS := hSn
  clear hPn hDn hSn
  obtain ⟨h1_1, h2_1, h3_1, h4_1⟩ := hf1_0
  have k1_1 := v_eq h1_1
  have k2_1 := v_eq h2_1
  have k3_1 := v_eq h3_1
  have k4_1 := v_eq h4_1
  refine lv_iconst (v := 0) hx hb dX1_tryWhole_11 (by decide) ?_
  refine lv_istore_n (lv' := [(3, .int 0), (0, .ref oW), (1, .int a), (2, .int b)]) hx hb dX1_tryWhole_12 rfl hl (by decide) rfl (fun ls hl => ?_)
  have LOOP_13 : ∀ (k_13 : Nat) (k : Int32) (rea : Int32) (laa : Int32) (sua : Int32) (lea : Int32) (H : Heap) (locs : List Loc) (ls : Array Slot), MSd (800 - k.toInt : Int) k_13 → (0 ≤ k.toInt ∧ k.toInt ≤ 800) → (0 ≤ rea.toInt ∧ rea.toInt ≤ 2400) → (0 ≤ laa.toInt ∧ laa.toInt ≤ 65535) → (0 ≤ sua.toInt ∧ sua.toInt ≤ 480000) → (0 ≤ lea.toInt ∧ lea.toInt ≤ 2400) → (sua.toInt ≤ 200 * lea.toInt ∧ lea.toInt ≤ rea.toInt ∧ rea.toInt ≤ lw.toInt) → (k.toInt ≤ rea.toInt) → (RS (tcC fK1 fK2) rea laa sua lea (dl wi f41 f51 fw lw.toInt) (dx wi f41 f51 fw lw.toInt)) → va_P (dC, dI) vwCl [(oW, .inr (1, [.ref oC, .ref oK, .ref nw, .ref w1, .ref w2, .ref w3, .ref o7, .ref o8, .ref o9, .ref w4, .ref w5, .ref w6, .ref w7, .int ke, .int tl, .int fsh, .int wi, .int ri, .int fm, .int lm])), (w1, .inl (cI, 801, .inl fW1)), (w2, .inl (cI, 801, .inl fW2)), (w3, .inl (cI, 801, .inl fW3)), (w4, .inl (cI, 200, .inl fW4)), (w5, .inl (cI, 200, .inl fW5)), (w6, .inl (cI, 200, .inl fW6)), (w7, .inl (cI, 200, .inl fW7)), (nw, .inr (5, [.ref aw, .int lw])), (aw, .inl (cI, 800, .inl fw)), (o8, .inr (8, [.ref oC, .ref oK, .int re8, .int la8, .int su8, .int le8])), (o9, .inr (8, [.ref oC, .ref oK, .int rea, .int laa, .int sua, .int lea])), (oC, .inr (2, [.ref o4, .ref o5])), (o4, .inr (10, [.ref a41, .ref a42, .ref a43, .int l4])), (a41, .inl (cI, 256, .inl f41)), (o5, .inr (10, [.ref a51, .ref a52, .ref a53, .int l5])), (a51, .inl (cI, 256, .inl f51)), (oK, .inr (3, [.ref k1, .ref k2, .int lK])), (k1, .inl (cI, 1024, .inl fK1)), (k2, .inl (cI, 1024, .inl fK2))] H → va_D A [(oW, .inr (1, [.ref oC, .ref oK, .ref nw, .ref w1, .ref w2, .ref w3, .ref o7, .ref o8, .ref o9, .ref w4, .ref w5, .ref w6, .ref w7, .int ke, .int tl, .int fsh, .int wi, .int ri, .int fm, .int lm])), (w1, .inl (cI, 801, .inl fW1)), (w2, .inl (cI, 801, .inl fW2)), (w3, .inl (cI, 801, .inl fW3)), (w4, .inl (cI, 200, .inl fW4)), (w5, .inl (cI, 200, .inl fW5)), (w6, .inl (cI, 200, .inl fW6)), (w7, .inl (cI, 200, .inl fW7)), (nw, .inr (5, [.ref aw, .int lw])), (aw, .inl (cI, 800, .inl fw)), (o8, .inr (8, [.ref oC, .ref oK, .int re8, .int la8, .int su8, .int le8])), (o9, .inr (8, [.ref oC, .ref oK, .int rea, .int laa, .int sua, .int lea])), (oC, .inr (2, [.ref o4, .ref o5])), (o4, .inr (10, [.ref a41, .ref a42, .ref a43, .int l4])), (a41, .inl (cI, 256, .inl f41)), (o5, .inr (10, [.ref a51, .ref a52, .ref a53, .int l5])), (a51, .inl (cI, 256, .inl f51)), (oK, .inr (3, [.ref k1, .ref k2, .int lK])), (k1, .inl (cI, 1024, .inl fK1)), (k2, .inl (cI, 1024, .inl fK2))] → va_S A s.heap H locs → lv_has ls 5 [(3, .int k), (0, .ref oW), (1, .int a), (2, .int b)] → W p l e (headSpec wsX1_tryWhole ({ frames := 4, cells := 0, slots := 0, locals := 99 } : Room)).room s m ([.ref oW, .int a, .int b] : List Value).toArray below meth c H locs 0 0 (MQ below QQ ([.ref oW, .int a, .int b] : List Value).toArray s 0 0 A) (F0 m 13 ls []) := by
    clear hP hD hS hl
    try (clear k4_1 k3_1 k2_1 k1_1)
    intro k_13
    induction k_13 with
    | zero =>
      intro k rea laa sua lea H locs ls hm_13 g_k g_rea g_laa g_sua g_lea hn8 hkr hrs hP hD hS hl
      exact ms_0 hm_13
    | succ k_13 ih_13 =>
      intro k rea laa sua lea H locs ls hm_13 g_k g_rea g_laa g_sua g_lea hn8 hkr hrs hP hD hS hl
      have cr9 := v_clamp (x := rea) (by omega)
      refine lv_iload_n hx hb dX1_tryWhole_13 rfl (lv_at hl 0 rfl) ?_
      refine lv_sipush (v := 800) hx hb dX1_tryWhole_14 (by decide) ?_
      refine lv_icmp_ge (tgt := 66) hx hb dX1_tryWhole_17 (by decide) (fun c_2 => ?_) (fun c_2 => ?_)
      · have tc_2 : 800 ≤ k.toInt := v_le c_2
        refine lv_aload_n hx hb dX1_tryWhole_66 rfl (lv_at hl 1 rfl) ?_
        refine va_get (D := (dC, dI)) (ci := 1) (v := .ref o9) (C := RX1) (T := TX1) (N := 20) hx hb hts in_X1 hown hK hP 0 rfl rfl 8 (Nat.le_of_ble_eq_true rfl) (hts (.fieldLink RX1 62 "TextMender$Choices" "whole" "LTextMender$Reading;") (List.mem_of_getElem? (i := 1) rfl)) (fun _ h9 => h9) rfl dX1_tryWhole_67 ?_
        refine kV_i (rest := []) (q0 := 0) (ci := 8) hcf (m_X8_reached l dC dI cI cS H.size o9 oC oK rea laa sua lea ) kc_X8_reached gX1_tryWhole_X8_reached rfl rfl rfl ⟨Nat.le_of_ble_eq_true rfl, Nat.le_of_ble_eq_true rfl⟩ kX_t hK hP hD hS hA (posT mk_76 0) (posF mk_76 0) (kC_of mk_76 rfl rfl) (by decide +kernel) rfl rfl rfl hl rfl (Nat.le_of_ble_eq_true rfl) dX1_tryWhole_70 ⟨Nat.le_of_ble_eq_true rfl, Nat.le_of_ble_eq_true rfl⟩ (fun r_3 H locs hB hJ hSn => ?_)
        refine hB _ (fun hPD9 hf3_0 => ?_)
        clear hB
        obtain ⟨hPn, hDn⟩ := kJi (m := mk_76) hJ rfl hPD9.1 hPD9.2 (wn := [(oW, .inr (1, [.ref oC, .ref oK, .ref nw, .ref w1, .ref w2, .ref w3, .ref o7, .ref o8, .ref o9, .ref w4, .ref w5, .ref w6, .ref w7, .int ke, .int tl, .int fsh, .int wi, .int ri, .int fm, .int lm])), (w1, .inl (cI, 801, .inl fW1)), (w2, .inl (cI, 801, .inl fW2)), (w3, .inl (cI, 801, .inl fW3)), (w4, .inl (cI, 200, .inl fW4)), (w5, .inl (cI, 200, .inl fW5)), (w6, .inl (cI, 200, .inl fW6)), (w7, .inl (cI, 200, .inl fW7)), (nw, .inr (5, [.ref aw, .int lw])), (aw, .inl (cI, 800, .inl fw)), (o8, .inr (8, [.ref oC, .ref oK, .int re8, .int la8, .int su8, .int le8])), (o9, .inr (8, [.ref oC, .ref oK, .int rea, .int laa, .int sua, .int lea])), (oC, .inr (2, [.ref o4, .ref o5])), (o4, .inr (10, [.ref a41, .ref a42, .ref a43, .int l4])), (a41, .inl (cI, 256, .inl f41)), (o5, .inr (10, [.ref a51, .ref a52, .ref a53, .int l5])), (a51, .inl (cI, 256, .inl f51)), (oK, .inr (3, [.ref k1, .ref k2, .int lK])), (k1, .inl (cI, 1024, .inl fK1)), (k2, .inl (cI, 1024, .inl fK2))]) rfl
        clear hP hD hS hJ hPD9
        have hP := hPn
        have hD := hDn
        have hS := hSn
        clear hPn hDn hSn
        rw [hf3_0]
        refine lv_istore_n (lv' := [(3, .int rea), (0, .ref oW), (1, .int a), (2, .int b)]) hx hb dX1_tryWhole_73 rfl hl (by decide) rfl (fun ls hl => ?_)
        refine lv_iload_n hx hb dX1_tryWhole_74 rfl (lv_at hl 0 rfl) ?_
        refine lv_aload_n hx hb dX1_tryWhole_75 rfl (lv_at hl 1 rfl) ?_
        refine va_get (D := (dC, dI)) (ci := 1) (v := .int lm) (C := RX1) (T := TX1) (N := 20) hx hb hts in_X1 hown hK hP 0 rfl rfl 19 (Nat.le_of_ble_eq_true rfl) (hts (.fieldLink RX1 85 "TextMender$Choices" "lastMark" "I") (List.mem_of_getElem? (i := 3) rfl)) (fun _ h9 => h9) rfl dX1_tryWhole_76 ?_
        refine lv_icmp_le (tgt := 99) hx hb dX1_tryWhole_79 (by decide) (fun c_4 => by exfalso; have tc_4 : rea.toInt ≤ lm.toInt := v_le c_4; omega) (fun c_4 => ?_)
        have tc_4 : lm.toInt < rea.toInt := v_nle c_4
        refine lv_iload_n hx hb dX1_tryWhole_82 rfl (lv_at hl 0 rfl) ?_
        refine lv_sipush (v := 800) hx hb dX1_tryWhole_83 (by decide) ?_
        refine lv_icmp_gt (tgt := 99) hx hb dX1_tryWhole_86 (by decide) (fun c_5 => by exfalso; have tc_5 : 800 < rea.toInt := v_lt c_5; omega) (fun c_5 => ?_)
        have tc_5 : rea.toInt ≤ 800 := v_nlt c_5
        refine lv_aload_n hx hb dX1_tryWhole_89 rfl (lv_at hl 1 rfl) ?_
        refine va_get (D := (dC, dI)) (ci := 1) (v := .ref w3) (C := RX1) (T := TX1) (N := 20) hx hb hts in_X1 hown hK hP 0 rfl rfl 5 (Nat.le_of_ble_eq_true rfl) (hts (.fieldLink RX1 27 "TextMender$Choices" "tailLetters" "[I") (List.mem_of_getElem? (i := 6) rfl)) (fun _ h9 => h9) rfl dX1_tryWhole_90 ?_
        refine lv_iload_n hx hb dX1_tryWhole_93 rfl (lv_at hl 0 rfl) ?_
        refine va_iald hx hb hK hP 3 0 rfl rfl (v_in (by omega)) dX1_tryWhole_94 ?_
        refine lv_topi (fun x_6 ex_6 => ?_)
        have ho_x_6 : -1 ≤ x_6.toInt ∧ x_6.toInt ≤ 800 := by rw [ex_6]; exact tl_c (htl rea.toNatClampNeg (by omega) (by omega))
        refine lv_iconst (v := (-1)) hx hb dX1_tryWhole_95 (by decide) ?_
        refine lv_icmp_ne (tgt := 100) hx hb dX1_tryWhole_96 (by decide) (fun c_7 => ?_) (fun c_7 => ?_)
        · have tc_7 : ¬ x_6.toInt = (-1) := v_ne c_7
          refine lv_aload_n hx hb dX1_tryWhole_100 rfl (lv_at hl 1 rfl) ?_
          refine va_get (D := (dC, dI)) (ci := 1) (v := .ref o9) (C := RX1) (T := TX1) (N := 20) hx hb hts in_X1 hown hK hP 0 rfl rfl 8 (Nat.le_of_ble_eq_true rfl) (hts (.fieldLink RX1 62 "TextMender$Choices" "whole" "LTextMender$Reading;") (List.mem_of_getElem? (i := 1) rfl)) (fun _ h9 => h9) rfl dX1_tryWhole_101 ?_
          refine kV_i (rest := []) (q0 := 0) (ci := 8) hcf (m_X8_letters l dC dI cI cS H.size o9 oC oK rea laa sua lea ) kc_X8_letters gX1_tryWhole_X8_letters rfl rfl rfl ⟨Nat.le_of_ble_eq_true rfl, Nat.le_of_ble_eq_true rfl⟩ kX_t hK hP hD hS hA (posT mk_76 0) (posF mk_76 0) (kC_of mk_76 rfl rfl) (by decide +kernel) rfl rfl rfl hl rfl (Nat.le_of_ble_eq_true rfl) dX1_tryWhole_104 ⟨Nat.le_of_ble_eq_true rfl, Nat.le_of_ble_eq_true rfl⟩ (fun r_8 H locs hB hJ hSn => ?_)
          refine hB _ (fun hPD9 hf8_0 => ?_)
          clear hB
          obtain ⟨hPn, hDn⟩ := kJi (m := mk_76) hJ rfl hPD9.1 hPD9.2 (wn := [(oW, .inr (1, [.ref oC, .ref oK, .ref nw, .ref w1, .ref w2, .ref w3, .ref o7, .ref o8, .ref o9, .ref w4, .ref w5, .ref w6, .ref w7, .int ke, .int tl, .int fsh, .int wi, .int ri, .int fm, .int lm])), (w1, .inl (cI, 801, .inl fW1)), (w2, .inl (cI, 801, .inl fW2)), (w3, .inl (cI, 801, .inl fW3)), (w4, .inl (cI, 200, .inl fW4)), (w5, .inl (cI, 200, .inl fW5)), (w6, .inl (cI, 200, .inl fW6)), (w7, .inl (cI, 200, .inl fW7)), (nw, .inr (5, [.ref aw, .int lw])), (aw, .inl (cI, 800, .inl fw)), (o8, .inr (8, [.ref oC, .ref oK, .int re8, .int la8, .int su8, .int le8])), (o9, .inr (8, [.ref oC, .ref oK, .int rea, .int laa, .int sua, .int lea])), (oC, .inr (2, [.ref o4, .ref o5])), (o4, .inr (10, [.ref a41, .ref a42, .ref a43, .int l4])), (a41, .inl (cI, 256, .inl f41)), (o5, .inr (10, [.ref a51, .ref a52, .ref a53, .int l5])), (a51, .inl (cI, 256, .inl f51)), (oK, .inr (3, [.ref k1, .ref k2, .int lK])), (k1, .inl (cI, 1024, .inl fK1)), (k2, .inl (cI, 1024, .inl fK2))]) rfl
          clear hP hD hS hJ hPD9
          have hP := hPn
          have hD := hDn
          have hS := hSn
          clear hPn hDn hSn
          rw [hf8_0]
          refine lv_aload_n hx hb dX1_tryWhole_107 rfl (lv_at hl 1 rfl) ?_
          refine va_get (D := (dC, dI)) (ci := 1) (v := .ref w3) (C := RX1) (T := TX1) (N := 20) hx hb hts in_X1 hown hK hP 0 rfl rfl 5 (Nat.le_of_ble_eq_true rfl) (hts (.fieldLink RX1 27 "TextMender$Choices" "tailLetters" "[I") (List.mem_of_getElem? (i := 6) rfl)) (fun _ h9 => h9) rfl dX1_tryWhole_108 ?_
          refine lv_iload_n hx hb dX1_tryWhole_111 rfl (lv_at hl 0 rfl) ?_
          refine va_iald hx hb hK hP 3 0 rfl rfl (v_in (by omega)) dX1_tryWhole_112 ?_
          refine k_i (y := x_6) ex_6.symm ?_
          refine lv_iadd hx hb dX1_tryWhole_113 ?_
          refine lv_topi (fun x_9 ex_9 => ?_)
          have tx_9 : x_9.toInt = lea.toInt + x_6.toInt := v_add ex_9 (by show -2147483648 ≤ lea.toInt + x_6.toInt; omega) (by show lea.toInt + x_6.toInt < 2147483648; omega)
          refine lv_istore (lv' := [(4, .int x_9), (3, .int rea), (0, .ref oW), (1, .int a), (2, .int b)]) hx hb dX1_tryWhole_114 hl (by decide) rfl (fun ls hl => ?_)
          refine lv_iload hx hb dX1_tryWhole_116 (lv_at hl 0 rfl) ?_
          refine lv_sipush (v := 300) hx hb dX1_tryWhole_118 (by decide) ?_
          refine lv_icmp_gt (tgt := 162) hx hb dX1_tryWhole_121 (by decide) (fun c_10 => ?_) (fun c_10 => ?_)
          · have tc_10 : 300 < x_9.toInt := v_lt c_10
            exact kl_v hQQ hx hb hr hlocks hS dX1_tryWhole_162 (fun PZ9 kZ9 => kZ9 rea laa sua lea ke tl fW4 fW5 fW6 fW7 (⟨hP, hD⟩) (g_ke) (by show tl.toInt ≤ tl.toInt ∧ tl.toInt ≤ tl.toInt + 1; omega) (hke) (stp_n (fun e9 w9 => tw_no (by omega) hrs (by omega) (htl rea.toNatClampNeg (by omega) (by omega)) ex_6 (Or.inr (by omega)) e9 ((hVt e9).mp w9)) rfl))
          · have tc_10 : x_9.toInt ≤ 300 := v_nlt c_10
            refine lv_aload_n hx hb dX1_tryWhole_124 rfl (lv_at hl 2 rfl) ?_
            refine lv_dup hx hb dX1_tryWhole_125 rfl ?_
            refine va_get (D := (dC, dI)) (ci := 1) (v := .int tl) (C := RX1) (T := TX1) (N := 20) hx hb hts in_X1 hown hK hP 0 rfl rfl 14 (Nat.le_of_ble_eq_true rfl) (hts (.fieldLink RX1 69 "TextMender$Choices" "total" "I") (List.mem_of_getElem? (i := 7) rfl)) (fun _ h9 => h9) rfl dX1_tryWhole_126 ?_
            refine lv_iconst (v := 1) hx hb dX1_tryWhole_129 (by decide) ?_
            refine lv_iadd hx hb dX1_tryWhole_130 ?_
            refine lv_topi (fun x_11 ex_11 => ?_)
            have tx_11 : x_11.toInt = tl.toInt + 1 := v_add ex_11 (by show -2147483648 ≤ tl.toInt + 1; omega) (by show tl.toInt + 1 < 2147483648; omega)
            refine va_put (D := (dC, dI)) (ci := 1) (v := .int x_11) (ty := .int) (C := RX1) (T := TX1) (N := 20) hx hb hts in_X1 tyX1 tyX1_ok nmX1 hown hK hP hD hS 0 rfl rfl 14 (Nat.le_of_ble_eq_true rfl) (hts (.fieldLink RX1 69 "TextMender$Choices" "total" "I") (List.mem_of_getElem? (i := 7) rfl)) (fun _ h9 => h9) rfl (tyX1_ok 14 (Nat.le_of_ble_eq_true rfl)) rfl rfl (Nat.le_of_ble_eq_true rfl) dX1_tryWhole_131 (kW (wn := [(oW, .inr (1, [.ref oC, .ref oK, .ref nw, .ref w1, .ref w2, .ref w3, .ref o7, .ref o8, .ref o9, .ref w4, .ref w5, .ref w6, .ref w7, .int ke, .int x_11, .int fsh, .int wi, .int ri, .int fm, .int lm])), (w1, .inl (cI, 801, .inl fW1)), (w2, .inl (cI, 801, .inl fW2)), (w3, .inl (cI, 801, .inl fW3)), (w4, .inl (cI, 200, .inl fW4)), (w5, .inl (cI, 200, .inl fW5)), (w6, .inl (cI, 200, .inl fW6)), (w7, .inl (cI, 200, .inl fW7)), (nw, .inr (5, [.ref aw, .int lw])), (aw, .inl (cI, 800, .inl fw)), (o8, .inr (8, [.ref oC, .ref oK, .int re8, .int la8, .int su8, .int le8])), (o9, .inr (8, [.ref oC, .ref oK, .int rea, .int laa, .int sua, .int lea])), (oC, .inr (2, [.ref o4, .ref o5])), (o4, .inr (10, [.ref a41, .ref a42, .ref a43, .int l4])), (a41, .inl (cI, 256, .inl f41)), (o5, .inr (10, [.ref a51, .ref a52, .ref a53, .int l5])), (a51, .inl (cI, 256, .inl f51)), (oK, .inr (3, [.ref k1, .ref k2, .int lK])), (k1, .inl (cI, 1024, .inl fK1)), (k2, .inl (cI, 1024, .inl fK2))]) rfl (fun H locs hPn hDn hSn => ?_))
            clear hP hD hS
            have hP := hPn
            have hD := hDn
            have hS := hSn
            clear hPn hDn hSn
            refine lv_aload_n hx hb dX1_tryWhole_134 rfl (lv_at hl 2 rfl) ?_
            refine lv_iload_n hx hb dX1_tryWhole_135 rfl (lv_at hl 3 rfl) ?_
            refine lv_iload_n hx hb dX1_tryWhole_136 rfl (lv_at hl 4 rfl) ?_
            refine lv_aload_n hx hb dX1_tryWhole_137 rfl (lv_at hl 2 rfl) ?_
            refine va_get (D := (dC, dI)) (ci := 1) (v := .ref o9) (C := RX1) (T := TX1) (N := 20) hx hb hts in_X1 hown hK hP 0 rfl rfl 8 (Nat.le_of_ble_eq_true rfl) (hts (.fieldLink RX1 62 "TextMender$Choices" "whole" "LTextMender$Reading;") (List.mem_of_getElem? (i := 1) rfl)) (fun _ h9 => h9) rfl dX1_tryWhole_138 ?_
            refine lv_aload_n hx hb dX1_tryWhole_141 rfl (lv_at hl 2 rfl) ?_
            refine va_get (D := (dC, dI)) (ci := 1) (v := .ref w1) (C := RX1) (T := TX1) (N := 20) hx hb hts in_X1 hown hK hP 0 rfl rfl 3 (Nat.le_of_ble_eq_true rfl) (hts (.fieldLink RX1 20 "TextMender$Choices" "tailFirst" "[I") (List.mem_of_getElem? (i := 8) rfl)) (fun _ h9 => h9) rfl dX1_tryWhole_142 ?_
            refine lv_iload_n hx hb dX1_tryWhole_145 rfl (lv_at hl 1 rfl) ?_
            refine va_iald hx hb hK hP 1 0 rfl rfl (v_in (by omega)) dX1_tryWhole_146 ?_
            refine lv_topi (fun x_12 ex_12 => ?_)
            have ho_x_12 : 0 ≤ x_12.toInt ∧ x_12.toInt ≤ 65535 := by rw [ex_12]; exact (tl_b (htl rea.toNatClampNeg (by omega) (by omega)) (fun e9 => c_7 (ex_6.trans e9))).1
            refine kV_i (rest := [.int b, .int a, .ref oW]) (q0 := 0) (ci := 8) hcf (f_X8_sumWith l dC dI cI cS H.size o9 oC oK k1 k2 rea laa sua lea lK fK1 fK2 x_12 (g_laa) (g_sua) (g_lK) (by omega) (hT) (ho) (hV)) kc_X8_sumWith gX1_tryWhole_X8_sumWith rfl rfl rfl ⟨Nat.le_of_ble_eq_true rfl, Nat.le_of_ble_eq_true rfl⟩ kX_t hK hP hD hS hA (posT mk_77 0) (posF mk_77 0) (kC_of mk_77 rfl rfl) (by decide +kernel) rfl rfl rfl hl rfl (Nat.le_of_ble_eq_true rfl) dX1_tryWhole_147 ⟨Nat.le_of_ble_eq_true rfl, Nat.le_of_ble_eq_true rfl⟩ (fun r_13 H locs hB hJ hSn => ?_)
            refine hB _ (fun hPD9 hf13_0 hf13_1 => ?_)
            clear hB
            obtain ⟨hPn, hDn⟩ := kJi (m := mk_77) hJ rfl hPD9.1 hPD9.2 (wn := [(oW, .inr (1, [.ref oC, .ref oK, .ref nw, .ref w1, .ref w2, .ref w3, .ref o7, .ref o8, .ref o9, .ref w4, .ref w5, .ref w6, .ref w7, .int ke, .int x_11, .int fsh, .int wi, .int ri, .int fm, .int lm])), (w1, .inl (cI, 801, .inl fW1)), (w2, .inl (cI, 801, .inl fW2)), (w3, .inl (cI, 801, .inl fW3)), (w4, .inl (cI, 200, .inl fW4)), (w5, .inl (cI, 200, .inl fW5)), (w6, .inl (cI, 200, .inl fW6)), (w7, .inl (cI, 200, .inl fW7)), (nw, .inr (5, [.ref aw, .int lw])), (aw, .inl (cI, 800, .inl fw)), (o8, .inr (8, [.ref oC, .ref oK, .int re8, .int la8, .int su8, .int le8])), (o9, .inr (8, [.ref oC, .ref oK, .int rea, .int laa, .int sua, .int lea])), (oC, .inr (2, [.ref o4, .ref o5])), (o4, .inr (10, [.ref a41, .ref a42, .ref a43, .int l4])), (a41, .inl (cI, 256, .inl f41)), (o5, .inr (10, [.ref a51, .ref a52, .ref a53, .int l5])), (a51, .inl (cI, 256, .inl f51)), (oK, .inr (3, [.ref k1, .ref k2, .int lK])), (k1, .inl (cI, 1024, .inl fK1)), (k2, .inl (cI, 1024, .inl fK2))]) rfl
            clear hP hD hS hJ hPD9
            have hP := hPn
            have hD := hDn
            have hS := hSn
            clear hPn hDn hSn
            refine lv_aload_n hx hb dX1_tryWhole_150 rfl (lv_at hl 2 rfl) ?_
            refine va_get (D := (dC, dI)) (ci := 1) (v := .ref w2) (C := RX1) (T := TX1) (N := 20) hx hb hts in_X1 hown hK hP 0 rfl rfl 4 (Nat.le_of_ble_eq_true rfl) (hts (.fieldLink RX1 24 "TextMender$Choices" "tailSum" "[I") (List.mem_of_getElem? (i := 9) rfl)) (fun _ h9 => h9) rfl dX1_tryWhole_151 ?_
            refine lv_iload_n hx hb dX1_tryWhole_154 rfl (lv_at hl 1 rfl) ?_
            refine va_iald hx hb hK hP 2 0 rfl rfl (v_in (by omega)) dX1_tryWhole_155 ?_
            refine lv_topi (fun x_14 ex_14 => ?_)
            have ho_x_14 : 0 ≤ x_14.toInt ∧ x_14.toInt ≤ 160000 := by rw [ex_14]; exact (tl_b (htl rea.toNatClampNeg (by omega) (by omega)) (fun e9 => c_7 (ex_6.trans e9))).2
            refine lv_iadd hx hb dX1_tryWhole_156 ?_
            refine lv_topi (fun x_15 ex_15 => ?_)
            have tx_15 : x_15.toInt = r_13.toInt + x_14.toInt := v_add ex_15 (by show -2147483648 ≤ r_13.toInt + x_14.toInt; omega) (by show r_13.toInt + x_14.toInt < 2147483648; omega)
            refine lv_iload hx hb dX1_tryWhole_157 (lv_at hl 0 rfl) ?_
            refine kV_v (rest := []) (q0 := 0) (ci := 1) hcf (f_X1_keep l dC dI cI cS H.size oW oC oK nw w1 w2 w3 o7 o8 o9 w4 w5 w6 w7 ke x_11 fsh wi ri fm lm fW4 fW5 fW6 fW7 a b x_15 x_9 (g_ke) (g_fsh) (g_fm) (g_lm) (by rw [show ke.toNatClampNeg = m200 tl.toNatClampNeg from (by omega)]; exact hsr)) kc_X1_keep gX1_tryWhole_X1_keep rfl rfl rfl ⟨Nat.le_of_ble_eq_true rfl, Nat.le_of_ble_eq_true rfl⟩ kX_t hK hP hD hS hA (posT mk_78 0) (posF mk_78 0) (kC_of mk_78 rfl rfl) (by decide +kernel) rfl rfl rfl hl rfl (Nat.le_of_ble_eq_true rfl) dX1_tryWhole_159 ⟨Nat.le_of_ble_eq_true rfl, Nat.le_of_ble_eq_true rfl⟩ (fun H locs hB hJ hSn => ?_)
            refine hB _ (fun ke_16 fW4_16 fW5_16 fW6_16 fW7_16 hPD9 hf16_0 hf16_1 hf16_2 => ?_)
            clear hB
            obtain ⟨hPn, hDn⟩ := kJi (m := mk_78) hJ rfl hPD9.1 hPD9.2 (wn := [(oW, .inr (1, [.ref oC, .ref oK, .ref nw, .ref w1, .ref w2, .ref w3, .ref o7, .ref o8, .ref o9, .ref w4, .ref w5, .ref w6, .ref w7, .int ke_16, .int x_11, .int fsh, .int wi, .int ri, .int fm, .int lm])), (w1, .inl (cI, 801, .inl fW1)), (w2, .inl (cI, 801, .inl fW2)), (w3, .inl (cI, 801, .inl fW3)), (w4, .inl (cI, 200, .inl fW4_16)), (w5, .inl (cI, 200, .inl fW5_16)), (w6, .inl (cI, 200, .inl fW6_16)), (w7, .inl (cI, 200, .inl fW7_16)), (nw, .inr (5, [.ref aw, .int lw])), (aw, .inl (cI, 800, .inl fw)), (o8, .inr (8, [.ref oC, .ref oK, .int re8, .int la8, .int su8, .int le8])), (o9, .inr (8, [.ref oC, .ref oK, .int rea, .int laa, .int sua, .int lea])), (oC, .inr (2, [.ref o4, .ref o5])), (o4, .inr (10, [.ref a41, .ref a42, .ref a43, .int l4])), (a41, .inl (cI, 256, .inl f41)), (o5, .inr (10, [.ref a51, .ref a52, .ref a53, .int l5])), (a51, .inl (cI, 256, .inl f51)), (oK, .inr (3, [.ref k1, .ref k2, .int lK])), (k1, .inl (cI, 1024, .inl fK1)), (k2, .inl (cI, 1024, .inl fK2))]) rfl
            clear hP hD hS hJ hPD9
            have hP := hPn
            have hD := hDn
            have hS := hSn
            clear hPn hDn hSn
            have ct8 := v_clamp (x := x_11) (by omega)
            have ck8 := v_clamp (x := ke_16) (by omega)
            exact kl_v hQQ hx hb hr hlocks hS dX1_tryWhole_162 (fun PZ9 kZ9 => kZ9 rea laa sua lea ke_16 x_11 fW4_16 fW5_16 fW6_16 fW7_16 (⟨hP, hD⟩) (hf16_0) (by show tl.toInt ≤ x_11.toInt ∧ x_11.toInt ≤ tl.toInt + 1; omega) (m2_s' hke hf16_1 (by omega)) ((tw_yes (x1 := a.toInt) (x2 := b.toInt) (sm := x_15) (ls := x_9) (by omega) hrs (htl rea.toNatClampNeg (by omega) (by omega)) ex_12 ex_14 ex_6 c_7 hf13_1 (by omega) (by omega) (by omega)).elim (fun e9 h9 => stp_y ((hVt e9).mpr h9.1) (by omega) (INS_e (kp_id2 hf16_2 (by omega) (by have q9 := m2_s hke hf16_1; omega)) (fun k hk => (h9.2 k hk).symm)))))
        · have tc_7 : x_6.toInt = (-1) := v_eq c_7
          exact kl_v hQQ hx hb hr hlocks hS dX1_tryWhole_99 (fun PZ9 kZ9 => kZ9 rea laa sua lea ke tl fW4 fW5 fW6 fW7 (⟨hP, hD⟩) (g_ke) (by show tl.toInt ≤ tl.toInt ∧ tl.toInt ≤ tl.toInt + 1; omega) (hke) (stp_n (fun e9 w9 => tw_no (by omega) hrs (by omega) (htl rea.toNatClampNeg (by omega) (by omega)) ex_6 (Or.inl c_7) e9 ((hVt e9).mp w9)) rfl))
      · have tc_2 : k.toInt < 800 := v_nle c_2
        refine lv_aload_n hx hb dX1_tryWhole_20 rfl (lv_at hl 1 rfl) ?_
        refine va_get (D := (dC, dI)) (ci := 1) (v := .ref o9) (C := RX1) (T := TX1) (N := 20) hx hb hts in_X1 hown hK hP 0 rfl rfl 8 (Nat.le_of_ble_eq_true rfl) (hts (.fieldLink RX1 62 "TextMender$Choices" "whole" "LTextMender$Reading;") (List.mem_of_getElem? (i := 1) rfl)) (fun _ h9 => h9) rfl dX1_tryWhole_21 ?_
        refine kV_i (rest := []) (q0 := 0) (ci := 8) hcf (m_X8_reached l dC dI cI cS H.size o9 oC oK rea laa sua lea ) kc_X8_reached gX1_tryWhole_X8_reached rfl rfl rfl ⟨Nat.le_of_ble_eq_true rfl, Nat.le_of_ble_eq_true rfl⟩ kX_t hK hP hD hS hA (posT mk_76 0) (posF mk_76 0) (kC_of mk_76 rfl rfl) (by decide +kernel) rfl rfl rfl hl rfl (Nat.le_of_ble_eq_true rfl) dX1_tryWhole_24 ⟨Nat.le_of_ble_eq_true rfl, Nat.le_of_ble_eq_true rfl⟩ (fun r_17 H locs hB hJ hSn => ?_)
        refine hB _ (fun hPD9 hf17_0 => ?_)
        clear hB
        obtain ⟨hPn, hDn⟩ := kJi (m := mk_76) hJ rfl hPD9.1 hPD9.2 (wn := [(oW, .inr (1, [.ref oC, .ref oK, .ref nw, .ref w1, .ref w2, .ref w3, .ref o7, .ref o8, .ref o9, .ref w4, .ref w5, .ref w6, .ref w7, .int ke, .int tl, .int fsh, .int wi, .int ri, .int fm, .int lm])), (w1, .inl (cI, 801, .inl fW1)), (w2, .inl (cI, 801, .inl fW2)), (w3, .inl (cI, 801, .inl fW3)), (w4, .inl (cI, 200, .inl fW4)), (w5, .inl (cI, 200, .inl fW5)), (w6, .inl (cI, 200, .inl fW6)), (w7, .inl (cI, 200, .inl fW7)), (nw, .inr (5, [.ref aw, .int lw])), (aw, .inl (cI, 800, .inl fw)), (o8, .inr (8, [.ref oC, .ref oK, .int re8, .int la8, .int su8, .int le8])), (o9, .inr (8, [.ref oC, .ref oK, .int rea, .int laa, .int sua, .int lea])), (oC, .inr (2, [.ref o4, .ref o5])), (o4, .inr (10, [.ref a41, .ref a42, .ref a43, .int l4])), (a41, .inl (cI, 256, .inl f41)), (o5, .inr (10, [.ref a51, .ref a52, .ref a53, .int l5])), (a51, .inl (cI, 256, .inl f51)), (oK, .inr (3, [.ref k1, .ref k2, .int lK])), (k1, .inl (cI, 1024, .inl fK1)), (k2, .inl (cI, 1024, .inl fK2))]) rfl
        clear hP hD hS hJ hPD9
        have hP := hPn
        have hD := hDn
        have hS := hSn
        clear hPn hDn hSn
        rw [hf17_0]
        refine lv_aload_n hx hb dX1_tryWhole_27 rfl (lv_at hl 1 rfl) ?_
        refine va_get (D := (dC, dI)) (ci := 1) (v := .int lm) (C := RX1) (T := TX1) (N := 20) hx hb hts in_X1 hown hK hP 0 rfl rfl 19 (Nat.le_of_ble_eq_true rfl) (hts (.fieldLink RX1 85 "TextMender$Choices" "lastMark" "I") (List.mem_of_getElem? (i := 3) rfl)) (fun _ h9 => h9) rfl dX1_tryWhole_28 ?_
        refine lv_icmp_gt (tgt := 66) hx hb dX1_tryWhole_31 (by decide) (fun c_18 => ?_) (fun c_18 => ?_)
        · have tc_18 : lm.toInt < rea.toInt := v_lt c_18
          refine lv_aload_n hx hb dX1_tryWhole_66 rfl (lv_at hl 1 rfl) ?_
          refine va_get (D := (dC, dI)) (ci := 1) (v := .ref o9) (C := RX1) (T := TX1) (N := 20) hx hb hts in_X1 hown hK hP 0 rfl rfl 8 (Nat.le_of_ble_eq_true rfl) (hts (.fieldLink RX1 62 "TextMender$Choices" "whole" "LTextMender$Reading;") (List.mem_of_getElem? (i := 1) rfl)) (fun _ h9 => h9) rfl dX1_tryWhole_67 ?_
          refine kV_i (rest := []) (q0 := 0) (ci := 8) hcf (m_X8_reached l dC dI cI cS H.size o9 oC oK rea laa sua lea ) kc_X8_reached gX1_tryWhole_X8_reached rfl rfl rfl ⟨Nat.le_of_ble_eq_true rfl, Nat.le_of_ble_eq_true rfl⟩ kX_t hK hP hD hS hA (posT mk_76 0) (posF mk_76 0) (kC_of mk_76 rfl rfl) (by decide +kernel) rfl rfl rfl hl rfl (Nat.le_of_ble_eq_true rfl) dX1_tryWhole_70 ⟨Nat.le_of_ble_eq_true rfl, Nat.le_of_ble_eq_true rfl⟩ (fun r_19 H locs hB hJ hSn => ?_)
          refine hB _ (fun hPD9 hf19_0 => ?_)
          clear hB
          obtain ⟨hPn, hDn⟩ := kJi (m := mk_76) hJ rfl hPD9.1 hPD9.2 (wn := [(oW, .inr (1, [.ref oC, .ref oK, .ref nw, .ref w1, .ref w2, .ref w3, .ref o7, .ref o8, .ref o9, .ref w4, .ref w5, .ref w6, .ref w7, .int ke, .int tl, .int fsh, .int wi, .int ri, .int fm, .int lm])), (w1, .inl (cI, 801, .inl fW1)), (w2, .inl (cI, 801, .inl fW2)), (w3, .inl (cI, 801, .inl fW3)), (w4, .inl (cI, 200, .inl fW4)), (w5, .inl (cI, 200, .inl fW5)), (w6, .inl (cI, 200, .inl fW6)), (w7, .inl (cI, 200, .inl fW7)), (nw, .inr (5, [.ref aw, .int lw])), (aw, .inl (cI, 800, .inl fw)), (o8, .inr (8, [.ref oC, .ref oK, .int re8, .int la8, .int su8, .int le8])), (o9, .inr (8, [.ref oC, .ref oK, .int rea, .int laa, .int sua, .int lea])), (oC, .inr (2, [.ref o4, .ref o5])), (o4, .inr (10, [.ref a41, .ref a42, .ref a43, .int l4])), (a41, .inl (cI, 256, .inl f41)), (o5, .inr (10, [.ref a51, .ref a52, .ref a53, .int l5])), (a51, .inl (cI, 256, .inl f51)), (oK, .inr (3, [.ref k1, .ref k2, .int lK])), (k1, .inl (cI, 1024, .inl fK1)), (k2, .inl (cI, 1024, .inl fK2))]) rfl
          clear hP hD hS hJ hPD9
          have hP := hPn
          have hD := hDn
          have hS := hSn
          clear hPn hDn hSn
          rw [hf19_0]
          refine lv_istore_n (lv' := [(3, .int rea), (0, .ref oW), (1, .int a), (2, .int b)]) hx hb dX1_tryWhole_73 rfl hl (by decide) rfl (fun ls hl => ?_)
          refine lv_iload_n hx hb dX1_tryWhole_74 rfl (lv_at hl 0 rfl) ?_
          refine lv_aload_n hx hb dX1_tryWhole_75 rfl (lv_at hl 1 rfl) ?_
          refine va_get (D := (dC, dI)) (ci := 1) (v := .int lm) (C := RX1) (T := TX1) (N := 20) hx hb hts in_X1 hown hK hP 0 rfl rfl 19 (Nat.le_of_ble_eq_true rfl) (hts (.fieldLink RX1 85 "TextMender$Choices" "lastMark" "I") (List.mem_of_getElem? (i := 3) rfl)) (fun _ h9 => h9) rfl dX1_tryWhole_76 ?_
          refine lv_icmp_le (tgt := 99) hx hb dX1_tryWhole_79 (by decide) (fun c_20 => by exfalso; have tc_20 : rea.toInt ≤ lm.toInt := v_le c_20; omega) (fun c_20 => ?_)
          have tc_20 : lm.toInt < rea.toInt := v_nle c_20
          refine lv_iload_n hx hb dX1_tryWhole_82 rfl (lv_at hl 0 rfl) ?_
          refine lv_sipush (v := 800) hx hb dX1_tryWhole_83 (by decide) ?_
          refine lv_icmp_gt (tgt := 99) hx hb dX1_tryWhole_86 (by decide) (fun c_21 => by exfalso; have tc_21 : 800 < rea.toInt := v_lt c_21; omega) (fun c_21 => ?_)
          have tc_21 : rea.toInt ≤ 800 := v_nlt c_21
          refine lv_aload_n hx hb dX1_tryWhole_89 rfl (lv_at hl 1 rfl) ?_
          refine va_get (D := (dC, dI)) (ci := 1) (v := .ref w3) (C := RX1) (T := TX1) (N := 20) hx hb hts in_X1 hown hK hP 0 rfl rfl 5 (Nat.le_of_ble_eq_true rfl) (hts (.fieldLink RX1 27 "TextMender$Choices" "tailLetters" "[I") (List.mem_of_getElem? (i := 6) rfl)) (fun _ h9 => h9) rfl dX1_tryWhole_90 ?_
          refine lv_iload_n hx hb dX1_tryWhole_93 rfl (lv_at hl 0 rfl) ?_
          refine va_iald hx hb hK hP 3 0 rfl rfl (v_in (by omega)) dX1_tryWhole_94 ?_
          refine lv_topi (fun x_22 ex_22 => ?_)
          have ho_x_22 : -1 ≤ x_22.toInt ∧ x_22.toInt ≤ 800 := by rw [ex_22]; exact tl_c (htl rea.toNatClampNeg (by omega) (by omega))
          refine lv_iconst (v := (-1)) hx hb dX1_tryWhole_95 (by decide) ?_
          refine lv_icmp_ne (tgt := 100) hx hb dX1_tryWhole_96 (by decide) (fun c_23 => ?_) (fun c_23 => ?_)
          · have tc_23 : ¬ x_22.toInt = (-1) := v_ne c_23
            refine lv_aload_n hx hb dX1_tryWhole_100 rfl (lv_at hl 1 rfl) ?_
            refine va_get (D := (dC, dI)) (ci := 1) (v := .ref o9) (C := RX1) (T := TX1) (N := 20) hx hb hts in_X1 hown hK hP 0 rfl rfl 8 (Nat.le_of_ble_eq_true rfl) (hts (.fieldLink RX1 62 "TextMender$Choices" "whole" "LTextMender$Reading;") (List.mem_of_getElem? (i := 1) rfl)) (fun _ h9 => h9) rfl dX1_tryWhole_101 ?_
            refine kV_i (rest := []) (q0 := 0) (ci := 8) hcf (m_X8_letters l dC dI cI cS H.size o9 oC oK rea laa sua lea ) kc_X8_letters gX1_tryWhole_X8_letters rfl rfl rfl ⟨Nat.le_of_ble_eq_true rfl, Nat.le_of_ble_eq_true rfl⟩ kX_t hK hP hD hS hA (posT mk_76 0) (posF mk_76 0) (kC_of mk_76 rfl rfl) (by decide +kernel) rfl rfl rfl hl rfl (Nat.le_of_ble_eq_true rfl) dX1_tryWhole_104 ⟨Nat.le_of_ble_eq_true rfl, Nat.le_of_ble_eq_true rfl⟩ (fun r_24 H locs hB hJ hSn => ?_)
            refine hB _ (fun hPD9 hf24_0 => ?_)
            clear hB
            obtain ⟨hPn, hDn⟩ := kJi (m := mk_76) hJ rfl hPD9.1 hPD9.2 (wn := [(oW, .inr (1, [.ref oC, .ref oK, .ref nw, .ref w1, .ref w2, .ref w3, .ref o7, .ref o8, .ref o9, .ref w4, .ref w5, .ref w6, .ref w7, .int ke, .int tl, .int fsh, .int wi, .int ri, .int fm, .int lm])), (w1, .inl (cI, 801, .inl fW1)), (w2, .inl (cI, 801, .inl fW2)), (w3, .inl (cI, 801, .inl fW3)), (w4, .inl (cI, 200, .inl fW4)), (w5, .inl (cI, 200, .inl fW5)), (w6, .inl (cI, 200, .inl fW6)), (w7, .inl (cI, 200, .inl fW7)), (nw, .inr (5, [.ref aw, .int lw])), (aw, .inl (cI, 800, .inl fw)), (o8, .inr (8, [.ref oC, .ref oK, .int re8, .int la8, .int su8, .int le8])), (o9, .inr (8, [.ref oC, .ref oK, .int rea, .int laa, .int sua, .int lea])), (oC, .inr (2, [.ref o4, .ref o5])), (o4, .inr (10, [.ref a41, .ref a42, .ref a43, .int l4])), (a41, .inl (cI, 256, .inl f41)), (o5, .inr (10, [.ref a51, .ref a52, .ref a53, .int l5])), (a51, .inl (cI, 256, .inl f51)), (oK, .inr (3, [.ref k1, .ref k2, .int lK])), (k1, .inl (cI, 1024, .inl fK1)), (k2, .inl (cI, 1024, .inl fK2))]) rfl
            clear hP hD hS hJ hPD9
            have hP := hPn
            have hD := hDn
            have hS := hSn
            clear hPn hDn hSn
            rw [hf24_0]
            refine lv_aload_n hx hb dX1_tryWhole_107 rfl (lv_at hl 1 rfl) ?_
            refine va_get (D := (dC, dI)) (ci := 1) (v := .ref w3) (C := RX1) (T := TX1) (N := 20) hx hb hts in_X1 hown hK hP 0 rfl rfl 5 (Nat.le_of_ble_eq_true rfl) (hts (.fieldLink RX1 27 "TextMender$Choices" "tailLetters" "[I") (List.mem_of_getElem? (i := 6) rfl)) (fun _ h9 => h9) rfl dX1_tryWhole_108 ?_
            refine lv_iload_n hx hb dX1_tryWhole_111 rfl (lv_at hl 0 rfl) ?_
            refine va_iald hx hb hK hP 3 0 rfl rfl (v_in (by omega)) dX1_tryWhole_112 ?_
            refine k_i (y := x_22) ex_22.symm ?_
            refine lv_iadd hx hb dX1_tryWhole_113 ?_
            refine lv_topi (fun x_25 ex_25 => ?_)
            have tx_25 : x_25.toInt = lea.toInt + x_22.toInt := v_add ex_25 (by show -2147483648 ≤ lea.toInt + x_22.toInt; omega) (by show lea.toInt + x_22.toInt < 2147483648; omega)
            refine lv_istore (lv' := [(4, .int x_25), (3, .int rea), (0, .ref oW), (1, .int a), (2, .int b)]) hx hb dX1_tryWhole_114 hl (by decide) rfl (fun ls hl => ?_)
            refine lv_iload hx hb dX1_tryWhole_116 (lv_at hl 0 rfl) ?_
            refine lv_sipush (v := 300) hx hb dX1_tryWhole_118 (by decide) ?_
            refine lv_icmp_gt (tgt := 162) hx hb dX1_tryWhole_121 (by decide) (fun c_26 => ?_) (fun c_26 => ?_)
            · have tc_26 : 300 < x_25.toInt := v_lt c_26
              exact kl_v hQQ hx hb hr hlocks hS dX1_tryWhole_162 (fun PZ9 kZ9 => kZ9 rea laa sua lea ke tl fW4 fW5 fW6 fW7 (⟨hP, hD⟩) (g_ke) (by show tl.toInt ≤ tl.toInt ∧ tl.toInt ≤ tl.toInt + 1; omega) (hke) (stp_n (fun e9 w9 => tw_no (by omega) hrs (by omega) (htl rea.toNatClampNeg (by omega) (by omega)) ex_22 (Or.inr (by omega)) e9 ((hVt e9).mp w9)) rfl))
            · have tc_26 : x_25.toInt ≤ 300 := v_nlt c_26
              refine lv_aload_n hx hb dX1_tryWhole_124 rfl (lv_at hl 2 rfl) ?_
              refine lv_dup hx hb dX1_tryWhole_125 rfl ?_
              refine va_get (D := (dC, dI)) (ci := 1) (v := .int tl) (C := RX1) (T := TX1) (N := 20) hx hb hts in_X1 hown hK hP 0 rfl rfl 14 (Nat.le_of_ble_eq_true rfl) (hts (.fieldLink RX1 69 "TextMender$Choices" "total" "I") (List.mem_of_getElem? (i := 7) rfl)) (fun _ h9 => h9) rfl dX1_tryWhole_126 ?_
              refine lv_iconst (v := 1) hx hb dX1_tryWhole_129 (by decide) ?_
              refine lv_iadd hx hb dX1_tryWhole_130 ?_
              refine lv_topi (fun x_27 ex_27 => ?_)
              have tx_27 : x_27.toInt = tl.toInt + 1 := v_add ex_27 (by show -2147483648 ≤ tl.toInt + 1; omega) (by show tl.toInt + 1 < 2147483648; omega)
              refine va_put (D := (dC, dI)) (ci := 1) (v := .int x_27) (ty := .int) (C := RX1) (T := TX1) (N := 20) hx hb hts in_X1 tyX1 tyX1_ok nmX1 hown hK hP hD hS 0 rfl rfl 14 (Nat.le_of_ble_eq_true rfl) (hts (.fieldLink RX1 69 "TextMender$Choices" "total" "I") (List.mem_of_getElem? (i := 7) rfl)) (fun _ h9 => h9) rfl (tyX1_ok 14 (Nat.le_of_ble_eq_true rfl)) rfl rfl (Nat.le_of_ble_eq_true rfl) dX1_tryWhole_131 (kW (wn := [(oW, .inr (1, [.ref oC, .ref oK, .ref nw, .ref w1, .ref w2, .ref w3, .ref o7, .ref o8, .ref o9, .ref w4, .ref w5, .ref w6, .ref w7, .int ke, .int x_27, .int fsh, .int wi, .int ri, .int fm, .int lm])), (w1, .inl (cI, 801, .inl fW1)), (w2, .inl (cI, 801, .inl fW2)), (w3, .inl (cI, 801, .inl fW3)), (w4, .inl (cI, 200, .inl fW4)), (w5, .inl (cI, 200, .inl fW5)), (w6, .inl (cI, 200, .inl fW6)), (w7, .inl (cI, 200, .inl fW7)), (nw, .inr (5, [.ref aw, .int lw])), (aw, .inl (cI, 800, .inl fw)), (o8, .inr (8, [.ref oC, .ref oK, .int re8, .int la8, .int su8, .int le8])), (o9, .inr (8, [.ref oC, .ref oK, .int rea, .int laa, .int sua, .int lea])), (oC, .inr (2, [.ref o4, .ref o5])), (o4, .inr (10, [.ref a41, .ref a42, .ref a43, .int l4])), (a41, .inl (cI, 256, .inl f41)), (o5, .inr (10, [.ref a51, .ref a52, .ref a53, .int l5])), (a51, .inl (cI, 256, .inl f51)), (oK, .inr (3, [.ref k1, .ref k2, .int lK])), (k1, .inl (cI, 1024, .inl fK1)), (k2, .inl (cI, 1024, .inl fK2))]) rfl (fun H locs hPn hDn hSn => ?_))
              clear hP hD hS
              have hP := hPn
              have hD := hDn
              have hS := hSn
              clear hPn hDn hSn
              refine lv_aload_n hx hb dX1_tryWhole_134 rfl (lv_at hl 2 rfl) ?_
              refine lv_iload_n hx hb dX1_tryWhole_135 rfl (lv_at hl 3 rfl) ?_
              refine lv_iload_n hx hb dX1_tryWhole_136 rfl (lv_at hl 4 rfl) ?_
              refine lv_aload_n hx hb dX1_tryWhole_137 rfl (lv_at hl 2 rfl) ?_
              refine va_get (D := (dC, dI)) (ci := 1) (v := .ref o9) (C := RX1) (T := TX1) (N := 20) hx hb hts in_X1 hown hK hP 0 rfl rfl 8 (Nat.le_of_ble_eq_true rfl) (hts (.fieldLink RX1 62 "TextMender$Choices" "whole" "LTextMender$Reading;") (List.mem_of_getElem? (i := 1) rfl)) (fun _ h9 => h9) rfl dX1_tryWhole_138 ?_
              refine lv_aload_n hx hb dX1_tryWhole_141 rfl (lv_at hl 2 rfl) ?_
              refine va_get (D := (dC, dI)) (ci := 1) (v := .ref w1) (C := RX1) (T := TX1) (N := 20) hx hb hts in_X1 hown hK hP 0 rfl rfl 3 (Nat.le_of_ble_eq_true rfl) (hts (.fieldLink RX1 20 "TextMender$Choices" "tailFirst" "[I") (List.mem_of_getElem? (i := 8) rfl)) (fun _ h9 => h9) rfl dX1_tryWhole_142 ?_
              refine lv_iload_n hx hb dX1_tryWhole_145 rfl (lv_at hl 1 rfl) ?_
              refine va_iald hx hb hK hP 1 0 rfl rfl (v_in (by omega)) dX1_tryWhole_146 ?_
              refine lv_topi (fun x_28 ex_28 => ?_)
              have ho_x_28 : 0 ≤ x_28.toInt ∧ x_28.toInt ≤ 65535 := by rw [ex_28]; exact (tl_b (htl rea.toNatClampNeg (by omega) (by omega)) (fun e9 => c_23 (ex_22.trans e9))).1
              refine kV_i (rest := [.int b, .int a, .ref oW]) (q0 := 0) (ci := 8) hcf (f_X8_sumWith l dC dI cI cS H.size o9 oC oK k1 k2 rea laa sua lea lK fK1 fK2 x_28 (g_laa) (g_sua) (g_lK) (by omega) (hT) (ho) (hV)) kc_X8_sumWith gX1_tryWhole_X8_sumWith rfl rfl rfl ⟨Nat.le_of_ble_eq_true rfl, Nat.le_of_ble_eq_true rfl⟩ kX_t hK hP hD hS hA (posT mk_77 0) (posF mk_77 0) (kC_of mk_77 rfl rfl) (by decide +kernel) rfl rfl rfl hl rfl (Nat.le_of_ble_eq_true rfl) dX1_tryWhole_147 ⟨Nat.le_of_ble_eq_true rfl, Nat.le_of_ble_eq_true rfl⟩ (fun r_29 H locs hB hJ hSn => ?_)
              refine hB _ (fun hPD9 hf29_0 hf29_1 => ?_)
              clear hB
              obtain ⟨hPn, hDn⟩ := kJi (m := mk_77) hJ rfl hPD9.1 hPD9.2 (wn := [(oW, .inr (1, [.ref oC, .ref oK, .ref nw, .ref w1, .ref w2, .ref w3, .ref o7, .ref o8, .ref o9, .ref w4, .ref w5, .ref w6, .ref w7, .int ke, .int x_27, .int fsh, .int wi, .int ri, .int fm, .int lm])), (w1, .inl (cI, 801, .inl fW1)), (w2, .inl (cI, 801, .inl fW2)), (w3, .inl (cI, 801, .inl fW3)), (w4, .inl (cI, 200, .inl fW4)), (w5, .inl (cI, 200, .inl fW5)), (w6, .inl (cI, 200, .inl fW6)), (w7, .inl (cI, 200, .inl fW7)), (nw, .inr (5, [.ref aw, .int lw])), (aw, .inl (cI, 800, .inl fw)), (o8, .inr (8, [.ref oC, .ref oK, .int re8, .int la8, .int su8, .int le8])), (o9, .inr (8, [.ref oC, .ref oK, .int rea, .int laa, .int sua, .int lea])), (oC, .inr (2, [.ref o4, .ref o5])), (o4, .inr (10, [.ref a41, .ref a42, .ref a43, .int l4])), (a41, .inl (cI, 256, .inl f41)), (o5, .inr (10, [.ref a51, .ref a52, .ref a53, .int l5])), (a51, .inl (cI, 256, .inl f51)), (oK, .inr (3, [.ref k1, .ref k2, .int lK])), (k1, .inl (cI, 1024, .inl fK1)), (k2, .inl (cI, 1024, .inl fK2))]) rfl
              clear hP hD hS hJ hPD9
              have hP := hPn
              have hD := hDn
              have hS := hSn
              clear hPn hDn hSn
              refine lv_aload_n hx hb dX1_tryWhole_150 rfl (lv_at hl 2 rfl) ?_
              refine va_get (D := (dC, dI)) (ci := 1) (v := .ref w2) (C := RX1) (T := TX1) (N := 20) hx hb hts in_X1 hown hK hP 0 rfl rfl 4 (Nat.le_of_ble_eq_true rfl) (hts (.fieldLink RX1 24 "TextMender$Choices" "tailSum" "[I") (List.mem_of_getElem? (i := 9) rfl)) (fun _ h9 => h9) rfl dX1_tryWhole_151 ?_
              refine lv_iload_n hx hb dX1_tryWhole_154 rfl (lv_at hl 1 rfl) ?_
              refine va_iald hx hb hK hP 2 0 rfl rfl (v_in (by omega)) dX1_tryWhole_155 ?_
              refine lv_topi (fun x_30 ex_30 => ?_)
              have ho_x_30 : 0 ≤ x_30.toInt ∧ x_30.toInt ≤ 160000 := by rw [ex_30]; exact (tl_b (htl rea.toNatClampNeg (by omega) (by omega)) (fun e9 => c_23 (ex_22.trans e9))).2
              refine lv_iadd hx hb dX1_tryWhole_156 ?_
              refine lv_topi (fun x_31 ex_31 => ?_)
              have tx_31 : x_31.toInt = r_29.toInt + x_30.toInt := v_add ex_31 (by show -2147483648 ≤ r_29.toInt + x_30.toInt; omega) (by show r_29.toInt + x_30.toInt < 2147483648; omega)
              refine lv_iload hx hb dX1_tryWhole_157 (lv_at hl 0 rfl) ?_
              refine kV_v (rest := []) (q0 := 0) (ci := 1) hcf (f_X1_keep l dC dI cI cS H.size oW oC oK nw w1 w2 w3 o7 o8 o9 w4 w5 w6 w7 ke x_27 fsh wi ri fm lm fW4 fW5 fW6 fW7 a b x_31 x_25 (g_ke) (g_fsh) (g_fm) (g_lm) (by rw [show ke.toNatClampNeg = m200 tl.toNatClampNeg from (by omega)]; exact hsr)) kc_X1_keep gX1_tryWhole_X1_keep rfl rfl rfl ⟨Nat.le_of_ble_eq_true rfl, Nat.le_of_ble_eq_true rfl⟩ kX_t hK hP hD hS hA (posT mk_78 0) (posF mk_78 0) (kC_of mk_78 rfl rfl) (by decide +kernel) rfl rfl rfl hl rfl (Nat.le_of_ble_eq_true rfl) dX1_tryWhole_159 ⟨Nat.le_of_ble_eq_true rfl, Nat.le_of_ble_eq_true rfl⟩ (fun H locs hB hJ hSn => ?_)
              refine hB _ (fun ke_32 fW4_32 fW5_32 fW6_32 fW7_32 hPD9 hf32_0 hf32_1 hf32_2 => ?_)
              clear hB
              obtain ⟨hPn, hDn⟩ := kJi (m := mk_78) hJ rfl hPD9.1 hPD9.2 (wn := [(oW, .inr (1, [.ref oC, .ref oK, .ref nw, .ref w1, .ref w2, .ref w3, .ref o7, .ref o8, .ref o9, .ref w4, .ref w5, .ref w6, .ref w7, .int ke_32, .int x_27, .int fsh, .int wi, .int ri, .int fm, .int lm])), (w1, .inl (cI, 801, .inl fW1)), (w2, .inl (cI, 801, .inl fW2)), (w3, .inl (cI, 801, .inl fW3)), (w4, .inl (cI, 200, .inl fW4_32)), (w5, .inl (cI, 200, .inl fW5_32)), (w6, .inl (cI, 200, .inl fW6_32)), (w7, .inl (cI, 200, .inl fW7_32)), (nw, .inr (5, [.ref aw, .int lw])), (aw, .inl (cI, 800, .inl fw)), (o8, .inr (8, [.ref oC, .ref oK, .int re8, .int la8, .int su8, .int le8])), (o9, .inr (8, [.ref oC, .ref oK, .int rea, .int laa, .int sua, .int lea])), (oC, .inr (2, [.ref o4, .ref o5])), (o4, .inr (10, [.ref a41, .ref a42, .ref a43, .int l4])), (a41, .inl (cI, 256, .inl f41)), (o5, .inr (10, [.ref a51, .ref a52, .ref a53, .int l5])), (a51, .inl (cI, 256, .inl f51)), (oK, .inr (3, [.ref k1, .ref k2, .int lK])), (k1, .inl (cI, 1024, .inl fK1)), (k2, .inl (cI, 1024, .inl fK2))]) rfl
              clear hP hD hS hJ hPD9
              have hP := hPn
              have hD := hDn
              have hS := hSn
              clear hPn hDn hSn
              have ct8 := v_clamp (x := x_27) (by omega)
              have ck8 := v_clamp (x := ke_32) (by omega)
              exact kl_v hQQ hx hb hr hlocks hS dX1_tryWhole_162 (fun PZ9 kZ9 => kZ9 rea laa sua lea ke_32 x_27 fW4_32 fW5_32 fW6_32 fW7_32 (⟨hP, hD⟩) (hf32_0) (by show tl.toInt ≤ x_27.toInt ∧ x_27.toInt ≤ tl.toInt + 1; omega) (m2_s' hke hf32_1 (by omega)) ((tw_yes (x1 := a.toInt) (x2 := b.toInt) (sm := x_31) (ls := x_25) (by omega) hrs (htl rea.toNatClampNeg (by omega) (by omega)) ex_28 ex_30 ex_22 c_23 hf29_1 (by omega) (by omega) (by omega)).elim (fun e9 h9 => stp_y ((hVt e9).mpr h9.1) (by omega) (INS_e (kp_id2 hf32_2 (by omega) (by have q9 := m2_s hke hf32_1; omega)) (fun k hk => (h9.2 k hk).symm)))))
          · have tc_23 : x_22.toInt = (-1) := v_eq c_23
            exact kl_v hQQ hx hb hr hlocks hS dX1_tryWhole_99 (fun PZ9 kZ9 => kZ9 rea laa sua lea ke tl fW4 fW5 fW6 fW7 (⟨hP, hD⟩) (g_ke) (by show tl.toInt ≤ tl.toInt ∧ tl.toInt ≤ tl.toInt + 1; omega) (hke) (stp_n (fun e9 w9 => tw_no (by omega) hrs (by omega) (htl rea.toNatClampNeg (by omega) (by omega)) ex_22 (Or.inl c_23) e9 ((hVt e9).mp w9)) rfl))
        · have tc_18 : rea.toInt ≤ lm.toInt := v_nlt c_18
          refine lv_aload_n hx hb dX1_tryWhole_34 rfl (lv_at hl 1 rfl) ?_
          refine va_get (D := (dC, dI)) (ci := 1) (v := .ref o9) (C := RX1) (T := TX1) (N := 20) hx hb hts in_X1 hown hK hP 0 rfl rfl 8 (Nat.le_of_ble_eq_true rfl) (hts (.fieldLink RX1 62 "TextMender$Choices" "whole" "LTextMender$Reading;") (List.mem_of_getElem? (i := 1) rfl)) (fun _ h9 => h9) rfl dX1_tryWhole_35 ?_
          refine lv_aload_n hx hb dX1_tryWhole_38 rfl (lv_at hl 1 rfl) ?_
          refine va_get (D := (dC, dI)) (ci := 1) (v := .int wi) (C := RX1) (T := TX1) (N := 20) hx hb hts in_X1 hown hK hP 0 rfl rfl 16 (Nat.le_of_ble_eq_true rfl) (hts (.fieldLink RX1 76 "TextMender$Choices" "writtenIn" "I") (List.mem_of_getElem? (i := 4) rfl)) (fun _ h9 => h9) rfl dX1_tryWhole_39 ?_
          refine lv_aload_n hx hb dX1_tryWhole_42 rfl (lv_at hl 1 rfl) ?_
          refine va_get (D := (dC, dI)) (ci := 1) (v := .ref nw) (C := RX1) (T := TX1) (N := 20) hx hb hts in_X1 hown hK hP 0 rfl rfl 2 (Nat.le_of_ble_eq_true rfl) (hts (.fieldLink RX1 16 "TextMender$Choices" "bytes" "LTextMender$Numbers;") (List.mem_of_getElem? (i := 5) rfl)) (fun _ h9 => h9) rfl dX1_tryWhole_43 ?_
          refine lv_aload_n hx hb dX1_tryWhole_46 rfl (lv_at hl 1 rfl) ?_
          refine va_get (D := (dC, dI)) (ci := 1) (v := .ref nw) (C := RX1) (T := TX1) (N := 20) hx hb hts in_X1 hown hK hP 0 rfl rfl 2 (Nat.le_of_ble_eq_true rfl) (hts (.fieldLink RX1 16 "TextMender$Choices" "bytes" "LTextMender$Numbers;") (List.mem_of_getElem? (i := 5) rfl)) (fun _ h9 => h9) rfl dX1_tryWhole_47 ?_
          refine kV_i (rest := [.ref nw, .int wi, .ref o9]) (q0 := 0) (ci := 5) hcf (m_X5_length l dC dI cI cS H.size nw aw lw ) kc_X5_length gX1_tryWhole_X5_length rfl rfl rfl ⟨Nat.le_of_ble_eq_true rfl, Nat.le_of_ble_eq_true rfl⟩ kX_t hK hP hD hS hA (posT mk_79 0) (posF mk_79 0) (kC_of mk_79 rfl rfl) (by decide +kernel) rfl rfl rfl hl rfl (Nat.le_of_ble_eq_true rfl) dX1_tryWhole_50 ⟨Nat.le_of_ble_eq_true rfl, Nat.le_of_ble_eq_true rfl⟩ (fun r_33 H locs hB hJ hSn => ?_)
          refine hB _ (fun hPD9 hf33_0 => ?_)
          clear hB
          obtain ⟨hPn, hDn⟩ := kJi (m := mk_79) hJ rfl hPD9.1 hPD9.2 (wn := [(oW, .inr (1, [.ref oC, .ref oK, .ref nw, .ref w1, .ref w2, .ref w3, .ref o7, .ref o8, .ref o9, .ref w4, .ref w5, .ref w6, .ref w7, .int ke, .int tl, .int fsh, .int wi, .int ri, .int fm, .int lm])), (w1, .inl (cI, 801, .inl fW1)), (w2, .inl (cI, 801, .inl fW2)), (w3, .inl (cI, 801, .inl fW3)), (w4, .inl (cI, 200, .inl fW4)), (w5, .inl (cI, 200, .inl fW5)), (w6, .inl (cI, 200, .inl fW6)), (w7, .inl (cI, 200, .inl fW7)), (nw, .inr (5, [.ref aw, .int lw])), (aw, .inl (cI, 800, .inl fw)), (o8, .inr (8, [.ref oC, .ref oK, .int re8, .int la8, .int su8, .int le8])), (o9, .inr (8, [.ref oC, .ref oK, .int rea, .int laa, .int sua, .int lea])), (oC, .inr (2, [.ref o4, .ref o5])), (o4, .inr (10, [.ref a41, .ref a42, .ref a43, .int l4])), (a41, .inl (cI, 256, .inl f41)), (o5, .inr (10, [.ref a51, .ref a52, .ref a53, .int l5])), (a51, .inl (cI, 256, .inl f51)), (oK, .inr (3, [.ref k1, .ref k2, .int lK])), (k1, .inl (cI, 1024, .inl fK1)), (k2, .inl (cI, 1024, .inl fK2))]) rfl
          clear hP hD hS hJ hPD9
          have hP := hPn
          have hD := hDn
          have hS := hSn
          clear hPn hDn hSn
          rw [hf33_0]
          refine kV_i (rest := []) (q0 := 0) (ci := 8) hcf (f_X8_step l dC dI cI cS H.size o9 nw oC oK o4 o5 a41 a42 a43 a51 a52 a53 k1 k2 aw 800 rea laa sua lea l4 f41 l5 f51 lK fK1 fK2 lw fw wi lw (g_laa) (g_lK) (by omega) (by omega) (by omega) (hby) (hL4) (hL5) (hT) (ho) (hV) (by omega)) kc_X8_step gX1_tryWhole_X8_step rfl rfl rfl ⟨Nat.le_of_ble_eq_true rfl, Nat.le_of_ble_eq_true rfl⟩ (kX_1 hN52) hK hP hD hS hA ([2, 3, 4, 5, 6, 7, 8, 9, 10, 0, 1].filterMap (fun j => (posT mk_80 0)[j]?)) (posF mk_80 0) (kCp (ws := [(nw, .inr (5, [.ref aw, .int lw])), (aw, .inl (cI, 800, .inl fw)), (o9, .inr (8, [.ref oC, .ref oK, .int rea, .int laa, .int sua, .int lea])), (oC, .inr (2, [.ref o4, .ref o5])), (o4, .inr (10, [.ref a41, .ref a42, .ref a43, .int l4])), (a41, .inl (cI, 256, .inl f41)), (o5, .inr (10, [.ref a51, .ref a52, .ref a53, .int l5])), (a51, .inl (cI, 256, .inl f51)), (oK, .inr (3, [.ref k1, .ref k2, .int lK])), (k1, .inl (cI, 1024, .inl fK1)), (k2, .inl (cI, 1024, .inl fK2))]) (kC_of mk_80 rfl rfl) rfl) (by decide +kernel) rfl rfl rfl hl rfl (Nat.le_of_ble_eq_true rfl) dX1_tryWhole_53 ⟨Nat.le_of_ble_eq_true rfl, Nat.le_of_ble_eq_true rfl⟩ (fun r_34 H locs hB hJ hSn => ?_)
          refine hB _ (fun reE_34 laE_34 suE_34 leE_34 hPD9 hf34_0 hf34_1 hf34_2 hf34_3 => ?_)
          clear hB
          obtain ⟨hPn, hDn⟩ := kJm (m := mk_80) hJ rfl hPD9.1 hPD9.2 [9, 10, 0, 1, 2, 3, 4, 5, 6, 7, 8] (by decide +kernel) (ws := [(nw, .inr (5, [.ref aw, .int lw])), (aw, .inl (cI, 800, .inl fw)), (o9, .inr (8, [.ref oC, .ref oK, .int reE_34, .int laE_34, .int suE_34, .int leE_34])), (oC, .inr (2, [.ref o4, .ref o5])), (o4, .inr (10, [.ref a41, .ref a42, .ref a43, .int l4])), (a41, .inl (cI, 256, .inl f41)), (o5, .inr (10, [.ref a51, .ref a52, .ref a53, .int l5])), (a51, .inl (cI, 256, .inl f51)), (oK, .inr (3, [.ref k1, .ref k2, .int lK])), (k1, .inl (cI, 1024, .inl fK1)), (k2, .inl (cI, 1024, .inl fK2))]) rfl (wn := [(oW, .inr (1, [.ref oC, .ref oK, .ref nw, .ref w1, .ref w2, .ref w3, .ref o7, .ref o8, .ref o9, .ref w4, .ref w5, .ref w6, .ref w7, .int ke, .int tl, .int fsh, .int wi, .int ri, .int fm, .int lm])), (w1, .inl (cI, 801, .inl fW1)), (w2, .inl (cI, 801, .inl fW2)), (w3, .inl (cI, 801, .inl fW3)), (w4, .inl (cI, 200, .inl fW4)), (w5, .inl (cI, 200, .inl fW5)), (w6, .inl (cI, 200, .inl fW6)), (w7, .inl (cI, 200, .inl fW7)), (nw, .inr (5, [.ref aw, .int lw])), (aw, .inl (cI, 800, .inl fw)), (o8, .inr (8, [.ref oC, .ref oK, .int re8, .int la8, .int su8, .int le8])), (o9, .inr (8, [.ref oC, .ref oK, .int reE_34, .int laE_34, .int suE_34, .int leE_34])), (oC, .inr (2, [.ref o4, .ref o5])), (o4, .inr (10, [.ref a41, .ref a42, .ref a43, .int l4])), (a41, .inl (cI, 256, .inl f41)), (o5, .inr (10, [.ref a51, .ref a52, .ref a53, .int l5])), (a51, .inl (cI, 256, .inl f51)), (oK, .inr (3, [.ref k1, .ref k2, .int lK])), (k1, .inl (cI, 1024, .inl fK1)), (k2, .inl (cI, 1024, .inl fK2))]) rfl
          clear hP hD hS hJ hPD9
          have hP := hPn
          have hD := hDn
          have hS := hSn
          clear hPn hDn hSn
          refine lv_if_ne (tgt := 60) hx hb dX1_tryWhole_56 (by decide) (fun c_35 => ?_) (fun c_35 => ?_)
          · have tc_35 : ¬ r_34.toInt = 0 := v_ne c_35
            have hs19 := s8_1 hf34_3 (by omega)
            obtain ⟨x_36, ex_36⟩ : ∃ y : Int32, y = k + 1 := ⟨_, rfl⟩
            have tx_36 : x_36.toInt = k.toInt + 1 := v_addR (l2 := 1) (h2 := 1) ex_36 g_k (by decide) (by decide) (by decide)
            refine lv_iinc (v := x_36) (lv' := [(3, .int x_36), (0, .ref oW), (1, .int a), (2, .int b)]) hx hb dX1_tryWhole_60 hl (k := 0) rfl (by rw [ex_36]; rfl) (by decide) rfl (fun ls hl => ?_)
            refine lv_goto (tgt := 13) hx hb dX1_tryWhole_63 (by decide) ?_
            exact ih_13 x_36 reE_34 laE_34 suE_34 leE_34 _ _ _ (ms_lt hm_13 (by show ((800 - x_36.toInt : Int)) < 800 - k.toInt; omega) (by show (0 : Int) < 800 - k.toInt; omega)) (by show 0 ≤ x_36.toInt ∧ x_36.toInt ≤ 800; omega) (by show 0 ≤ reE_34.toInt ∧ reE_34.toInt ≤ 2400; omega) (hf34_0) (by show 0 ≤ suE_34.toInt ∧ suE_34.toInt ≤ 480000; omega) (by show 0 ≤ leE_34.toInt ∧ leE_34.toInt ≤ 2400; omega) (by show suE_34.toInt ≤ 200 * leE_34.toInt ∧ leE_34.toInt ≤ reE_34.toInt ∧ reE_34.toInt ≤ lw.toInt; omega) (by show x_36.toInt ≤ reE_34.toInt; omega) (RS_s hrs hf34_3) hP hD hS (lv_sub hl [0, 1, 2, 3] rfl)
          · have tc_35 : r_34.toInt = 0 := v_eq c_35
            exact kl_v hQQ hx hb hr hlocks hS dX1_tryWhole_59 (fun PZ9 kZ9 => kZ9 reE_34 laE_34 suE_34 leE_34 ke tl fW4 fW5 fW6 fW7 (⟨hP, hD⟩) (g_ke) (by show tl.toInt ≤ tl.toInt ∧ tl.toInt ≤ tl.toInt + 1; omega) (hke) (stp_n (fun e9 w9 => tw_stop hrs (by omega) (s8_0' hf34_3 (by omega)) e9 ((hVt e9).mp w9)) rfl))
  exact LOOP_13 _ 0 reE_1 laE_1 suE_1 leE_1 _ _ _ (ms_s _) (by decide) (by show 0 ≤ reE_1.toInt ∧ reE_1.toInt ≤ 2400; omega) (by show 0 ≤ laE_1.toInt ∧ laE_1.toInt ≤ 65535; omega) (by show 0 ≤ suE_1.toInt ∧ suE_1.toInt ≤ 480000; omega) (by show 0 ≤ leE_1.toInt ∧ leE_1.toInt ≤ 2400; omega) (by show suE_1.toInt ≤ 200 * leE_1.toInt ∧ leE_1.toInt ≤ reE_1.toInt ∧ reE_1.toInt ≤ lw.toInt; omega) (by show 0 ≤ reE_1.toInt; omega) (by rw [h1_1, h2_1, h3_1, h4_1]; exact hrs8) hP hD hS (lv_sub hl [0, 1, 2, 3] rfl)

end

/-! 5j.a.rows -/
section
set_option maxRecDepth 100000 in
theorem dA337_cX1_tryLast : kDec cX1_tryLast [(0, .iconst 0, 1), (1, .istore_n 2, 1), (2, .iload_n 2, 1), (3, .sipush 256, 3), (6, .if_icmp .ge 50, 3), (56, .return_, 1), (9, .aload_n 0, 1), (10, .getfield 42, 3), (13, .aload_n 0, 1), (14, .getfield 79, 3), (17, .iload_n 2, 1), (18, .invokevirtual 127, 3), (21, .iconst (-1), 1), (22, .if_icmp .ne 28, 3), (50, .iinc 2 1, 3), (53, .goto (-51), 3), (25, .aload_n 0, 1), (26, .getfield 16, 3), (29, .aload_n 0, 1), (30, .getfield 85, 3), (33, .iload_n 2, 1), (34, .invokevirtual 131, 3), (37, .aload_n 0, 1), (38, .invokevirtual 155, 3)] = true := by decide +kernel
theorem dX1_tryLast_0 : decode cX1_tryLast 0 = .ok (.iconst 0, 1) := kDec_at dA337_cX1_tryLast 0 rfl
theorem dX1_tryLast_1 : decode cX1_tryLast 1 = .ok (.istore_n 2, 1) := kDec_at dA337_cX1_tryLast 1 rfl
theorem dX1_tryLast_2 : decode cX1_tryLast 2 = .ok (.iload_n 2, 1) := kDec_at dA337_cX1_tryLast 2 rfl
theorem dX1_tryLast_3 : decode cX1_tryLast 3 = .ok (.sipush 256, 3) := kDec_at dA337_cX1_tryLast 3 rfl
theorem dX1_tryLast_6 : decode cX1_tryLast 6 = .ok (.if_icmp .ge 50, 3) := kDec_at dA337_cX1_tryLast 4 rfl
theorem dX1_tryLast_56 : decode cX1_tryLast 56 = .ok (.return_, 1) := kDec_at dA337_cX1_tryLast 5 rfl
theorem dX1_tryLast_9 : decode cX1_tryLast 9 = .ok (.aload_n 0, 1) := kDec_at dA337_cX1_tryLast 6 rfl
theorem dX1_tryLast_10 : decode cX1_tryLast 10 = .ok (.getfield 42, 3) := kDec_at dA337_cX1_tryLast 7 rfl
theorem dX1_tryLast_13 : decode cX1_tryLast 13 = .ok (.aload_n 0, 1) := kDec_at dA337_cX1_tryLast 8 rfl
theorem dX1_tryLast_14 : decode cX1_tryLast 14 = .ok (.getfield 79, 3) := kDec_at dA337_cX1_tryLast 9 rfl
theorem dX1_tryLast_17 : decode cX1_tryLast 17 = .ok (.iload_n 2, 1) := kDec_at dA337_cX1_tryLast 10 rfl
theorem dX1_tryLast_18 : decode cX1_tryLast 18 = .ok (.invokevirtual 127, 3) := kDec_at dA337_cX1_tryLast 11 rfl
theorem dX1_tryLast_21 : decode cX1_tryLast 21 = .ok (.iconst (-1), 1) := kDec_at dA337_cX1_tryLast 12 rfl
theorem dX1_tryLast_22 : decode cX1_tryLast 22 = .ok (.if_icmp .ne 28, 3) := kDec_at dA337_cX1_tryLast 13 rfl
theorem dX1_tryLast_50 : decode cX1_tryLast 50 = .ok (.iinc 2 1, 3) := kDec_at dA337_cX1_tryLast 14 rfl
theorem dX1_tryLast_53 : decode cX1_tryLast 53 = .ok (.goto (-51), 3) := kDec_at dA337_cX1_tryLast 15 rfl
theorem dX1_tryLast_25 : decode cX1_tryLast 25 = .ok (.aload_n 0, 1) := kDec_at dA337_cX1_tryLast 16 rfl
theorem dX1_tryLast_26 : decode cX1_tryLast 26 = .ok (.getfield 16, 3) := kDec_at dA337_cX1_tryLast 17 rfl
theorem dX1_tryLast_29 : decode cX1_tryLast 29 = .ok (.aload_n 0, 1) := kDec_at dA337_cX1_tryLast 18 rfl
theorem dX1_tryLast_30 : decode cX1_tryLast 30 = .ok (.getfield 85, 3) := kDec_at dA337_cX1_tryLast 19 rfl
theorem dX1_tryLast_33 : decode cX1_tryLast 33 = .ok (.iload_n 2, 1) := kDec_at dA337_cX1_tryLast 20 rfl
theorem dX1_tryLast_34 : decode cX1_tryLast 34 = .ok (.invokevirtual 131, 3) := kDec_at dA337_cX1_tryLast 21 rfl
theorem dX1_tryLast_37 : decode cX1_tryLast 37 = .ok (.aload_n 0, 1) := kDec_at dA337_cX1_tryLast 22 rfl
theorem dX1_tryLast_38 : decode cX1_tryLast 38 = .ok (.invokevirtual 155, 3) := kDec_at dA337_cX1_tryLast 23 rfl
set_option maxRecDepth 20000 in
theorem ggX1_tryLast_X2_letterAlone : GoodIn wsX1_tryLast wsX2_letterAlone := goodIn_sub (fun _ h => List.mem_cons_of_mem _ (List.mem_append_left _ (List.mem_append_left _ (List.mem_append_left _ (List.mem_append_right _ (h)))))) gX2_letterAlone_all
set_option maxRecDepth 20000 in
theorem gX1_tryLast_X2_letterAlone : GoodIn wsX1_tryLast (wsV RX1 127 RX2 yX2_letterAlone wsX2_letterAlone) := goodIn_app (goodIn_r _ [5, 6, 7, 8] rfl (by decide +kernel)) ggX1_tryLast_X2_letterAlone
set_option maxRecDepth 20000 in
theorem gX5_set_all : wsX5_set.all goodWord = true := by
  unfold wsX5_set
  exact good_c (by decide +kernel) (good_a ((by decide +kernel)) gX5_clsall)
set_option maxRecDepth 20000 in
theorem ggX1_tryLast_X5_set : GoodIn wsX1_tryLast wsX5_set := goodIn_sub (fun _ h => List.mem_cons_of_mem _ (List.mem_append_left _ (List.mem_append_left _ (List.mem_append_right _ (h))))) gX5_set_all
set_option maxRecDepth 20000 in
theorem gX1_tryLast_X5_set : GoodIn wsX1_tryLast (wsV RX1 131 RX5 yX5_set wsX5_set) := goodIn_app (goodIn_r _ [9, 10, 11, 12] rfl (by decide +kernel)) ggX1_tryLast_X5_set
set_option maxRecDepth 20000 in
theorem gX1_comesBack_all : wsX1_comesBack.all goodWord = true := by
  unfold wsX1_comesBack
  exact good_c (by decide +kernel) (good_a (good_a (good_a (good_a (good_a (good_a ((by decide +kernel)) gX1_clsall) gX5_clsall) gX2_clsall) gX10_clsall) gX5_length_all) gX2_decode_all)
set_option maxRecDepth 20000 in
theorem ggX1_tryLast_X1_comesBack : GoodIn wsX1_tryLast wsX1_comesBack := goodIn_sub (fun _ h => List.mem_cons_of_mem _ (List.mem_append_left _ (List.mem_append_right _ (h)))) gX1_comesBack_all
set_option maxRecDepth 20000 in
theorem gX1_tryLast_X1_comesBack : GoodIn wsX1_tryLast (wsV RX1 155 RX1 yX1_comesBack wsX1_comesBack) := goodIn_app (goodIn_r _ [13, 14, 15, 16] rfl (by decide +kernel)) ggX1_tryLast_X1_comesBack
set_option maxRecDepth 100000 in
theorem dA338_cX1_tryLast : kDec cX1_tryLast [(41, .ifCond .eq 9, 3), (44, .aload_n 0, 1), (45, .iload_n 1, 1), (46, .iload_n 2, 1), (47, .invokevirtual 159, 3)] = true := by decide +kernel
theorem dX1_tryLast_41 : decode cX1_tryLast 41 = .ok (.ifCond .eq 9, 3) := kDec_at dA338_cX1_tryLast 0 rfl
theorem dX1_tryLast_44 : decode cX1_tryLast 44 = .ok (.aload_n 0, 1) := kDec_at dA338_cX1_tryLast 1 rfl
theorem dX1_tryLast_45 : decode cX1_tryLast 45 = .ok (.iload_n 1, 1) := kDec_at dA338_cX1_tryLast 2 rfl
theorem dX1_tryLast_46 : decode cX1_tryLast 46 = .ok (.iload_n 2, 1) := kDec_at dA338_cX1_tryLast 3 rfl
theorem dX1_tryLast_47 : decode cX1_tryLast 47 = .ok (.invokevirtual 159, 3) := kDec_at dA338_cX1_tryLast 4 rfl
set_option maxRecDepth 20000 in
theorem gX1_tryWhole_all : wsX1_tryWhole.all goodWord = true := by
  unfold wsX1_tryWhole
  exact good_c (by decide +kernel) (good_a (good_a (good_a (good_a (good_a (good_a (good_a (good_a (good_a (good_a (good_a (good_a (good_a ((by decide +kernel)) gX1_clsall) gX8_clsall) gX5_clsall) gX2_clsall) gX10_clsall) gX3_clsall) gX8_takeAll_all) gX8_reached_all) gX5_length_all) gX8_step_all) gX8_letters_all) gX8_sumWith_all) gX1_keep_all)
set_option maxRecDepth 20000 in
theorem ggX1_tryLast_X1_tryWhole : GoodIn wsX1_tryLast wsX1_tryWhole := goodIn_sub (fun _ h => List.mem_cons_of_mem _ (List.mem_append_right _ (h))) gX1_tryWhole_all
set_option maxRecDepth 20000 in
theorem gX1_tryLast_X1_tryWhole : GoodIn wsX1_tryLast (wsV RX1 159 RX1 yX1_tryWhole wsX1_tryWhole) := goodIn_app (goodIn_r _ [17, 18, 19, 16] rfl (by decide +kernel)) ggX1_tryLast_X1_tryWhole

end

/-! 5j.chs -/
section
theorem stp_cg {V V' : Nat → (Nat → Int) → Prop} {t n n' : Nat} {B A : Nat → Nat → Int} (h : STP V t n B n' A) (hV : ∀ e, V t e ↔ V' t e) : STP V' t n B n' A := by
  rcases h with ⟨e, a1, a2, a3⟩ | ⟨a1, a2, a3⟩
  · exact Or.inl ⟨e, (hV e).mp a1, a2, a3⟩
  · exact Or.inr ⟨fun e w => a1 e ((hV e).mpr w), a2, a3⟩
theorem fld_s {V : Nat → (Nat → Int) → Prop} {s n0 n1 n : Nat} {B A1 A : Nat → Nat → Int} {j j' : Nat} (h : FLD V s n0 B j n1 A1) (hs : STP V (s + j) n1 A1 n A) (e : j' = j + 1) : FLD V s n0 B j' n A := by
  subst e
  exact ⟨n1, A1, h, hs⟩
theorem fld_n {V : Nat → (Nat → Int) → Prop} {s n0 n1 : Nat} {B A1 : Nat → Nat → Int} {j j' : Nat} (h : FLD V s n0 B j n1 A1) (hs : ∀ e, ¬ V (s + j) e) (e : j' = j + 1) : FLD V s n0 B j' n1 A1 := fld_s h (stp_n hs rfl) e
theorem bv_iff {a b fm lm : Int32} {L4 L5 g : Nat → Int32} {T : Int32 → Int32 → Int32} {m x1 x2 : Int} {e : Nat → Int} (hb : dl b L4 L5 g m lm.toNatClampNeg = 0 ∧ (fm.toInt = -1 ∨ dl b L4 L5 g m fm.toNatClampNeg = 0)) : BVG a b L4 L5 T g m fm lm x1 x2 e ↔ RDV a L4 L5 T g m x1 x2 e := ⟨fun h => h.2, fun h => ⟨hb, h⟩⟩
theorem ent_s {a b a' b' s l : Int} {k : Nat} (h : (a = -1 ∧ a' = b ∧ b' = -1) ∨ (¬ a = -1 ∧ a' = a ∧ b' = b)) (hb : ¬ b = -1) : ent a b s l k = if k = 0 then a' else if k = 1 then b' else if k = 2 then s else l := by
  unfold ent
  rcases h with ⟨h1, h2, h3⟩ | ⟨h1, h2, h3⟩
  · rw [if_pos h1, if_pos h1, h2, h3]
  · rw [if_neg h1, if_neg h1, h2, h3]

theorem cb_0 {r : Int32} {P : Prop} (h : (r = 1 ∧ P) ∨ (r = 0 ∧ ¬ P)) (h0 : r.toInt = 0) : ¬ P := by
  rcases h with ⟨a, _⟩ | ⟨_, a⟩
  · rw [a] at h0; exact absurd h0 (by decide)
  · exact a
theorem cb_1 {r : Int32} {P : Prop} (h : (r = 1 ∧ P) ∨ (r = 0 ∧ ¬ P)) (h1 : ¬ r.toInt = 0) : P := h.elim (fun z => z.2) (fun z => absurd (by rw [z.1]; rfl) h1)

set_option maxHeartbeats 40000000 in
set_option maxRecDepth 100000 in
theorem f_X1_tryLast (l : Launch) (dC : Nat → ClassId) (dI : Nat → Nat → Nat) (cI cS : ClassId) (sz : Nat) (oW : Nat) (oC : Nat) (oK : Nat) (nw : Nat) (w1 : Nat) (w2 : Nat) (w3 : Nat) (o7 : Nat) (o8 : Nat) (o9 : Nat) (w4 : Nat) (w5 : Nat) (w6 : Nat) (w7 : Nat) (aw : Nat) (o4 : Nat) (o5 : Nat) (a41 : Nat) (a42 : Nat) (a43 : Nat) (a51 : Nat) (a52 : Nat) (a53 : Nat) (k1 : Nat) (k2 : Nat) (ke : Int32) (tl : Int32) (fsh : Int32) (wi : Int32) (ri : Int32) (fm : Int32) (lm : Int32) (fW1 : Nat → Int32) (fW2 : Nat → Int32) (fW3 : Nat → Int32) (fW4 : Nat → Int32) (fW5 : Nat → Int32) (fW6 : Nat → Int32) (fW7 : Nat → Int32) (lw : Int32) (fw : Nat → Int32) (re8 : Int32) (la8 : Int32) (su8 : Int32) (le8 : Int32) (re9 : Int32) (la9 : Int32) (su9 : Int32) (le9 : Int32) (l4 : Int32) (f41 : Nat → Int32) (l5 : Int32) (f51 : Nat → Int32) (lK : Int32) (fK1 : Nat → Int32) (fK2 : Nat → Int32) (a : Int32) (gV : Nat → (Nat → Int) → Prop) (gt : Nat) (g_ke : 0 ≤ ke.toInt ∧ ke.toInt ≤ 200) (g_fsh : 0 ≤ fsh.toInt ∧ fsh.toInt ≤ 1) (g_fm : -1 ≤ fm.toInt ∧ fm.toInt ≤ 800) (g_lm : -1 ≤ lm.toInt ∧ lm.toInt ≤ 800) (g_lw : 0 ≤ lw.toInt ∧ lw.toInt ≤ 800) (g_la8 : 0 ≤ la8.toInt ∧ la8.toInt ≤ 65535) (g_lK : 0 ≤ lK.toInt ∧ lK.toInt ≤ 300) (hlw : lm.toInt < lw.toInt) (hlm0 : 0 ≤ lm.toInt) (hby : prg lw.toInt 0 255 fw) (hL4 : prg 256 (-1) 65535 f41) (hL5 : prg 256 (-1) 65535 f51) (hT : HT 1024 1023 hsK fK1 fK2) (ho : (occ fK2 1024 : Int) ≤ lK.toInt) (hVk : prg 1024 (-1) 200 fK2) (htl : ∀ p : Nat, lm.toInt < (p : Int) → (p : Int) ≤ lw.toInt → TLK (tcC fK1 fK2) (dl wi f41 f51 fw lw.toInt) (dx wi f41 f51 fw lw.toInt) lw.toNatClampNeg fW1 fW2 fW3 p) (hn88 : 0 ≤ su8.toInt ∧ su8.toInt ≤ 200 * le8.toInt ∧ 0 ≤ le8.toInt ∧ le8.toInt ≤ re8.toInt ∧ re8.toInt ≤ lm.toInt) (hke : ke.toInt = (m200 tl.toNatClampNeg : Int)) (hsr : srtA (m200 tl.toNatClampNeg) (CA fW4 fW5 fW6 fW7)) (htl0 : 0 ≤ tl.toInt ∧ tl.toInt ≤ 65280) (hrs8 : RS (tcC fK1 fK2) re8 la8 su8 le8 (dl wi f41 f51 fw lm.toInt) (dx wi f41 f51 fw lm.toInt)) (hV : ∀ v : Int32, 0 ≤ v.toInt → v.toInt ≤ 255 → ∀ e, gV (gt + v.toNatClampNeg) e ↔ (alF ri v f41 f51 = -1 ∧ BVG wi ri f41 f51 (tcC fK1 fK2) (upd fw lm.toNatClampNeg v) lw.toInt fm lm (a.toInt) (v.toInt) e)) : kMv l yX1_tryLast wsX1_tryLast ({ frames := 5, cells := 0, slots := 0, locals := 123 } : Room) [.ref oW, .int a] sz (dC, dI) vwCl [(cI, .int), (cS, .short)] [(oW, .inr (1, [.ref oC, .ref oK, .ref nw, .ref w1, .ref w2, .ref w3, .ref o7, .ref o8, .ref o9, .ref w4, .ref w5, .ref w6, .ref w7, .int ke, .int tl, .int fsh, .int wi, .int ri, .int fm, .int lm])), (w1, .inl (cI, 801, .inl fW1)), (w2, .inl (cI, 801, .inl fW2)), (w3, .inl (cI, 801, .inl fW3)), (w4, .inl (cI, 200, .inl fW4)), (w5, .inl (cI, 200, .inl fW5)), (w6, .inl (cI, 200, .inl fW6)), (w7, .inl (cI, 200, .inl fW7)), (nw, .inr (5, [.ref aw, .int lw])), (aw, .inl (cI, 800, .inl fw)), (o8, .inr (8, [.ref oC, .ref oK, .int re8, .int la8, .int su8, .int le8])), (o9, .inr (8, [.ref oC, .ref oK, .int re9, .int la9, .int su9, .int le9])), (oC, .inr (2, [.ref o4, .ref o5])), (o4, .inr (10, [.ref a41, .ref a42, .ref a43, .int l4])), (a41, .inl (cI, 256, .inl f41)), (o5, .inr (10, [.ref a51, .ref a52, .ref a53, .int l5])), (a51, .inl (cI, 256, .inl f51)), (oK, .inr (3, [.ref k1, .ref k2, .int lK])), (k1, .inl (cI, 1024, .inl fK1)), (k2, .inl (cI, 1024, .inl fK2))] (va_Nw (.methodLinkNest RX2 52 yX11_isLetter "TextMender")) 0 0 (fun (A : Nat → Prop) (hh9 : Heap) => ∀ PZ9 : Prop, (∀ (re9' : Int32) (la9' : Int32) (su9' : Int32) (le9' : Int32) (ke' : Int32) (tl' : Int32) (fW4' : Nat → Int32) (fW5' : Nat → Int32) (fW6' : Nat → Int32) (fW7' : Nat → Int32) (fw' : Nat → Int32), kPD (dC, dI) vwCl A [(oW, .inr (1, [.ref oC, .ref oK, .ref nw, .ref w1, .ref w2, .ref w3, .ref o7, .ref o8, .ref o9, .ref w4, .ref w5, .ref w6, .ref w7, .int ke', .int tl', .int fsh, .int wi, .int ri, .int fm, .int lm])), (w1, .inl (cI, 801, .inl fW1)), (w2, .inl (cI, 801, .inl fW2)), (w3, .inl (cI, 801, .inl fW3)), (w4, .inl (cI, 200, .inl fW4')), (w5, .inl (cI, 200, .inl fW5')), (w6, .inl (cI, 200, .inl fW6')), (w7, .inl (cI, 200, .inl fW7')), (nw, .inr (5, [.ref aw, .int lw])), (aw, .inl (cI, 800, .inl fw')), (o8, .inr (8, [.ref oC, .ref oK, .int re8, .int la8, .int su8, .int le8])), (o9, .inr (8, [.ref oC, .ref oK, .int re9', .int la9', .int su9', .int le9'])), (oC, .inr (2, [.ref o4, .ref o5])), (o4, .inr (10, [.ref a41, .ref a42, .ref a43, .int l4])), (a41, .inl (cI, 256, .inl f41)), (o5, .inr (10, [.ref a51, .ref a52, .ref a53, .int l5])), (a51, .inl (cI, 256, .inl f51)), (oK, .inr (3, [.ref k1, .ref k2, .int lK])), (k1, .inl (cI, 1024, .inl fK1)), (k2, .inl (cI, 1024, .inl fK2))] hh9 → (0 ≤ ke'.toInt ∧ ke'.toInt ≤ 200) → (tl.toInt ≤ tl'.toInt ∧ tl'.toInt ≤ tl.toInt + 256) → (ke'.toInt = (m200 tl'.toNatClampNeg : Int)) → ((∀ x : Int32, upd fw' lm.toNatClampNeg x = upd fw lm.toNatClampNeg x) ∧ prg lw.toInt 0 255 fw') → (FLD gV gt tl.toNatClampNeg (CA fW4 fW5 fW6 fW7) (256) tl'.toNatClampNeg (CA fW4' fW5' fW6' fW7')) → PZ9) → PZ9) := by
  refine kMv_of (cc := cX1_tryLast) (maxL := 3) (ret := none) (lv := [(0, .ref oW), (1, .int a)]) (by decide +kernel) rfl rfl (Nat.le_of_ble_eq_true rfl) ?_
  intro p e s m below meth c A QQ ls hx hb hr hts hml hown hlocks hA hQQ hK hX hP hD hS hl
  have hown : s.vm.findClass RX1 = some m.cls := hown
  have hcf := k_cf hx hb hml hown hts
  have hN52 := hX
  have in_X1 : ∀ w ∈ wsX10, w ∈ wsX1_tryLast := fun _ h => List.mem_cons_of_mem _ (List.mem_append_left _ (List.mem_append_left _ (List.mem_append_left _ (List.mem_append_left _ (List.mem_append_left _ (List.mem_append_left _ (List.mem_append_left _ (List.mem_append_left _ (List.mem_append_left _ (List.mem_append_right _ (h)))))))))))
  replace g_fsh := hid g_fsh
  have z0 : (0 : Int32).toInt = 0 := rfl
  have z1 : (1 : Int32).toInt = 1 := rfl
  have zm1 : (-1 : Int32).toInt = -1 := rfl
  have cw9 := v_clamp (x := lw) (by omega)
  have cl9 := v_clamp (x := lm) (by omega)
  have ctl := v_clamp (x := tl) (by omega)
  refine lv_iconst (v := 0) hx hb dX1_tryLast_0 (by decide) ?_
  refine lv_istore_n (lv' := [(2, .int 0), (0, .ref oW), (1, .int a)]) hx hb dX1_tryLast_1 rfl hl (by decide) rfl (fun ls hl => ?_)
  have LOOP_2 : ∀ (k_2 : Nat) (v : Int32) (rea : Int32) (laa : Int32) (sua : Int32) (lea : Int32) (kea : Int32) (tla : Int32) (fw4a : Nat → Int32) (fw5a : Nat → Int32) (fw6a : Nat → Int32) (fw7a : Nat → Int32) (fwa : Nat → Int32) (H : Heap) (locs : List Loc) (ls : Array Slot), MSd (256 - v.toInt : Int) k_2 → (0 ≤ v.toInt ∧ v.toInt ≤ 256) → (0 ≤ kea.toInt ∧ kea.toInt ≤ 200) → (0 ≤ tla.toInt ∧ tla.toInt ≤ 65536) → (tl.toInt ≤ tla.toInt ∧ tla.toInt ≤ tl.toInt + v.toInt) → (kea.toInt = (m200 tla.toNatClampNeg : Int)) → (FLD gV gt tl.toNatClampNeg (CA fW4 fW5 fW6 fW7) (v.toNatClampNeg) tla.toNatClampNeg (CA fw4a fw5a fw6a fw7a)) → ((∀ x : Int32, upd fwa lm.toNatClampNeg x = upd fw lm.toNatClampNeg x) ∧ prg lw.toInt 0 255 fwa) → va_P (dC, dI) vwCl [(oW, .inr (1, [.ref oC, .ref oK, .ref nw, .ref w1, .ref w2, .ref w3, .ref o7, .ref o8, .ref o9, .ref w4, .ref w5, .ref w6, .ref w7, .int kea, .int tla, .int fsh, .int wi, .int ri, .int fm, .int lm])), (w1, .inl (cI, 801, .inl fW1)), (w2, .inl (cI, 801, .inl fW2)), (w3, .inl (cI, 801, .inl fW3)), (w4, .inl (cI, 200, .inl fw4a)), (w5, .inl (cI, 200, .inl fw5a)), (w6, .inl (cI, 200, .inl fw6a)), (w7, .inl (cI, 200, .inl fw7a)), (nw, .inr (5, [.ref aw, .int lw])), (aw, .inl (cI, 800, .inl fwa)), (o8, .inr (8, [.ref oC, .ref oK, .int re8, .int la8, .int su8, .int le8])), (o9, .inr (8, [.ref oC, .ref oK, .int rea, .int laa, .int sua, .int lea])), (oC, .inr (2, [.ref o4, .ref o5])), (o4, .inr (10, [.ref a41, .ref a42, .ref a43, .int l4])), (a41, .inl (cI, 256, .inl f41)), (o5, .inr (10, [.ref a51, .ref a52, .ref a53, .int l5])), (a51, .inl (cI, 256, .inl f51)), (oK, .inr (3, [.ref k1, .ref k2, .int lK])), (k1, .inl (cI, 1024, .inl fK1)), (k2, .inl (cI, 1024, .inl fK2))] H → va_D A [(oW, .inr (1, [.ref oC, .ref oK, .ref nw, .ref w1, .ref w2, .ref w3, .ref o7, .ref o8, .ref o9, .ref w4, .ref w5, .ref w6, .ref w7, .int kea, .int tla, .int fsh, .int wi, .int ri, .int fm, .int lm])), (w1, .inl (cI, 801, .inl fW1)), (w2, .inl (cI, 801, .inl fW2)), (w3, .inl (cI, 801, .inl fW3)), (w4, .inl (cI, 200, .inl fw4a)), (w5, .inl (cI, 200, .inl fw5a)), (w6, .inl (cI, 200, .inl fw6a)), (w7, .inl (cI, 200, .inl fw7a)), (nw, .inr (5, [.ref aw, .int lw])), (aw, .inl (cI, 800, .inl fwa)), (o8, .inr (8, [.ref oC, .ref oK, .int re8, .int la8, .int su8, .int le8])), (o9, .inr (8, [.ref oC, .ref oK, .int rea, .int laa, .int sua, .int lea])), (oC, .inr (2, [.ref o4, .ref o5])), (o4, .inr (10, [.ref a41, .ref a42, .ref a43, .int l4])), (a41, .inl (cI, 256, .inl f41)), (o5, .inr (10, [.ref a51, .ref a52, .ref a53, .int l5])), (a51, .inl (cI, 256, .inl f51)), (oK, .inr (3, [.ref k1, .ref k2, .int lK])), (k1, .inl (cI, 1024, .inl fK1)), (k2, .inl (cI, 1024, .inl fK2))] → va_S A s.heap H locs → lv_has ls 3 [(2, .int v), (0, .ref oW), (1, .int a)] → W p l e (headSpec wsX1_tryLast ({ frames := 5, cells := 0, slots := 0, locals := 123 } : Room)).room s m ([.ref oW, .int a] : List Value).toArray below meth c H locs 0 0 (MQ below QQ ([.ref oW, .int a] : List Value).toArray s 0 0 A) (F0 m 2 ls []) := by
    clear hP hD hS hl
    intro k_2
    induction k_2 with
    | zero =>
      intro v rea laa sua lea kea tla fw4a fw5a fw6a fw7a fwa H locs ls hm_2 g_v g_kea g_tla htla hkea hfl hfa hP hD hS hl
      exact ms_0 hm_2
    | succ k_2 ih_2 =>
      intro v rea laa sua lea kea tla fw4a fw5a fw6a fw7a fwa H locs ls hm_2 g_v g_kea g_tla htla hkea hfl hfa hP hD hS hl
      refine lv_iload_n hx hb dX1_tryLast_2 rfl (lv_at hl 0 rfl) ?_
      refine lv_sipush (v := 256) hx hb dX1_tryLast_3 (by decide) ?_
      refine lv_icmp_ge (tgt := 56) hx hb dX1_tryLast_6 (by decide) (fun c_1 => ?_) (fun c_1 => ?_)
      · have tc_1 : 256 ≤ v.toInt := v_le c_1
        exact kl_v hQQ hx hb hr hlocks hS dX1_tryLast_56 (fun PZ9 kZ9 => kZ9 rea laa sua lea kea tla fw4a fw5a fw6a fw7a fwa (⟨hP, hD⟩) (g_kea) (by show tl.toInt ≤ tla.toInt ∧ tla.toInt ≤ tl.toInt + 256; omega) (hkea) (hfa) ((show v.toNatClampNeg = 256 from ix_eq (by omega)) ▸ hfl))
      · have tc_1 : v.toInt < 256 := v_nle c_1
        have cv9 := v_clamp (x := v) (by omega)
        have cta := v_clamp (x := tla) (by omega)
        refine lv_aload_n hx hb dX1_tryLast_9 rfl (lv_at hl 1 rfl) ?_
        refine va_get (D := (dC, dI)) (ci := 1) (v := .ref oC) (C := RX1) (T := TX1) (N := 20) hx hb hts in_X1 hown hK hP 0 rfl rfl 0 (Nat.le_of_ble_eq_true rfl) (hts (.fieldLink RX1 42 "TextMender$Choices" "codes" "LTextMender$Codes;") (List.mem_of_getElem? (i := 1) rfl)) (fun _ h9 => h9) rfl dX1_tryLast_10 ?_
        refine lv_aload_n hx hb dX1_tryLast_13 rfl (lv_at hl 1 rfl) ?_
        refine va_get (D := (dC, dI)) (ci := 1) (v := .int ri) (C := RX1) (T := TX1) (N := 20) hx hb hts in_X1 hown hK hP 0 rfl rfl 17 (Nat.le_of_ble_eq_true rfl) (hts (.fieldLink RX1 79 "TextMender$Choices" "readIn" "I") (List.mem_of_getElem? (i := 2) rfl)) (fun _ h9 => h9) rfl dX1_tryLast_14 ?_
        refine lv_iload_n hx hb dX1_tryLast_17 rfl (lv_at hl 0 rfl) ?_
        refine kV_i (rest := []) (q0 := 0) (ci := 2) hcf (f_X2_letterAlone l dC dI cI cS H.size oC o4 o5 a41 a42 a43 a51 a52 a53 l4 f41 l5 f51 ri v (by omega)) kc_X2_letterAlone gX1_tryLast_X2_letterAlone rfl rfl rfl ⟨Nat.le_of_ble_eq_true rfl, Nat.le_of_ble_eq_true rfl⟩ kX_t hK hP hD hS hA (posT mk_81 0) (posF mk_81 0) (kC_of mk_81 rfl rfl) (by decide +kernel) rfl rfl rfl hl rfl (Nat.le_of_ble_eq_true rfl) dX1_tryLast_18 ⟨Nat.le_of_ble_eq_true rfl, Nat.le_of_ble_eq_true rfl⟩ (fun r_2 H locs hB hJ hSn => ?_)
        refine hB _ (fun hPD9 hf2_0 => ?_)
        clear hB
        obtain ⟨hPn, hDn⟩ := kJi (m := mk_81) hJ rfl hPD9.1 hPD9.2 (wn := [(oW, .inr (1, [.ref oC, .ref oK, .ref nw, .ref w1, .ref w2, .ref w3, .ref o7, .ref o8, .ref o9, .ref w4, .ref w5, .ref w6, .ref w7, .int kea, .int tla, .int fsh, .int wi, .int ri, .int fm, .int lm])), (w1, .inl (cI, 801, .inl fW1)), (w2, .inl (cI, 801, .inl fW2)), (w3, .inl (cI, 801, .inl fW3)), (w4, .inl (cI, 200, .inl fw4a)), (w5, .inl (cI, 200, .inl fw5a)), (w6, .inl (cI, 200, .inl fw6a)), (w7, .inl (cI, 200, .inl fw7a)), (nw, .inr (5, [.ref aw, .int lw])), (aw, .inl (cI, 800, .inl fwa)), (o8, .inr (8, [.ref oC, .ref oK, .int re8, .int la8, .int su8, .int le8])), (o9, .inr (8, [.ref oC, .ref oK, .int rea, .int laa, .int sua, .int lea])), (oC, .inr (2, [.ref o4, .ref o5])), (o4, .inr (10, [.ref a41, .ref a42, .ref a43, .int l4])), (a41, .inl (cI, 256, .inl f41)), (o5, .inr (10, [.ref a51, .ref a52, .ref a53, .int l5])), (a51, .inl (cI, 256, .inl f51)), (oK, .inr (3, [.ref k1, .ref k2, .int lK])), (k1, .inl (cI, 1024, .inl fK1)), (k2, .inl (cI, 1024, .inl fK2))]) rfl
        clear hP hD hS hJ hPD9
        have hP := hPn
        have hD := hDn
        have hS := hSn
        clear hPn hDn hSn
        refine lv_iconst (v := (-1)) hx hb dX1_tryLast_21 (by decide) ?_
        refine lv_icmp_ne (tgt := 50) hx hb dX1_tryLast_22 (by decide) (fun c_3 => ?_) (fun c_3 => ?_)
        · have tc_3 : ¬ r_2.toInt = (-1) := v_ne c_3
          obtain ⟨x_4, ex_4⟩ : ∃ y : Int32, y = v + 1 := ⟨_, rfl⟩
          have tx_4 : x_4.toInt = v.toInt + 1 := v_addR (l2 := 1) (h2 := 1) ex_4 g_v (by decide) (by decide) (by decide)
          refine lv_iinc (v := x_4) (lv' := [(2, .int x_4), (0, .ref oW), (1, .int a)]) hx hb dX1_tryLast_50 hl (k := 0) rfl (by rw [ex_4]; rfl) (by decide) rfl (fun ls hl => ?_)
          refine lv_goto (tgt := 2) hx hb dX1_tryLast_53 (by decide) ?_
          exact ih_2 x_4 rea laa sua lea kea tla fw4a fw5a fw6a fw7a fwa _ _ _ (ms_lt hm_2 (by show ((256 - x_4.toInt : Int)) < 256 - v.toInt; omega) (by show (0 : Int) < 256 - v.toInt; omega)) (by show 0 ≤ x_4.toInt ∧ x_4.toInt ≤ 256; omega) (g_kea) (g_tla) (by show tl.toInt ≤ tla.toInt ∧ tla.toInt ≤ tl.toInt + x_4.toInt; omega) (hkea) (fld_n hfl (fun e9 w9 => c_3 (hf2_0.trans ((hV v (by omega) (by omega) e9).mp w9).1)) (by rw [ix_eq (x := x_4) (N := v.toNatClampNeg + 1) (by omega)])) (hfa) hP hD hS (lv_sub hl [0, 1, 2] rfl)
        · have tc_3 : r_2.toInt = (-1) := v_eq c_3
          refine lv_aload_n hx hb dX1_tryLast_25 rfl (lv_at hl 1 rfl) ?_
          refine va_get (D := (dC, dI)) (ci := 1) (v := .ref nw) (C := RX1) (T := TX1) (N := 20) hx hb hts in_X1 hown hK hP 0 rfl rfl 2 (Nat.le_of_ble_eq_true rfl) (hts (.fieldLink RX1 16 "TextMender$Choices" "bytes" "LTextMender$Numbers;") (List.mem_of_getElem? (i := 3) rfl)) (fun _ h9 => h9) rfl dX1_tryLast_26 ?_
          refine lv_aload_n hx hb dX1_tryLast_29 rfl (lv_at hl 1 rfl) ?_
          refine va_get (D := (dC, dI)) (ci := 1) (v := .int lm) (C := RX1) (T := TX1) (N := 20) hx hb hts in_X1 hown hK hP 0 rfl rfl 19 (Nat.le_of_ble_eq_true rfl) (hts (.fieldLink RX1 85 "TextMender$Choices" "lastMark" "I") (List.mem_of_getElem? (i := 4) rfl)) (fun _ h9 => h9) rfl dX1_tryLast_30 ?_
          refine lv_iload_n hx hb dX1_tryLast_33 rfl (lv_at hl 0 rfl) ?_
          refine kV_v (rest := []) (q0 := 0) (ci := 5) hcf (f_X5_set l dC dI cI cS H.size nw aw 800 lw fwa lm v (by omega) (by omega)) kc_X5_set gX1_tryLast_X5_set rfl rfl rfl ⟨Nat.le_of_ble_eq_true rfl, Nat.le_of_ble_eq_true rfl⟩ kX_t hK hP hD hS hA (posT mk_82 0) (posF mk_82 0) (kC_of mk_82 rfl rfl) (by decide +kernel) rfl rfl rfl hl rfl (Nat.le_of_ble_eq_true rfl) dX1_tryLast_34 ⟨Nat.le_of_ble_eq_true rfl, Nat.le_of_ble_eq_true rfl⟩ (fun H locs hB hJ hSn => ?_)
          refine hB _ (fun fu_5 hPD9 hf5_0 => ?_)
          clear hB
          obtain ⟨hPn, hDn⟩ := kJi (m := mk_82) hJ rfl hPD9.1 hPD9.2 (wn := [(oW, .inr (1, [.ref oC, .ref oK, .ref nw, .ref w1, .ref w2, .ref w3, .ref o7, .ref o8, .ref o9, .ref w4, .ref w5, .ref w6, .ref w7, .int kea, .int tla, .int fsh, .int wi, .int ri, .int fm, .int lm])), (w1, .inl (cI, 801, .inl fW1)), (w2, .inl (cI, 801, .inl fW2)), (w3, .inl (cI, 801, .inl fW3)), (w4, .inl (cI, 200, .inl fw4a)), (w5, .inl (cI, 200, .inl fw5a)), (w6, .inl (cI, 200, .inl fw6a)), (w7, .inl (cI, 200, .inl fw7a)), (nw, .inr (5, [.ref aw, .int lw])), (aw, .inl (cI, 800, .inl fu_5)), (o8, .inr (8, [.ref oC, .ref oK, .int re8, .int la8, .int su8, .int le8])), (o9, .inr (8, [.ref oC, .ref oK, .int rea, .int laa, .int sua, .int lea])), (oC, .inr (2, [.ref o4, .ref o5])), (o4, .inr (10, [.ref a41, .ref a42, .ref a43, .int l4])), (a41, .inl (cI, 256, .inl f41)), (o5, .inr (10, [.ref a51, .ref a52, .ref a53, .int l5])), (a51, .inl (cI, 256, .inl f51)), (oK, .inr (3, [.ref k1, .ref k2, .int lK])), (k1, .inl (cI, 1024, .inl fK1)), (k2, .inl (cI, 1024, .inl fK2))]) rfl
          clear hP hD hS hJ hPD9
          have hP := hPn
          have hD := hDn
          have hS := hSn
          clear hPn hDn hSn
          have hfs9 : fu_5 = upd fw lm.toNatClampNeg v := by rw [F_set_f hf5_0 (by omega) (by omega)]; exact hfa.1 v
          have hbs9 : prg lw.toInt 0 255 fu_5 := prg_upd hby hfs9 (by omega)
          refine lv_aload_n hx hb dX1_tryLast_37 rfl (lv_at hl 1 rfl) ?_
          refine kV_i (rest := []) (q0 := 0) (ci := 1) hcf (f_X1_comesBack l dC dI cI cS H.size oW oC oK nw w1 w2 w3 o7 o8 o9 w4 w5 w6 w7 aw o4 o5 a41 a42 a43 a51 a52 a53 kea tla fsh wi ri fm lm lw fu_5 l4 f41 l5 f51 (g_kea) (g_fsh) (g_fm) (g_lm) (g_lw) (by omega) (hbs9) (hL4) (hL5)) kc_X1_comesBack gX1_tryLast_X1_comesBack rfl rfl rfl ⟨Nat.le_of_ble_eq_true rfl, Nat.le_of_ble_eq_true rfl⟩ (kX_1 hN52) hK hP hD hS hA (posT mk_83 0) (posF mk_83 0) (kC_of mk_83 rfl rfl) (by decide +kernel) rfl rfl rfl hl rfl (Nat.le_of_ble_eq_true rfl) dX1_tryLast_38 ⟨Nat.le_of_ble_eq_true rfl, Nat.le_of_ble_eq_true rfl⟩ (fun r_6 H locs hB hJ hSn => ?_)
          refine hB _ (fun hPD9 hf6_0 hf6_1 => ?_)
          clear hB
          obtain ⟨hPn, hDn⟩ := kJi (m := mk_83) hJ rfl hPD9.1 hPD9.2 (wn := [(oW, .inr (1, [.ref oC, .ref oK, .ref nw, .ref w1, .ref w2, .ref w3, .ref o7, .ref o8, .ref o9, .ref w4, .ref w5, .ref w6, .ref w7, .int kea, .int tla, .int fsh, .int wi, .int ri, .int fm, .int lm])), (w1, .inl (cI, 801, .inl fW1)), (w2, .inl (cI, 801, .inl fW2)), (w3, .inl (cI, 801, .inl fW3)), (w4, .inl (cI, 200, .inl fw4a)), (w5, .inl (cI, 200, .inl fw5a)), (w6, .inl (cI, 200, .inl fw6a)), (w7, .inl (cI, 200, .inl fw7a)), (nw, .inr (5, [.ref aw, .int lw])), (aw, .inl (cI, 800, .inl fu_5)), (o8, .inr (8, [.ref oC, .ref oK, .int re8, .int la8, .int su8, .int le8])), (o9, .inr (8, [.ref oC, .ref oK, .int rea, .int laa, .int sua, .int lea])), (oC, .inr (2, [.ref o4, .ref o5])), (o4, .inr (10, [.ref a41, .ref a42, .ref a43, .int l4])), (a41, .inl (cI, 256, .inl f41)), (o5, .inr (10, [.ref a51, .ref a52, .ref a53, .int l5])), (a51, .inl (cI, 256, .inl f51)), (oK, .inr (3, [.ref k1, .ref k2, .int lK])), (k1, .inl (cI, 1024, .inl fK1)), (k2, .inl (cI, 1024, .inl fK2))]) rfl
          clear hP hD hS hJ hPD9
          have hP := hPn
          have hD := hDn
          have hS := hSn
          clear hPn hDn hSn
          refine lv_if_eq (tgt := 50) hx hb dX1_tryLast_41 (by decide) (fun c_7 => ?_) (fun c_7 => ?_)
          · have tc_7 : r_6.toInt = 0 := v_eq c_7
            obtain ⟨x_8, ex_8⟩ : ∃ y : Int32, y = v + 1 := ⟨_, rfl⟩
            have tx_8 : x_8.toInt = v.toInt + 1 := v_addR (l2 := 1) (h2 := 1) ex_8 g_v (by decide) (by decide) (by decide)
            refine lv_iinc (v := x_8) (lv' := [(2, .int x_8), (0, .ref oW), (1, .int a)]) hx hb dX1_tryLast_50 hl (k := 0) rfl (by rw [ex_8]; rfl) (by decide) rfl (fun ls hl => ?_)
            refine lv_goto (tgt := 2) hx hb dX1_tryLast_53 (by decide) ?_
            exact ih_2 x_8 rea laa sua lea kea tla fw4a fw5a fw6a fw7a fu_5 _ _ _ (ms_lt hm_2 (by show ((256 - x_8.toInt : Int)) < 256 - v.toInt; omega) (by show (0 : Int) < 256 - v.toInt; omega)) (by show 0 ≤ x_8.toInt ∧ x_8.toInt ≤ 256; omega) (g_kea) (g_tla) (by show tl.toInt ≤ tla.toInt ∧ tla.toInt ≤ tl.toInt + x_8.toInt; omega) (hkea) (fld_n hfl (fun e9 w9 => cb_0 hf6_1 (by omega) (by have q9 := ((hV v (by omega) (by omega) e9).mp w9).2.1; rw [← hfs9] at q9; exact q9)) (by rw [ix_eq (x := x_8) (N := v.toNatClampNeg + 1) (by omega)])) (⟨fun x => by rw [hfs9, upd_2], hbs9⟩) hP hD hS (lv_sub hl [0, 1, 2] rfl)
          · have tc_7 : ¬ r_6.toInt = 0 := v_ne c_7
            refine lv_aload_n hx hb dX1_tryLast_44 rfl (lv_at hl 1 rfl) ?_
            refine lv_iload_n hx hb dX1_tryLast_45 rfl (lv_at hl 2 rfl) ?_
            refine lv_iload_n hx hb dX1_tryLast_46 rfl (lv_at hl 0 rfl) ?_
            refine kV_v (rest := []) (q0 := 0) (ci := 1) hcf (f_X1_tryWhole l dC dI cI cS H.size oW oC oK nw w1 w2 w3 o7 o8 o9 w4 w5 w6 w7 aw o4 o5 a41 a42 a43 a51 a52 a53 k1 k2 kea tla fsh wi ri fm lm fW1 fW2 fW3 fw4a fw5a fw6a fw7a lw fu_5 re8 la8 su8 le8 rea laa sua lea l4 f41 l5 f51 lK fK1 fK2 a v gV (gt + v.toNatClampNeg) (g_kea) (g_fsh) (g_fm) (g_lm) (g_lw) (g_la8) (g_lK) (by omega) (by omega) (hbs9) (hL4) (hL5) (hT) (ho) (hVk) (fun p p1 p2 => TLK_sf (fun j hj => by rw [hfs9, pk_un (by omega)]) (htl p p1 p2)) (by omega) (hkea) (FLD_s hsr _ _ _ hfl) (by omega) (RS_up hrs8 (fun p9 hp9 => dl_up (fun j hj => by rw [hfs9, pk_un (by omega)]) (by omega) hp9)) (fun e9 => (hV v (by omega) (by omega) e9).trans ⟨fun w9 => by rw [hfs9]; exact w9.2.2, fun w9 => ⟨hf2_0.symm.trans c_3, (bv_iff (by have q9 := cb_1 hf6_1 (by omega); rw [hfs9] at q9; exact q9)).mpr (by rw [hfs9] at w9; exact w9)⟩⟩)) kc_X1_tryWhole gX1_tryLast_X1_tryWhole rfl rfl rfl ⟨Nat.le_of_ble_eq_true rfl, Nat.le_of_ble_eq_true rfl⟩ (kX_1 hN52) hK hP hD hS hA (posT mk_84 0) (posF mk_84 0) (kC_of mk_84 rfl rfl) (by decide +kernel) rfl rfl rfl hl rfl (Nat.le_of_ble_eq_true rfl) dX1_tryLast_47 ⟨Nat.le_of_ble_eq_true rfl, Nat.le_of_ble_eq_true rfl⟩ (fun H locs hB hJ hSn => ?_)
            refine hB _ (fun re9_9 la9_9 su9_9 le9_9 ke_9 tl_9 fW4_9 fW5_9 fW6_9 fW7_9 hPD9 hf9_0 hf9_1 hf9_2 hf9_3 => ?_)
            clear hB
            obtain ⟨hPn, hDn⟩ := kJi (m := mk_84) hJ rfl hPD9.1 hPD9.2 (wn := [(oW, .inr (1, [.ref oC, .ref oK, .ref nw, .ref w1, .ref w2, .ref w3, .ref o7, .ref o8, .ref o9, .ref w4, .ref w5, .ref w6, .ref w7, .int ke_9, .int tl_9, .int fsh, .int wi, .int ri, .int fm, .int lm])), (w1, .inl (cI, 801, .inl fW1)), (w2, .inl (cI, 801, .inl fW2)), (w3, .inl (cI, 801, .inl fW3)), (w4, .inl (cI, 200, .inl fW4_9)), (w5, .inl (cI, 200, .inl fW5_9)), (w6, .inl (cI, 200, .inl fW6_9)), (w7, .inl (cI, 200, .inl fW7_9)), (nw, .inr (5, [.ref aw, .int lw])), (aw, .inl (cI, 800, .inl fu_5)), (o8, .inr (8, [.ref oC, .ref oK, .int re8, .int la8, .int su8, .int le8])), (o9, .inr (8, [.ref oC, .ref oK, .int re9_9, .int la9_9, .int su9_9, .int le9_9])), (oC, .inr (2, [.ref o4, .ref o5])), (o4, .inr (10, [.ref a41, .ref a42, .ref a43, .int l4])), (a41, .inl (cI, 256, .inl f41)), (o5, .inr (10, [.ref a51, .ref a52, .ref a53, .int l5])), (a51, .inl (cI, 256, .inl f51)), (oK, .inr (3, [.ref k1, .ref k2, .int lK])), (k1, .inl (cI, 1024, .inl fK1)), (k2, .inl (cI, 1024, .inl fK2))]) rfl
            clear hP hD hS hJ hPD9
            have hP := hPn
            have hD := hDn
            have hS := hSn
            clear hPn hDn hSn
            obtain ⟨x_10, ex_10⟩ : ∃ y : Int32, y = v + 1 := ⟨_, rfl⟩
            have tx_10 : x_10.toInt = v.toInt + 1 := v_addR (l2 := 1) (h2 := 1) ex_10 g_v (by decide) (by decide) (by decide)
            refine lv_iinc (v := x_10) (lv' := [(2, .int x_10), (0, .ref oW), (1, .int a)]) hx hb dX1_tryLast_50 hl (k := 0) rfl (by rw [ex_10]; rfl) (by decide) rfl (fun ls hl => ?_)
            refine lv_goto (tgt := 2) hx hb dX1_tryLast_53 (by decide) ?_
            exact ih_2 x_10 re9_9 la9_9 su9_9 le9_9 ke_9 tl_9 fW4_9 fW5_9 fW6_9 fW7_9 fu_5 _ _ _ (ms_lt hm_2 (by show ((256 - x_10.toInt : Int)) < 256 - v.toInt; omega) (by show (0 : Int) < 256 - v.toInt; omega)) (by show 0 ≤ x_10.toInt ∧ x_10.toInt ≤ 256; omega) (hf9_0) (by show 0 ≤ tl_9.toInt ∧ tl_9.toInt ≤ 65536; omega) (by show tl.toInt ≤ tl_9.toInt ∧ tl_9.toInt ≤ tl.toInt + x_10.toInt; omega) (hf9_2) (fld_s hfl hf9_3 (by rw [ix_eq (x := x_10) (N := v.toNatClampNeg + 1) (by omega)])) (⟨fun x => by rw [hfs9, upd_2], hbs9⟩) hP hD hS (lv_sub hl [0, 1, 2] rfl)
  exact LOOP_2 _ 0 re9 la9 su9 le9 ke tl fW4 fW5 fW6 fW7 fw _ _ _ (ms_s _) (by decide) (g_ke) (by show 0 ≤ tl.toInt ∧ tl.toInt ≤ 65536; omega) (by show tl.toInt ≤ tl.toInt ∧ tl.toInt ≤ tl.toInt + 0; omega) (hke) (⟨rfl, fun _ _ _ _ => rfl⟩) (⟨fun _ => rfl, hby⟩) hP hD hS (lv_sub hl [0, 1, 2] rfl)

end

/-! 5k.a.rows -/
section
set_option maxRecDepth 100000 in
theorem dA339_cX1_find : kDec cX1_find [(0, .aload_n 0, 1), (1, .iload_n 1, 1), (2, .putfield 76, 3), (5, .aload_n 0, 1), (6, .iload_n 2, 1), (7, .putfield 79, 3), (10, .aload_n 0, 1), (11, .iconst 0, 1), (12, .putfield 65, 3), (15, .aload_n 0, 1), (16, .iconst 0, 1), (17, .putfield 69, 3), (20, .aload_n 0, 1), (21, .invokevirtual 110, 3), (24, .aload_n 0, 1), (25, .getfield 55, 3), (28, .invokevirtual 113, 3), (31, .aload_n 0, 1), (32, .getfield 82, 3), (35, .iconst (-1), 1), (36, .if_icmp .ne 38, 3), (74, .aload_n 0, 1), (75, .getfield 55, 3), (78, .iload_n 1, 1)] = true := by decide +kernel
theorem dX1_find_0 : decode cX1_find 0 = .ok (.aload_n 0, 1) := kDec_at dA339_cX1_find 0 rfl
theorem dX1_find_1 : decode cX1_find 1 = .ok (.iload_n 1, 1) := kDec_at dA339_cX1_find 1 rfl
theorem dX1_find_2 : decode cX1_find 2 = .ok (.putfield 76, 3) := kDec_at dA339_cX1_find 2 rfl
theorem dX1_find_5 : decode cX1_find 5 = .ok (.aload_n 0, 1) := kDec_at dA339_cX1_find 3 rfl
theorem dX1_find_6 : decode cX1_find 6 = .ok (.iload_n 2, 1) := kDec_at dA339_cX1_find 4 rfl
theorem dX1_find_7 : decode cX1_find 7 = .ok (.putfield 79, 3) := kDec_at dA339_cX1_find 5 rfl
theorem dX1_find_10 : decode cX1_find 10 = .ok (.aload_n 0, 1) := kDec_at dA339_cX1_find 6 rfl
theorem dX1_find_11 : decode cX1_find 11 = .ok (.iconst 0, 1) := kDec_at dA339_cX1_find 7 rfl
theorem dX1_find_12 : decode cX1_find 12 = .ok (.putfield 65, 3) := kDec_at dA339_cX1_find 8 rfl
theorem dX1_find_15 : decode cX1_find 15 = .ok (.aload_n 0, 1) := kDec_at dA339_cX1_find 9 rfl
theorem dX1_find_16 : decode cX1_find 16 = .ok (.iconst 0, 1) := kDec_at dA339_cX1_find 10 rfl
theorem dX1_find_17 : decode cX1_find 17 = .ok (.putfield 69, 3) := kDec_at dA339_cX1_find 11 rfl
theorem dX1_find_20 : decode cX1_find 20 = .ok (.aload_n 0, 1) := kDec_at dA339_cX1_find 12 rfl
theorem dX1_find_21 : decode cX1_find 21 = .ok (.invokevirtual 110, 3) := kDec_at dA339_cX1_find 13 rfl
theorem dX1_find_24 : decode cX1_find 24 = .ok (.aload_n 0, 1) := kDec_at dA339_cX1_find 14 rfl
theorem dX1_find_25 : decode cX1_find 25 = .ok (.getfield 55, 3) := kDec_at dA339_cX1_find 15 rfl
theorem dX1_find_28 : decode cX1_find 28 = .ok (.invokevirtual 113, 3) := kDec_at dA339_cX1_find 16 rfl
theorem dX1_find_31 : decode cX1_find 31 = .ok (.aload_n 0, 1) := kDec_at dA339_cX1_find 17 rfl
theorem dX1_find_32 : decode cX1_find 32 = .ok (.getfield 82, 3) := kDec_at dA339_cX1_find 18 rfl
theorem dX1_find_35 : decode cX1_find 35 = .ok (.iconst (-1), 1) := kDec_at dA339_cX1_find 19 rfl
theorem dX1_find_36 : decode cX1_find 36 = .ok (.if_icmp .ne 38, 3) := kDec_at dA339_cX1_find 20 rfl
theorem dX1_find_74 : decode cX1_find 74 = .ok (.aload_n 0, 1) := kDec_at dA339_cX1_find 21 rfl
theorem dX1_find_75 : decode cX1_find 75 = .ok (.getfield 55, 3) := kDec_at dA339_cX1_find 22 rfl
theorem dX1_find_78 : decode cX1_find 78 = .ok (.iload_n 1, 1) := kDec_at dA339_cX1_find 23 rfl
set_option maxRecDepth 20000 in
theorem gX1_findTails_all : wsX1_findTails.all goodWord = true := by
  unfold wsX1_findTails
  exact good_c (by decide +kernel) (good_a (good_a (good_a (good_a (good_a (good_a (good_a (good_a (good_a (good_a ((by decide +kernel)) gX1_clsall) gX5_clsall) gX2_clsall) gX10_clsall) gX3_clsall) gX5_length_all) gX2_decode_all) gX2_bytesIn_all) gX2_letterIn_all) gX3_of_all)
set_option maxRecDepth 20000 in
theorem ggX1_find_X1_findTails : GoodIn wsX1_find wsX1_findTails := goodIn_sub (fun _ h => List.mem_cons_of_mem _ (List.mem_append_left _ (List.mem_append_left _ (List.mem_append_left _ (List.mem_append_left _ (List.mem_append_left _ (List.mem_append_left _ (List.mem_append_right _ (h))))))))) gX1_findTails_all
set_option maxRecDepth 20000 in
theorem gX1_find_X1_findTails : GoodIn wsX1_find (wsV RX1 110 RX1 yX1_findTails wsX1_findTails) := goodIn_app (goodIn_r _ [12, 13, 14, 15] rfl (by decide +kernel)) ggX1_find_X1_findTails
set_option maxRecDepth 20000 in
theorem ggX1_find_X8_begin : GoodIn wsX1_find wsX8_begin := goodIn_sub (fun _ h => List.mem_cons_of_mem _ (List.mem_append_left _ (List.mem_append_left _ (List.mem_append_left _ (List.mem_append_left _ (List.mem_append_left _ (List.mem_append_right _ (h)))))))) gX8_begin_all
set_option maxRecDepth 20000 in
theorem gX1_find_X8_begin : GoodIn wsX1_find (wsV RX1 113 RX8 yX8_begin wsX8_begin) := goodIn_app (goodIn_r _ [20, 21, 22, 23] rfl (by decide +kernel)) ggX1_find_X8_begin
set_option maxRecDepth 100000 in
theorem dA340_cX1_find : kDec cX1_find [(79, .aload_n 0, 1), (80, .getfield 16, 3), (83, .aload_n 0, 1), (84, .getfield 82, 3), (87, .invokevirtual 116, 3), (90, .iconst 0, 1), (91, .istore_n 3, 1), (92, .iload_n 3, 1), (93, .sipush 256, 3), (96, .if_icmp .ge 66, 3), (162, .aload_n 0, 1), (163, .iconst 1, 1), (164, .putfield 72, 3), (167, .aload_n 0, 1), (168, .getfield 69, 3), (171, .ireturn, 1), (99, .aload_n 0, 1), (100, .getfield 42, 3), (103, .iload_n 2, 1), (104, .iload_n 3, 1), (105, .invokevirtual 127, 3), (108, .iconst (-1), 1), (109, .if_icmp .ne 47, 3), (156, .iinc 3 1, 3)] = true := by decide +kernel
theorem dX1_find_79 : decode cX1_find 79 = .ok (.aload_n 0, 1) := kDec_at dA340_cX1_find 0 rfl
theorem dX1_find_80 : decode cX1_find 80 = .ok (.getfield 16, 3) := kDec_at dA340_cX1_find 1 rfl
theorem dX1_find_83 : decode cX1_find 83 = .ok (.aload_n 0, 1) := kDec_at dA340_cX1_find 2 rfl
theorem dX1_find_84 : decode cX1_find 84 = .ok (.getfield 82, 3) := kDec_at dA340_cX1_find 3 rfl
theorem dX1_find_87 : decode cX1_find 87 = .ok (.invokevirtual 116, 3) := kDec_at dA340_cX1_find 4 rfl
theorem dX1_find_90 : decode cX1_find 90 = .ok (.iconst 0, 1) := kDec_at dA340_cX1_find 5 rfl
theorem dX1_find_91 : decode cX1_find 91 = .ok (.istore_n 3, 1) := kDec_at dA340_cX1_find 6 rfl
theorem dX1_find_92 : decode cX1_find 92 = .ok (.iload_n 3, 1) := kDec_at dA340_cX1_find 7 rfl
theorem dX1_find_93 : decode cX1_find 93 = .ok (.sipush 256, 3) := kDec_at dA340_cX1_find 8 rfl
theorem dX1_find_96 : decode cX1_find 96 = .ok (.if_icmp .ge 66, 3) := kDec_at dA340_cX1_find 9 rfl
theorem dX1_find_162 : decode cX1_find 162 = .ok (.aload_n 0, 1) := kDec_at dA340_cX1_find 10 rfl
theorem dX1_find_163 : decode cX1_find 163 = .ok (.iconst 1, 1) := kDec_at dA340_cX1_find 11 rfl
theorem dX1_find_164 : decode cX1_find 164 = .ok (.putfield 72, 3) := kDec_at dA340_cX1_find 12 rfl
theorem dX1_find_167 : decode cX1_find 167 = .ok (.aload_n 0, 1) := kDec_at dA340_cX1_find 13 rfl
theorem dX1_find_168 : decode cX1_find 168 = .ok (.getfield 69, 3) := kDec_at dA340_cX1_find 14 rfl
theorem dX1_find_171 : decode cX1_find 171 = .ok (.ireturn, 1) := kDec_at dA340_cX1_find 15 rfl
theorem dX1_find_99 : decode cX1_find 99 = .ok (.aload_n 0, 1) := kDec_at dA340_cX1_find 16 rfl
theorem dX1_find_100 : decode cX1_find 100 = .ok (.getfield 42, 3) := kDec_at dA340_cX1_find 17 rfl
theorem dX1_find_103 : decode cX1_find 103 = .ok (.iload_n 2, 1) := kDec_at dA340_cX1_find 18 rfl
theorem dX1_find_104 : decode cX1_find 104 = .ok (.iload_n 3, 1) := kDec_at dA340_cX1_find 19 rfl
theorem dX1_find_105 : decode cX1_find 105 = .ok (.invokevirtual 127, 3) := kDec_at dA340_cX1_find 20 rfl
theorem dX1_find_108 : decode cX1_find 108 = .ok (.iconst (-1), 1) := kDec_at dA340_cX1_find 21 rfl
theorem dX1_find_109 : decode cX1_find 109 = .ok (.if_icmp .ne 47, 3) := kDec_at dA340_cX1_find 22 rfl
theorem dX1_find_156 : decode cX1_find 156 = .ok (.iinc 3 1, 3) := kDec_at dA340_cX1_find 23 rfl
set_option maxRecDepth 20000 in
theorem ggX1_find_X8_goOn : GoodIn wsX1_find wsX8_goOn := goodIn_sub (fun _ h => List.mem_cons_of_mem _ (List.mem_append_left _ (List.mem_append_left _ (List.mem_append_left _ (List.mem_append_left _ (List.mem_append_right _ (h))))))) gX8_goOn_all
set_option maxRecDepth 20000 in
theorem gX1_find_X8_goOn : GoodIn wsX1_find (wsV RX1 116 RX8 yX8_goOn wsX8_goOn) := goodIn_app (goodIn_r _ [24, 25, 26, 23] rfl (by decide +kernel)) ggX1_find_X8_goOn
set_option maxRecDepth 20000 in
theorem ggX1_find_X2_letterAlone : GoodIn wsX1_find wsX2_letterAlone := goodIn_sub (fun _ h => List.mem_cons_of_mem _ (List.mem_append_left _ (List.mem_append_right _ (h)))) gX2_letterAlone_all
set_option maxRecDepth 20000 in
theorem gX1_find_X2_letterAlone : GoodIn wsX1_find (wsV RX1 127 RX2 yX2_letterAlone wsX2_letterAlone) := goodIn_app (goodIn_r _ [33, 18, 19, 17] rfl (by decide +kernel)) ggX1_find_X2_letterAlone
set_option maxRecDepth 100000 in
theorem dA341_cX1_find : kDec cX1_find [(159, .goto (-67), 3), (112, .aload_n 0, 1), (113, .getfield 16, 3), (116, .aload_n 0, 1), (117, .getfield 82, 3), (120, .iload_n 3, 1), (121, .invokevirtual 131, 3), (124, .aload_n 0, 1), (125, .getfield 59, 3), (128, .aload_n 0, 1), (129, .getfield 55, 3), (132, .invokevirtual 120, 3), (135, .aload_n 0, 1), (136, .getfield 59, 3), (139, .iload_n 1, 1), (140, .aload_n 0, 1), (141, .getfield 16, 3), (144, .aload_n 0, 1), (145, .getfield 85, 3), (148, .invokevirtual 116, 3), (151, .aload_n 0, 1), (152, .iload_n 3, 1), (153, .invokevirtual 124, 3), (39, .aload_n 0, 1)] = true := by decide +kernel
theorem dX1_find_159 : decode cX1_find 159 = .ok (.goto (-67), 3) := kDec_at dA341_cX1_find 0 rfl
theorem dX1_find_112 : decode cX1_find 112 = .ok (.aload_n 0, 1) := kDec_at dA341_cX1_find 1 rfl
theorem dX1_find_113 : decode cX1_find 113 = .ok (.getfield 16, 3) := kDec_at dA341_cX1_find 2 rfl
theorem dX1_find_116 : decode cX1_find 116 = .ok (.aload_n 0, 1) := kDec_at dA341_cX1_find 3 rfl
theorem dX1_find_117 : decode cX1_find 117 = .ok (.getfield 82, 3) := kDec_at dA341_cX1_find 4 rfl
theorem dX1_find_120 : decode cX1_find 120 = .ok (.iload_n 3, 1) := kDec_at dA341_cX1_find 5 rfl
theorem dX1_find_121 : decode cX1_find 121 = .ok (.invokevirtual 131, 3) := kDec_at dA341_cX1_find 6 rfl
theorem dX1_find_124 : decode cX1_find 124 = .ok (.aload_n 0, 1) := kDec_at dA341_cX1_find 7 rfl
theorem dX1_find_125 : decode cX1_find 125 = .ok (.getfield 59, 3) := kDec_at dA341_cX1_find 8 rfl
theorem dX1_find_128 : decode cX1_find 128 = .ok (.aload_n 0, 1) := kDec_at dA341_cX1_find 9 rfl
theorem dX1_find_129 : decode cX1_find 129 = .ok (.getfield 55, 3) := kDec_at dA341_cX1_find 10 rfl
theorem dX1_find_132 : decode cX1_find 132 = .ok (.invokevirtual 120, 3) := kDec_at dA341_cX1_find 11 rfl
theorem dX1_find_135 : decode cX1_find 135 = .ok (.aload_n 0, 1) := kDec_at dA341_cX1_find 12 rfl
theorem dX1_find_136 : decode cX1_find 136 = .ok (.getfield 59, 3) := kDec_at dA341_cX1_find 13 rfl
theorem dX1_find_139 : decode cX1_find 139 = .ok (.iload_n 1, 1) := kDec_at dA341_cX1_find 14 rfl
theorem dX1_find_140 : decode cX1_find 140 = .ok (.aload_n 0, 1) := kDec_at dA341_cX1_find 15 rfl
theorem dX1_find_141 : decode cX1_find 141 = .ok (.getfield 16, 3) := kDec_at dA341_cX1_find 16 rfl
theorem dX1_find_144 : decode cX1_find 144 = .ok (.aload_n 0, 1) := kDec_at dA341_cX1_find 17 rfl
theorem dX1_find_145 : decode cX1_find 145 = .ok (.getfield 85, 3) := kDec_at dA341_cX1_find 18 rfl
theorem dX1_find_148 : decode cX1_find 148 = .ok (.invokevirtual 116, 3) := kDec_at dA341_cX1_find 19 rfl
theorem dX1_find_151 : decode cX1_find 151 = .ok (.aload_n 0, 1) := kDec_at dA341_cX1_find 20 rfl
theorem dX1_find_152 : decode cX1_find 152 = .ok (.iload_n 3, 1) := kDec_at dA341_cX1_find 21 rfl
theorem dX1_find_153 : decode cX1_find 153 = .ok (.invokevirtual 124, 3) := kDec_at dA341_cX1_find 22 rfl
theorem dX1_find_39 : decode cX1_find 39 = .ok (.aload_n 0, 1) := kDec_at dA341_cX1_find 23 rfl
set_option maxRecDepth 20000 in
theorem ggX1_find_X5_set : GoodIn wsX1_find wsX5_set := goodIn_sub (fun _ h => List.mem_cons_of_mem _ (List.mem_append_right _ (h))) gX5_set_all
set_option maxRecDepth 20000 in
theorem gX1_find_X5_set : GoodIn wsX1_find (wsV RX1 131 RX5 yX5_set wsX5_set) := goodIn_app (goodIn_r _ [34, 35, 36, 16] rfl (by decide +kernel)) ggX1_find_X5_set
set_option maxRecDepth 20000 in
theorem ggX1_find_X8_takeAll : GoodIn wsX1_find wsX8_takeAll := goodIn_sub (fun _ h => List.mem_cons_of_mem _ (List.mem_append_left _ (List.mem_append_left _ (List.mem_append_left _ (List.mem_append_right _ (h)))))) gX8_takeAll_all
set_option maxRecDepth 20000 in
theorem gX1_find_X8_takeAll : GoodIn wsX1_find (wsV RX1 120 RX8 yX8_takeAll wsX8_takeAll) := goodIn_app (goodIn_r _ [27, 28, 29, 23] rfl (by decide +kernel)) ggX1_find_X8_takeAll
set_option maxRecDepth 20000 in
theorem gX1_tryLast_all : wsX1_tryLast.all goodWord = true := by
  unfold wsX1_tryLast
  exact good_c (by decide +kernel) (good_a (good_a (good_a (good_a (good_a (good_a (good_a (good_a (good_a (good_a ((by decide +kernel)) gX1_clsall) gX2_clsall) gX10_clsall) gX5_clsall) gX8_clsall) gX3_clsall) gX2_letterAlone_all) gX5_set_all) gX1_comesBack_all) gX1_tryWhole_all)
set_option maxRecDepth 20000 in
theorem ggX1_find_X1_tryLast : GoodIn wsX1_find wsX1_tryLast := goodIn_sub (fun _ h => List.mem_cons_of_mem _ (List.mem_append_left _ (List.mem_append_left _ (List.mem_append_right _ (h))))) gX1_tryLast_all
set_option maxRecDepth 20000 in
theorem gX1_find_X1_tryLast : GoodIn wsX1_find (wsV RX1 124 RX1 yX1_tryLast wsX1_tryLast) := goodIn_app (goodIn_r _ [30, 31, 32, 15] rfl (by decide +kernel)) ggX1_find_X1_tryLast
set_option maxRecDepth 100000 in
theorem dA342_cX1_find : kDec cX1_find [(40, .getfield 55, 3), (43, .iload_n 1, 1), (44, .aload_n 0, 1), (45, .getfield 16, 3), (48, .aload_n 0, 1), (49, .getfield 85, 3), (52, .invokevirtual 116, 3), (55, .aload_n 0, 1), (56, .getfield 59, 3), (59, .aload_n 0, 1), (60, .getfield 55, 3), (63, .invokevirtual 120, 3), (66, .aload_n 0, 1), (67, .iconst (-1), 1), (68, .invokevirtual 124, 3), (71, .goto 91, 3)] = true := by decide +kernel
theorem dX1_find_40 : decode cX1_find 40 = .ok (.getfield 55, 3) := kDec_at dA342_cX1_find 0 rfl
theorem dX1_find_43 : decode cX1_find 43 = .ok (.iload_n 1, 1) := kDec_at dA342_cX1_find 1 rfl
theorem dX1_find_44 : decode cX1_find 44 = .ok (.aload_n 0, 1) := kDec_at dA342_cX1_find 2 rfl
theorem dX1_find_45 : decode cX1_find 45 = .ok (.getfield 16, 3) := kDec_at dA342_cX1_find 3 rfl
theorem dX1_find_48 : decode cX1_find 48 = .ok (.aload_n 0, 1) := kDec_at dA342_cX1_find 4 rfl
theorem dX1_find_49 : decode cX1_find 49 = .ok (.getfield 85, 3) := kDec_at dA342_cX1_find 5 rfl
theorem dX1_find_52 : decode cX1_find 52 = .ok (.invokevirtual 116, 3) := kDec_at dA342_cX1_find 6 rfl
theorem dX1_find_55 : decode cX1_find 55 = .ok (.aload_n 0, 1) := kDec_at dA342_cX1_find 7 rfl
theorem dX1_find_56 : decode cX1_find 56 = .ok (.getfield 59, 3) := kDec_at dA342_cX1_find 8 rfl
theorem dX1_find_59 : decode cX1_find 59 = .ok (.aload_n 0, 1) := kDec_at dA342_cX1_find 9 rfl
theorem dX1_find_60 : decode cX1_find 60 = .ok (.getfield 55, 3) := kDec_at dA342_cX1_find 10 rfl
theorem dX1_find_63 : decode cX1_find 63 = .ok (.invokevirtual 120, 3) := kDec_at dA342_cX1_find 11 rfl
theorem dX1_find_66 : decode cX1_find 66 = .ok (.aload_n 0, 1) := kDec_at dA342_cX1_find 12 rfl
theorem dX1_find_67 : decode cX1_find 67 = .ok (.iconst (-1), 1) := kDec_at dA342_cX1_find 13 rfl
theorem dX1_find_68 : decode cX1_find 68 = .ok (.invokevirtual 124, 3) := kDec_at dA342_cX1_find 14 rfl
theorem dX1_find_71 : decode cX1_find 71 = .ok (.goto 91, 3) := kDec_at dA342_cX1_find 15 rfl

end

/-! 5k.chs -/
section
def FEQ (g f : Nat → Int32) (p q : Nat) : Prop := ∀ j, j ≠ p → j ≠ q → g j = f j
theorem FEQ_u {g f : Nat → Int32} {p q : Nat} {x y : Int32} (h : FEQ g f p q) : upd (upd g p x) q y = upd (upd f p x) q y := by
  funext j
  by_cases w : j = q
  · rw [w, pk_us, pk_us]
  · rw [pk_un w, pk_un w]
    by_cases w2 : j = p
    · rw [w2, pk_us, pk_us]
    · rw [pk_un w2, pk_un w2]; exact h j w2 w
theorem FEQ_n {g g1 g2 f : Nat → Int32} {p q : Nat} {o : Int32} (h : FEQ g f p q) (e1 : g1 = upd g p o) (h2 : ∀ x : Int32, upd g2 q x = upd g1 q x) : FEQ g2 f p q := fun j h1 h3 => by
  have a := congrFun (h2 0) j
  rw [pk_un h3, pk_un h3, e1, pk_un h1] at a
  rw [a]; exact h j h1 h3
theorem FEQ_1 {g g1 f : Nat → Int32} {p q : Nat} {o : Int32} (h : FEQ g f p q) (e1 : g1 = upd g p o) {j : Nat} (h1 : j ≠ p) (h2 : j ≠ q) : g1 j = f j := by
  rw [e1, pk_un h1]; exact h j h1 h2
theorem fld_256 {V : Nat → (Nat → Int) → Prop} {n0 n1 n o : Nat} {B A1 A : Nat → Nat → Int} {k : Nat} (h : FLD V 0 n0 B (256 * o) n1 A1) (h' : FLD V (256 * o) n1 A1 256 n A) (e : k = 256 * (o + 1)) : FLD V 0 n0 B k n A := by
  have q := FLD_t h 256 n A (by rw [Nat.zero_add]; exact h')
  rw [e]
  exact q

theorem fld_0 {V : Nat → (Nat → Int) → Prop} {s n : Nat} {B B' A : Nat → Nat → Int} {j : Nat} (h : FLD V s 0 B j n A) : FLD V s 0 B' j n A := by
  induction j generalizing n A with
  | zero => exact ⟨h.1, fun i hi => absurd hi (by show ¬ i < 0; omega)⟩
  | succ j ih =>
    obtain ⟨n1, A1, h1, h2⟩ := h
    exact ⟨n1, A1, ih h1, h2⟩

set_option maxHeartbeats 40000000 in
set_option maxRecDepth 100000 in
theorem f_X1_find (l : Launch) (dC : Nat → ClassId) (dI : Nat → Nat → Nat) (cI cS : ClassId) (sz : Nat) (oW : Nat) (oC : Nat) (oK : Nat) (nw : Nat) (w1 : Nat) (w2 : Nat) (w3 : Nat) (o7 : Nat) (o8 : Nat) (o9 : Nat) (w4 : Nat) (w5 : Nat) (w6 : Nat) (w7 : Nat) (aw : Nat) (o4 : Nat) (o5 : Nat) (a41 : Nat) (a42 : Nat) (a43 : Nat) (a51 : Nat) (a52 : Nat) (a53 : Nat) (k1 : Nat) (k2 : Nat) (ke : Int32) (tl : Int32) (fsh : Int32) (wi : Int32) (ri : Int32) (fm : Int32) (lm : Int32) (fW1 : Nat → Int32) (fW2 : Nat → Int32) (fW3 : Nat → Int32) (fW4 : Nat → Int32) (fW5 : Nat → Int32) (fW6 : Nat → Int32) (fW7 : Nat → Int32) (lw : Int32) (fw : Nat → Int32) (re7 : Int32) (la7 : Int32) (su7 : Int32) (le7 : Int32) (re8 : Int32) (la8 : Int32) (su8 : Int32) (le8 : Int32) (re9 : Int32) (la9 : Int32) (su9 : Int32) (le9 : Int32) (l4 : Int32) (f41 : Nat → Int32) (l5 : Int32) (f51 : Nat → Int32) (lK : Int32) (fK1 : Nat → Int32) (fK2 : Nat → Int32) (a : Int32) (b : Int32) (gV : Nat → (Nat → Int) → Prop) (g_ke : 0 ≤ ke.toInt ∧ ke.toInt ≤ 200) (g_fsh : 0 ≤ fsh.toInt ∧ fsh.toInt ≤ 1) (g_fm : -1 ≤ fm.toInt ∧ fm.toInt ≤ 800) (g_lm : -1 ≤ lm.toInt ∧ lm.toInt ≤ 800) (g_lw : 0 ≤ lw.toInt ∧ lw.toInt ≤ 800) (g_lK : 0 ≤ lK.toInt ∧ lK.toInt ≤ 300) (hlw : lm.toInt < lw.toInt) (hlm0 : 0 ≤ lm.toInt) (hfm0 : fm.toInt = -1 ∨ (0 ≤ fm.toInt ∧ fm.toInt < lm.toInt)) (hby : prg lw.toInt 0 255 fw) (hL4 : prg 256 (-1) 65535 f41) (hL5 : prg 256 (-1) 65535 f51) (hT : HT 1024 1023 hsK fK1 fK2) (ho : (occ fK2 1024 : Int) ≤ lK.toInt) (hVk : prg 1024 (-1) 200 fK2) (hV1 : fm.toInt = -1 → ∀ v : Int32, 0 ≤ v.toInt → v.toInt ≤ 255 → ∀ e, gV v.toNatClampNeg e ↔ (alF b v f41 f51 = -1 ∧ BVG a b f41 f51 (tcC fK1 fK2) (upd fw lm.toNatClampNeg v) lw.toInt fm lm ((-1 : Int32).toInt) (v.toInt) e)) (hV2 : ¬ fm.toInt = -1 → ∀ o v : Int32, 0 ≤ o.toInt → o.toInt ≤ 255 → 0 ≤ v.toInt → v.toInt ≤ 255 → ∀ e, gV (256 * o.toNatClampNeg + v.toNatClampNeg) e ↔ (alF b o f41 f51 = -1 ∧ alF b v f41 f51 = -1 ∧ BVG a b f41 f51 (tcC fK1 fK2) (upd (upd fw fm.toNatClampNeg o) lm.toNatClampNeg v) lw.toInt fm lm (o.toInt) (v.toInt) e)) : kMi l yX1_find wsX1_find ({ frames := 6, cells := 0, slots := 0, locals := 145 } : Room) [.ref oW, .int a, .int b] sz (dC, dI) vwCl [(cI, .int), (cS, .short)] [(oW, .inr (1, [.ref oC, .ref oK, .ref nw, .ref w1, .ref w2, .ref w3, .ref o7, .ref o8, .ref o9, .ref w4, .ref w5, .ref w6, .ref w7, .int ke, .int tl, .int fsh, .int wi, .int ri, .int fm, .int lm])), (w1, .inl (cI, 801, .inl fW1)), (w2, .inl (cI, 801, .inl fW2)), (w3, .inl (cI, 801, .inl fW3)), (w4, .inl (cI, 200, .inl fW4)), (w5, .inl (cI, 200, .inl fW5)), (w6, .inl (cI, 200, .inl fW6)), (w7, .inl (cI, 200, .inl fW7)), (nw, .inr (5, [.ref aw, .int lw])), (aw, .inl (cI, 800, .inl fw)), (o7, .inr (8, [.ref oC, .ref oK, .int re7, .int la7, .int su7, .int le7])), (o8, .inr (8, [.ref oC, .ref oK, .int re8, .int la8, .int su8, .int le8])), (o9, .inr (8, [.ref oC, .ref oK, .int re9, .int la9, .int su9, .int le9])), (oC, .inr (2, [.ref o4, .ref o5])), (o4, .inr (10, [.ref a41, .ref a42, .ref a43, .int l4])), (a41, .inl (cI, 256, .inl f41)), (o5, .inr (10, [.ref a51, .ref a52, .ref a53, .int l5])), (a51, .inl (cI, 256, .inl f51)), (oK, .inr (3, [.ref k1, .ref k2, .int lK])), (k1, .inl (cI, 1024, .inl fK1)), (k2, .inl (cI, 1024, .inl fK2))] (va_Nw (.methodLinkNest RX2 52 yX11_isLetter "TextMender")) 0 0 (fun (A : Nat → Prop) (r : Int32) (hh9 : Heap) => ∀ PZ9 : Prop, (∀ (wi' : Int32) (ri' : Int32) (fsh' : Int32) (fw' : Nat → Int32) (fW1' : Nat → Int32) (fW2' : Nat → Int32) (fW3' : Nat → Int32) (ke' : Int32) (tl' : Int32) (fW4' : Nat → Int32) (fW5' : Nat → Int32) (fW6' : Nat → Int32) (fW7' : Nat → Int32) (re7' : Int32) (la7' : Int32) (su7' : Int32) (le7' : Int32) (re8' : Int32) (la8' : Int32) (su8' : Int32) (le8' : Int32) (re9' : Int32) (la9' : Int32) (su9' : Int32) (le9' : Int32), kPD (dC, dI) vwCl A [(oW, .inr (1, [.ref oC, .ref oK, .ref nw, .ref w1, .ref w2, .ref w3, .ref o7, .ref o8, .ref o9, .ref w4, .ref w5, .ref w6, .ref w7, .int ke', .int tl', .int fsh', .int wi', .int ri', .int fm, .int lm])), (w1, .inl (cI, 801, .inl fW1')), (w2, .inl (cI, 801, .inl fW2')), (w3, .inl (cI, 801, .inl fW3')), (w4, .inl (cI, 200, .inl fW4')), (w5, .inl (cI, 200, .inl fW5')), (w6, .inl (cI, 200, .inl fW6')), (w7, .inl (cI, 200, .inl fW7')), (nw, .inr (5, [.ref aw, .int lw])), (aw, .inl (cI, 800, .inl fw')), (o7, .inr (8, [.ref oC, .ref oK, .int re7', .int la7', .int su7', .int le7'])), (o8, .inr (8, [.ref oC, .ref oK, .int re8', .int la8', .int su8', .int le8'])), (o9, .inr (8, [.ref oC, .ref oK, .int re9', .int la9', .int su9', .int le9'])), (oC, .inr (2, [.ref o4, .ref o5])), (o4, .inr (10, [.ref a41, .ref a42, .ref a43, .int l4])), (a41, .inl (cI, 256, .inl f41)), (o5, .inr (10, [.ref a51, .ref a52, .ref a53, .int l5])), (a51, .inl (cI, 256, .inl f51)), (oK, .inr (3, [.ref k1, .ref k2, .int lK])), (k1, .inl (cI, 1024, .inl fK1)), (k2, .inl (cI, 1024, .inl fK2))] hh9 → (0 ≤ fsh'.toInt ∧ fsh'.toInt ≤ 1) → (0 ≤ ke'.toInt ∧ ke'.toInt ≤ 200) → (0 ≤ tl'.toInt ∧ tl'.toInt ≤ 65536) → (wi' = a ∧ ri' = b ∧ fsh' = 1 ∧ r = tl') → (ke'.toInt = (m200 tl'.toNatClampNeg : Int)) → (FLD gV 0 0 (fun _ _ => (0 : Int)) (if fm.toInt = -1 then 256 else 65536) tl'.toNatClampNeg (CA fW4' fW5' fW6' fW7')) → PZ9) → PZ9) := by
  refine kMi_of (cc := cX1_find) (maxL := 4) (ret := (some .int)) (lv := [(0, .ref oW), (1, .int a), (2, .int b)]) (by decide +kernel) rfl rfl (Nat.le_of_ble_eq_true rfl) ?_
  intro p e s m below meth c A QQ ls hx hb hr hts hml hown hlocks hA hQQ hK hX hP hD hS hl
  have hown : s.vm.findClass RX1 = some m.cls := hown
  have hcf := k_cf hx hb hml hown hts
  have hN52 := hX
  have in_X1 : ∀ w ∈ wsX10, w ∈ wsX1_find := fun _ h => List.mem_cons_of_mem _ (List.mem_append_left _ (List.mem_append_left _ (List.mem_append_left _ (List.mem_append_left _ (List.mem_append_left _ (List.mem_append_left _ (List.mem_append_left _ (List.mem_append_left _ (List.mem_append_left _ (List.mem_append_left _ (List.mem_append_left _ (List.mem_append_left _ (List.mem_append_right _ (h))))))))))))))
  replace g_ke := hid g_ke
  replace g_fsh := hid g_fsh
  have z0 : (0 : Int32).toInt = 0 := rfl
  have z1 : (1 : Int32).toInt = 1 := rfl
  have zm1 : (-1 : Int32).toInt = -1 := rfl
  have cw9 := v_clamp (x := lw) (by omega)
  have cl9 := v_clamp (x := lm) (by omega)
  have cfm := fun (z9 : 0 ≤ fm.toInt) => v_clamp (x := fm) z9
  refine lv_aload_n hx hb dX1_find_0 rfl (lv_at hl 0 rfl) ?_
  refine lv_iload_n hx hb dX1_find_1 rfl (lv_at hl 1 rfl) ?_
  refine va_put (D := (dC, dI)) (ci := 1) (v := .int a) (ty := .int) (C := RX1) (T := TX1) (N := 20) hx hb hts in_X1 tyX1 tyX1_ok nmX1 hown hK hP hD hS 0 rfl rfl 16 (Nat.le_of_ble_eq_true rfl) (hts (.fieldLink RX1 76 "TextMender$Choices" "writtenIn" "I") (List.mem_of_getElem? (i := 1) rfl)) (fun _ h9 => h9) rfl (tyX1_ok 16 (Nat.le_of_ble_eq_true rfl)) rfl rfl (Nat.le_of_ble_eq_true rfl) dX1_find_2 (kW (wn := [(oW, .inr (1, [.ref oC, .ref oK, .ref nw, .ref w1, .ref w2, .ref w3, .ref o7, .ref o8, .ref o9, .ref w4, .ref w5, .ref w6, .ref w7, .int ke, .int tl, .int fsh, .int a, .int ri, .int fm, .int lm])), (w1, .inl (cI, 801, .inl fW1)), (w2, .inl (cI, 801, .inl fW2)), (w3, .inl (cI, 801, .inl fW3)), (w4, .inl (cI, 200, .inl fW4)), (w5, .inl (cI, 200, .inl fW5)), (w6, .inl (cI, 200, .inl fW6)), (w7, .inl (cI, 200, .inl fW7)), (nw, .inr (5, [.ref aw, .int lw])), (aw, .inl (cI, 800, .inl fw)), (o7, .inr (8, [.ref oC, .ref oK, .int re7, .int la7, .int su7, .int le7])), (o8, .inr (8, [.ref oC, .ref oK, .int re8, .int la8, .int su8, .int le8])), (o9, .inr (8, [.ref oC, .ref oK, .int re9, .int la9, .int su9, .int le9])), (oC, .inr (2, [.ref o4, .ref o5])), (o4, .inr (10, [.ref a41, .ref a42, .ref a43, .int l4])), (a41, .inl (cI, 256, .inl f41)), (o5, .inr (10, [.ref a51, .ref a52, .ref a53, .int l5])), (a51, .inl (cI, 256, .inl f51)), (oK, .inr (3, [.ref k1, .ref k2, .int lK])), (k1, .inl (cI, 1024, .inl fK1)), (k2, .inl (cI, 1024, .inl fK2))]) rfl (fun H locs hPn hDn hSn => ?_))
  clear hP hD hS
  have hP := hPn
  have hD := hDn
  have hS := hSn
  clear hPn hDn hSn
  refine lv_aload_n hx hb dX1_find_5 rfl (lv_at hl 0 rfl) ?_
  refine lv_iload_n hx hb dX1_find_6 rfl (lv_at hl 2 rfl) ?_
  refine va_put (D := (dC, dI)) (ci := 1) (v := .int b) (ty := .int) (C := RX1) (T := TX1) (N := 20) hx hb hts in_X1 tyX1 tyX1_ok nmX1 hown hK hP hD hS 0 rfl rfl 17 (Nat.le_of_ble_eq_true rfl) (hts (.fieldLink RX1 79 "TextMender$Choices" "readIn" "I") (List.mem_of_getElem? (i := 2) rfl)) (fun _ h9 => h9) rfl (tyX1_ok 17 (Nat.le_of_ble_eq_true rfl)) rfl rfl (Nat.le_of_ble_eq_true rfl) dX1_find_7 (kW (wn := [(oW, .inr (1, [.ref oC, .ref oK, .ref nw, .ref w1, .ref w2, .ref w3, .ref o7, .ref o8, .ref o9, .ref w4, .ref w5, .ref w6, .ref w7, .int ke, .int tl, .int fsh, .int a, .int b, .int fm, .int lm])), (w1, .inl (cI, 801, .inl fW1)), (w2, .inl (cI, 801, .inl fW2)), (w3, .inl (cI, 801, .inl fW3)), (w4, .inl (cI, 200, .inl fW4)), (w5, .inl (cI, 200, .inl fW5)), (w6, .inl (cI, 200, .inl fW6)), (w7, .inl (cI, 200, .inl fW7)), (nw, .inr (5, [.ref aw, .int lw])), (aw, .inl (cI, 800, .inl fw)), (o7, .inr (8, [.ref oC, .ref oK, .int re7, .int la7, .int su7, .int le7])), (o8, .inr (8, [.ref oC, .ref oK, .int re8, .int la8, .int su8, .int le8])), (o9, .inr (8, [.ref oC, .ref oK, .int re9, .int la9, .int su9, .int le9])), (oC, .inr (2, [.ref o4, .ref o5])), (o4, .inr (10, [.ref a41, .ref a42, .ref a43, .int l4])), (a41, .inl (cI, 256, .inl f41)), (o5, .inr (10, [.ref a51, .ref a52, .ref a53, .int l5])), (a51, .inl (cI, 256, .inl f51)), (oK, .inr (3, [.ref k1, .ref k2, .int lK])), (k1, .inl (cI, 1024, .inl fK1)), (k2, .inl (cI, 1024, .inl fK2))]) rfl (fun H locs hPn hDn hSn => ?_))
  clear hP hD hS
  have hP := hPn
  have hD := hDn
  have hS := hSn
  clear hPn hDn hSn
  refine lv_aload_n hx hb dX1_find_10 rfl (lv_at hl 0 rfl) ?_
  refine lv_iconst (v := 0) hx hb dX1_find_11 (by decide) ?_
  refine va_put (D := (dC, dI)) (ci := 1) (v := .int 0) (ty := .int) (C := RX1) (T := TX1) (N := 20) hx hb hts in_X1 tyX1 tyX1_ok nmX1 hown hK hP hD hS 0 rfl rfl 13 (Nat.le_of_ble_eq_true rfl) (hts (.fieldLink RX1 65 "TextMender$Choices" "kept" "I") (List.mem_of_getElem? (i := 3) rfl)) (fun _ h9 => h9) rfl (tyX1_ok 13 (Nat.le_of_ble_eq_true rfl)) rfl rfl (Nat.le_of_ble_eq_true rfl) dX1_find_12 (kW (wn := [(oW, .inr (1, [.ref oC, .ref oK, .ref nw, .ref w1, .ref w2, .ref w3, .ref o7, .ref o8, .ref o9, .ref w4, .ref w5, .ref w6, .ref w7, .int 0, .int tl, .int fsh, .int a, .int b, .int fm, .int lm])), (w1, .inl (cI, 801, .inl fW1)), (w2, .inl (cI, 801, .inl fW2)), (w3, .inl (cI, 801, .inl fW3)), (w4, .inl (cI, 200, .inl fW4)), (w5, .inl (cI, 200, .inl fW5)), (w6, .inl (cI, 200, .inl fW6)), (w7, .inl (cI, 200, .inl fW7)), (nw, .inr (5, [.ref aw, .int lw])), (aw, .inl (cI, 800, .inl fw)), (o7, .inr (8, [.ref oC, .ref oK, .int re7, .int la7, .int su7, .int le7])), (o8, .inr (8, [.ref oC, .ref oK, .int re8, .int la8, .int su8, .int le8])), (o9, .inr (8, [.ref oC, .ref oK, .int re9, .int la9, .int su9, .int le9])), (oC, .inr (2, [.ref o4, .ref o5])), (o4, .inr (10, [.ref a41, .ref a42, .ref a43, .int l4])), (a41, .inl (cI, 256, .inl f41)), (o5, .inr (10, [.ref a51, .ref a52, .ref a53, .int l5])), (a51, .inl (cI, 256, .inl f51)), (oK, .inr (3, [.ref k1, .ref k2, .int lK])), (k1, .inl (cI, 1024, .inl fK1)), (k2, .inl (cI, 1024, .inl fK2))]) rfl (fun H locs hPn hDn hSn => ?_))
  clear hP hD hS
  have hP := hPn
  have hD := hDn
  have hS := hSn
  clear hPn hDn hSn
  refine lv_aload_n hx hb dX1_find_15 rfl (lv_at hl 0 rfl) ?_
  refine lv_iconst (v := 0) hx hb dX1_find_16 (by decide) ?_
  refine va_put (D := (dC, dI)) (ci := 1) (v := .int 0) (ty := .int) (C := RX1) (T := TX1) (N := 20) hx hb hts in_X1 tyX1 tyX1_ok nmX1 hown hK hP hD hS 0 rfl rfl 14 (Nat.le_of_ble_eq_true rfl) (hts (.fieldLink RX1 69 "TextMender$Choices" "total" "I") (List.mem_of_getElem? (i := 4) rfl)) (fun _ h9 => h9) rfl (tyX1_ok 14 (Nat.le_of_ble_eq_true rfl)) rfl rfl (Nat.le_of_ble_eq_true rfl) dX1_find_17 (kW (wn := [(oW, .inr (1, [.ref oC, .ref oK, .ref nw, .ref w1, .ref w2, .ref w3, .ref o7, .ref o8, .ref o9, .ref w4, .ref w5, .ref w6, .ref w7, .int 0, .int 0, .int fsh, .int a, .int b, .int fm, .int lm])), (w1, .inl (cI, 801, .inl fW1)), (w2, .inl (cI, 801, .inl fW2)), (w3, .inl (cI, 801, .inl fW3)), (w4, .inl (cI, 200, .inl fW4)), (w5, .inl (cI, 200, .inl fW5)), (w6, .inl (cI, 200, .inl fW6)), (w7, .inl (cI, 200, .inl fW7)), (nw, .inr (5, [.ref aw, .int lw])), (aw, .inl (cI, 800, .inl fw)), (o7, .inr (8, [.ref oC, .ref oK, .int re7, .int la7, .int su7, .int le7])), (o8, .inr (8, [.ref oC, .ref oK, .int re8, .int la8, .int su8, .int le8])), (o9, .inr (8, [.ref oC, .ref oK, .int re9, .int la9, .int su9, .int le9])), (oC, .inr (2, [.ref o4, .ref o5])), (o4, .inr (10, [.ref a41, .ref a42, .ref a43, .int l4])), (a41, .inl (cI, 256, .inl f41)), (o5, .inr (10, [.ref a51, .ref a52, .ref a53, .int l5])), (a51, .inl (cI, 256, .inl f51)), (oK, .inr (3, [.ref k1, .ref k2, .int lK])), (k1, .inl (cI, 1024, .inl fK1)), (k2, .inl (cI, 1024, .inl fK2))]) rfl (fun H locs hPn hDn hSn => ?_))
  clear hP hD hS
  have hP := hPn
  have hD := hDn
  have hS := hSn
  clear hPn hDn hSn
  refine lv_aload_n hx hb dX1_find_20 rfl (lv_at hl 0 rfl) ?_
  refine kV_v (rest := []) (q0 := 0) (ci := 1) hcf (f_X1_findTails l dC dI cI cS H.size oW oC oK nw w1 w2 w3 o7 o8 o9 w4 w5 w6 w7 aw o4 o5 a41 a42 a43 a51 a52 a53 k1 k2 0 0 fsh a b fm lm fW1 fW2 fW3 lw fw l4 f41 l5 f51 lK fK1 fK2 (by decide) (g_fsh) (g_fm) (g_lm) (g_lw) (g_lK) (by omega) (by omega) (hby) (hL4) (hL5) (hT) (ho) (hVk)) kc_X1_findTails gX1_find_X1_findTails rfl rfl rfl ⟨Nat.le_of_ble_eq_true rfl, Nat.le_of_ble_eq_true rfl⟩ (kX_1 hN52) hK hP hD hS hA (posT mk_85 0) (posF mk_85 0) (kC_of mk_85 rfl rfl) (by decide +kernel) rfl rfl rfl hl rfl (Nat.le_of_ble_eq_true rfl) dX1_find_21 ⟨Nat.le_of_ble_eq_true rfl, Nat.le_of_ble_eq_true rfl⟩ (fun H locs hB hJ hSn => ?_)
  refine hB _ (fun fW1_1 fW2_1 fW3_1 hPD9 hf1_0 => ?_)
  clear hB
  obtain ⟨hPn, hDn⟩ := kJi (m := mk_85) hJ rfl hPD9.1 hPD9.2 (wn := [(oW, .inr (1, [.ref oC, .ref oK, .ref nw, .ref w1, .ref w2, .ref w3, .ref o7, .ref o8, .ref o9, .ref w4, .ref w5, .ref w6, .ref w7, .int 0, .int 0, .int fsh, .int a, .int b, .int fm, .int lm])), (w1, .inl (cI, 801, .inl fW1_1)), (w2, .inl (cI, 801, .inl fW2_1)), (w3, .inl (cI, 801, .inl fW3_1)), (w4, .inl (cI, 200, .inl fW4)), (w5, .inl (cI, 200, .inl fW5)), (w6, .inl (cI, 200, .inl fW6)), (w7, .inl (cI, 200, .inl fW7)), (nw, .inr (5, [.ref aw, .int lw])), (aw, .inl (cI, 800, .inl fw)), (o7, .inr (8, [.ref oC, .ref oK, .int re7, .int la7, .int su7, .int le7])), (o8, .inr (8, [.ref oC, .ref oK, .int re8, .int la8, .int su8, .int le8])), (o9, .inr (8, [.ref oC, .ref oK, .int re9, .int la9, .int su9, .int le9])), (oC, .inr (2, [.ref o4, .ref o5])), (o4, .inr (10, [.ref a41, .ref a42, .ref a43, .int l4])), (a41, .inl (cI, 256, .inl f41)), (o5, .inr (10, [.ref a51, .ref a52, .ref a53, .int l5])), (a51, .inl (cI, 256, .inl f51)), (oK, .inr (3, [.ref k1, .ref k2, .int lK])), (k1, .inl (cI, 1024, .inl fK1)), (k2, .inl (cI, 1024, .inl fK2))]) rfl
  clear hP hD hS hJ hPD9
  have hP := hPn
  have hD := hDn
  have hS := hSn
  clear hPn hDn hSn
  refine lv_aload_n hx hb dX1_find_24 rfl (lv_at hl 0 rfl) ?_
  refine va_get (D := (dC, dI)) (ci := 1) (v := .ref o7) (C := RX1) (T := TX1) (N := 20) hx hb hts in_X1 hown hK hP 0 rfl rfl 6 (Nat.le_of_ble_eq_true rfl) (hts (.fieldLink RX1 55 "TextMender$Choices" "head" "LTextMender$Reading;") (List.mem_of_getElem? (i := 5) rfl)) (fun _ h9 => h9) rfl dX1_find_25 ?_
  refine kV_v (rest := []) (q0 := 0) (ci := 8) hcf (f_X8_begin l dC dI cI cS H.size o7 oC oK re7 la7 su7 le7 ) kc_X8_begin gX1_find_X8_begin rfl rfl rfl ⟨Nat.le_of_ble_eq_true rfl, Nat.le_of_ble_eq_true rfl⟩ kX_t hK hP hD hS hA (posT mk_86 0) (posF mk_86 0) (kC_of mk_86 rfl rfl) (by decide +kernel) rfl rfl rfl hl rfl (Nat.le_of_ble_eq_true rfl) dX1_find_28 ⟨Nat.le_of_ble_eq_true rfl, Nat.le_of_ble_eq_true rfl⟩ (fun H locs hB hJ hSn => ?_)
  refine hB _ (fun reE_2 laE_2 suE_2 leE_2 hPD9 hf2_0 => ?_)
  clear hB
  obtain ⟨hPn, hDn⟩ := kJi (m := mk_86) hJ rfl hPD9.1 hPD9.2 (wn := [(oW, .inr (1, [.ref oC, .ref oK, .ref nw, .ref w1, .ref w2, .ref w3, .ref o7, .ref o8, .ref o9, .ref w4, .ref w5, .ref w6, .ref w7, .int 0, .int 0, .int fsh, .int a, .int b, .int fm, .int lm])), (w1, .inl (cI, 801, .inl fW1_1)), (w2, .inl (cI, 801, .inl fW2_1)), (w3, .inl (cI, 801, .inl fW3_1)), (w4, .inl (cI, 200, .inl fW4)), (w5, .inl (cI, 200, .inl fW5)), (w6, .inl (cI, 200, .inl fW6)), (w7, .inl (cI, 200, .inl fW7)), (nw, .inr (5, [.ref aw, .int lw])), (aw, .inl (cI, 800, .inl fw)), (o7, .inr (8, [.ref oC, .ref oK, .int reE_2, .int laE_2, .int suE_2, .int leE_2])), (o8, .inr (8, [.ref oC, .ref oK, .int re8, .int la8, .int su8, .int le8])), (o9, .inr (8, [.ref oC, .ref oK, .int re9, .int la9, .int su9, .int le9])), (oC, .inr (2, [.ref o4, .ref o5])), (o4, .inr (10, [.ref a41, .ref a42, .ref a43, .int l4])), (a41, .inl (cI, 256, .inl f41)), (o5, .inr (10, [.ref a51, .ref a52, .ref a53, .int l5])), (a51, .inl (cI, 256, .inl f51)), (oK, .inr (3, [.ref k1, .ref k2, .int lK])), (k1, .inl (cI, 1024, .inl fK1)), (k2, .inl (cI, 1024, .inl fK2))]) rfl
  clear hP hD hS hJ hPD9
  have hP := hPn
  have hD := hDn
  have hS := hSn
  clear hPn hDn hSn
  obtain ⟨hb1, hb2, hb3, hb4⟩ := hf2_0
  have hb5 := v_eq hb1
  have hb6 := v_eq hb3
  have hb7 := v_eq hb4
  have hb8 := v_eq hb2
  have z32 : (32 : Int32).toInt = 32 := rfl
  refine lv_aload_n hx hb dX1_find_31 rfl (lv_at hl 0 rfl) ?_
  refine va_get (D := (dC, dI)) (ci := 1) (v := .int fm) (C := RX1) (T := TX1) (N := 20) hx hb hts in_X1 hown hK hP 0 rfl rfl 18 (Nat.le_of_ble_eq_true rfl) (hts (.fieldLink RX1 82 "TextMender$Choices" "firstMark" "I") (List.mem_of_getElem? (i := 6) rfl)) (fun _ h9 => h9) rfl dX1_find_32 ?_
  refine lv_iconst (v := (-1)) hx hb dX1_find_35 (by decide) ?_
  refine lv_icmp_ne (tgt := 74) hx hb dX1_find_36 (by decide) (fun c_3 => ?_) (fun c_3 => ?_)
  · have tc_3 : ¬ fm.toInt = (-1) := v_ne c_3
    refine lv_aload_n hx hb dX1_find_74 rfl (lv_at hl 0 rfl) ?_
    refine va_get (D := (dC, dI)) (ci := 1) (v := .ref o7) (C := RX1) (T := TX1) (N := 20) hx hb hts in_X1 hown hK hP 0 rfl rfl 6 (Nat.le_of_ble_eq_true rfl) (hts (.fieldLink RX1 55 "TextMender$Choices" "head" "LTextMender$Reading;") (List.mem_of_getElem? (i := 5) rfl)) (fun _ h9 => h9) rfl dX1_find_75 ?_
    refine lv_iload_n hx hb dX1_find_78 rfl (lv_at hl 1 rfl) ?_
    refine lv_aload_n hx hb dX1_find_79 rfl (lv_at hl 0 rfl) ?_
    refine va_get (D := (dC, dI)) (ci := 1) (v := .ref nw) (C := RX1) (T := TX1) (N := 20) hx hb hts in_X1 hown hK hP 0 rfl rfl 2 (Nat.le_of_ble_eq_true rfl) (hts (.fieldLink RX1 16 "TextMender$Choices" "bytes" "LTextMender$Numbers;") (List.mem_of_getElem? (i := 7) rfl)) (fun _ h9 => h9) rfl dX1_find_80 ?_
    refine lv_aload_n hx hb dX1_find_83 rfl (lv_at hl 0 rfl) ?_
    refine va_get (D := (dC, dI)) (ci := 1) (v := .int fm) (C := RX1) (T := TX1) (N := 20) hx hb hts in_X1 hown hK hP 0 rfl rfl 18 (Nat.le_of_ble_eq_true rfl) (hts (.fieldLink RX1 82 "TextMender$Choices" "firstMark" "I") (List.mem_of_getElem? (i := 6) rfl)) (fun _ h9 => h9) rfl dX1_find_84 ?_
    refine kV_v (rest := []) (q0 := 0) (ci := 8) hcf (f_X8_goOn l dC dI cI cS H.size o7 nw oC oK o4 o5 a41 a42 a43 a51 a52 a53 k1 k2 aw 800 reE_2 laE_2 suE_2 leE_2 l4 f41 l5 f51 lK fK1 fK2 lw fw a fm (by omega) (g_lK) (by omega) (by omega) (by omega) (fun j hj => hby j (by omega)) (hL4) (hL5) (hT) (ho) (hVk) (by omega) (RS_0 hb5 hb2 hb6 hb7)) kc_X8_goOn gX1_find_X8_goOn rfl rfl rfl ⟨Nat.le_of_ble_eq_true rfl, Nat.le_of_ble_eq_true rfl⟩ (kX_1 hN52) hK hP hD hS hA ([2, 3, 4, 5, 6, 7, 8, 9, 10, 0, 1].filterMap (fun j => (posT mk_87 0)[j]?)) (posF mk_87 0) (kCp (ws := [(nw, .inr (5, [.ref aw, .int lw])), (aw, .inl (cI, 800, .inl fw)), (o7, .inr (8, [.ref oC, .ref oK, .int reE_2, .int laE_2, .int suE_2, .int leE_2])), (oC, .inr (2, [.ref o4, .ref o5])), (o4, .inr (10, [.ref a41, .ref a42, .ref a43, .int l4])), (a41, .inl (cI, 256, .inl f41)), (o5, .inr (10, [.ref a51, .ref a52, .ref a53, .int l5])), (a51, .inl (cI, 256, .inl f51)), (oK, .inr (3, [.ref k1, .ref k2, .int lK])), (k1, .inl (cI, 1024, .inl fK1)), (k2, .inl (cI, 1024, .inl fK2))]) (kC_of mk_87 rfl rfl) rfl) (by decide +kernel) rfl rfl rfl hl rfl (Nat.le_of_ble_eq_true rfl) dX1_find_87 ⟨Nat.le_of_ble_eq_true rfl, Nat.le_of_ble_eq_true rfl⟩ (fun H locs hB hJ hSn => ?_)
    refine hB _ (fun reE_4 laE_4 suE_4 leE_4 hPD9 hf4_0 hf4_1 hf4_2 hf4_3 => ?_)
    clear hB
    obtain ⟨hPn, hDn⟩ := kJm (m := mk_87) hJ rfl hPD9.1 hPD9.2 [9, 10, 0, 1, 2, 3, 4, 5, 6, 7, 8] (by decide +kernel) (ws := [(nw, .inr (5, [.ref aw, .int lw])), (aw, .inl (cI, 800, .inl fw)), (o7, .inr (8, [.ref oC, .ref oK, .int reE_4, .int laE_4, .int suE_4, .int leE_4])), (oC, .inr (2, [.ref o4, .ref o5])), (o4, .inr (10, [.ref a41, .ref a42, .ref a43, .int l4])), (a41, .inl (cI, 256, .inl f41)), (o5, .inr (10, [.ref a51, .ref a52, .ref a53, .int l5])), (a51, .inl (cI, 256, .inl f51)), (oK, .inr (3, [.ref k1, .ref k2, .int lK])), (k1, .inl (cI, 1024, .inl fK1)), (k2, .inl (cI, 1024, .inl fK2))]) rfl (wn := [(oW, .inr (1, [.ref oC, .ref oK, .ref nw, .ref w1, .ref w2, .ref w3, .ref o7, .ref o8, .ref o9, .ref w4, .ref w5, .ref w6, .ref w7, .int 0, .int 0, .int fsh, .int a, .int b, .int fm, .int lm])), (w1, .inl (cI, 801, .inl fW1_1)), (w2, .inl (cI, 801, .inl fW2_1)), (w3, .inl (cI, 801, .inl fW3_1)), (w4, .inl (cI, 200, .inl fW4)), (w5, .inl (cI, 200, .inl fW5)), (w6, .inl (cI, 200, .inl fW6)), (w7, .inl (cI, 200, .inl fW7)), (nw, .inr (5, [.ref aw, .int lw])), (aw, .inl (cI, 800, .inl fw)), (o7, .inr (8, [.ref oC, .ref oK, .int reE_4, .int laE_4, .int suE_4, .int leE_4])), (o8, .inr (8, [.ref oC, .ref oK, .int re8, .int la8, .int su8, .int le8])), (o9, .inr (8, [.ref oC, .ref oK, .int re9, .int la9, .int su9, .int le9])), (oC, .inr (2, [.ref o4, .ref o5])), (o4, .inr (10, [.ref a41, .ref a42, .ref a43, .int l4])), (a41, .inl (cI, 256, .inl f41)), (o5, .inr (10, [.ref a51, .ref a52, .ref a53, .int l5])), (a51, .inl (cI, 256, .inl f51)), (oK, .inr (3, [.ref k1, .ref k2, .int lK])), (k1, .inl (cI, 1024, .inl fK1)), (k2, .inl (cI, 1024, .inl fK2))]) rfl
    clear hP hD hS hJ hPD9
    have hP := hPn
    have hD := hDn
    have hS := hSn
    clear hPn hDn hSn
    refine lv_iconst (v := 0) hx hb dX1_find_90 (by decide) ?_
    refine lv_istore_n (lv' := [(3, .int 0), (0, .ref oW), (1, .int a), (2, .int b)]) hx hb dX1_find_91 rfl hl (by decide) rfl (fun ls hl => ?_)
    have LOOP_92 : ∀ (k_92 : Nat) (o : Int32) (reb : Int32) (lab : Int32) (sub : Int32) (leb : Int32) (keb : Int32) (tlb : Int32) (rec : Int32) (lac : Int32) (suc : Int32) (lec : Int32) (fw4b : Nat → Int32) (fw5b : Nat → Int32) (fw6b : Nat → Int32) (fw7b : Nat → Int32) (fwb : Nat → Int32) (H : Heap) (locs : List Loc) (ls : Array Slot), MSd (256 - o.toInt : Int) k_92 → (0 ≤ o.toInt ∧ o.toInt ≤ 256) → (0 ≤ keb.toInt ∧ keb.toInt ≤ 200) → (0 ≤ tlb.toInt ∧ tlb.toInt ≤ 65536) → (tlb.toInt ≤ 256 * o.toInt) → (keb.toInt = (m200 tlb.toNatClampNeg : Int)) → (FEQ fwb fw fm.toNatClampNeg lm.toNatClampNeg ∧ prg lw.toInt 0 255 fwb) → (FLD gV 0 0 (fun _ _ => (0 : Int)) (256 * o.toNatClampNeg) tlb.toNatClampNeg (CA fw4b fw5b fw6b fw7b)) → va_P (dC, dI) vwCl [(oW, .inr (1, [.ref oC, .ref oK, .ref nw, .ref w1, .ref w2, .ref w3, .ref o7, .ref o8, .ref o9, .ref w4, .ref w5, .ref w6, .ref w7, .int keb, .int tlb, .int fsh, .int a, .int b, .int fm, .int lm])), (w1, .inl (cI, 801, .inl fW1_1)), (w2, .inl (cI, 801, .inl fW2_1)), (w3, .inl (cI, 801, .inl fW3_1)), (w4, .inl (cI, 200, .inl fw4b)), (w5, .inl (cI, 200, .inl fw5b)), (w6, .inl (cI, 200, .inl fw6b)), (w7, .inl (cI, 200, .inl fw7b)), (nw, .inr (5, [.ref aw, .int lw])), (aw, .inl (cI, 800, .inl fwb)), (o7, .inr (8, [.ref oC, .ref oK, .int reE_4, .int laE_4, .int suE_4, .int leE_4])), (o8, .inr (8, [.ref oC, .ref oK, .int rec, .int lac, .int suc, .int lec])), (o9, .inr (8, [.ref oC, .ref oK, .int reb, .int lab, .int sub, .int leb])), (oC, .inr (2, [.ref o4, .ref o5])), (o4, .inr (10, [.ref a41, .ref a42, .ref a43, .int l4])), (a41, .inl (cI, 256, .inl f41)), (o5, .inr (10, [.ref a51, .ref a52, .ref a53, .int l5])), (a51, .inl (cI, 256, .inl f51)), (oK, .inr (3, [.ref k1, .ref k2, .int lK])), (k1, .inl (cI, 1024, .inl fK1)), (k2, .inl (cI, 1024, .inl fK2))] H → va_D A [(oW, .inr (1, [.ref oC, .ref oK, .ref nw, .ref w1, .ref w2, .ref w3, .ref o7, .ref o8, .ref o9, .ref w4, .ref w5, .ref w6, .ref w7, .int keb, .int tlb, .int fsh, .int a, .int b, .int fm, .int lm])), (w1, .inl (cI, 801, .inl fW1_1)), (w2, .inl (cI, 801, .inl fW2_1)), (w3, .inl (cI, 801, .inl fW3_1)), (w4, .inl (cI, 200, .inl fw4b)), (w5, .inl (cI, 200, .inl fw5b)), (w6, .inl (cI, 200, .inl fw6b)), (w7, .inl (cI, 200, .inl fw7b)), (nw, .inr (5, [.ref aw, .int lw])), (aw, .inl (cI, 800, .inl fwb)), (o7, .inr (8, [.ref oC, .ref oK, .int reE_4, .int laE_4, .int suE_4, .int leE_4])), (o8, .inr (8, [.ref oC, .ref oK, .int rec, .int lac, .int suc, .int lec])), (o9, .inr (8, [.ref oC, .ref oK, .int reb, .int lab, .int sub, .int leb])), (oC, .inr (2, [.ref o4, .ref o5])), (o4, .inr (10, [.ref a41, .ref a42, .ref a43, .int l4])), (a41, .inl (cI, 256, .inl f41)), (o5, .inr (10, [.ref a51, .ref a52, .ref a53, .int l5])), (a51, .inl (cI, 256, .inl f51)), (oK, .inr (3, [.ref k1, .ref k2, .int lK])), (k1, .inl (cI, 1024, .inl fK1)), (k2, .inl (cI, 1024, .inl fK2))] → va_S A s.heap H locs → lv_has ls 4 [(3, .int o), (0, .ref oW), (1, .int a), (2, .int b)] → W p l e (headSpec wsX1_find ({ frames := 6, cells := 0, slots := 0, locals := 145 } : Room)).room s m ([.ref oW, .int a, .int b] : List Value).toArray below meth c H locs 0 0 (MQ below QQ ([.ref oW, .int a, .int b] : List Value).toArray s 0 0 A) (F0 m 92 ls []) := by
      clear hP hD hS hl
      try (clear hf2_0)
      intro k_92
      induction k_92 with
      | zero =>
        intro o reb lab sub leb keb tlb rec lac suc lec fw4b fw5b fw6b fw7b fwb H locs ls hm_92 g_o g_keb g_tlb htlb hkea hfb hfl hP hD hS hl
        exact ms_0 hm_92
      | succ k_92 ih_92 =>
        intro o reb lab sub leb keb tlb rec lac suc lec fw4b fw5b fw6b fw7b fwb H locs ls hm_92 g_o g_keb g_tlb htlb hkea hfb hfl hP hD hS hl
        refine lv_iload_n hx hb dX1_find_92 rfl (lv_at hl 0 rfl) ?_
        refine lv_sipush (v := 256) hx hb dX1_find_93 (by decide) ?_
        refine lv_icmp_ge (tgt := 162) hx hb dX1_find_96 (by decide) (fun c_5 => ?_) (fun c_5 => ?_)
        · have tc_5 : 256 ≤ o.toInt := v_le c_5
          refine lv_aload_n hx hb dX1_find_162 rfl (lv_at hl 1 rfl) ?_
          refine lv_iconst (v := 1) hx hb dX1_find_163 (by decide) ?_
          refine va_put (D := (dC, dI)) (ci := 1) (v := .int 1) (ty := .boolean) (C := RX1) (T := TX1) (N := 20) hx hb hts in_X1 tyX1 tyX1_ok nmX1 hown hK hP hD hS 0 rfl rfl 15 (Nat.le_of_ble_eq_true rfl) (hts (.fieldLink RX1 72 "TextMender$Choices" "fresh" "Z") (List.mem_of_getElem? (i := 11) rfl)) (fun _ h9 => h9) rfl (tyX1_ok 15 (Nat.le_of_ble_eq_true rfl)) rfl rfl (Nat.le_of_ble_eq_true rfl) dX1_find_164 (kW (wn := [(oW, .inr (1, [.ref oC, .ref oK, .ref nw, .ref w1, .ref w2, .ref w3, .ref o7, .ref o8, .ref o9, .ref w4, .ref w5, .ref w6, .ref w7, .int keb, .int tlb, .int 1, .int a, .int b, .int fm, .int lm])), (w1, .inl (cI, 801, .inl fW1_1)), (w2, .inl (cI, 801, .inl fW2_1)), (w3, .inl (cI, 801, .inl fW3_1)), (w4, .inl (cI, 200, .inl fw4b)), (w5, .inl (cI, 200, .inl fw5b)), (w6, .inl (cI, 200, .inl fw6b)), (w7, .inl (cI, 200, .inl fw7b)), (nw, .inr (5, [.ref aw, .int lw])), (aw, .inl (cI, 800, .inl fwb)), (o7, .inr (8, [.ref oC, .ref oK, .int reE_4, .int laE_4, .int suE_4, .int leE_4])), (o8, .inr (8, [.ref oC, .ref oK, .int rec, .int lac, .int suc, .int lec])), (o9, .inr (8, [.ref oC, .ref oK, .int reb, .int lab, .int sub, .int leb])), (oC, .inr (2, [.ref o4, .ref o5])), (o4, .inr (10, [.ref a41, .ref a42, .ref a43, .int l4])), (a41, .inl (cI, 256, .inl f41)), (o5, .inr (10, [.ref a51, .ref a52, .ref a53, .int l5])), (a51, .inl (cI, 256, .inl f51)), (oK, .inr (3, [.ref k1, .ref k2, .int lK])), (k1, .inl (cI, 1024, .inl fK1)), (k2, .inl (cI, 1024, .inl fK2))]) rfl (fun H locs hPn hDn hSn => ?_))
          clear hP hD hS
          have hP := hPn
          have hD := hDn
          have hS := hSn
          clear hPn hDn hSn
          refine lv_aload_n hx hb dX1_find_167 rfl (lv_at hl 1 rfl) ?_
          refine va_get (D := (dC, dI)) (ci := 1) (v := .int tlb) (C := RX1) (T := TX1) (N := 20) hx hb hts in_X1 hown hK hP 0 rfl rfl 14 (Nat.le_of_ble_eq_true rfl) (hts (.fieldLink RX1 69 "TextMender$Choices" "total" "I") (List.mem_of_getElem? (i := 4) rfl)) (fun _ h9 => h9) rfl dX1_find_168 ?_
          exact kl_i (v := tlb) hQQ hx hb hr hlocks hS dX1_find_171 (fun PZ9 kZ9 => kZ9 a b 1 fwb fW1_1 fW2_1 fW3_1 keb tlb fw4b fw5b fw6b fw7b reE_4 laE_4 suE_4 leE_4 rec lac suc lec reb lab sub leb (⟨hP, hD⟩) (by decide) (g_keb) (by show 0 ≤ tlb.toInt ∧ tlb.toInt ≤ 65536; omega) (⟨rfl, rfl, rfl, rfl⟩) (hkea) (by rw [if_neg (by omega)]; exact (show 256 * o.toNatClampNeg = 65536 from (by have c8 := v_clamp (x := o) (by omega); omega)) ▸ hfl))
        · have tc_5 : o.toInt < 256 := v_nle c_5
          have co9 := v_clamp (x := o) (by omega)
          have cta := v_clamp (x := tlb) (by omega)
          refine lv_aload_n hx hb dX1_find_99 rfl (lv_at hl 1 rfl) ?_
          refine va_get (D := (dC, dI)) (ci := 1) (v := .ref oC) (C := RX1) (T := TX1) (N := 20) hx hb hts in_X1 hown hK hP 0 rfl rfl 0 (Nat.le_of_ble_eq_true rfl) (hts (.fieldLink RX1 42 "TextMender$Choices" "codes" "LTextMender$Codes;") (List.mem_of_getElem? (i := 10) rfl)) (fun _ h9 => h9) rfl dX1_find_100 ?_
          refine lv_iload_n hx hb dX1_find_103 rfl (lv_at hl 3 rfl) ?_
          refine lv_iload_n hx hb dX1_find_104 rfl (lv_at hl 0 rfl) ?_
          refine kV_i (rest := []) (q0 := 0) (ci := 2) hcf (f_X2_letterAlone l dC dI cI cS H.size oC o4 o5 a41 a42 a43 a51 a52 a53 l4 f41 l5 f51 b o (by omega)) kc_X2_letterAlone gX1_find_X2_letterAlone rfl rfl rfl ⟨Nat.le_of_ble_eq_true rfl, Nat.le_of_ble_eq_true rfl⟩ kX_t hK hP hD hS hA (posT mk_88 0) (posF mk_88 0) (kC_of mk_88 rfl rfl) (by decide +kernel) rfl rfl rfl hl rfl (Nat.le_of_ble_eq_true rfl) dX1_find_105 ⟨Nat.le_of_ble_eq_true rfl, Nat.le_of_ble_eq_true rfl⟩ (fun r_6 H locs hB hJ hSn => ?_)
          refine hB _ (fun hPD9 hf6_0 => ?_)
          clear hB
          obtain ⟨hPn, hDn⟩ := kJi (m := mk_88) hJ rfl hPD9.1 hPD9.2 (wn := [(oW, .inr (1, [.ref oC, .ref oK, .ref nw, .ref w1, .ref w2, .ref w3, .ref o7, .ref o8, .ref o9, .ref w4, .ref w5, .ref w6, .ref w7, .int keb, .int tlb, .int fsh, .int a, .int b, .int fm, .int lm])), (w1, .inl (cI, 801, .inl fW1_1)), (w2, .inl (cI, 801, .inl fW2_1)), (w3, .inl (cI, 801, .inl fW3_1)), (w4, .inl (cI, 200, .inl fw4b)), (w5, .inl (cI, 200, .inl fw5b)), (w6, .inl (cI, 200, .inl fw6b)), (w7, .inl (cI, 200, .inl fw7b)), (nw, .inr (5, [.ref aw, .int lw])), (aw, .inl (cI, 800, .inl fwb)), (o7, .inr (8, [.ref oC, .ref oK, .int reE_4, .int laE_4, .int suE_4, .int leE_4])), (o8, .inr (8, [.ref oC, .ref oK, .int rec, .int lac, .int suc, .int lec])), (o9, .inr (8, [.ref oC, .ref oK, .int reb, .int lab, .int sub, .int leb])), (oC, .inr (2, [.ref o4, .ref o5])), (o4, .inr (10, [.ref a41, .ref a42, .ref a43, .int l4])), (a41, .inl (cI, 256, .inl f41)), (o5, .inr (10, [.ref a51, .ref a52, .ref a53, .int l5])), (a51, .inl (cI, 256, .inl f51)), (oK, .inr (3, [.ref k1, .ref k2, .int lK])), (k1, .inl (cI, 1024, .inl fK1)), (k2, .inl (cI, 1024, .inl fK2))]) rfl
          clear hP hD hS hJ hPD9
          have hP := hPn
          have hD := hDn
          have hS := hSn
          clear hPn hDn hSn
          refine lv_iconst (v := (-1)) hx hb dX1_find_108 (by decide) ?_
          refine lv_icmp_ne (tgt := 156) hx hb dX1_find_109 (by decide) (fun c_7 => ?_) (fun c_7 => ?_)
          · have tc_7 : ¬ r_6.toInt = (-1) := v_ne c_7
            obtain ⟨x_8, ex_8⟩ : ∃ y : Int32, y = o + 1 := ⟨_, rfl⟩
            have tx_8 : x_8.toInt = o.toInt + 1 := v_addR (l2 := 1) (h2 := 1) ex_8 g_o (by decide) (by decide) (by decide)
            refine lv_iinc (v := x_8) (lv' := [(3, .int x_8), (0, .ref oW), (1, .int a), (2, .int b)]) hx hb dX1_find_156 hl (k := 0) rfl (by rw [ex_8]; rfl) (by decide) rfl (fun ls hl => ?_)
            refine lv_goto (tgt := 92) hx hb dX1_find_159 (by decide) ?_
            exact ih_92 x_8 reb lab sub leb keb tlb rec lac suc lec fw4b fw5b fw6b fw7b fwb _ _ _ (ms_lt hm_92 (by show ((256 - x_8.toInt : Int)) < 256 - o.toInt; omega) (by show (0 : Int) < 256 - o.toInt; omega)) (by show 0 ≤ x_8.toInt ∧ x_8.toInt ≤ 256; omega) (g_keb) (g_tlb) (by show tlb.toInt ≤ 256 * x_8.toInt; omega) (hkea) (hfb) (fld_256 hfl (FLD_no 256 (fun q9 e9 hq9 w9 => c_7 (hf6_0.trans ((hV2 (by omega) o (Int32.ofNat q9) (by omega) (by omega) (by rw [v_nat (by omega)]; omega) (by rw [v_nat (by omega)]; omega) e9).mp (by rw [ix_eq (x := Int32.ofNat q9) (N := q9) (v_nat (by omega))]; exact w9)).1))) (by rw [ix_eq (x := x_8) (N := o.toNatClampNeg + 1) (by omega)])) hP hD hS (lv_sub hl [0, 1, 2, 3] rfl)
          · have tc_7 : r_6.toInt = (-1) := v_eq c_7
            refine lv_aload_n hx hb dX1_find_112 rfl (lv_at hl 1 rfl) ?_
            refine va_get (D := (dC, dI)) (ci := 1) (v := .ref nw) (C := RX1) (T := TX1) (N := 20) hx hb hts in_X1 hown hK hP 0 rfl rfl 2 (Nat.le_of_ble_eq_true rfl) (hts (.fieldLink RX1 16 "TextMender$Choices" "bytes" "LTextMender$Numbers;") (List.mem_of_getElem? (i := 7) rfl)) (fun _ h9 => h9) rfl dX1_find_113 ?_
            refine lv_aload_n hx hb dX1_find_116 rfl (lv_at hl 1 rfl) ?_
            refine va_get (D := (dC, dI)) (ci := 1) (v := .int fm) (C := RX1) (T := TX1) (N := 20) hx hb hts in_X1 hown hK hP 0 rfl rfl 18 (Nat.le_of_ble_eq_true rfl) (hts (.fieldLink RX1 82 "TextMender$Choices" "firstMark" "I") (List.mem_of_getElem? (i := 6) rfl)) (fun _ h9 => h9) rfl dX1_find_117 ?_
            refine lv_iload_n hx hb dX1_find_120 rfl (lv_at hl 0 rfl) ?_
            refine kV_v (rest := []) (q0 := 0) (ci := 5) hcf (f_X5_set l dC dI cI cS H.size nw aw 800 lw fwb fm o (by omega) (by omega)) kc_X5_set gX1_find_X5_set rfl rfl rfl ⟨Nat.le_of_ble_eq_true rfl, Nat.le_of_ble_eq_true rfl⟩ kX_t hK hP hD hS hA (posT mk_89 0) (posF mk_89 0) (kC_of mk_89 rfl rfl) (by decide +kernel) rfl rfl rfl hl rfl (Nat.le_of_ble_eq_true rfl) dX1_find_121 ⟨Nat.le_of_ble_eq_true rfl, Nat.le_of_ble_eq_true rfl⟩ (fun H locs hB hJ hSn => ?_)
            refine hB _ (fun fu_9 hPD9 hf9_0 => ?_)
            clear hB
            obtain ⟨hPn, hDn⟩ := kJi (m := mk_89) hJ rfl hPD9.1 hPD9.2 (wn := [(oW, .inr (1, [.ref oC, .ref oK, .ref nw, .ref w1, .ref w2, .ref w3, .ref o7, .ref o8, .ref o9, .ref w4, .ref w5, .ref w6, .ref w7, .int keb, .int tlb, .int fsh, .int a, .int b, .int fm, .int lm])), (w1, .inl (cI, 801, .inl fW1_1)), (w2, .inl (cI, 801, .inl fW2_1)), (w3, .inl (cI, 801, .inl fW3_1)), (w4, .inl (cI, 200, .inl fw4b)), (w5, .inl (cI, 200, .inl fw5b)), (w6, .inl (cI, 200, .inl fw6b)), (w7, .inl (cI, 200, .inl fw7b)), (nw, .inr (5, [.ref aw, .int lw])), (aw, .inl (cI, 800, .inl fu_9)), (o7, .inr (8, [.ref oC, .ref oK, .int reE_4, .int laE_4, .int suE_4, .int leE_4])), (o8, .inr (8, [.ref oC, .ref oK, .int rec, .int lac, .int suc, .int lec])), (o9, .inr (8, [.ref oC, .ref oK, .int reb, .int lab, .int sub, .int leb])), (oC, .inr (2, [.ref o4, .ref o5])), (o4, .inr (10, [.ref a41, .ref a42, .ref a43, .int l4])), (a41, .inl (cI, 256, .inl f41)), (o5, .inr (10, [.ref a51, .ref a52, .ref a53, .int l5])), (a51, .inl (cI, 256, .inl f51)), (oK, .inr (3, [.ref k1, .ref k2, .int lK])), (k1, .inl (cI, 1024, .inl fK1)), (k2, .inl (cI, 1024, .inl fK2))]) rfl
            clear hP hD hS hJ hPD9
            have hP := hPn
            have hD := hDn
            have hS := hSn
            clear hPn hDn hSn
            have hfs9 := F_set_f hf9_0 (by omega) (by omega)
            have hbs9 : prg lw.toInt 0 255 fu_9 := prg_upd hfb.2 hfs9 (by omega)
            refine lv_aload_n hx hb dX1_find_124 rfl (lv_at hl 1 rfl) ?_
            refine va_get (D := (dC, dI)) (ci := 1) (v := .ref o8) (C := RX1) (T := TX1) (N := 20) hx hb hts in_X1 hown hK hP 0 rfl rfl 7 (Nat.le_of_ble_eq_true rfl) (hts (.fieldLink RX1 59 "TextMender$Choices" "middle" "LTextMender$Reading;") (List.mem_of_getElem? (i := 9) rfl)) (fun _ h9 => h9) rfl dX1_find_125 ?_
            refine lv_aload_n hx hb dX1_find_128 rfl (lv_at hl 1 rfl) ?_
            refine va_get (D := (dC, dI)) (ci := 1) (v := .ref o7) (C := RX1) (T := TX1) (N := 20) hx hb hts in_X1 hown hK hP 0 rfl rfl 6 (Nat.le_of_ble_eq_true rfl) (hts (.fieldLink RX1 55 "TextMender$Choices" "head" "LTextMender$Reading;") (List.mem_of_getElem? (i := 5) rfl)) (fun _ h9 => h9) rfl dX1_find_129 ?_
            refine kV_v (rest := []) (q0 := 0) (ci := 8) hcf (f_X8_takeAll l dC dI cI cS H.size o8 o7 oC oK rec lac suc lec reE_4 laE_4 suE_4 leE_4 ) kc_X8_takeAll gX1_find_X8_takeAll rfl rfl rfl ⟨Nat.le_of_ble_eq_true rfl, Nat.le_of_ble_eq_true rfl⟩ kX_t hK hP hD hS hA ([1, 0].filterMap (fun j => (posT mk_90 0)[j]?)) (posF mk_90 0) (kCp (ws := [(o7, .inr (8, [.ref oC, .ref oK, .int reE_4, .int laE_4, .int suE_4, .int leE_4])), (o8, .inr (8, [.ref oC, .ref oK, .int rec, .int lac, .int suc, .int lec]))]) (kC_of mk_90 rfl rfl) rfl) (by decide +kernel) rfl rfl rfl hl rfl (Nat.le_of_ble_eq_true rfl) dX1_find_132 ⟨Nat.le_of_ble_eq_true rfl, Nat.le_of_ble_eq_true rfl⟩ (fun H locs hB hJ hSn => ?_)
            refine hB _ (fun reE_10 laE_10 suE_10 leE_10 hPD9 hf10_0 => ?_)
            clear hB
            obtain ⟨hPn, hDn⟩ := kJm (m := mk_90) hJ rfl hPD9.1 hPD9.2 [1, 0] (by decide +kernel) (ws := [(o7, .inr (8, [.ref oC, .ref oK, .int reE_4, .int laE_4, .int suE_4, .int leE_4])), (o8, .inr (8, [.ref oC, .ref oK, .int reE_10, .int laE_10, .int suE_10, .int leE_10]))]) rfl (wn := [(oW, .inr (1, [.ref oC, .ref oK, .ref nw, .ref w1, .ref w2, .ref w3, .ref o7, .ref o8, .ref o9, .ref w4, .ref w5, .ref w6, .ref w7, .int keb, .int tlb, .int fsh, .int a, .int b, .int fm, .int lm])), (w1, .inl (cI, 801, .inl fW1_1)), (w2, .inl (cI, 801, .inl fW2_1)), (w3, .inl (cI, 801, .inl fW3_1)), (w4, .inl (cI, 200, .inl fw4b)), (w5, .inl (cI, 200, .inl fw5b)), (w6, .inl (cI, 200, .inl fw6b)), (w7, .inl (cI, 200, .inl fw7b)), (nw, .inr (5, [.ref aw, .int lw])), (aw, .inl (cI, 800, .inl fu_9)), (o7, .inr (8, [.ref oC, .ref oK, .int reE_4, .int laE_4, .int suE_4, .int leE_4])), (o8, .inr (8, [.ref oC, .ref oK, .int reE_10, .int laE_10, .int suE_10, .int leE_10])), (o9, .inr (8, [.ref oC, .ref oK, .int reb, .int lab, .int sub, .int leb])), (oC, .inr (2, [.ref o4, .ref o5])), (o4, .inr (10, [.ref a41, .ref a42, .ref a43, .int l4])), (a41, .inl (cI, 256, .inl f41)), (o5, .inr (10, [.ref a51, .ref a52, .ref a53, .int l5])), (a51, .inl (cI, 256, .inl f51)), (oK, .inr (3, [.ref k1, .ref k2, .int lK])), (k1, .inl (cI, 1024, .inl fK1)), (k2, .inl (cI, 1024, .inl fK2))]) rfl
            clear hP hD hS hJ hPD9
            have hP := hPn
            have hD := hDn
            have hS := hSn
            clear hPn hDn hSn
            obtain ⟨h1_10, h2_10, h3_10, h4_10⟩ := hf10_0
            have k1_10 := v_eq h1_10
            have k2_10 := v_eq h2_10
            have k3_10 := v_eq h3_10
            have k4_10 := v_eq h4_10
            refine lv_aload_n hx hb dX1_find_135 rfl (lv_at hl 1 rfl) ?_
            refine va_get (D := (dC, dI)) (ci := 1) (v := .ref o8) (C := RX1) (T := TX1) (N := 20) hx hb hts in_X1 hown hK hP 0 rfl rfl 7 (Nat.le_of_ble_eq_true rfl) (hts (.fieldLink RX1 59 "TextMender$Choices" "middle" "LTextMender$Reading;") (List.mem_of_getElem? (i := 9) rfl)) (fun _ h9 => h9) rfl dX1_find_136 ?_
            refine lv_iload_n hx hb dX1_find_139 rfl (lv_at hl 2 rfl) ?_
            refine lv_aload_n hx hb dX1_find_140 rfl (lv_at hl 1 rfl) ?_
            refine va_get (D := (dC, dI)) (ci := 1) (v := .ref nw) (C := RX1) (T := TX1) (N := 20) hx hb hts in_X1 hown hK hP 0 rfl rfl 2 (Nat.le_of_ble_eq_true rfl) (hts (.fieldLink RX1 16 "TextMender$Choices" "bytes" "LTextMender$Numbers;") (List.mem_of_getElem? (i := 7) rfl)) (fun _ h9 => h9) rfl dX1_find_141 ?_
            refine lv_aload_n hx hb dX1_find_144 rfl (lv_at hl 1 rfl) ?_
            refine va_get (D := (dC, dI)) (ci := 1) (v := .int lm) (C := RX1) (T := TX1) (N := 20) hx hb hts in_X1 hown hK hP 0 rfl rfl 19 (Nat.le_of_ble_eq_true rfl) (hts (.fieldLink RX1 85 "TextMender$Choices" "lastMark" "I") (List.mem_of_getElem? (i := 8) rfl)) (fun _ h9 => h9) rfl dX1_find_145 ?_
            refine kV_v (rest := []) (q0 := 0) (ci := 8) hcf (f_X8_goOn l dC dI cI cS H.size o8 nw oC oK o4 o5 a41 a42 a43 a51 a52 a53 k1 k2 aw 800 reE_10 laE_10 suE_10 leE_10 l4 f41 l5 f51 lK fK1 fK2 lw fu_9 a lm (by omega) (g_lK) (by omega) (by omega) (by omega) (fun j hj => hbs9 j (by omega)) (hL4) (hL5) (hT) (ho) (hVk) (by omega) (by rw [h1_10, h2_10, h3_10, h4_10]; exact RS_up hf4_2 (fun p9 hp9 => dl_up (fun j hj => (FEQ_1 hfb.1 hfs9 (by omega) (by omega)).symm) (by omega) hp9))) kc_X8_goOn gX1_find_X8_goOn rfl rfl rfl ⟨Nat.le_of_ble_eq_true rfl, Nat.le_of_ble_eq_true rfl⟩ (kX_1 hN52) hK hP hD hS hA ([2, 3, 4, 5, 6, 7, 8, 9, 10, 0, 1].filterMap (fun j => (posT mk_91 0)[j]?)) (posF mk_91 0) (kCp (ws := [(nw, .inr (5, [.ref aw, .int lw])), (aw, .inl (cI, 800, .inl fu_9)), (o8, .inr (8, [.ref oC, .ref oK, .int reE_10, .int laE_10, .int suE_10, .int leE_10])), (oC, .inr (2, [.ref o4, .ref o5])), (o4, .inr (10, [.ref a41, .ref a42, .ref a43, .int l4])), (a41, .inl (cI, 256, .inl f41)), (o5, .inr (10, [.ref a51, .ref a52, .ref a53, .int l5])), (a51, .inl (cI, 256, .inl f51)), (oK, .inr (3, [.ref k1, .ref k2, .int lK])), (k1, .inl (cI, 1024, .inl fK1)), (k2, .inl (cI, 1024, .inl fK2))]) (kC_of mk_91 rfl rfl) rfl) (by decide +kernel) rfl rfl rfl hl rfl (Nat.le_of_ble_eq_true rfl) dX1_find_148 ⟨Nat.le_of_ble_eq_true rfl, Nat.le_of_ble_eq_true rfl⟩ (fun H locs hB hJ hSn => ?_)
            refine hB _ (fun reE_11 laE_11 suE_11 leE_11 hPD9 hf11_0 hf11_1 hf11_2 hf11_3 => ?_)
            clear hB
            obtain ⟨hPn, hDn⟩ := kJm (m := mk_91) hJ rfl hPD9.1 hPD9.2 [9, 10, 0, 1, 2, 3, 4, 5, 6, 7, 8] (by decide +kernel) (ws := [(nw, .inr (5, [.ref aw, .int lw])), (aw, .inl (cI, 800, .inl fu_9)), (o8, .inr (8, [.ref oC, .ref oK, .int reE_11, .int laE_11, .int suE_11, .int leE_11])), (oC, .inr (2, [.ref o4, .ref o5])), (o4, .inr (10, [.ref a41, .ref a42, .ref a43, .int l4])), (a41, .inl (cI, 256, .inl f41)), (o5, .inr (10, [.ref a51, .ref a52, .ref a53, .int l5])), (a51, .inl (cI, 256, .inl f51)), (oK, .inr (3, [.ref k1, .ref k2, .int lK])), (k1, .inl (cI, 1024, .inl fK1)), (k2, .inl (cI, 1024, .inl fK2))]) rfl (wn := [(oW, .inr (1, [.ref oC, .ref oK, .ref nw, .ref w1, .ref w2, .ref w3, .ref o7, .ref o8, .ref o9, .ref w4, .ref w5, .ref w6, .ref w7, .int keb, .int tlb, .int fsh, .int a, .int b, .int fm, .int lm])), (w1, .inl (cI, 801, .inl fW1_1)), (w2, .inl (cI, 801, .inl fW2_1)), (w3, .inl (cI, 801, .inl fW3_1)), (w4, .inl (cI, 200, .inl fw4b)), (w5, .inl (cI, 200, .inl fw5b)), (w6, .inl (cI, 200, .inl fw6b)), (w7, .inl (cI, 200, .inl fw7b)), (nw, .inr (5, [.ref aw, .int lw])), (aw, .inl (cI, 800, .inl fu_9)), (o7, .inr (8, [.ref oC, .ref oK, .int reE_4, .int laE_4, .int suE_4, .int leE_4])), (o8, .inr (8, [.ref oC, .ref oK, .int reE_11, .int laE_11, .int suE_11, .int leE_11])), (o9, .inr (8, [.ref oC, .ref oK, .int reb, .int lab, .int sub, .int leb])), (oC, .inr (2, [.ref o4, .ref o5])), (o4, .inr (10, [.ref a41, .ref a42, .ref a43, .int l4])), (a41, .inl (cI, 256, .inl f41)), (o5, .inr (10, [.ref a51, .ref a52, .ref a53, .int l5])), (a51, .inl (cI, 256, .inl f51)), (oK, .inr (3, [.ref k1, .ref k2, .int lK])), (k1, .inl (cI, 1024, .inl fK1)), (k2, .inl (cI, 1024, .inl fK2))]) rfl
            clear hP hD hS hJ hPD9
            have hP := hPn
            have hD := hDn
            have hS := hSn
            clear hPn hDn hSn
            refine lv_aload_n hx hb dX1_find_151 rfl (lv_at hl 1 rfl) ?_
            refine lv_iload_n hx hb dX1_find_152 rfl (lv_at hl 0 rfl) ?_
            refine kV_v (rest := []) (q0 := 0) (ci := 1) hcf (f_X1_tryLast l dC dI cI cS H.size oW oC oK nw w1 w2 w3 o7 o8 o9 w4 w5 w6 w7 aw o4 o5 a41 a42 a43 a51 a52 a53 k1 k2 keb tlb fsh a b fm lm fW1_1 fW2_1 fW3_1 fw4b fw5b fw6b fw7b lw fu_9 reE_11 laE_11 suE_11 leE_11 reb lab sub leb l4 f41 l5 f51 lK fK1 fK2 o gV (256 * o.toNatClampNeg) (g_keb) (g_fsh) (g_fm) (g_lm) (g_lw) (hf11_0) (g_lK) (by omega) (by omega) (hbs9) (hL4) (hL5) (hT) (ho) (hVk) (fun p p1 p2 => TLK_sf (fun j hj => (FEQ_1 hfb.1 hfs9 (by omega) (by omega)).symm) (hf1_0 p p1 p2)) (by omega) (hkea) (FLD_s (fun i j h1 h2 => absurd h2 (Nat.not_lt_zero _)) _ _ _ hfl) (by omega) (hf11_2) (fun v h0 h1 e => (hV2 (by omega) o v (by omega) (by omega) h0 h1 e).trans ⟨fun w9 => ⟨w9.2.1, by rw [hfs9, FEQ_u hfb.1]; exact w9.2.2⟩, fun w9 => ⟨hf6_0.symm.trans c_7, w9.1, by have q9 := w9.2; rw [hfs9, FEQ_u hfb.1] at q9; exact q9⟩⟩)) kc_X1_tryLast gX1_find_X1_tryLast rfl rfl rfl ⟨Nat.le_of_ble_eq_true rfl, Nat.le_of_ble_eq_true rfl⟩ (kX_1 hN52) hK hP hD hS hA (posT mk_92 0) (posF mk_92 0) (kC_of mk_92 rfl rfl) (by decide +kernel) rfl rfl rfl hl rfl (Nat.le_of_ble_eq_true rfl) dX1_find_153 ⟨Nat.le_of_ble_eq_true rfl, Nat.le_of_ble_eq_true rfl⟩ (fun H locs hB hJ hSn => ?_)
            refine hB _ (fun re9_12 la9_12 su9_12 le9_12 ke_12 tl_12 fW4_12 fW5_12 fW6_12 fW7_12 fw_12 hPD9 hf12_0 hf12_1 hf12_2 hf12_3 hf12_4 => ?_)
            clear hB
            obtain ⟨hPn, hDn⟩ := kJi (m := mk_92) hJ rfl hPD9.1 hPD9.2 (wn := [(oW, .inr (1, [.ref oC, .ref oK, .ref nw, .ref w1, .ref w2, .ref w3, .ref o7, .ref o8, .ref o9, .ref w4, .ref w5, .ref w6, .ref w7, .int ke_12, .int tl_12, .int fsh, .int a, .int b, .int fm, .int lm])), (w1, .inl (cI, 801, .inl fW1_1)), (w2, .inl (cI, 801, .inl fW2_1)), (w3, .inl (cI, 801, .inl fW3_1)), (w4, .inl (cI, 200, .inl fW4_12)), (w5, .inl (cI, 200, .inl fW5_12)), (w6, .inl (cI, 200, .inl fW6_12)), (w7, .inl (cI, 200, .inl fW7_12)), (nw, .inr (5, [.ref aw, .int lw])), (aw, .inl (cI, 800, .inl fw_12)), (o7, .inr (8, [.ref oC, .ref oK, .int reE_4, .int laE_4, .int suE_4, .int leE_4])), (o8, .inr (8, [.ref oC, .ref oK, .int reE_11, .int laE_11, .int suE_11, .int leE_11])), (o9, .inr (8, [.ref oC, .ref oK, .int re9_12, .int la9_12, .int su9_12, .int le9_12])), (oC, .inr (2, [.ref o4, .ref o5])), (o4, .inr (10, [.ref a41, .ref a42, .ref a43, .int l4])), (a41, .inl (cI, 256, .inl f41)), (o5, .inr (10, [.ref a51, .ref a52, .ref a53, .int l5])), (a51, .inl (cI, 256, .inl f51)), (oK, .inr (3, [.ref k1, .ref k2, .int lK])), (k1, .inl (cI, 1024, .inl fK1)), (k2, .inl (cI, 1024, .inl fK2))]) rfl
            clear hP hD hS hJ hPD9
            have hP := hPn
            have hD := hDn
            have hS := hSn
            clear hPn hDn hSn
            obtain ⟨x_13, ex_13⟩ : ∃ y : Int32, y = o + 1 := ⟨_, rfl⟩
            have tx_13 : x_13.toInt = o.toInt + 1 := v_addR (l2 := 1) (h2 := 1) ex_13 g_o (by decide) (by decide) (by decide)
            refine lv_iinc (v := x_13) (lv' := [(3, .int x_13), (0, .ref oW), (1, .int a), (2, .int b)]) hx hb dX1_find_156 hl (k := 0) rfl (by rw [ex_13]; rfl) (by decide) rfl (fun ls hl => ?_)
            refine lv_goto (tgt := 92) hx hb dX1_find_159 (by decide) ?_
            exact ih_92 x_13 re9_12 la9_12 su9_12 le9_12 ke_12 tl_12 reE_11 laE_11 suE_11 leE_11 fW4_12 fW5_12 fW6_12 fW7_12 fw_12 _ _ _ (ms_lt hm_92 (by show ((256 - x_13.toInt : Int)) < 256 - o.toInt; omega) (by show (0 : Int) < 256 - o.toInt; omega)) (by show 0 ≤ x_13.toInt ∧ x_13.toInt ≤ 256; omega) (hf12_0) (by show 0 ≤ tl_12.toInt ∧ tl_12.toInt ≤ 65536; omega) (by show tl_12.toInt ≤ 256 * x_13.toInt; omega) (hf12_2) (⟨FEQ_n hfb.1 hfs9 hf12_3.1, hf12_3.2⟩) (fld_256 hfl hf12_4 (by rw [ix_eq (x := x_13) (N := o.toNatClampNeg + 1) (by omega)])) hP hD hS (lv_sub hl [0, 1, 2, 3] rfl)
    exact LOOP_92 _ 0 re9 la9 su9 le9 0 0 re8 la8 su8 le8 fW4 fW5 fW6 fW7 fw _ _ _ (ms_s _) (by decide) (by decide) (by decide) (by show 0 ≤ 256 * 0; omega) (rfl) (⟨fun _ _ _ => rfl, hby⟩) (⟨rfl, fun i hi => absurd hi (Nat.not_lt_zero _)⟩) hP hD hS (lv_sub hl [0, 1, 2, 3] rfl)
  · have tc_3 : fm.toInt = (-1) := v_eq c_3
    refine lv_aload_n hx hb dX1_find_39 rfl (lv_at hl 0 rfl) ?_
    refine va_get (D := (dC, dI)) (ci := 1) (v := .ref o7) (C := RX1) (T := TX1) (N := 20) hx hb hts in_X1 hown hK hP 0 rfl rfl 6 (Nat.le_of_ble_eq_true rfl) (hts (.fieldLink RX1 55 "TextMender$Choices" "head" "LTextMender$Reading;") (List.mem_of_getElem? (i := 5) rfl)) (fun _ h9 => h9) rfl dX1_find_40 ?_
    refine lv_iload_n hx hb dX1_find_43 rfl (lv_at hl 1 rfl) ?_
    refine lv_aload_n hx hb dX1_find_44 rfl (lv_at hl 0 rfl) ?_
    refine va_get (D := (dC, dI)) (ci := 1) (v := .ref nw) (C := RX1) (T := TX1) (N := 20) hx hb hts in_X1 hown hK hP 0 rfl rfl 2 (Nat.le_of_ble_eq_true rfl) (hts (.fieldLink RX1 16 "TextMender$Choices" "bytes" "LTextMender$Numbers;") (List.mem_of_getElem? (i := 7) rfl)) (fun _ h9 => h9) rfl dX1_find_45 ?_
    refine lv_aload_n hx hb dX1_find_48 rfl (lv_at hl 0 rfl) ?_
    refine va_get (D := (dC, dI)) (ci := 1) (v := .int lm) (C := RX1) (T := TX1) (N := 20) hx hb hts in_X1 hown hK hP 0 rfl rfl 19 (Nat.le_of_ble_eq_true rfl) (hts (.fieldLink RX1 85 "TextMender$Choices" "lastMark" "I") (List.mem_of_getElem? (i := 8) rfl)) (fun _ h9 => h9) rfl dX1_find_49 ?_
    refine kV_v (rest := []) (q0 := 0) (ci := 8) hcf (f_X8_goOn l dC dI cI cS H.size o7 nw oC oK o4 o5 a41 a42 a43 a51 a52 a53 k1 k2 aw 800 reE_2 laE_2 suE_2 leE_2 l4 f41 l5 f51 lK fK1 fK2 lw fw a lm (by omega) (g_lK) (by omega) (by omega) (by omega) (fun j hj => hby j (by omega)) (hL4) (hL5) (hT) (ho) (hVk) (by omega) (RS_0 hb5 hb2 hb6 hb7)) kc_X8_goOn gX1_find_X8_goOn rfl rfl rfl ⟨Nat.le_of_ble_eq_true rfl, Nat.le_of_ble_eq_true rfl⟩ (kX_1 hN52) hK hP hD hS hA ([2, 3, 4, 5, 6, 7, 8, 9, 10, 0, 1].filterMap (fun j => (posT mk_87 0)[j]?)) (posF mk_87 0) (kCp (ws := [(nw, .inr (5, [.ref aw, .int lw])), (aw, .inl (cI, 800, .inl fw)), (o7, .inr (8, [.ref oC, .ref oK, .int reE_2, .int laE_2, .int suE_2, .int leE_2])), (oC, .inr (2, [.ref o4, .ref o5])), (o4, .inr (10, [.ref a41, .ref a42, .ref a43, .int l4])), (a41, .inl (cI, 256, .inl f41)), (o5, .inr (10, [.ref a51, .ref a52, .ref a53, .int l5])), (a51, .inl (cI, 256, .inl f51)), (oK, .inr (3, [.ref k1, .ref k2, .int lK])), (k1, .inl (cI, 1024, .inl fK1)), (k2, .inl (cI, 1024, .inl fK2))]) (kC_of mk_87 rfl rfl) rfl) (by decide +kernel) rfl rfl rfl hl rfl (Nat.le_of_ble_eq_true rfl) dX1_find_52 ⟨Nat.le_of_ble_eq_true rfl, Nat.le_of_ble_eq_true rfl⟩ (fun H locs hB hJ hSn => ?_)
    refine hB _ (fun reE_14 laE_14 suE_14 leE_14 hPD9 hf14_0 hf14_1 hf14_2 hf14_3 => ?_)
    clear hB
    obtain ⟨hPn, hDn⟩ := kJm (m := mk_87) hJ rfl hPD9.1 hPD9.2 [9, 10, 0, 1, 2, 3, 4, 5, 6, 7, 8] (by decide +kernel) (ws := [(nw, .inr (5, [.ref aw, .int lw])), (aw, .inl (cI, 800, .inl fw)), (o7, .inr (8, [.ref oC, .ref oK, .int reE_14, .int laE_14, .int suE_14, .int leE_14])), (oC, .inr (2, [.ref o4, .ref o5])), (o4, .inr (10, [.ref a41, .ref a42, .ref a43, .int l4])), (a41, .inl (cI, 256, .inl f41)), (o5, .inr (10, [.ref a51, .ref a52, .ref a53, .int l5])), (a51, .inl (cI, 256, .inl f51)), (oK, .inr (3, [.ref k1, .ref k2, .int lK])), (k1, .inl (cI, 1024, .inl fK1)), (k2, .inl (cI, 1024, .inl fK2))]) rfl (wn := [(oW, .inr (1, [.ref oC, .ref oK, .ref nw, .ref w1, .ref w2, .ref w3, .ref o7, .ref o8, .ref o9, .ref w4, .ref w5, .ref w6, .ref w7, .int 0, .int 0, .int fsh, .int a, .int b, .int fm, .int lm])), (w1, .inl (cI, 801, .inl fW1_1)), (w2, .inl (cI, 801, .inl fW2_1)), (w3, .inl (cI, 801, .inl fW3_1)), (w4, .inl (cI, 200, .inl fW4)), (w5, .inl (cI, 200, .inl fW5)), (w6, .inl (cI, 200, .inl fW6)), (w7, .inl (cI, 200, .inl fW7)), (nw, .inr (5, [.ref aw, .int lw])), (aw, .inl (cI, 800, .inl fw)), (o7, .inr (8, [.ref oC, .ref oK, .int reE_14, .int laE_14, .int suE_14, .int leE_14])), (o8, .inr (8, [.ref oC, .ref oK, .int re8, .int la8, .int su8, .int le8])), (o9, .inr (8, [.ref oC, .ref oK, .int re9, .int la9, .int su9, .int le9])), (oC, .inr (2, [.ref o4, .ref o5])), (o4, .inr (10, [.ref a41, .ref a42, .ref a43, .int l4])), (a41, .inl (cI, 256, .inl f41)), (o5, .inr (10, [.ref a51, .ref a52, .ref a53, .int l5])), (a51, .inl (cI, 256, .inl f51)), (oK, .inr (3, [.ref k1, .ref k2, .int lK])), (k1, .inl (cI, 1024, .inl fK1)), (k2, .inl (cI, 1024, .inl fK2))]) rfl
    clear hP hD hS hJ hPD9
    have hP := hPn
    have hD := hDn
    have hS := hSn
    clear hPn hDn hSn
    refine lv_aload_n hx hb dX1_find_55 rfl (lv_at hl 0 rfl) ?_
    refine va_get (D := (dC, dI)) (ci := 1) (v := .ref o8) (C := RX1) (T := TX1) (N := 20) hx hb hts in_X1 hown hK hP 0 rfl rfl 7 (Nat.le_of_ble_eq_true rfl) (hts (.fieldLink RX1 59 "TextMender$Choices" "middle" "LTextMender$Reading;") (List.mem_of_getElem? (i := 9) rfl)) (fun _ h9 => h9) rfl dX1_find_56 ?_
    refine lv_aload_n hx hb dX1_find_59 rfl (lv_at hl 0 rfl) ?_
    refine va_get (D := (dC, dI)) (ci := 1) (v := .ref o7) (C := RX1) (T := TX1) (N := 20) hx hb hts in_X1 hown hK hP 0 rfl rfl 6 (Nat.le_of_ble_eq_true rfl) (hts (.fieldLink RX1 55 "TextMender$Choices" "head" "LTextMender$Reading;") (List.mem_of_getElem? (i := 5) rfl)) (fun _ h9 => h9) rfl dX1_find_60 ?_
    refine kV_v (rest := []) (q0 := 0) (ci := 8) hcf (f_X8_takeAll l dC dI cI cS H.size o8 o7 oC oK re8 la8 su8 le8 reE_14 laE_14 suE_14 leE_14 ) kc_X8_takeAll gX1_find_X8_takeAll rfl rfl rfl ⟨Nat.le_of_ble_eq_true rfl, Nat.le_of_ble_eq_true rfl⟩ kX_t hK hP hD hS hA ([1, 0].filterMap (fun j => (posT mk_90 0)[j]?)) (posF mk_90 0) (kCp (ws := [(o7, .inr (8, [.ref oC, .ref oK, .int reE_14, .int laE_14, .int suE_14, .int leE_14])), (o8, .inr (8, [.ref oC, .ref oK, .int re8, .int la8, .int su8, .int le8]))]) (kC_of mk_90 rfl rfl) rfl) (by decide +kernel) rfl rfl rfl hl rfl (Nat.le_of_ble_eq_true rfl) dX1_find_63 ⟨Nat.le_of_ble_eq_true rfl, Nat.le_of_ble_eq_true rfl⟩ (fun H locs hB hJ hSn => ?_)
    refine hB _ (fun reE_15 laE_15 suE_15 leE_15 hPD9 hf15_0 => ?_)
    clear hB
    obtain ⟨hPn, hDn⟩ := kJm (m := mk_90) hJ rfl hPD9.1 hPD9.2 [1, 0] (by decide +kernel) (ws := [(o7, .inr (8, [.ref oC, .ref oK, .int reE_14, .int laE_14, .int suE_14, .int leE_14])), (o8, .inr (8, [.ref oC, .ref oK, .int reE_15, .int laE_15, .int suE_15, .int leE_15]))]) rfl (wn := [(oW, .inr (1, [.ref oC, .ref oK, .ref nw, .ref w1, .ref w2, .ref w3, .ref o7, .ref o8, .ref o9, .ref w4, .ref w5, .ref w6, .ref w7, .int 0, .int 0, .int fsh, .int a, .int b, .int fm, .int lm])), (w1, .inl (cI, 801, .inl fW1_1)), (w2, .inl (cI, 801, .inl fW2_1)), (w3, .inl (cI, 801, .inl fW3_1)), (w4, .inl (cI, 200, .inl fW4)), (w5, .inl (cI, 200, .inl fW5)), (w6, .inl (cI, 200, .inl fW6)), (w7, .inl (cI, 200, .inl fW7)), (nw, .inr (5, [.ref aw, .int lw])), (aw, .inl (cI, 800, .inl fw)), (o7, .inr (8, [.ref oC, .ref oK, .int reE_14, .int laE_14, .int suE_14, .int leE_14])), (o8, .inr (8, [.ref oC, .ref oK, .int reE_15, .int laE_15, .int suE_15, .int leE_15])), (o9, .inr (8, [.ref oC, .ref oK, .int re9, .int la9, .int su9, .int le9])), (oC, .inr (2, [.ref o4, .ref o5])), (o4, .inr (10, [.ref a41, .ref a42, .ref a43, .int l4])), (a41, .inl (cI, 256, .inl f41)), (o5, .inr (10, [.ref a51, .ref a52, .ref a53, .int l5])), (a51, .inl (cI, 256, .inl f51)), (oK, .inr (3, [.ref k1, .ref k2, .int lK])), (k1, .inl (cI, 1024, .inl fK1)), (k2, .inl (cI, 1024, .inl fK2))]) rfl
    clear hP hD hS hJ hPD9
    have hP := hPn
    have hD := hDn
    have hS := hSn
    clear hPn hDn hSn
    obtain ⟨h1_15, h2_15, h3_15, h4_15⟩ := hf15_0
    have k1_15 := v_eq h1_15
    have k2_15 := v_eq h2_15
    have k3_15 := v_eq h3_15
    have k4_15 := v_eq h4_15
    refine lv_aload_n hx hb dX1_find_66 rfl (lv_at hl 0 rfl) ?_
    refine lv_iconst (v := (-1)) hx hb dX1_find_67 (by decide) ?_
    refine kV_v (rest := []) (q0 := 0) (ci := 1) hcf (f_X1_tryLast l dC dI cI cS H.size oW oC oK nw w1 w2 w3 o7 o8 o9 w4 w5 w6 w7 aw o4 o5 a41 a42 a43 a51 a52 a53 k1 k2 0 0 fsh a b fm lm fW1_1 fW2_1 fW3_1 fW4 fW5 fW6 fW7 lw fw reE_15 laE_15 suE_15 leE_15 re9 la9 su9 le9 l4 f41 l5 f51 lK fK1 fK2 (-1) gV 0 (by decide) (g_fsh) (g_fm) (g_lm) (g_lw) (by omega) (g_lK) (by omega) (by omega) (hby) (hL4) (hL5) (hT) (ho) (hVk) (hf1_0) (by omega) (rfl) (fun i j h1 h2 => absurd h2 (Nat.not_lt_zero _)) (by decide) (by rw [h1_15, h2_15, h3_15, h4_15]; exact hf14_2) (fun v h0 h1 e => by rw [Nat.zero_add]; exact hV1 (by omega) v h0 h1 e)) kc_X1_tryLast gX1_find_X1_tryLast rfl rfl rfl ⟨Nat.le_of_ble_eq_true rfl, Nat.le_of_ble_eq_true rfl⟩ (kX_1 hN52) hK hP hD hS hA (posT mk_92 0) (posF mk_92 0) (kC_of mk_92 rfl rfl) (by decide +kernel) rfl rfl rfl hl rfl (Nat.le_of_ble_eq_true rfl) dX1_find_68 ⟨Nat.le_of_ble_eq_true rfl, Nat.le_of_ble_eq_true rfl⟩ (fun H locs hB hJ hSn => ?_)
    refine hB _ (fun re9_16 la9_16 su9_16 le9_16 ke_16 tl_16 fW4_16 fW5_16 fW6_16 fW7_16 fw_16 hPD9 hf16_0 hf16_1 hf16_2 hf16_3 hf16_4 => ?_)
    clear hB
    obtain ⟨hPn, hDn⟩ := kJi (m := mk_92) hJ rfl hPD9.1 hPD9.2 (wn := [(oW, .inr (1, [.ref oC, .ref oK, .ref nw, .ref w1, .ref w2, .ref w3, .ref o7, .ref o8, .ref o9, .ref w4, .ref w5, .ref w6, .ref w7, .int ke_16, .int tl_16, .int fsh, .int a, .int b, .int fm, .int lm])), (w1, .inl (cI, 801, .inl fW1_1)), (w2, .inl (cI, 801, .inl fW2_1)), (w3, .inl (cI, 801, .inl fW3_1)), (w4, .inl (cI, 200, .inl fW4_16)), (w5, .inl (cI, 200, .inl fW5_16)), (w6, .inl (cI, 200, .inl fW6_16)), (w7, .inl (cI, 200, .inl fW7_16)), (nw, .inr (5, [.ref aw, .int lw])), (aw, .inl (cI, 800, .inl fw_16)), (o7, .inr (8, [.ref oC, .ref oK, .int reE_14, .int laE_14, .int suE_14, .int leE_14])), (o8, .inr (8, [.ref oC, .ref oK, .int reE_15, .int laE_15, .int suE_15, .int leE_15])), (o9, .inr (8, [.ref oC, .ref oK, .int re9_16, .int la9_16, .int su9_16, .int le9_16])), (oC, .inr (2, [.ref o4, .ref o5])), (o4, .inr (10, [.ref a41, .ref a42, .ref a43, .int l4])), (a41, .inl (cI, 256, .inl f41)), (o5, .inr (10, [.ref a51, .ref a52, .ref a53, .int l5])), (a51, .inl (cI, 256, .inl f51)), (oK, .inr (3, [.ref k1, .ref k2, .int lK])), (k1, .inl (cI, 1024, .inl fK1)), (k2, .inl (cI, 1024, .inl fK2))]) rfl
    clear hP hD hS hJ hPD9
    have hP := hPn
    have hD := hDn
    have hS := hSn
    clear hPn hDn hSn
    refine lv_goto (tgt := 162) hx hb dX1_find_71 (by decide) ?_
    refine lv_aload_n hx hb dX1_find_162 rfl (lv_at hl 0 rfl) ?_
    refine lv_iconst (v := 1) hx hb dX1_find_163 (by decide) ?_
    refine va_put (D := (dC, dI)) (ci := 1) (v := .int 1) (ty := .boolean) (C := RX1) (T := TX1) (N := 20) hx hb hts in_X1 tyX1 tyX1_ok nmX1 hown hK hP hD hS 0 rfl rfl 15 (Nat.le_of_ble_eq_true rfl) (hts (.fieldLink RX1 72 "TextMender$Choices" "fresh" "Z") (List.mem_of_getElem? (i := 11) rfl)) (fun _ h9 => h9) rfl (tyX1_ok 15 (Nat.le_of_ble_eq_true rfl)) rfl rfl (Nat.le_of_ble_eq_true rfl) dX1_find_164 (kW (wn := [(oW, .inr (1, [.ref oC, .ref oK, .ref nw, .ref w1, .ref w2, .ref w3, .ref o7, .ref o8, .ref o9, .ref w4, .ref w5, .ref w6, .ref w7, .int ke_16, .int tl_16, .int 1, .int a, .int b, .int fm, .int lm])), (w1, .inl (cI, 801, .inl fW1_1)), (w2, .inl (cI, 801, .inl fW2_1)), (w3, .inl (cI, 801, .inl fW3_1)), (w4, .inl (cI, 200, .inl fW4_16)), (w5, .inl (cI, 200, .inl fW5_16)), (w6, .inl (cI, 200, .inl fW6_16)), (w7, .inl (cI, 200, .inl fW7_16)), (nw, .inr (5, [.ref aw, .int lw])), (aw, .inl (cI, 800, .inl fw_16)), (o7, .inr (8, [.ref oC, .ref oK, .int reE_14, .int laE_14, .int suE_14, .int leE_14])), (o8, .inr (8, [.ref oC, .ref oK, .int reE_15, .int laE_15, .int suE_15, .int leE_15])), (o9, .inr (8, [.ref oC, .ref oK, .int re9_16, .int la9_16, .int su9_16, .int le9_16])), (oC, .inr (2, [.ref o4, .ref o5])), (o4, .inr (10, [.ref a41, .ref a42, .ref a43, .int l4])), (a41, .inl (cI, 256, .inl f41)), (o5, .inr (10, [.ref a51, .ref a52, .ref a53, .int l5])), (a51, .inl (cI, 256, .inl f51)), (oK, .inr (3, [.ref k1, .ref k2, .int lK])), (k1, .inl (cI, 1024, .inl fK1)), (k2, .inl (cI, 1024, .inl fK2))]) rfl (fun H locs hPn hDn hSn => ?_))
    clear hP hD hS
    have hP := hPn
    have hD := hDn
    have hS := hSn
    clear hPn hDn hSn
    refine lv_aload_n hx hb dX1_find_167 rfl (lv_at hl 0 rfl) ?_
    refine va_get (D := (dC, dI)) (ci := 1) (v := .int tl_16) (C := RX1) (T := TX1) (N := 20) hx hb hts in_X1 hown hK hP 0 rfl rfl 14 (Nat.le_of_ble_eq_true rfl) (hts (.fieldLink RX1 69 "TextMender$Choices" "total" "I") (List.mem_of_getElem? (i := 4) rfl)) (fun _ h9 => h9) rfl dX1_find_168 ?_
    exact kl_i (v := tl_16) hQQ hx hb hr hlocks hS dX1_find_171 (fun PZ9 kZ9 => kZ9 a b 1 fw_16 fW1_1 fW2_1 fW3_1 ke_16 tl_16 fW4_16 fW5_16 fW6_16 fW7_16 reE_14 laE_14 suE_14 leE_14 reE_15 laE_15 suE_15 leE_15 re9_16 la9_16 su9_16 le9_16 (⟨hP, hD⟩) (by decide) (hf16_0) (by show 0 ≤ tl_16.toInt ∧ tl_16.toInt ≤ 65536; omega) (⟨rfl, rfl, rfl, rfl⟩) (hf16_2) (by rw [if_pos (by omega)]; exact fld_0 hf16_4))

end

/-! 5l.chs -/
section
/-! a choice, told by text and codes alone -/
def VCH (a b : Int32) (L4 L5 : Nat → Int32) (Bf : Int32 → Int32) (n : Nat) (f : Nat → Int32) (v1 v2 : Int) (c : Nat) (f' : Nat → Int32) : Prop := ∃ (m : Int32) (g : Nat → Int32), WR (EV b Bf f v1 v2) n m g ∧ BKB b m L4 L5 g f (EV b Bf f v1 v2) n ∧ rdOk (dl a L4 L5 g m.toInt) m.toInt c ∧ c ≤ 300 ∧ ∀ i, i < c → f' i = dx a L4 L5 g m.toInt (psn (dl a L4 L5 g m.toInt) i)
def byV (f : Nat → Int32) (n : Nat) (v1 v2 : Int) : Prop := (0 ≤ v1 ∧ v1 ≤ 255) ∧ (mkB f n ≤ 1 ∨ (0 ≤ v2 ∧ v2 ≤ 255))
theorem EV_b {b : Int32} {Bf : Int32 → Int32} {f : Nat → Int32} {v1 v2 : Int} {n i : Nat} (hi : i < n) (hf : prg n 0 65535 f) (hB : okB Bf) (hv : byV f n v1 v2) : byt (EV b Bf f v1 v2 i) := by
  have r := hf i (by omega)
  by_cases w : f i = 65533
  · rw [EV_m w]
    intro x hx
    have hx : x ∈ [if mkB f i = 0 then v1 else v2] := hx
    rw [List.mem_singleton] at hx
    by_cases z : mkB f i = 0
    · rw [if_pos z] at hx
      rw [hx]; exact hv.1
    · rw [if_neg z] at hx
      have q := mkB_m f (i := i + 1) n (by omega)
      rw [mkB_y w] at q
      rw [hx]
      exact hv.2.resolve_left (by omega)
  · rw [EV_n w]
    exact (enc_b r.1 r.2 (hB _ r.1 r.2)).1
theorem WRV_b {b m : Int32} {Bf : Int32 → Int32} {f g : Nat → Int32} {v1 v2 : Int} {n : Nat} (hw : WR (EV b Bf f v1 v2) n m g) (hf : prg n 0 65535 f) (hB : okB Bf) (hv : byV f n v1 v2) : prg m.toInt 0 255 g := WR_byt hw (fun i hi => EV_b hi hf hB hv)
theorem cT_eq {T : Int32 → Int32 → Int32} {c : Nat} {f g : Nat → Int32} (h : ∀ i, i < c → f i = g i) : cT T c f = cT T c g := by
  unfold cT
  have e : ((c : Nat) : Int).toNat = c := by omega
  obtain ⟨a1, a2⟩ := cs_eq (T := T) c h
  rw [e, a1, a2]
section VCS
variable {a b : Int32} {L4 L5 M4 M5 f e' : Nat → Int32} {Bf Cf : Int32 → Int32} {n : Nat} {v1 v2 w1 w2 : Int} {T T' : Int32 → Int32 → Int32}
theorem VCH_u {c c' : Nat} {f1 f2 : Nat → Int32} (hf : prg n 0 65535 f) (hB : okB Bf) (hv : byV f n v1 v2) (h : VCH a b L4 L5 Bf n f v1 v2 c f1) (h' : VCH a b L4 L5 Bf n f v1 v2 c' f2) : c = c' ∧ ∀ i, i < c → f1 i = f2 i := by
  obtain ⟨m, g, a1, a2, a3, a4, a5⟩ := h
  obtain ⟨m', g', b1, b2, b3, b4, b5⟩ := h'
  obtain ⟨q1, q2⟩ := WR_eq a1 b1
  subst q1
  have hb := WRV_b a1 hf hB hv
  have e1 := dl_congr (cd := a) (L4 := L4) (L5 := L5) q2 (fun _ _ => rfl) (fun _ _ => rfl) hb
  have e2 := dx_congr (cd := a) (L4 := L4) (L5 := L5) q2 (fun _ _ => rfl) (fun _ _ => rfl) hb
  rw [← e1] at b3 b5
  rw [← e2] at b5
  have q := rd_uniq a3 b3
  subst q
  exact ⟨rfl, fun i hi => (a5 i hi).trans (b5 i hi).symm⟩
theorem mkB_cg {f e : Nat → Int32} : ∀ n, (∀ j, j < n → f j = e j) → mkB f n = mkB e n
  | 0, _ => rfl
  | n + 1, h => by rw [mkB, mkB, mkB_cg n (fun j hj => h j (by omega)), h n (by omega)]
theorem EV_cg {i : Nat} (hi : i < n) (hf : prg n 0 65535 f) (hfe : ∀ j, j < n → f j = e' j) (hE : ∀ x : Int32, 0 ≤ x.toInt → x.toInt ≤ 65535 → enc b x (Bf x) = enc b x (Cf x)) (hv : ∀ j, j < n → f j = 65533 → (if mkB f j = 0 then v1 else v2) = (if mkB f j = 0 then w1 else w2)) : EV b Bf f v1 v2 i = EV b Cf e' w1 w2 i := by
  have r := hf i (by omega)
  by_cases w : f i = 65533
  · rw [EV_m w, EV_m (by rw [← hfe i hi]; exact w), ← mkB_cg i (fun j hj => hfe j (by omega)), hv i hi w]
  · rw [EV_n w, EV_n (by rw [← hfe i hi]; exact w), ← hfe i hi]
    exact hE _ r.1 r.2
/-- what told codes, text and free bytes are alike gives the same choice -/
theorem VCH_t {c : Nat} {f1 : Nat → Int32} (hf : prg n 0 65535 f) (hB : okB Bf) (hv : byV f n v1 v2) (hfe : ∀ j, j < n → f j = e' j) (h4 : ∀ k, k < 256 → L4 k = M4 k) (h5 : ∀ k, k < 256 → L5 k = M5 k) (hE : ∀ x : Int32, 0 ≤ x.toInt → x.toInt ≤ 65535 → enc b x (Bf x) = enc b x (Cf x)) (hw : ∀ j, j < n → f j = 65533 → (if mkB f j = 0 then v1 else v2) = (if mkB f j = 0 then w1 else w2)) (h : VCH a b L4 L5 Bf n f v1 v2 c f1) : VCH a b M4 M5 Cf n e' w1 w2 c f1 := by
  obtain ⟨m, g, a1, a2, a3, a4, a5⟩ := h
  have hb := WRV_b a1 hf hB hv
  have ee : ∀ j, j < n → EV b Bf f v1 v2 j = EV b Cf e' w1 w2 j := fun j hj => EV_cg hj hf hfe hE hw
  have ea1 := dl_congr (cd := a) (g := g) (g' := g) (n := m.toInt) (fun _ _ => rfl) h4 h5 hb
  have ea2 := dx_congr (cd := a) (g := g) (g' := g) (n := m.toInt) (fun _ _ => rfl) h4 h5 hb
  have eb1 := dl_congr (cd := b) (g := g) (g' := g) (n := m.toInt) (fun _ _ => rfl) h4 h5 hb
  rw [ea1] at a3 a5
  rw [ea2] at a5
  refine ⟨m, g, WR_congr a1 ee, fun i hi he => ?_, a3, a4, a5⟩
  have q := a2 i hi (by rw [hfe i hi]; exact he)
  rw [eb1, psE_congr i (fun j hj => ee j (by omega))] at q
  exact q
/-- the choice that stands at t in the row of all -/
def VX (a b : Int32) (L4 L5 : Nat → Int32) (Bf : Int32 → Int32) (T : Int32 → Int32 → Int32) (n : Nat) (f : Nat → Int32) (mk t : Nat) (e : Nat → Int) : Prop := ∃ o w : Int32, (0 ≤ o.toInt ∧ o.toInt ≤ 255) ∧ (0 ≤ w.toInt ∧ w.toInt ≤ 255) ∧ ((mk = 1 ∧ (t : Int) = o.toInt ∧ w.toInt = 0) ∨ (mk = 2 ∧ (t : Int) = 256 * o.toInt + w.toInt)) ∧ alF b o L4 L5 = -1 ∧ (mk = 2 → alF b w L4 L5 = -1) ∧ ∃ (c : Nat) (f' : Nat → Int32), VCH a b L4 L5 Bf n f o.toInt w.toInt c f' ∧ ∀ k, k < 4 → e k = ent (if mk = 1 then -1 else o.toInt) (if mk = 1 then o.toInt else w.toInt) (cT T c f') c k
theorem VX_fn (hf : prg n 0 65535 f) (hB : okB Bf) {mk : Nat} : fnV (VX a b L4 L5 Bf T n f mk) := by
  rintro t e e' ⟨o, w, r1, r2, r3, r4, r5, c, f', r6, r7⟩ ⟨o', w', s1, s2, s3, s4, s5, c', f2, s6, s7⟩ k hk
  have eo : o = o' := v_inj (by omega)
  have ew : w = w' := v_inj (by omega)
  subst eo
  subst ew
  obtain ⟨q1, q2⟩ := VCH_u hf hB ⟨r1, Or.inr r2⟩ r6 s6
  subst q1
  rw [r7 k hk, s7 k hk, cT_eq q2]
/-- one mark -/
theorem lo1 {l fm lm v : Int32} {g : Nat → Int32} (h : LOI b Bf f n l g fm lm) (h1 : mkB f n = 1) (w : Int) : fm.toInt = -1 ∧ 0 ≤ lm.toInt ∧ lm.toInt < l.toInt ∧ WR (EV b Bf f v.toInt w) n l (upd g lm.toNatClampNeg v) ∧ ∀ (L4 L5 : Nat → Int32) (cd : Int32), BKB cd l L4 L5 (upd g lm.toNatClampNeg v) f (EV b Bf f v.toInt w) n ↔ dl cd L4 L5 (upd g lm.toNatClampNeg v) l.toInt lm.toNatClampNeg = 0 := by
  obtain ⟨hw, ⟨q1, _⟩ | ⟨_, q2, i1, q3, q4, q5, q6⟩ | ⟨q1, _⟩ | q1⟩ := h
  · omega
  · have lt := psE_lt hw q3
    have cl : lm.toNatClampNeg = psE (EV b Bf f 0 0) i1 := ix_eq q6
    have one : ∀ j, j < n → f j = 65533 → j = i1 := fun j hj he => by
      have q := mkB_m f (i := j + 1) n (by omega)
      rw [mkB_y he] at q
      exact mkB_u he q4 (by omega)
    obtain ⟨u1, u2⟩ := WR_upd (E' := EV b Bf f v.toInt w) (x := v) (g' := upd g lm.toNatClampNeg v) hw q3 (mk_len q4) (by rw [EV_m q4, if_pos q5]) (fun j hj hne => by
      by_cases z : f j = 65533
      · exact absurd (one j hj z) hne
      · rw [EV_n z, EV_n z]) (by rw [cl])
    refine ⟨q2, by omega, by omega, u1, fun L4 L5 cd => ⟨fun hk => ?_, fun hk i hi he => ?_⟩⟩
    · have z := hk i1 q3 q4
      rw [u2 i1 (by omega), ← cl] at z
      exact z
    · rw [one i hi he, u2 i1 (by omega), ← cl]
      exact hk
  · omega
  · omega
/-- two marks -/
theorem lo2 {l fm lm o v : Int32} {g : Nat → Int32} (h : LOI b Bf f n l g fm lm) (h1 : mkB f n = 2) : 0 ≤ fm.toInt ∧ fm.toInt < lm.toInt ∧ lm.toInt < l.toInt ∧ WR (EV b Bf f o.toInt v.toInt) n l (upd (upd g fm.toNatClampNeg o) lm.toNatClampNeg v) ∧ ∀ (L4 L5 : Nat → Int32) (cd : Int32), BKB cd l L4 L5 (upd (upd g fm.toNatClampNeg o) lm.toNatClampNeg v) f (EV b Bf f o.toInt v.toInt) n ↔ (dl cd L4 L5 (upd (upd g fm.toNatClampNeg o) lm.toNatClampNeg v) l.toInt lm.toNatClampNeg = 0 ∧ dl cd L4 L5 (upd (upd g fm.toNatClampNeg o) lm.toNatClampNeg v) l.toInt fm.toNatClampNeg = 0) := by
  obtain ⟨hw, ⟨q1, _⟩ | ⟨q1, _⟩ | ⟨_, i1, i2, q3, q4, q5, q6, q7, q8, q9, q10⟩ | q1⟩ := h
  · omega
  · omega
  · have lt2 := psE_lt hw q4
    have cf : fm.toNatClampNeg = psE (EV b Bf f 0 0) i1 := ix_eq q9
    have cl : lm.toNatClampNeg = psE (EV b Bf f 0 0) i2 := ix_eq q10
    have i12 : i1 < i2 := by
      rcases Nat.lt_trichotomy i1 i2 with z | z | z
      · exact z
      · rw [z] at q7; omega
      · have q := mkB_m f (i := i2 + 1) i1 (by omega)
        rw [mkB_y q6] at q
        omega
    have s1 : psE (EV b Bf f 0 0) (i1 + 1) = psE (EV b Bf f 0 0) i1 + 1 := by rw [psE, mk_len q5]
    have s2 := psE_le (EV b Bf f 0 0) (i := i1 + 1) i2 (by omega)
    have two : ∀ j, j < n → f j = 65533 → j = i1 ∨ j = i2 := fun j hj he => by
      have q := mkB_m f (i := j + 1) n (by omega)
      rw [mkB_y he] at q
      by_cases z : mkB f j = 0
      · exact Or.inl (mkB_u he q5 (by omega))
      · exact Or.inr (mkB_u he q6 (by omega))
    obtain ⟨u1, u2⟩ := WR_upd (E' := EV b Bf f o.toInt 0) (x := o) (g' := upd g fm.toNatClampNeg o) hw q3 (mk_len q5) (by rw [EV_m q5, if_pos q7]) (fun j hj hne => by
      by_cases z : f j = 65533
      · have e2 := (two j hj z).resolve_left hne
        rw [EV_m z, EV_m z, e2, if_neg (by omega), if_neg (by omega)]
      · rw [EV_n z, EV_n z]) (by rw [cf])
    obtain ⟨w1, w2⟩ := WR_upd (E' := EV b Bf f o.toInt v.toInt) (x := v) (g' := upd (upd g fm.toNatClampNeg o) lm.toNatClampNeg v) u1 q4 (mk_len q6) (by rw [EV_m q6, if_neg (by omega)]) (fun j hj hne => by
      by_cases z : f j = 65533
      · have e2 := (two j hj z).resolve_right hne
        rw [EV_m z, EV_m z, e2, if_pos q7, if_pos q7]
      · rw [EV_n z, EV_n z]) (by rw [u2 i2 (by omega), cl])
    refine ⟨by omega, by omega, by omega, w1, fun L4 L5 cd => ⟨fun hk => ⟨?_, ?_⟩, fun hk i hi he => ?_⟩⟩
    · have z := hk i2 q4 q6
      rw [w2 i2 (by omega), u2 i2 (by omega), ← cl] at z
      exact z
    · have z := hk i1 q3 q5
      rw [w2 i1 (by omega), u2 i1 (by omega), ← cf] at z
      exact z
    · rcases two i hi he with e | e
      · rw [e, w2 i1 (by omega), u2 i1 (by omega), ← cf]; exact hk.2
      · rw [e, w2 i2 (by omega), u2 i2 (by omega), ← cl]; exact hk.1
  · omega
theorem VCH_g {l : Int32} {g : Nat → Int32} (hf : prg n 0 65535 f) (hB : okB Bf) (hv : byV f n v1 v2) (hw : WR (EV b Bf f v1 v2) n l g) {e : Nat → Int} {x1 x2 : Int} : (∃ (c : Nat) (f' : Nat → Int32), VCH a b L4 L5 Bf n f v1 v2 c f' ∧ ∀ k, k < 4 → e k = ent x1 x2 (cT T c f') c k) ↔ (BKB b l L4 L5 g f (EV b Bf f v1 v2) n ∧ RDV a L4 L5 T g l.toInt x1 x2 e) := by
  constructor
  · rintro ⟨c, f', ⟨m, g', a1, a2, a3, a4, a5⟩, he⟩
    obtain ⟨q1, q2⟩ := WR_eq a1 hw
    subst q1
    have hb := WRV_b a1 hf hB hv
    have e1 := dl_congr (cd := a) (L4 := L4) (L5 := L5) q2 (fun _ _ => rfl) (fun _ _ => rfl) hb
    have e2 := dx_congr (cd := a) (L4 := L4) (L5 := L5) q2 (fun _ _ => rfl) (fun _ _ => rfl) hb
    have e3 := dl_congr (cd := b) (L4 := L4) (L5 := L5) q2 (fun _ _ => rfl) (fun _ _ => rfl) hb
    rw [e1] at a3 a5
    rw [e2] at a5
    refine ⟨fun i hi hm => by rw [← e3]; exact a2 i hi hm, c, a3, a4, fun k hk => ?_⟩
    rw [he k hk, cT_eq a5]
  · rintro ⟨hk, c, a3, a4, he⟩
    exact ⟨c, _, ⟨l, g, hw, hk, a3, a4, fun _ _ => rfl⟩, he⟩
theorem vx_1 {l fm lm v : Int32} {g : Nat → Int32} {e : Nat → Int} (hf : prg n 0 65535 f) (hB : okB Bf) (h : LOI b Bf f n l g fm lm) (h1 : mkB f n = 1) (v0 : 0 ≤ v.toInt) (v2 : v.toInt ≤ 255) : VX a b L4 L5 Bf T n f 1 v.toNatClampNeg e ↔ (alF b v L4 L5 = -1 ∧ BVG a b L4 L5 T (upd g lm.toNatClampNeg v) l.toInt fm lm (-1 : Int32).toInt v.toInt e) := by
  obtain ⟨p1, p2, p3, p4, p5⟩ := lo1 (v := v) h h1 0
  have cv := v_clamp v0
  have hv : byV f n v.toInt 0 := ⟨⟨v0, v2⟩, Or.inl (by omega)⟩
  have vg := VCH_g (a := a) (L4 := L4) (L5 := L5) (T := T) (e := e) (x1 := -1) (x2 := v.toInt) hf hB hv p4
  constructor
  · rintro ⟨o, w, r1, r2, r3, r4, r5, c, f', r6, r7⟩
    have eo : o = v := v_inj (by omega)
    have ew : w.toInt = 0 := by omega
    subst eo
    rw [ew] at r6
    have q := vg.mp ⟨c, f', r6, r7⟩
    exact ⟨r4, ⟨(p5 L4 L5 b).mp q.1, Or.inl p1⟩, q.2⟩
  · rintro ⟨r4, ⟨r5, _⟩, r6⟩
    obtain ⟨c, f', q1, q2⟩ := vg.mpr ⟨(p5 L4 L5 b).mpr r5, r6⟩
    exact ⟨v, 0, ⟨v0, v2⟩, by decide, Or.inl ⟨rfl, by omega, rfl⟩, r4, fun z => absurd z (by decide), c, f', q1, q2⟩
theorem vx_2 {l fm lm o v : Int32} {g : Nat → Int32} {e : Nat → Int} (hf : prg n 0 65535 f) (hB : okB Bf) (h : LOI b Bf f n l g fm lm) (h1 : mkB f n = 2) (o0 : 0 ≤ o.toInt) (o2 : o.toInt ≤ 255) (v0 : 0 ≤ v.toInt) (v2 : v.toInt ≤ 255) : VX a b L4 L5 Bf T n f 2 (256 * o.toNatClampNeg + v.toNatClampNeg) e ↔ (alF b o L4 L5 = -1 ∧ alF b v L4 L5 = -1 ∧ BVG a b L4 L5 T (upd (upd g fm.toNatClampNeg o) lm.toNatClampNeg v) l.toInt fm lm o.toInt v.toInt e) := by
  obtain ⟨p1, p2, p3, p4, p5⟩ := lo2 (o := o) (v := v) h h1
  have cv := v_clamp v0
  have co := v_clamp o0
  have hv : byV f n o.toInt v.toInt := ⟨⟨o0, o2⟩, Or.inr ⟨v0, v2⟩⟩
  have vg := VCH_g (a := a) (L4 := L4) (L5 := L5) (T := T) (e := e) (x1 := o.toInt) (x2 := v.toInt) hf hB hv p4
  constructor
  · rintro ⟨o', w, r1, r2, r3, r4, r5, c, f', r6, r7⟩
    have eo : o' = o := v_inj (by omega)
    have ew : w = v := v_inj (by omega)
    subst eo
    subst ew
    have q := vg.mp ⟨c, f', r6, r7⟩
    have q2 := (p5 L4 L5 b).mp q.1
    exact ⟨r4, r5 rfl, ⟨q2.1, Or.inr q2.2⟩, q.2⟩
  · rintro ⟨r4, r5, ⟨r6, r7⟩, r8⟩
    obtain ⟨c, f', q1, q2⟩ := vg.mpr ⟨(p5 L4 L5 b).mpr ⟨r6, r7.resolve_left (by omega)⟩, r8⟩
    exact ⟨o, v, ⟨o0, o2⟩, ⟨v0, v2⟩, Or.inr ⟨rfl, by omega⟩, r4, fun _ => r5, c, f', q1, q2⟩
end VCS

end

/-! 5m.a.rows -/
section
set_option maxRecDepth 100000 in
theorem dA343_cX11_choices : kDec cX11_choices [(0, .aload_n 0, 1), (1, .iconst (-1), 1), (2, .putfield 90, 3), (5, .aload_n 0, 1), (6, .getfield 34, 3), (9, .invokestatic 152, 3), (12, .istore_n 3, 1), (13, .iload_n 1, 1), (14, .invokestatic 117, 3), (17, .ifCond .eq 24, 3), (41, .iconst 0, 1), (42, .istore 4, 2), (44, .iload 4, 2), (46, .ifCond .eq 15, 3), (61, .iconst (-1), 1), (62, .ireturn, 1), (20, .iload_n 2, 1), (21, .invokestatic 117, 3), (24, .ifCond .eq 17, 3), (27, .iload_n 3, 1), (28, .iconst 1, 1), (29, .if_icmp .eq 8, 3), (37, .iconst 1, 1), (38, .goto 4, 3)] = true := by decide +kernel
theorem dX11_choices_0 : decode cX11_choices 0 = .ok (.aload_n 0, 1) := kDec_at dA343_cX11_choices 0 rfl
theorem dX11_choices_1 : decode cX11_choices 1 = .ok (.iconst (-1), 1) := kDec_at dA343_cX11_choices 1 rfl
theorem dX11_choices_2 : decode cX11_choices 2 = .ok (.putfield 90, 3) := kDec_at dA343_cX11_choices 2 rfl
theorem dX11_choices_5 : decode cX11_choices 5 = .ok (.aload_n 0, 1) := kDec_at dA343_cX11_choices 3 rfl
theorem dX11_choices_6 : decode cX11_choices 6 = .ok (.getfield 34, 3) := kDec_at dA343_cX11_choices 4 rfl
theorem dX11_choices_9 : decode cX11_choices 9 = .ok (.invokestatic 152, 3) := kDec_at dA343_cX11_choices 5 rfl
theorem dX11_choices_12 : decode cX11_choices 12 = .ok (.istore_n 3, 1) := kDec_at dA343_cX11_choices 6 rfl
theorem dX11_choices_13 : decode cX11_choices 13 = .ok (.iload_n 1, 1) := kDec_at dA343_cX11_choices 7 rfl
theorem dX11_choices_14 : decode cX11_choices 14 = .ok (.invokestatic 117, 3) := kDec_at dA343_cX11_choices 8 rfl
theorem dX11_choices_17 : decode cX11_choices 17 = .ok (.ifCond .eq 24, 3) := kDec_at dA343_cX11_choices 9 rfl
theorem dX11_choices_41 : decode cX11_choices 41 = .ok (.iconst 0, 1) := kDec_at dA343_cX11_choices 10 rfl
theorem dX11_choices_42 : decode cX11_choices 42 = .ok (.istore 4, 2) := kDec_at dA343_cX11_choices 11 rfl
theorem dX11_choices_44 : decode cX11_choices 44 = .ok (.iload 4, 2) := kDec_at dA343_cX11_choices 12 rfl
theorem dX11_choices_46 : decode cX11_choices 46 = .ok (.ifCond .eq 15, 3) := kDec_at dA343_cX11_choices 13 rfl
theorem dX11_choices_61 : decode cX11_choices 61 = .ok (.iconst (-1), 1) := kDec_at dA343_cX11_choices 14 rfl
theorem dX11_choices_62 : decode cX11_choices 62 = .ok (.ireturn, 1) := kDec_at dA343_cX11_choices 15 rfl
theorem dX11_choices_20 : decode cX11_choices 20 = .ok (.iload_n 2, 1) := kDec_at dA343_cX11_choices 16 rfl
theorem dX11_choices_21 : decode cX11_choices 21 = .ok (.invokestatic 117, 3) := kDec_at dA343_cX11_choices 17 rfl
theorem dX11_choices_24 : decode cX11_choices 24 = .ok (.ifCond .eq 17, 3) := kDec_at dA343_cX11_choices 18 rfl
theorem dX11_choices_27 : decode cX11_choices 27 = .ok (.iload_n 3, 1) := kDec_at dA343_cX11_choices 19 rfl
theorem dX11_choices_28 : decode cX11_choices 28 = .ok (.iconst 1, 1) := kDec_at dA343_cX11_choices 20 rfl
theorem dX11_choices_29 : decode cX11_choices 29 = .ok (.if_icmp .eq 8, 3) := kDec_at dA343_cX11_choices 21 rfl
theorem dX11_choices_37 : decode cX11_choices 37 = .ok (.iconst 1, 1) := kDec_at dA343_cX11_choices 22 rfl
theorem dX11_choices_38 : decode cX11_choices 38 = .ok (.goto 4, 3) := kDec_at dA343_cX11_choices 23 rfl
set_option maxRecDepth 20000 in
theorem ggX11_choices_X11_marksOf : GoodIn wsX11_choices wsX11_marksOf := goodIn_sub (fun _ h => List.mem_cons_of_mem _ (List.mem_append_left _ (List.mem_append_left _ (List.mem_append_left _ (List.mem_append_left _ (List.mem_append_right _ (h))))))) gX11_marksOf_all
set_option maxRecDepth 20000 in
theorem gX11_choices_X11_marksOf : GoodIn wsX11_choices (va_wsS RX11 152 yX11_marksOf wsX11_marksOf) := goodIn_app (goodIn_r _ [4, 5, 6] rfl (by decide +kernel)) ggX11_choices_X11_marksOf
set_option maxRecDepth 20000 in
theorem ggX11_choices_X2_known : GoodIn wsX11_choices wsX2_known := goodIn_sub (fun _ h => List.mem_cons_of_mem _ (List.mem_append_left _ (List.mem_append_left _ (List.mem_append_left _ (List.mem_append_right _ (h)))))) gX2_known_all
set_option maxRecDepth 20000 in
theorem gX11_choices_X2_known : GoodIn wsX11_choices (va_wsS RX11 117 yX2_known wsX2_known) := goodIn_app (goodIn_r _ [11, 12, 13] rfl (by decide +kernel)) ggX11_choices_X2_known
set_option maxRecDepth 100000 in
theorem dA344_cX11_choices : kDec cX11_choices [(49, .aload_n 0, 1), (50, .getfield 34, 3), (53, .invokevirtual 94, 3), (56, .bipush 100, 2), (58, .if_icmp .le 5, 3), (63, .aload_n 0, 1), (64, .aload_n 0, 1), (65, .getfield 86, 3), (68, .iload_n 2, 1), (69, .aload_n 0, 1), (70, .getfield 34, 3), (73, .invokevirtual 236, 3), (76, .putfield 90, 3), (79, .aload_n 0, 1), (80, .getfield 90, 3), (83, .iconst (-1), 1), (84, .if_icmp .eq 5, 3), (89, .aload_n 0, 1), (90, .getfield 86, 3), (93, .iload_n 1, 1), (94, .iload_n 2, 1), (95, .invokevirtual 240, 3), (98, .ireturn, 1), (87, .iconst (-1), 1)] = true := by decide +kernel
theorem dX11_choices_49 : decode cX11_choices 49 = .ok (.aload_n 0, 1) := kDec_at dA344_cX11_choices 0 rfl
theorem dX11_choices_50 : decode cX11_choices 50 = .ok (.getfield 34, 3) := kDec_at dA344_cX11_choices 1 rfl
theorem dX11_choices_53 : decode cX11_choices 53 = .ok (.invokevirtual 94, 3) := kDec_at dA344_cX11_choices 2 rfl
theorem dX11_choices_56 : decode cX11_choices 56 = .ok (.bipush 100, 2) := kDec_at dA344_cX11_choices 3 rfl
theorem dX11_choices_58 : decode cX11_choices 58 = .ok (.if_icmp .le 5, 3) := kDec_at dA344_cX11_choices 4 rfl
theorem dX11_choices_63 : decode cX11_choices 63 = .ok (.aload_n 0, 1) := kDec_at dA344_cX11_choices 5 rfl
theorem dX11_choices_64 : decode cX11_choices 64 = .ok (.aload_n 0, 1) := kDec_at dA344_cX11_choices 6 rfl
theorem dX11_choices_65 : decode cX11_choices 65 = .ok (.getfield 86, 3) := kDec_at dA344_cX11_choices 7 rfl
theorem dX11_choices_68 : decode cX11_choices 68 = .ok (.iload_n 2, 1) := kDec_at dA344_cX11_choices 8 rfl
theorem dX11_choices_69 : decode cX11_choices 69 = .ok (.aload_n 0, 1) := kDec_at dA344_cX11_choices 9 rfl
theorem dX11_choices_70 : decode cX11_choices 70 = .ok (.getfield 34, 3) := kDec_at dA344_cX11_choices 10 rfl
theorem dX11_choices_73 : decode cX11_choices 73 = .ok (.invokevirtual 236, 3) := kDec_at dA344_cX11_choices 11 rfl
theorem dX11_choices_76 : decode cX11_choices 76 = .ok (.putfield 90, 3) := kDec_at dA344_cX11_choices 12 rfl
theorem dX11_choices_79 : decode cX11_choices 79 = .ok (.aload_n 0, 1) := kDec_at dA344_cX11_choices 13 rfl
theorem dX11_choices_80 : decode cX11_choices 80 = .ok (.getfield 90, 3) := kDec_at dA344_cX11_choices 14 rfl
theorem dX11_choices_83 : decode cX11_choices 83 = .ok (.iconst (-1), 1) := kDec_at dA344_cX11_choices 15 rfl
theorem dX11_choices_84 : decode cX11_choices 84 = .ok (.if_icmp .eq 5, 3) := kDec_at dA344_cX11_choices 16 rfl
theorem dX11_choices_89 : decode cX11_choices 89 = .ok (.aload_n 0, 1) := kDec_at dA344_cX11_choices 17 rfl
theorem dX11_choices_90 : decode cX11_choices 90 = .ok (.getfield 86, 3) := kDec_at dA344_cX11_choices 18 rfl
theorem dX11_choices_93 : decode cX11_choices 93 = .ok (.iload_n 1, 1) := kDec_at dA344_cX11_choices 19 rfl
theorem dX11_choices_94 : decode cX11_choices 94 = .ok (.iload_n 2, 1) := kDec_at dA344_cX11_choices 20 rfl
theorem dX11_choices_95 : decode cX11_choices 95 = .ok (.invokevirtual 240, 3) := kDec_at dA344_cX11_choices 21 rfl
theorem dX11_choices_98 : decode cX11_choices 98 = .ok (.ireturn, 1) := kDec_at dA344_cX11_choices 22 rfl
theorem dX11_choices_87 : decode cX11_choices 87 = .ok (.iconst (-1), 1) := kDec_at dA344_cX11_choices 23 rfl
set_option maxRecDepth 20000 in
theorem ggX11_choices_X5_length : GoodIn wsX11_choices wsX5_length := goodIn_sub (fun _ h => List.mem_cons_of_mem _ (List.mem_append_left _ (List.mem_append_left _ (List.mem_append_right _ (h))))) gX5_length_all
set_option maxRecDepth 20000 in
theorem gX11_choices_X5_length : GoodIn wsX11_choices (wsV RX11 94 RX5 yX5_length wsX5_length) := goodIn_app (goodIn_r _ [7, 8, 9, 10] rfl (by decide +kernel)) ggX11_choices_X5_length
set_option maxRecDepth 20000 in
theorem gX1_layOut_all : wsX1_layOut.all goodWord = true := by
  unfold wsX1_layOut
  exact good_c (by decide +kernel) (good_a (good_a (good_a (good_a (good_a (good_a (good_a (good_a (good_a ((by decide +kernel)) gX1_clsall) gX5_clsall) gX2_clsall) gX10_clsall) gX5_cut_all) gX5_length_all) gX5_get_all) gX5_add_all) gX2_encode_all)
set_option maxRecDepth 20000 in
theorem ggX11_choices_X1_layOut : GoodIn wsX11_choices wsX1_layOut := goodIn_sub (fun _ h => List.mem_cons_of_mem _ (List.mem_append_left _ (List.mem_append_right _ (h)))) gX1_layOut_all
set_option maxRecDepth 20000 in
theorem gX11_choices_X1_layOut : GoodIn wsX11_choices (wsV RX11 236 RX1 yX1_layOut wsX1_layOut) := goodIn_app (goodIn_r _ [14, 15, 16, 17] rfl (by decide +kernel)) ggX11_choices_X1_layOut
set_option maxRecDepth 20000 in
theorem gX1_find_all : wsX1_find.all goodWord = true := by
  unfold wsX1_find
  exact good_c (by decide +kernel) (good_a (good_a (good_a (good_a (good_a (good_a (good_a (good_a (good_a (good_a (good_a (good_a (good_a ((by decide +kernel)) gX1_clsall) gX5_clsall) gX2_clsall) gX10_clsall) gX3_clsall) gX8_clsall) gX1_findTails_all) gX8_begin_all) gX8_goOn_all) gX8_takeAll_all) gX1_tryLast_all) gX2_letterAlone_all) gX5_set_all)
set_option maxRecDepth 20000 in
theorem ggX11_choices_X1_find : GoodIn wsX11_choices wsX1_find := goodIn_sub (fun _ h => List.mem_cons_of_mem _ (List.mem_append_right _ (h))) gX1_find_all
set_option maxRecDepth 20000 in
theorem gX11_choices_X1_find : GoodIn wsX11_choices (wsV RX11 240 RX1 yX1_find wsX1_find) := goodIn_app (goodIn_r _ [18, 19, 20, 17] rfl (by decide +kernel)) ggX11_choices_X1_find
set_option maxRecDepth 100000 in
theorem dA345_cX11_choices : kDec cX11_choices [(88, .ireturn, 1), (32, .iload_n 3, 1), (33, .iconst 2, 1), (34, .if_icmp .ne 7, 3)] = true := by decide +kernel
theorem dX11_choices_88 : decode cX11_choices 88 = .ok (.ireturn, 1) := kDec_at dA345_cX11_choices 0 rfl
theorem dX11_choices_32 : decode cX11_choices 32 = .ok (.iload_n 3, 1) := kDec_at dA345_cX11_choices 1 rfl
theorem dX11_choices_33 : decode cX11_choices 33 = .ok (.iconst 2, 1) := kDec_at dA345_cX11_choices 2 rfl
theorem dX11_choices_34 : decode cX11_choices 34 = .ok (.if_icmp .ne 7, 3) := kDec_at dA345_cX11_choices 3 rfl

end
