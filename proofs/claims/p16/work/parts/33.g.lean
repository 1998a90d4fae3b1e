/-! 5m.chs -/
section
theorem mkB_st {f : Nat → Int32} {i i' mk mk' x : Int32} (h : mk.toInt = mkB f i.toNatClampNeg) (ex : x = f i.toNatClampNeg) (hc : (x = 65533 ∧ mk'.toInt = mk.toInt + 1) ∨ (¬ x = 65533 ∧ mk'.toInt = mk.toInt)) (h0 : 0 ≤ i.toInt) (hi : i'.toInt = i.toInt + 1) : mk'.toInt = mkB f i'.toNatClampNeg := by
  have c := v_clamp h0
  have e : i'.toNatClampNeg = i.toNatClampNeg + 1 := ix_eq (by omega)
  rw [e]
  rcases hc with ⟨a, b⟩ | ⟨a, b⟩
  · rw [mkB_y (by rw [← ex]; exact a)]; omega
  · rw [mkB_n (by rw [← ex]; exact a)]; omega
theorem mkB_l (f : Nat → Int32) : ∀ n, mkB f n ≤ n
  | 0 => Nat.le_refl _
  | n + 1 => by
    have := mkB_l f n
    by_cases w : f n = 65533
    · rw [mkB_y w]; omega
    · rw [mkB_n w]; omega
theorem lo_y {r l fm lm b : Int32} {g f : Nat → Int32} {Bf : Int32 → Int32} {n : Int} (h : F_lo r l fm lm g b Bf f n) (hr : r.toInt = -1) : LOI b Bf f n.toNat l g fm lm := by
  rcases h with h | ⟨i, h, _⟩
  · exact h.2
  · omega
theorem lo_n {r l fm lm b : Int32} {g f : Nat → Int32} {Bf : Int32 → Int32} {n : Int} (h : F_lo r l fm lm g b Bf f n) (hr : ¬ r.toInt = -1) : ¬ ∀ i, i < n.toNat → ¬ EV b Bf f 0 0 i = [] := by
  rcases h with h | ⟨i, _, h1, h2, _⟩
  · exact absurd h.1 hr
  · exact fun w => w i (by omega) h2
def F_chx (OK : Prop) (r : Int32) (P Q : Prop) : Prop := (OK ∧ P) ∨ (¬ OK ∧ r.toInt = -1 ∧ Q)

set_option maxHeartbeats 40000000 in
set_option maxRecDepth 100000 in
theorem f_X11_marksOf (l : Launch) (dC : Nat → ClassId) (dI : Nat → Nat → Nat) (cI cS : ClassId) (sz : Nat) (nx : Nat) (ax : Nat) (lx : Int32) (fx : Nat → Int32) (g_lx : 0 ≤ lx.toInt ∧ lx.toInt ≤ 300) : kMi l yX11_marksOf wsX11_marksOf ({ frames := 1, cells := 0, slots := 0, locals := 21 } : Room) [.ref nx] sz (dC, dI) vwCl [(cI, .int), (cS, .short)] [(nx, .inr (5, [.ref ax, .int lx])), (ax, .inl (cI, 300, .inl fx))] (fun _ => True) 0 0 (fun (A : Nat → Prop) (r : Int32) (hh9 : Heap) => ∀ PZ9 : Prop, (kPD (dC, dI) vwCl A [(nx, .inr (5, [.ref ax, .int lx])), (ax, .inl (cI, 300, .inl fx))] hh9 → (0 ≤ r.toInt ∧ r.toInt ≤ 300) → (r.toInt = mkB fx lx.toInt.toNat) → PZ9) → PZ9) := by
  refine kMi_of (cc := cX11_marksOf) (maxL := 3) (ret := (some .int)) (lv := [(0, .ref nx)]) (by decide +kernel) rfl rfl (Nat.le_of_ble_eq_true rfl) ?_
  intro p e s m below meth c A QQ ls hx hb hr hts hml hown hlocks hA hQQ hK hX hP hD hS hl
  have hown : s.vm.findClass RX11 = some m.cls := hown
  have hcf := k_cf hx hb hml hown hts
  refine lv_iconst (v := 0) hx hb dX11_marksOf_0 (by decide) ?_
  refine lv_istore_n (lv' := [(1, .int 0), (0, .ref nx)]) hx hb dX11_marksOf_1 rfl hl (by decide) rfl (fun ls hl => ?_)
  refine lv_iconst (v := 0) hx hb dX11_marksOf_2 (by decide) ?_
  refine lv_istore_n (lv' := [(2, .int 0), (1, .int 0), (0, .ref nx)]) hx hb dX11_marksOf_3 rfl hl (by decide) rfl (fun ls hl => ?_)
  have LOOP_4 : ∀ (k_4 : Nat) (i : Int32) (mk : Int32) (H : Heap) (locs : List Loc) (ls : Array Slot), MSd (300 - i.toInt : Int) k_4 → (0 ≤ i.toInt ∧ i.toInt ≤ 300) → (0 ≤ mk.toInt ∧ mk.toInt ≤ i.toInt) → (i.toInt ≤ lx.toInt) → (mk.toInt = mkB fx i.toNatClampNeg) → va_P (dC, dI) vwCl [(nx, .inr (5, [.ref ax, .int lx])), (ax, .inl (cI, 300, .inl fx))] H → va_D A [(nx, .inr (5, [.ref ax, .int lx])), (ax, .inl (cI, 300, .inl fx))] → va_S A s.heap H locs → lv_has ls 3 [(2, .int i), (1, .int mk), (0, .ref nx)] → W p l e (headSpec wsX11_marksOf ({ frames := 1, cells := 0, slots := 0, locals := 21 } : Room)).room s m ([.ref nx] : List Value).toArray below meth c H locs 0 0 (MQ below QQ ([.ref nx] : List Value).toArray s 0 0 A) (F0 m 4 ls []) := by
    clear hP hD hS hl
    intro k_4
    induction k_4 with
    | zero =>
      intro i mk H locs ls hm_4 g_i g_mk hil hmb hP hD hS hl
      exact ms_0 hm_4
    | succ k_4 ih_4 =>
      intro i mk H locs ls hm_4 g_i g_mk hil hmb hP hD hS hl
      refine lv_iload_n hx hb dX11_marksOf_4 rfl (lv_at hl 0 rfl) ?_
      refine lv_aload_n hx hb dX11_marksOf_5 rfl (lv_at hl 2 rfl) ?_
      refine kV_i (rest := [.int i]) (q0 := 0) (ci := 5) hcf (m_X5_length l dC dI cI cS H.size nx ax lx ) kc_X5_length gX11_marksOf_X5_length rfl rfl rfl ⟨Nat.le_of_ble_eq_true rfl, Nat.le_of_ble_eq_true rfl⟩ kX_t hK hP hD hS hA [0] [1] rfl (by decide +kernel) rfl rfl rfl hl rfl (Nat.le_of_ble_eq_true rfl) dX11_marksOf_6 ⟨Nat.le_of_ble_eq_true rfl, Nat.le_of_ble_eq_true rfl⟩ (fun r_1 H locs hB hJ hSn => ?_)
      refine hB _ (fun hPD9 hf1_0 => ?_)
      clear hB
      obtain ⟨hPn, hDn⟩ := hJ _ hPD9.1 hPD9.2 [(ax, .inl (cI, 300, .inl fx)), (nx, .inr (5, [.ref ax, .int lx]))] rfl
      clear hP hD hS hJ hPD9
      have hP := hPn
      have hD := hDn
      have hS := hSn
      clear hPn hDn hSn
      rw [hf1_0]
      refine lv_icmp_ge (tgt := 32) hx hb dX11_marksOf_9 (by decide) (fun c_2 => ?_) (fun c_2 => ?_)
      · have tc_2 : lx.toInt ≤ i.toInt := v_le c_2
        refine lv_iload_n hx hb dX11_marksOf_32 rfl (lv_at hl 1 rfl) ?_
        exact kl_i (v := mk) hQQ hx hb hr hlocks hS dX11_marksOf_33 (fun PZ9 kZ9 => kZ9 (kPD_sub hP hD [1, 0] (by decide +kernel) rfl) (by omega) ((show i.toNatClampNeg = lx.toInt.toNat from ix_eq (by omega)) ▸ hmb))
      · have tc_2 : i.toInt < lx.toInt := v_nle c_2
        refine lv_aload_n hx hb dX11_marksOf_12 rfl (lv_at hl 2 rfl) ?_
        refine lv_iload_n hx hb dX11_marksOf_13 rfl (lv_at hl 0 rfl) ?_
        refine kV_i (rest := []) (q0 := 0) (ci := 5) hcf (m_X5_get l dC dI cI cS H.size nx ax 300 lx fx i (by omega) (by omega)) kc_X5_get gX11_marksOf_X5_get rfl rfl rfl ⟨Nat.le_of_ble_eq_true rfl, Nat.le_of_ble_eq_true rfl⟩ kX_t hK hP hD hS hA [1, 0] [] rfl (by decide +kernel) rfl rfl rfl hl rfl (Nat.le_of_ble_eq_true rfl) dX11_marksOf_14 ⟨Nat.le_of_ble_eq_true rfl, Nat.le_of_ble_eq_true rfl⟩ (fun r_3 H locs hB hJ hSn => ?_)
        refine hB _ (fun hPD9 hf3_0 => ?_)
        clear hB
        obtain ⟨hPn, hDn⟩ := hJ _ hPD9.1 hPD9.2 [(nx, .inr (5, [.ref ax, .int lx])), (ax, .inl (cI, 300, .inl fx))] rfl
        clear hP hD hS hJ hPD9
        have hP := hPn
        have hD := hDn
        have hS := hSn
        clear hPn hDn hSn
        have hg3 : r_3 = fx i.toNatClampNeg := F_get_f hf3_0 (by omega) (by omega)
        refine lv_ldcw hx hb hown (hts (.constant RX11 261 (65533)) (List.mem_of_getElem? (i := 1) rfl)) dX11_marksOf_17 ?_
        refine lv_icmp_ne (tgt := 26) hx hb dX11_marksOf_20 (by decide) (fun c_4 => ?_) (fun c_4 => ?_)
        · have tc_4 : ¬ r_3.toInt = 65533 := v_ne c_4
          obtain ⟨x_5, ex_5⟩ : ∃ y : Int32, y = i + 1 := ⟨_, rfl⟩
          have tx_5 : x_5.toInt = i.toInt + 1 := v_addR (l2 := 1) (h2 := 1) ex_5 g_i (by decide) (by decide) (by decide)
          refine lv_iinc (v := x_5) (lv' := [(2, .int x_5), (1, .int mk), (0, .ref nx)]) hx hb dX11_marksOf_26 hl (k := 0) rfl (by rw [ex_5]; rfl) (by decide) rfl (fun ls hl => ?_)
          refine lv_goto (tgt := 4) hx hb dX11_marksOf_29 (by decide) ?_
          exact ih_4 x_5 mk _ _ _ (ms_lt hm_4 (by show ((300 - x_5.toInt : Int)) < 300 - i.toInt; omega) (by show (0 : Int) < 300 - i.toInt; omega)) (by show 0 ≤ x_5.toInt ∧ x_5.toInt ≤ 300; omega) (by show 0 ≤ mk.toInt ∧ mk.toInt ≤ x_5.toInt; omega) (by show x_5.toInt ≤ lx.toInt; omega) (mkB_st hmb hg3 (Or.inr ⟨c_4, by omega⟩) (by omega) (by omega)) hP hD hS (lv_sub hl [0, 1, 2] rfl)
        · have tc_4 : r_3.toInt = 65533 := v_eq c_4
          obtain ⟨x_6, ex_6⟩ : ∃ y : Int32, y = mk + 1 := ⟨_, rfl⟩
          have tx_6 : x_6.toInt = mk.toInt + 1 := v_add ex_6 (by show -2147483648 ≤ mk.toInt + 1; omega) (by show mk.toInt + 1 < 2147483648; omega)
          refine lv_iinc (v := x_6) (lv' := [(1, .int x_6), (2, .int i), (0, .ref nx)]) hx hb dX11_marksOf_23 hl (k := 1) rfl (by rw [ex_6]; rfl) (by decide) rfl (fun ls hl => ?_)
          obtain ⟨x_7, ex_7⟩ : ∃ y : Int32, y = i + 1 := ⟨_, rfl⟩
          have tx_7 : x_7.toInt = i.toInt + 1 := v_addR (l2 := 1) (h2 := 1) ex_7 g_i (by decide) (by decide) (by decide)
          refine lv_iinc (v := x_7) (lv' := [(2, .int x_7), (1, .int x_6), (0, .ref nx)]) hx hb dX11_marksOf_26 hl (k := 1) rfl (by rw [ex_7]; rfl) (by decide) rfl (fun ls hl => ?_)
          refine lv_goto (tgt := 4) hx hb dX11_marksOf_29 (by decide) ?_
          exact ih_4 x_7 x_6 _ _ _ (ms_lt hm_4 (by show ((300 - x_7.toInt : Int)) < 300 - i.toInt; omega) (by show (0 : Int) < 300 - i.toInt; omega)) (by show 0 ≤ x_7.toInt ∧ x_7.toInt ≤ 300; omega) (by show 0 ≤ x_6.toInt ∧ x_6.toInt ≤ x_7.toInt; omega) (by show x_7.toInt ≤ lx.toInt; omega) (mkB_st hmb hg3 (Or.inl ⟨c_4, by omega⟩) (by omega) (by omega)) hP hD hS (lv_sub hl [0, 1, 2] rfl)
  exact LOOP_4 _ 0 0 _ _ _ (ms_s _) (by decide) (by show 0 ≤ (0 : Int) ∧ (0 : Int) ≤ 0; omega) (by show 0 ≤ lx.toInt; omega) (rfl) hP hD hS (lv_sub hl [0, 1, 2] rfl)

set_option maxHeartbeats 40000000 in
set_option maxRecDepth 100000 in
theorem f_X11_choices (l : Launch) (dC : Nat → ClassId) (dI : Nat → Nat → Nat) (cI cS : ClassId) (sz : Nat) (oX : Nat) (nT : Nat) (nL : Nat) (nM : Nat) (oC : Nat) (oP : Nat) (oH : Nat) (oK : Nat) (oG : Nat) (oR : Nat) (oQ : Nat) (oW : Nat) (aL : Nat) (nw : Nat) (w1 : Nat) (w2 : Nat) (w3 : Nat) (o7 : Nat) (o8 : Nat) (o9 : Nat) (w4 : Nat) (w5 : Nat) (w6 : Nat) (w7 : Nat) (aw : Nat) (o4 : Nat) (o5 : Nat) (a41 : Nat) (a42 : Nat) (a43 : Nat) (a51 : Nat) (a52 : Nat) (a53 : Nat) (k1 : Nat) (k2 : Nat) (fa : Int32) (lL : Int32) (fL : Nat → Int32) (ke : Int32) (tl : Int32) (fsh : Int32) (wi : Int32) (ri : Int32) (fm : Int32) (lm : Int32) (fW1 : Nat → Int32) (fW2 : Nat → Int32) (fW3 : Nat → Int32) (fW4 : Nat → Int32) (fW5 : Nat → Int32) (fW6 : Nat → Int32) (fW7 : Nat → Int32) (lw : Int32) (fw : Nat → Int32) (re7 : Int32) (la7 : Int32) (su7 : Int32) (le7 : Int32) (re8 : Int32) (la8 : Int32) (su8 : Int32) (le8 : Int32) (re9 : Int32) (la9 : Int32) (su9 : Int32) (le9 : Int32) (l4 : Int32) (f41 : Nat → Int32) (f42 : Nat → Int32) (f43 : Nat → Int32) (l5 : Int32) (f51 : Nat → Int32) (f52 : Nat → Int32) (f53 : Nat → Int32) (lK : Int32) (fK1 : Nat → Int32) (fK2 : Nat → Int32) (a : Int32) (b : Int32) (g_lL : 0 ≤ lL.toInt ∧ lL.toInt ≤ 300) (g_ke : 0 ≤ ke.toInt ∧ ke.toInt ≤ 200) (g_fsh : 0 ≤ fsh.toInt ∧ fsh.toInt ≤ 1) (g_fm : -1 ≤ fm.toInt ∧ fm.toInt ≤ 800) (g_lm : -1 ≤ lm.toInt ∧ lm.toInt ≤ 800) (g_lw : 0 ≤ lw.toInt ∧ lw.toInt ≤ 800) (g_lK : 0 ≤ lK.toInt ∧ lK.toInt ≤ 300) (hlt : prg lL.toInt 0 65535 fL) (hT4 : HT 512 511 hsT f42 f43) (ho4 : (occ f43 512 : Int) ≤ 511) (hT5 : HT 512 511 hsT f52 f53) (ho5 : (occ f53 512 : Int) ≤ 511) (hL4 : prg 256 (-1) 65535 f41) (hL5 : prg 256 (-1) 65535 f51) (hBr : ∀ cd : Int32, okB (Bc cd f42 f43 f52 f53)) (hT : HT 1024 1023 hsK fK1 fK2) (ho : (occ fK2 1024 : Int) ≤ lK.toInt) (hVk : prg 1024 (-1) 200 fK2) : kMi l yX11_choices wsX11_choices ({ frames := 7, cells := 0, slots := 0, locals := 168 } : Room) [.ref oX, .int a, .int b] sz (dC, dI) vwCl [(cI, .int), (cS, .short)] [(oX, .inr (11, [.ref nT, .ref nL, .ref nM, .ref oC, .ref oP, .ref oH, .ref oK, .ref oG, .ref oR, .ref oQ, .ref oW, .int fa])), (nL, .inr (5, [.ref aL, .int lL])), (aL, .inl (cI, 300, .inl fL)), (oW, .inr (1, [.ref oC, .ref oK, .ref nw, .ref w1, .ref w2, .ref w3, .ref o7, .ref o8, .ref o9, .ref w4, .ref w5, .ref w6, .ref w7, .int ke, .int tl, .int fsh, .int wi, .int ri, .int fm, .int lm])), (w1, .inl (cI, 801, .inl fW1)), (w2, .inl (cI, 801, .inl fW2)), (w3, .inl (cI, 801, .inl fW3)), (w4, .inl (cI, 200, .inl fW4)), (w5, .inl (cI, 200, .inl fW5)), (w6, .inl (cI, 200, .inl fW6)), (w7, .inl (cI, 200, .inl fW7)), (nw, .inr (5, [.ref aw, .int lw])), (aw, .inl (cI, 800, .inl fw)), (o7, .inr (8, [.ref oC, .ref oK, .int re7, .int la7, .int su7, .int le7])), (o8, .inr (8, [.ref oC, .ref oK, .int re8, .int la8, .int su8, .int le8])), (o9, .inr (8, [.ref oC, .ref oK, .int re9, .int la9, .int su9, .int le9])), (oC, .inr (2, [.ref o4, .ref o5])), (o4, .inr (10, [.ref a41, .ref a42, .ref a43, .int l4])), (a41, .inl (cI, 256, .inl f41)), (a42, .inl (cI, 512, .inl f42)), (a43, .inl (cI, 512, .inl f43)), (o5, .inr (10, [.ref a51, .ref a52, .ref a53, .int l5])), (a51, .inl (cI, 256, .inl f51)), (a52, .inl (cI, 512, .inl f52)), (a53, .inl (cI, 512, .inl f53)), (oK, .inr (3, [.ref k1, .ref k2, .int lK])), (k1, .inl (cI, 1024, .inl fK1)), (k2, .inl (cI, 1024, .inl fK2))] (va_Nw (.methodLinkNest RX2 52 yX11_isLetter "TextMender")) 0 0 (fun (A : Nat → Prop) (r : Int32) (hh9 : Heap) => ∀ PZ9 : Prop, (∀ (fa' : Int32) (lw' : Int32) (fm' : Int32) (lm' : Int32) (wi' : Int32) (ri' : Int32) (fsh' : Int32) (fw' : Nat → Int32) (fW1' : Nat → Int32) (fW2' : Nat → Int32) (fW3' : Nat → Int32) (ke' : Int32) (tl' : Int32) (fW4' : Nat → Int32) (fW5' : Nat → Int32) (fW6' : Nat → Int32) (fW7' : Nat → Int32) (re7' : Int32) (la7' : Int32) (su7' : Int32) (le7' : Int32) (re8' : Int32) (la8' : Int32) (su8' : Int32) (le8' : Int32) (re9' : Int32) (la9' : Int32) (su9' : Int32) (le9' : Int32), kPD (dC, dI) vwCl A [(oX, .inr (11, [.ref nT, .ref nL, .ref nM, .ref oC, .ref oP, .ref oH, .ref oK, .ref oG, .ref oR, .ref oQ, .ref oW, .int fa'])), (nL, .inr (5, [.ref aL, .int lL])), (aL, .inl (cI, 300, .inl fL)), (oW, .inr (1, [.ref oC, .ref oK, .ref nw, .ref w1, .ref w2, .ref w3, .ref o7, .ref o8, .ref o9, .ref w4, .ref w5, .ref w6, .ref w7, .int ke', .int tl', .int fsh', .int wi', .int ri', .int fm', .int lm'])), (w1, .inl (cI, 801, .inl fW1')), (w2, .inl (cI, 801, .inl fW2')), (w3, .inl (cI, 801, .inl fW3')), (w4, .inl (cI, 200, .inl fW4')), (w5, .inl (cI, 200, .inl fW5')), (w6, .inl (cI, 200, .inl fW6')), (w7, .inl (cI, 200, .inl fW7')), (nw, .inr (5, [.ref aw, .int lw'])), (aw, .inl (cI, 800, .inl fw')), (o7, .inr (8, [.ref oC, .ref oK, .int re7', .int la7', .int su7', .int le7'])), (o8, .inr (8, [.ref oC, .ref oK, .int re8', .int la8', .int su8', .int le8'])), (o9, .inr (8, [.ref oC, .ref oK, .int re9', .int la9', .int su9', .int le9'])), (oC, .inr (2, [.ref o4, .ref o5])), (o4, .inr (10, [.ref a41, .ref a42, .ref a43, .int l4])), (a41, .inl (cI, 256, .inl f41)), (a42, .inl (cI, 512, .inl f42)), (a43, .inl (cI, 512, .inl f43)), (o5, .inr (10, [.ref a51, .ref a52, .ref a53, .int l5])), (a51, .inl (cI, 256, .inl f51)), (a52, .inl (cI, 512, .inl f52)), (a53, .inl (cI, 512, .inl f53)), (oK, .inr (3, [.ref k1, .ref k2, .int lK])), (k1, .inl (cI, 1024, .inl fK1)), (k2, .inl (cI, 1024, .inl fK2))] hh9 → (0 ≤ lw'.toInt ∧ lw'.toInt ≤ 800) → (-1 ≤ fm'.toInt ∧ fm'.toInt ≤ 800) → (-1 ≤ lm'.toInt ∧ lm'.toInt ≤ 800) → (0 ≤ fsh'.toInt ∧ fsh'.toInt ≤ 1) → (0 ≤ ke'.toInt ∧ ke'.toInt ≤ 200) → (F_chx (okd a ∧ okd b ∧ (mkB fL lL.toInt.toNat = 1 ∨ mkB fL lL.toInt.toNat = 2) ∧ lL.toInt ≤ 100 ∧ ∀ i, i < lL.toInt.toNat → ¬ EV b (Bc b f42 f43 f52 f53) fL 0 0 i = []) r (FLD (VX a b f41 f51 (Bc b f42 f43 f52 f53) (tcC fK1 fK2) lL.toInt.toNat fL (mkB fL lL.toInt.toNat)) 0 0 (fun _ _ => (0 : Int)) (if mkB fL lL.toInt.toNat = 1 then 256 else 65536) r.toNatClampNeg (CA fW4' fW5' fW6' fW7') ∧ 0 ≤ r.toInt ∧ r.toInt ≤ 65536 ∧ ke'.toInt = (m200 r.toNatClampNeg : Int) ∧ fsh' = 1 ∧ wi' = a ∧ ri' = b) (ke' = ke ∧ fsh' = fsh ∧ wi' = wi ∧ ri' = ri ∧ fW4' = fW4 ∧ fW5' = fW5 ∧ fW6' = fW6 ∧ fW7' = fW7)) → PZ9) → PZ9) := by
  refine kMi_of (cc := cX11_choices) (maxL := 5) (ret := (some .int)) (lv := [(0, .ref oX), (1, .int a), (2, .int b)]) (by decide +kernel) rfl rfl (Nat.le_of_ble_eq_true rfl) ?_
  intro p e s m below meth c A QQ ls hx hb hr hts hml hown hlocks hA hQQ hK hX hP hD hS hl
  have hown : s.vm.findClass RX11 = some m.cls := hown
  have hcf := k_cf hx hb hml hown hts
  have hN52 := hX
  have in_X11 : ∀ w ∈ wsX110, w ∈ wsX11_choices := fun _ h => List.mem_cons_of_mem _ (List.mem_append_left _ (List.mem_append_left _ (List.mem_append_left _ (List.mem_append_left _ (List.mem_append_left _ (List.mem_append_left _ (List.mem_append_left _ (List.mem_append_left _ (List.mem_append_left _ (List.mem_append_left _ (List.mem_append_left _ (List.mem_append_right _ (h)))))))))))))
  replace g_fm := hid g_fm
  replace g_lm := hid g_lm
  replace g_lw := hid g_lw
  have z0 : (0 : Int32).toInt = 0 := rfl
  have z1 : (1 : Int32).toInt = 1 := rfl
  have zm1 : (-1 : Int32).toInt = -1 := rfl
  have hf9 : prg ((lL.toInt.toNat : Nat) : Int) 0 65535 fL := fun j hj => hlt j (by omega)
  refine lv_aload_n hx hb dX11_choices_0 rfl (lv_at hl 0 rfl) ?_
  refine lv_iconst (v := (-1)) hx hb dX11_choices_1 (by decide) ?_
  refine va_put (D := (dC, dI)) (ci := 11) (v := .int (-1)) (ty := .int) (C := RX11) (T := TX11) (N := 12) hx hb hts in_X11 tyX11 tyX11_ok nmX11 hown hK hP hD hS 0 rfl rfl 11 (Nat.le_of_ble_eq_true rfl) (hts (.fieldLink RX11 90 "TextMender" "fault" "I") (List.mem_of_getElem? (i := 1) rfl)) (fun _ h9 => h9) rfl (tyX11_ok 11 (Nat.le_of_ble_eq_true rfl)) rfl rfl (Nat.le_of_ble_eq_true rfl) dX11_choices_2 (kW (wn := [(oX, .inr (11, [.ref nT, .ref nL, .ref nM, .ref oC, .ref oP, .ref oH, .ref oK, .ref oG, .ref oR, .ref oQ, .ref oW, .int (-1)])), (nL, .inr (5, [.ref aL, .int lL])), (aL, .inl (cI, 300, .inl fL)), (oW, .inr (1, [.ref oC, .ref oK, .ref nw, .ref w1, .ref w2, .ref w3, .ref o7, .ref o8, .ref o9, .ref w4, .ref w5, .ref w6, .ref w7, .int ke, .int tl, .int fsh, .int wi, .int ri, .int fm, .int lm])), (w1, .inl (cI, 801, .inl fW1)), (w2, .inl (cI, 801, .inl fW2)), (w3, .inl (cI, 801, .inl fW3)), (w4, .inl (cI, 200, .inl fW4)), (w5, .inl (cI, 200, .inl fW5)), (w6, .inl (cI, 200, .inl fW6)), (w7, .inl (cI, 200, .inl fW7)), (nw, .inr (5, [.ref aw, .int lw])), (aw, .inl (cI, 800, .inl fw)), (o7, .inr (8, [.ref oC, .ref oK, .int re7, .int la7, .int su7, .int le7])), (o8, .inr (8, [.ref oC, .ref oK, .int re8, .int la8, .int su8, .int le8])), (o9, .inr (8, [.ref oC, .ref oK, .int re9, .int la9, .int su9, .int le9])), (oC, .inr (2, [.ref o4, .ref o5])), (o4, .inr (10, [.ref a41, .ref a42, .ref a43, .int l4])), (a41, .inl (cI, 256, .inl f41)), (a42, .inl (cI, 512, .inl f42)), (a43, .inl (cI, 512, .inl f43)), (o5, .inr (10, [.ref a51, .ref a52, .ref a53, .int l5])), (a51, .inl (cI, 256, .inl f51)), (a52, .inl (cI, 512, .inl f52)), (a53, .inl (cI, 512, .inl f53)), (oK, .inr (3, [.ref k1, .ref k2, .int lK])), (k1, .inl (cI, 1024, .inl fK1)), (k2, .inl (cI, 1024, .inl fK2))]) rfl (fun H locs hPn hDn hSn => ?_))
  clear hP hD hS
  have hP := hPn
  have hD := hDn
  have hS := hSn
  clear hPn hDn hSn
  refine lv_aload_n hx hb dX11_choices_5 rfl (lv_at hl 0 rfl) ?_
  refine va_get (D := (dC, dI)) (ci := 11) (v := .ref nL) (C := RX11) (T := TX11) (N := 12) hx hb hts in_X11 hown hK hP 0 rfl rfl 1 (Nat.le_of_ble_eq_true rfl) (hts (.fieldLink RX11 34 "TextMender" "letters" "LTextMender$Numbers;") (List.mem_of_getElem? (i := 2) rfl)) (fun _ h9 => h9) rfl dX11_choices_6 ?_
  refine kS_i (rest := []) hcf (f_X11_marksOf l dC dI cI cS H.size nL aL lL fL (g_lL)) kc_X11_marksOf gX11_choices_X11_marksOf rfl rfl ⟨Nat.le_of_ble_eq_true rfl, Nat.le_of_ble_eq_true rfl⟩ kX_t hK hP hD hS hA (posT mk_151 0) (posF mk_151 0) (kC_of mk_151 rfl rfl) (by decide +kernel) rfl hl rfl (Nat.le_of_ble_eq_true rfl) dX11_choices_9 ⟨Nat.le_of_ble_eq_true rfl, Nat.le_of_ble_eq_true rfl⟩ (fun r_1 H locs hB hJ hSn => ?_)
  refine hB _ (fun hPD9 hf1_0 hf1_1 => ?_)
  clear hB
  obtain ⟨hPn, hDn⟩ := kJi (m := mk_151) hJ rfl hPD9.1 hPD9.2 (wn := [(oX, .inr (11, [.ref nT, .ref nL, .ref nM, .ref oC, .ref oP, .ref oH, .ref oK, .ref oG, .ref oR, .ref oQ, .ref oW, .int (-1)])), (nL, .inr (5, [.ref aL, .int lL])), (aL, .inl (cI, 300, .inl fL)), (oW, .inr (1, [.ref oC, .ref oK, .ref nw, .ref w1, .ref w2, .ref w3, .ref o7, .ref o8, .ref o9, .ref w4, .ref w5, .ref w6, .ref w7, .int ke, .int tl, .int fsh, .int wi, .int ri, .int fm, .int lm])), (w1, .inl (cI, 801, .inl fW1)), (w2, .inl (cI, 801, .inl fW2)), (w3, .inl (cI, 801, .inl fW3)), (w4, .inl (cI, 200, .inl fW4)), (w5, .inl (cI, 200, .inl fW5)), (w6, .inl (cI, 200, .inl fW6)), (w7, .inl (cI, 200, .inl fW7)), (nw, .inr (5, [.ref aw, .int lw])), (aw, .inl (cI, 800, .inl fw)), (o7, .inr (8, [.ref oC, .ref oK, .int re7, .int la7, .int su7, .int le7])), (o8, .inr (8, [.ref oC, .ref oK, .int re8, .int la8, .int su8, .int le8])), (o9, .inr (8, [.ref oC, .ref oK, .int re9, .int la9, .int su9, .int le9])), (oC, .inr (2, [.ref o4, .ref o5])), (o4, .inr (10, [.ref a41, .ref a42, .ref a43, .int l4])), (a41, .inl (cI, 256, .inl f41)), (a42, .inl (cI, 512, .inl f42)), (a43, .inl (cI, 512, .inl f43)), (o5, .inr (10, [.ref a51, .ref a52, .ref a53, .int l5])), (a51, .inl (cI, 256, .inl f51)), (a52, .inl (cI, 512, .inl f52)), (a53, .inl (cI, 512, .inl f53)), (oK, .inr (3, [.ref k1, .ref k2, .int lK])), (k1, .inl (cI, 1024, .inl fK1)), (k2, .inl (cI, 1024, .inl fK2))]) rfl
  clear hP hD hS hJ hPD9
  have hP := hPn
  have hD := hDn
  have hS := hSn
  clear hPn hDn hSn
  have hmk9 := hf1_1
  refine lv_istore_n (lv' := [(3, .int r_1), (0, .ref oX), (1, .int a), (2, .int b)]) hx hb dX11_choices_12 rfl hl (by decide) rfl (fun ls hl => ?_)
  refine lv_iload_n hx hb dX11_choices_13 rfl (lv_at hl 2 rfl) ?_
  refine kS_i (rest := []) hcf (m_X2_known l dC dI cI cS H.size a ) kc_X2_known gX11_choices_X2_known rfl rfl ⟨Nat.le_of_ble_eq_true rfl, Nat.le_of_ble_eq_true rfl⟩ kX_t hK hP hD hS hA (posT mk_152 0) (posF mk_152 0) (kC_of mk_152 rfl rfl) (by decide +kernel) rfl hl rfl (Nat.le_of_ble_eq_true rfl) dX11_choices_14 ⟨Nat.le_of_ble_eq_true rfl, Nat.le_of_ble_eq_true rfl⟩ (fun r_2 H locs hB hJ hSn => ?_)
  refine hB _ (fun hPD9 hf2_0 hf2_1 => ?_)
  clear hB
  obtain ⟨hPn, hDn⟩ := kJi (m := mk_152) hJ rfl hPD9.1 hPD9.2 (wn := [(oX, .inr (11, [.ref nT, .ref nL, .ref nM, .ref oC, .ref oP, .ref oH, .ref oK, .ref oG, .ref oR, .ref oQ, .ref oW, .int (-1)])), (nL, .inr (5, [.ref aL, .int lL])), (aL, .inl (cI, 300, .inl fL)), (oW, .inr (1, [.ref oC, .ref oK, .ref nw, .ref w1, .ref w2, .ref w3, .ref o7, .ref o8, .ref o9, .ref w4, .ref w5, .ref w6, .ref w7, .int ke, .int tl, .int fsh, .int wi, .int ri, .int fm, .int lm])), (w1, .inl (cI, 801, .inl fW1)), (w2, .inl (cI, 801, .inl fW2)), (w3, .inl (cI, 801, .inl fW3)), (w4, .inl (cI, 200, .inl fW4)), (w5, .inl (cI, 200, .inl fW5)), (w6, .inl (cI, 200, .inl fW6)), (w7, .inl (cI, 200, .inl fW7)), (nw, .inr (5, [.ref aw, .int lw])), (aw, .inl (cI, 800, .inl fw)), (o7, .inr (8, [.ref oC, .ref oK, .int re7, .int la7, .int su7, .int le7])), (o8, .inr (8, [.ref oC, .ref oK, .int re8, .int la8, .int su8, .int le8])), (o9, .inr (8, [.ref oC, .ref oK, .int re9, .int la9, .int su9, .int le9])), (oC, .inr (2, [.ref o4, .ref o5])), (o4, .inr (10, [.ref a41, .ref a42, .ref a43, .int l4])), (a41, .inl (cI, 256, .inl f41)), (a42, .inl (cI, 512, .inl f42)), (a43, .inl (cI, 512, .inl f43)), (o5, .inr (10, [.ref a51, .ref a52, .ref a53, .int l5])), (a51, .inl (cI, 256, .inl f51)), (a52, .inl (cI, 512, .inl f52)), (a53, .inl (cI, 512, .inl f53)), (oK, .inr (3, [.ref k1, .ref k2, .int lK])), (k1, .inl (cI, 1024, .inl fK1)), (k2, .inl (cI, 1024, .inl fK2))]) rfl
  clear hP hD hS hJ hPD9
  have hP := hPn
  have hD := hDn
  have hS := hSn
  clear hPn hDn hSn
  refine lv_if_eq (tgt := 41) hx hb dX11_choices_17 (by decide) (fun c_3 => ?_) (fun c_3 => ?_)
  · have tc_3 : r_2.toInt = 0 := v_eq c_3
    refine lv_iconst (v := 0) hx hb dX11_choices_41 (by decide) ?_
    refine lv_istore (lv' := [(4, .int 0), (3, .int r_1), (0, .ref oX), (1, .int a), (2, .int b)]) hx hb dX11_choices_42 hl (by decide) rfl (fun ls hl => ?_)
    refine lv_iload hx hb dX11_choices_44 (lv_at hl 0 rfl) ?_
    refine lv_if_eq (tgt := 61) hx hb dX11_choices_46 (by decide) (fun c_4 => ?_) (fun c_4 => absurd c_4 (by decide))
    refine lv_iconst (v := (-1)) hx hb dX11_choices_61 (by decide) ?_
    exact kl_i (v := (-1)) hQQ hx hb hr hlocks hS dX11_choices_62 (fun PZ9 kZ9 => kZ9 (-1) lw fm lm wi ri fsh fw fW1 fW2 fW3 ke tl fW4 fW5 fW6 fW7 re7 la7 su7 le7 re8 la8 su8 le8 re9 la9 su9 le9 (⟨hP, hD⟩) (g_lw) (g_fm) (g_lm) (g_fsh) (g_ke) (Or.inr ⟨fun h9 => by have h1 := h9.1; have h2 := h9.2.1; have h3 := h9.2.2.1; have h4 := h9.2.2.2.1; unfold okd at h1 h2; omega, rfl, ⟨rfl, rfl, rfl, rfl, rfl, rfl, rfl, rfl⟩⟩))
  · have tc_3 : ¬ r_2.toInt = 0 := v_ne c_3
    refine lv_iload_n hx hb dX11_choices_20 rfl (lv_at hl 3 rfl) ?_
    refine kS_i (rest := []) hcf (m_X2_known l dC dI cI cS H.size b ) kc_X2_known gX11_choices_X2_known rfl rfl ⟨Nat.le_of_ble_eq_true rfl, Nat.le_of_ble_eq_true rfl⟩ kX_t hK hP hD hS hA (posT mk_152 0) (posF mk_152 0) (kC_of mk_152 rfl rfl) (by decide +kernel) rfl hl rfl (Nat.le_of_ble_eq_true rfl) dX11_choices_21 ⟨Nat.le_of_ble_eq_true rfl, Nat.le_of_ble_eq_true rfl⟩ (fun r_5 H locs hB hJ hSn => ?_)
    refine hB _ (fun hPD9 hf5_0 hf5_1 => ?_)
    clear hB
    obtain ⟨hPn, hDn⟩ := kJi (m := mk_152) hJ rfl hPD9.1 hPD9.2 (wn := [(oX, .inr (11, [.ref nT, .ref nL, .ref nM, .ref oC, .ref oP, .ref oH, .ref oK, .ref oG, .ref oR, .ref oQ, .ref oW, .int (-1)])), (nL, .inr (5, [.ref aL, .int lL])), (aL, .inl (cI, 300, .inl fL)), (oW, .inr (1, [.ref oC, .ref oK, .ref nw, .ref w1, .ref w2, .ref w3, .ref o7, .ref o8, .ref o9, .ref w4, .ref w5, .ref w6, .ref w7, .int ke, .int tl, .int fsh, .int wi, .int ri, .int fm, .int lm])), (w1, .inl (cI, 801, .inl fW1)), (w2, .inl (cI, 801, .inl fW2)), (w3, .inl (cI, 801, .inl fW3)), (w4, .inl (cI, 200, .inl fW4)), (w5, .inl (cI, 200, .inl fW5)), (w6, .inl (cI, 200, .inl fW6)), (w7, .inl (cI, 200, .inl fW7)), (nw, .inr (5, [.ref aw, .int lw])), (aw, .inl (cI, 800, .inl fw)), (o7, .inr (8, [.ref oC, .ref oK, .int re7, .int la7, .int su7, .int le7])), (o8, .inr (8, [.ref oC, .ref oK, .int re8, .int la8, .int su8, .int le8])), (o9, .inr (8, [.ref oC, .ref oK, .int re9, .int la9, .int su9, .int le9])), (oC, .inr (2, [.ref o4, .ref o5])), (o4, .inr (10, [.ref a41, .ref a42, .ref a43, .int l4])), (a41, .inl (cI, 256, .inl f41)), (a42, .inl (cI, 512, .inl f42)), (a43, .inl (cI, 512, .inl f43)), (o5, .inr (10, [.ref a51, .ref a52, .ref a53, .int l5])), (a51, .inl (cI, 256, .inl f51)), (a52, .inl (cI, 512, .inl f52)), (a53, .inl (cI, 512, .inl f53)), (oK, .inr (3, [.ref k1, .ref k2, .int lK])), (k1, .inl (cI, 1024, .inl fK1)), (k2, .inl (cI, 1024, .inl fK2))]) rfl
    clear hP hD hS hJ hPD9
    have hP := hPn
    have hD := hDn
    have hS := hSn
    clear hPn hDn hSn
    refine lv_if_eq (tgt := 41) hx hb dX11_choices_24 (by decide) (fun c_6 => ?_) (fun c_6 => ?_)
    · have tc_6 : r_5.toInt = 0 := v_eq c_6
      refine lv_iconst (v := 0) hx hb dX11_choices_41 (by decide) ?_
      refine lv_istore (lv' := [(4, .int 0), (3, .int r_1), (0, .ref oX), (1, .int a), (2, .int b)]) hx hb dX11_choices_42 hl (by decide) rfl (fun ls hl => ?_)
      refine lv_iload hx hb dX11_choices_44 (lv_at hl 0 rfl) ?_
      refine lv_if_eq (tgt := 61) hx hb dX11_choices_46 (by decide) (fun c_7 => ?_) (fun c_7 => absurd c_7 (by decide))
      refine lv_iconst (v := (-1)) hx hb dX11_choices_61 (by decide) ?_
      exact kl_i (v := (-1)) hQQ hx hb hr hlocks hS dX11_choices_62 (fun PZ9 kZ9 => kZ9 (-1) lw fm lm wi ri fsh fw fW1 fW2 fW3 ke tl fW4 fW5 fW6 fW7 re7 la7 su7 le7 re8 la8 su8 le8 re9 la9 su9 le9 (⟨hP, hD⟩) (g_lw) (g_fm) (g_lm) (g_fsh) (g_ke) (Or.inr ⟨fun h9 => by have h1 := h9.1; have h2 := h9.2.1; have h3 := h9.2.2.1; have h4 := h9.2.2.2.1; unfold okd at h1 h2; omega, rfl, ⟨rfl, rfl, rfl, rfl, rfl, rfl, rfl, rfl⟩⟩))
    · have tc_6 : ¬ r_5.toInt = 0 := v_ne c_6
      refine lv_iload_n hx hb dX11_choices_27 rfl (lv_at hl 0 rfl) ?_
      refine lv_iconst (v := 1) hx hb dX11_choices_28 (by decide) ?_
      refine lv_icmp_eq (tgt := 37) hx hb dX11_choices_29 (by decide) (fun c_8 => ?_) (fun c_8 => ?_)
      · have tc_8 : r_1.toInt = 1 := v_eq c_8
        refine lv_iconst (v := 1) hx hb dX11_choices_37 (by decide) ?_
        refine lv_goto (tgt := 42) hx hb dX11_choices_38 (by decide) ?_
        refine lv_istore (lv' := [(4, .int 1), (3, .int r_1), (0, .ref oX), (1, .int a), (2, .int b)]) hx hb dX11_choices_42 hl (by decide) rfl (fun ls hl => ?_)
        refine lv_iload hx hb dX11_choices_44 (lv_at hl 0 rfl) ?_
        refine lv_if_eq (tgt := 61) hx hb dX11_choices_46 (by decide) (fun c_9 => absurd c_9 (by decide)) (fun c_9 => ?_)
        refine lv_aload_n hx hb dX11_choices_49 rfl (lv_at hl 2 rfl) ?_
        refine va_get (D := (dC, dI)) (ci := 11) (v := .ref nL) (C := RX11) (T := TX11) (N := 12) hx hb hts in_X11 hown hK hP 0 rfl rfl 1 (Nat.le_of_ble_eq_true rfl) (hts (.fieldLink RX11 34 "TextMender" "letters" "LTextMender$Numbers;") (List.mem_of_getElem? (i := 2) rfl)) (fun _ h9 => h9) rfl dX11_choices_50 ?_
        refine kV_i (rest := []) (q0 := 0) (ci := 5) hcf (m_X5_length l dC dI cI cS H.size nL aL lL ) kc_X5_length gX11_choices_X5_length rfl rfl rfl ⟨Nat.le_of_ble_eq_true rfl, Nat.le_of_ble_eq_true rfl⟩ kX_t hK hP hD hS hA (posT mk_153 0) (posF mk_153 0) (kC_of mk_153 rfl rfl) (by decide +kernel) rfl rfl rfl hl rfl (Nat.le_of_ble_eq_true rfl) dX11_choices_53 ⟨Nat.le_of_ble_eq_true rfl, Nat.le_of_ble_eq_true rfl⟩ (fun r_10 H locs hB hJ hSn => ?_)
        refine hB _ (fun hPD9 hf10_0 => ?_)
        clear hB
        obtain ⟨hPn, hDn⟩ := kJi (m := mk_153) hJ rfl hPD9.1 hPD9.2 (wn := [(oX, .inr (11, [.ref nT, .ref nL, .ref nM, .ref oC, .ref oP, .ref oH, .ref oK, .ref oG, .ref oR, .ref oQ, .ref oW, .int (-1)])), (nL, .inr (5, [.ref aL, .int lL])), (aL, .inl (cI, 300, .inl fL)), (oW, .inr (1, [.ref oC, .ref oK, .ref nw, .ref w1, .ref w2, .ref w3, .ref o7, .ref o8, .ref o9, .ref w4, .ref w5, .ref w6, .ref w7, .int ke, .int tl, .int fsh, .int wi, .int ri, .int fm, .int lm])), (w1, .inl (cI, 801, .inl fW1)), (w2, .inl (cI, 801, .inl fW2)), (w3, .inl (cI, 801, .inl fW3)), (w4, .inl (cI, 200, .inl fW4)), (w5, .inl (cI, 200, .inl fW5)), (w6, .inl (cI, 200, .inl fW6)), (w7, .inl (cI, 200, .inl fW7)), (nw, .inr (5, [.ref aw, .int lw])), (aw, .inl (cI, 800, .inl fw)), (o7, .inr (8, [.ref oC, .ref oK, .int re7, .int la7, .int su7, .int le7])), (o8, .inr (8, [.ref oC, .ref oK, .int re8, .int la8, .int su8, .int le8])), (o9, .inr (8, [.ref oC, .ref oK, .int re9, .int la9, .int su9, .int le9])), (oC, .inr (2, [.ref o4, .ref o5])), (o4, .inr (10, [.ref a41, .ref a42, .ref a43, .int l4])), (a41, .inl (cI, 256, .inl f41)), (a42, .inl (cI, 512, .inl f42)), (a43, .inl (cI, 512, .inl f43)), (o5, .inr (10, [.ref a51, .ref a52, .ref a53, .int l5])), (a51, .inl (cI, 256, .inl f51)), (a52, .inl (cI, 512, .inl f52)), (a53, .inl (cI, 512, .inl f53)), (oK, .inr (3, [.ref k1, .ref k2, .int lK])), (k1, .inl (cI, 1024, .inl fK1)), (k2, .inl (cI, 1024, .inl fK2))]) rfl
        clear hP hD hS hJ hPD9
        have hP := hPn
        have hD := hDn
        have hS := hSn
        clear hPn hDn hSn
        rw [hf10_0]
        refine lv_bipush (v := 100) hx hb dX11_choices_56 (by decide) ?_
        refine lv_icmp_le (tgt := 63) hx hb dX11_choices_58 (by decide) (fun c_11 => ?_) (fun c_11 => ?_)
        · have tc_11 : lL.toInt ≤ 100 := v_le c_11
          refine lv_aload_n hx hb dX11_choices_63 rfl (lv_at hl 2 rfl) ?_
          refine lv_aload_n hx hb dX11_choices_64 rfl (lv_at hl 2 rfl) ?_
          refine va_get (D := (dC, dI)) (ci := 11) (v := .ref oW) (C := RX11) (T := TX11) (N := 12) hx hb hts in_X11 hown hK hP 0 rfl rfl 10 (Nat.le_of_ble_eq_true rfl) (hts (.fieldLink RX11 86 "TextMender" "choiceBook" "LTextMender$Choices;") (List.mem_of_getElem? (i := 3) rfl)) (fun _ h9 => h9) rfl dX11_choices_65 ?_
          refine lv_iload_n hx hb dX11_choices_68 rfl (lv_at hl 4 rfl) ?_
          refine lv_aload_n hx hb dX11_choices_69 rfl (lv_at hl 2 rfl) ?_
          refine va_get (D := (dC, dI)) (ci := 11) (v := .ref nL) (C := RX11) (T := TX11) (N := 12) hx hb hts in_X11 hown hK hP 0 rfl rfl 1 (Nat.le_of_ble_eq_true rfl) (hts (.fieldLink RX11 34 "TextMender" "letters" "LTextMender$Numbers;") (List.mem_of_getElem? (i := 2) rfl)) (fun _ h9 => h9) rfl dX11_choices_70 ?_
          refine kV_i (rest := [.ref oX]) (q0 := 0) (ci := 1) hcf (f_X1_layOut l dC dI cI cS H.size oW nL oC oK nw w1 w2 w3 o7 o8 o9 w4 w5 w6 w7 aw o4 o5 a41 a42 a43 a51 a52 a53 aL ke tl fsh wi ri fm lm lw fw l4 f42 f43 l5 f52 f53 lL fL b (g_ke) (g_fsh) (g_fm) (g_lm) (g_lw) (g_lL) (by omega) (hlt) (hT4) (ho4) (hT5) (ho5)) kc_X1_layOut gX11_choices_X1_layOut rfl rfl rfl ⟨Nat.le_of_ble_eq_true rfl, Nat.le_of_ble_eq_true rfl⟩ kX_t hK hP hD hS hA ([2, 3, 4, 5, 6, 7, 8, 9, 10, 11, 0, 1].filterMap (fun j => (posT mk_154 0)[j]?)) (posF mk_154 0) (kCp (ws := [(nL, .inr (5, [.ref aL, .int lL])), (aL, .inl (cI, 300, .inl fL)), (oW, .inr (1, [.ref oC, .ref oK, .ref nw, .ref w1, .ref w2, .ref w3, .ref o7, .ref o8, .ref o9, .ref w4, .ref w5, .ref w6, .ref w7, .int ke, .int tl, .int fsh, .int wi, .int ri, .int fm, .int lm])), (nw, .inr (5, [.ref aw, .int lw])), (aw, .inl (cI, 800, .inl fw)), (oC, .inr (2, [.ref o4, .ref o5])), (o4, .inr (10, [.ref a41, .ref a42, .ref a43, .int l4])), (a42, .inl (cI, 512, .inl f42)), (a43, .inl (cI, 512, .inl f43)), (o5, .inr (10, [.ref a51, .ref a52, .ref a53, .int l5])), (a52, .inl (cI, 512, .inl f52)), (a53, .inl (cI, 512, .inl f53))]) (kC_of mk_154 rfl rfl) rfl) (by decide +kernel) rfl rfl rfl hl rfl (Nat.le_of_ble_eq_true rfl) dX11_choices_73 ⟨Nat.le_of_ble_eq_true rfl, Nat.le_of_ble_eq_true rfl⟩ (fun r_12 H locs hB hJ hSn => ?_)
          refine hB _ (fun lw_12 fw_12 fm_12 lm_12 hPD9 hf12_0 hf12_1 hf12_2 hf12_3 hf12_4 => ?_)
          clear hB
          obtain ⟨hPn, hDn⟩ := kJm (m := mk_154) hJ rfl hPD9.1 hPD9.2 [10, 11, 0, 1, 2, 3, 4, 5, 6, 7, 8, 9] (by decide +kernel) (ws := [(nL, .inr (5, [.ref aL, .int lL])), (aL, .inl (cI, 300, .inl fL)), (oW, .inr (1, [.ref oC, .ref oK, .ref nw, .ref w1, .ref w2, .ref w3, .ref o7, .ref o8, .ref o9, .ref w4, .ref w5, .ref w6, .ref w7, .int ke, .int tl, .int fsh, .int wi, .int ri, .int fm_12, .int lm_12])), (nw, .inr (5, [.ref aw, .int lw_12])), (aw, .inl (cI, 800, .inl fw_12)), (oC, .inr (2, [.ref o4, .ref o5])), (o4, .inr (10, [.ref a41, .ref a42, .ref a43, .int l4])), (a42, .inl (cI, 512, .inl f42)), (a43, .inl (cI, 512, .inl f43)), (o5, .inr (10, [.ref a51, .ref a52, .ref a53, .int l5])), (a52, .inl (cI, 512, .inl f52)), (a53, .inl (cI, 512, .inl f53))]) rfl (wn := [(oX, .inr (11, [.ref nT, .ref nL, .ref nM, .ref oC, .ref oP, .ref oH, .ref oK, .ref oG, .ref oR, .ref oQ, .ref oW, .int (-1)])), (nL, .inr (5, [.ref aL, .int lL])), (aL, .inl (cI, 300, .inl fL)), (oW, .inr (1, [.ref oC, .ref oK, .ref nw, .ref w1, .ref w2, .ref w3, .ref o7, .ref o8, .ref o9, .ref w4, .ref w5, .ref w6, .ref w7, .int ke, .int tl, .int fsh, .int wi, .int ri, .int fm_12, .int lm_12])), (w1, .inl (cI, 801, .inl fW1)), (w2, .inl (cI, 801, .inl fW2)), (w3, .inl (cI, 801, .inl fW3)), (w4, .inl (cI, 200, .inl fW4)), (w5, .inl (cI, 200, .inl fW5)), (w6, .inl (cI, 200, .inl fW6)), (w7, .inl (cI, 200, .inl fW7)), (nw, .inr (5, [.ref aw, .int lw_12])), (aw, .inl (cI, 800, .inl fw_12)), (o7, .inr (8, [.ref oC, .ref oK, .int re7, .int la7, .int su7, .int le7])), (o8, .inr (8, [.ref oC, .ref oK, .int re8, .int la8, .int su8, .int le8])), (o9, .inr (8, [.ref oC, .ref oK, .int re9, .int la9, .int su9, .int le9])), (oC, .inr (2, [.ref o4, .ref o5])), (o4, .inr (10, [.ref a41, .ref a42, .ref a43, .int l4])), (a41, .inl (cI, 256, .inl f41)), (a42, .inl (cI, 512, .inl f42)), (a43, .inl (cI, 512, .inl f43)), (o5, .inr (10, [.ref a51, .ref a52, .ref a53, .int l5])), (a51, .inl (cI, 256, .inl f51)), (a52, .inl (cI, 512, .inl f52)), (a53, .inl (cI, 512, .inl f53)), (oK, .inr (3, [.ref k1, .ref k2, .int lK])), (k1, .inl (cI, 1024, .inl fK1)), (k2, .inl (cI, 1024, .inl fK2))]) rfl
          clear hP hD hS hJ hPD9
          have hP := hPn
          have hD := hDn
          have hS := hSn
          clear hPn hDn hSn
          refine va_put (D := (dC, dI)) (ci := 11) (v := .int r_12) (ty := .int) (C := RX11) (T := TX11) (N := 12) hx hb hts in_X11 tyX11 tyX11_ok nmX11 hown hK hP hD hS 0 rfl rfl 11 (Nat.le_of_ble_eq_true rfl) (hts (.fieldLink RX11 90 "TextMender" "fault" "I") (List.mem_of_getElem? (i := 1) rfl)) (fun _ h9 => h9) rfl (tyX11_ok 11 (Nat.le_of_ble_eq_true rfl)) rfl rfl (Nat.le_of_ble_eq_true rfl) dX11_choices_76 (kW (wn := [(oX, .inr (11, [.ref nT, .ref nL, .ref nM, .ref oC, .ref oP, .ref oH, .ref oK, .ref oG, .ref oR, .ref oQ, .ref oW, .int r_12])), (nL, .inr (5, [.ref aL, .int lL])), (aL, .inl (cI, 300, .inl fL)), (oW, .inr (1, [.ref oC, .ref oK, .ref nw, .ref w1, .ref w2, .ref w3, .ref o7, .ref o8, .ref o9, .ref w4, .ref w5, .ref w6, .ref w7, .int ke, .int tl, .int fsh, .int wi, .int ri, .int fm_12, .int lm_12])), (w1, .inl (cI, 801, .inl fW1)), (w2, .inl (cI, 801, .inl fW2)), (w3, .inl (cI, 801, .inl fW3)), (w4, .inl (cI, 200, .inl fW4)), (w5, .inl (cI, 200, .inl fW5)), (w6, .inl (cI, 200, .inl fW6)), (w7, .inl (cI, 200, .inl fW7)), (nw, .inr (5, [.ref aw, .int lw_12])), (aw, .inl (cI, 800, .inl fw_12)), (o7, .inr (8, [.ref oC, .ref oK, .int re7, .int la7, .int su7, .int le7])), (o8, .inr (8, [.ref oC, .ref oK, .int re8, .int la8, .int su8, .int le8])), (o9, .inr (8, [.ref oC, .ref oK, .int re9, .int la9, .int su9, .int le9])), (oC, .inr (2, [.ref o4, .ref o5])), (o4, .inr (10, [.ref a41, .ref a42, .ref a43, .int l4])), (a41, .inl (cI, 256, .inl f41)), (a42, .inl (cI, 512, .inl f42)), (a43, .inl (cI, 512, .inl f43)), (o5, .inr (10, [.ref a51, .ref a52, .ref a53, .int l5])), (a51, .inl (cI, 256, .inl f51)), (a52, .inl (cI, 512, .inl f52)), (a53, .inl (cI, 512, .inl f53)), (oK, .inr (3, [.ref k1, .ref k2, .int lK])), (k1, .inl (cI, 1024, .inl fK1)), (k2, .inl (cI, 1024, .inl fK2))]) rfl (fun H locs hPn hDn hSn => ?_))
          clear hP hD hS
          have hP := hPn
          have hD := hDn
          have hS := hSn
          clear hPn hDn hSn
          refine lv_aload_n hx hb dX11_choices_79 rfl (lv_at hl 2 rfl) ?_
          refine va_get (D := (dC, dI)) (ci := 11) (v := .int r_12) (C := RX11) (T := TX11) (N := 12) hx hb hts in_X11 hown hK hP 0 rfl rfl 11 (Nat.le_of_ble_eq_true rfl) (hts (.fieldLink RX11 90 "TextMender" "fault" "I") (List.mem_of_getElem? (i := 1) rfl)) (fun _ h9 => h9) rfl dX11_choices_80 ?_
          refine lv_iconst (v := (-1)) hx hb dX11_choices_83 (by decide) ?_
          refine lv_icmp_eq (tgt := 89) hx hb dX11_choices_84 (by decide) (fun c_13 => ?_) (fun c_13 => ?_)
          · have tc_13 : r_12.toInt = (-1) := v_eq c_13
            have hlo9 := lo_y hf12_4 (by omega)
            have hmk8 : mkB fL lL.toInt.toNat = 1 := by omega
            obtain ⟨hp1, hp2, hp3, -, -⟩ := lo1 (v := 0) hlo9 hmk8 0
            have hbw9 := WRV_b hlo9.1 hf9 (hBr _) ⟨by decide, Or.inr (by decide)⟩
            refine lv_aload_n hx hb dX11_choices_89 rfl (lv_at hl 2 rfl) ?_
            refine va_get (D := (dC, dI)) (ci := 11) (v := .ref oW) (C := RX11) (T := TX11) (N := 12) hx hb hts in_X11 hown hK hP 0 rfl rfl 10 (Nat.le_of_ble_eq_true rfl) (hts (.fieldLink RX11 86 "TextMender" "choiceBook" "LTextMender$Choices;") (List.mem_of_getElem? (i := 3) rfl)) (fun _ h9 => h9) rfl dX11_choices_90 ?_
            refine lv_iload_n hx hb dX11_choices_93 rfl (lv_at hl 3 rfl) ?_
            refine lv_iload_n hx hb dX11_choices_94 rfl (lv_at hl 4 rfl) ?_
            refine kV_i (rest := []) (q0 := 0) (ci := 1) hcf (f_X1_find l dC dI cI cS H.size oW oC oK nw w1 w2 w3 o7 o8 o9 w4 w5 w6 w7 aw o4 o5 a41 a42 a43 a51 a52 a53 k1 k2 ke tl fsh wi ri fm_12 lm_12 fW1 fW2 fW3 fW4 fW5 fW6 fW7 lw_12 fw_12 re7 la7 su7 le7 re8 la8 su8 le8 re9 la9 su9 le9 l4 f41 l5 f51 lK fK1 fK2 a b (VX a b f41 f51 (Bc b f42 f43 f52 f53) (tcC fK1 fK2) lL.toInt.toNat fL 1) (g_ke) (g_fsh) (hf12_1) (hf12_2) (hf12_0) (g_lK) (by omega) (by omega) (by omega) (hbw9) (hL4) (hL5) (hT) (ho) (hVk) (fun _ v h0 h1 e => vx_1 hf9 (hBr _) hlo9 hmk8 h0 h1) (fun h9 => absurd hp1 h9)) kc_X1_find gX11_choices_X1_find rfl rfl rfl ⟨Nat.le_of_ble_eq_true rfl, Nat.le_of_ble_eq_true rfl⟩ (kX_1 hN52) hK hP hD hS hA (posT mk_155 0) (posF mk_155 0) (kC_of mk_155 rfl rfl) (by decide +kernel) rfl rfl rfl hl rfl (Nat.le_of_ble_eq_true rfl) dX11_choices_95 ⟨Nat.le_of_ble_eq_true rfl, Nat.le_of_ble_eq_true rfl⟩ (fun r_14 H locs hB hJ hSn => ?_)
            refine hB _ (fun wi_14 ri_14 fsh_14 fw_14 fW1_14 fW2_14 fW3_14 ke_14 tl_14 fW4_14 fW5_14 fW6_14 fW7_14 re7_14 la7_14 su7_14 le7_14 re8_14 la8_14 su8_14 le8_14 re9_14 la9_14 su9_14 le9_14 hPD9 hf14_0 hf14_1 hf14_2 hf14_3 hf14_4 hf14_5 => ?_)
            clear hB
            obtain ⟨hPn, hDn⟩ := kJi (m := mk_155) hJ rfl hPD9.1 hPD9.2 (wn := [(oX, .inr (11, [.ref nT, .ref nL, .ref nM, .ref oC, .ref oP, .ref oH, .ref oK, .ref oG, .ref oR, .ref oQ, .ref oW, .int r_12])), (nL, .inr (5, [.ref aL, .int lL])), (aL, .inl (cI, 300, .inl fL)), (oW, .inr (1, [.ref oC, .ref oK, .ref nw, .ref w1, .ref w2, .ref w3, .ref o7, .ref o8, .ref o9, .ref w4, .ref w5, .ref w6, .ref w7, .int ke_14, .int tl_14, .int fsh_14, .int wi_14, .int ri_14, .int fm_12, .int lm_12])), (w1, .inl (cI, 801, .inl fW1_14)), (w2, .inl (cI, 801, .inl fW2_14)), (w3, .inl (cI, 801, .inl fW3_14)), (w4, .inl (cI, 200, .inl fW4_14)), (w5, .inl (cI, 200, .inl fW5_14)), (w6, .inl (cI, 200, .inl fW6_14)), (w7, .inl (cI, 200, .inl fW7_14)), (nw, .inr (5, [.ref aw, .int lw_12])), (aw, .inl (cI, 800, .inl fw_14)), (o7, .inr (8, [.ref oC, .ref oK, .int re7_14, .int la7_14, .int su7_14, .int le7_14])), (o8, .inr (8, [.ref oC, .ref oK, .int re8_14, .int la8_14, .int su8_14, .int le8_14])), (o9, .inr (8, [.ref oC, .ref oK, .int re9_14, .int la9_14, .int su9_14, .int le9_14])), (oC, .inr (2, [.ref o4, .ref o5])), (o4, .inr (10, [.ref a41, .ref a42, .ref a43, .int l4])), (a41, .inl (cI, 256, .inl f41)), (a42, .inl (cI, 512, .inl f42)), (a43, .inl (cI, 512, .inl f43)), (o5, .inr (10, [.ref a51, .ref a52, .ref a53, .int l5])), (a51, .inl (cI, 256, .inl f51)), (a52, .inl (cI, 512, .inl f52)), (a53, .inl (cI, 512, .inl f53)), (oK, .inr (3, [.ref k1, .ref k2, .int lK])), (k1, .inl (cI, 1024, .inl fK1)), (k2, .inl (cI, 1024, .inl fK2))]) rfl
            clear hP hD hS hJ hPD9
            have hP := hPn
            have hD := hDn
            have hS := hSn
            clear hPn hDn hSn
            have hrt14 := v_eq hf14_3.2.2.2
            exact kl_i (v := r_14) hQQ hx hb hr hlocks hS dX11_choices_98 (fun PZ9 kZ9 => kZ9 r_12 lw_12 fm_12 lm_12 wi_14 ri_14 fsh_14 fw_14 fW1_14 fW2_14 fW3_14 ke_14 tl_14 fW4_14 fW5_14 fW6_14 fW7_14 re7_14 la7_14 su7_14 le7_14 re8_14 la8_14 su8_14 le8_14 re9_14 la9_14 su9_14 le9_14 (⟨hP, hD⟩) (hf12_0) (hf12_1) (hf12_2) (hf14_0) (hf14_1) (Or.inl ⟨⟨by unfold okd; omega, by unfold okd; omega, by omega, by omega, fun i hi => (hlo9.1.2 i hi).1⟩, (by rw [hmk8, if_pos rfl]; have q9 := hf14_5; rw [if_pos (by omega)] at q9; rw [hf14_3.2.2.2]; exact q9), by omega, by omega, by rw [hf14_3.2.2.2]; exact hf14_4, hf14_3.2.2.1, hf14_3.1, hf14_3.2.1⟩))
          · have tc_13 : ¬ r_12.toInt = (-1) := v_ne c_13
            refine lv_iconst (v := (-1)) hx hb dX11_choices_87 (by decide) ?_
            exact kl_i (v := (-1)) hQQ hx hb hr hlocks hS dX11_choices_88 (fun PZ9 kZ9 => kZ9 r_12 lw_12 fm_12 lm_12 wi ri fsh fw_12 fW1 fW2 fW3 ke tl fW4 fW5 fW6 fW7 re7 la7 su7 le7 re8 la8 su8 le8 re9 la9 su9 le9 (⟨hP, hD⟩) (hf12_0) (hf12_1) (hf12_2) (g_fsh) (g_ke) (Or.inr ⟨fun h9 => lo_n hf12_4 (by omega) h9.2.2.2.2, rfl, ⟨rfl, rfl, rfl, rfl, rfl, rfl, rfl, rfl⟩⟩))
        · have tc_11 : 100 < lL.toInt := v_nle c_11
          refine lv_iconst (v := (-1)) hx hb dX11_choices_61 (by decide) ?_
          exact kl_i (v := (-1)) hQQ hx hb hr hlocks hS dX11_choices_62 (fun PZ9 kZ9 => kZ9 (-1) lw fm lm wi ri fsh fw fW1 fW2 fW3 ke tl fW4 fW5 fW6 fW7 re7 la7 su7 le7 re8 la8 su8 le8 re9 la9 su9 le9 (⟨hP, hD⟩) (g_lw) (g_fm) (g_lm) (g_fsh) (g_ke) (Or.inr ⟨fun h9 => by have h1 := h9.1; have h2 := h9.2.1; have h3 := h9.2.2.1; have h4 := h9.2.2.2.1; unfold okd at h1 h2; omega, rfl, ⟨rfl, rfl, rfl, rfl, rfl, rfl, rfl, rfl⟩⟩))
      · have tc_8 : ¬ r_1.toInt = 1 := v_ne c_8
        refine lv_iload_n hx hb dX11_choices_32 rfl (lv_at hl 0 rfl) ?_
        refine lv_iconst (v := 2) hx hb dX11_choices_33 (by decide) ?_
        refine lv_icmp_ne (tgt := 41) hx hb dX11_choices_34 (by decide) (fun c_15 => ?_) (fun c_15 => ?_)
        · have tc_15 : ¬ r_1.toInt = 2 := v_ne c_15
          refine lv_iconst (v := 0) hx hb dX11_choices_41 (by decide) ?_
          refine lv_istore (lv' := [(4, .int 0), (3, .int r_1), (0, .ref oX), (1, .int a), (2, .int b)]) hx hb dX11_choices_42 hl (by decide) rfl (fun ls hl => ?_)
          refine lv_iload hx hb dX11_choices_44 (lv_at hl 0 rfl) ?_
          refine lv_if_eq (tgt := 61) hx hb dX11_choices_46 (by decide) (fun c_16 => ?_) (fun c_16 => absurd c_16 (by decide))
          refine lv_iconst (v := (-1)) hx hb dX11_choices_61 (by decide) ?_
          exact kl_i (v := (-1)) hQQ hx hb hr hlocks hS dX11_choices_62 (fun PZ9 kZ9 => kZ9 (-1) lw fm lm wi ri fsh fw fW1 fW2 fW3 ke tl fW4 fW5 fW6 fW7 re7 la7 su7 le7 re8 la8 su8 le8 re9 la9 su9 le9 (⟨hP, hD⟩) (g_lw) (g_fm) (g_lm) (g_fsh) (g_ke) (Or.inr ⟨fun h9 => by have h1 := h9.1; have h2 := h9.2.1; have h3 := h9.2.2.1; have h4 := h9.2.2.2.1; unfold okd at h1 h2; omega, rfl, ⟨rfl, rfl, rfl, rfl, rfl, rfl, rfl, rfl⟩⟩))
        · have tc_15 : r_1.toInt = 2 := v_eq c_15
          refine lv_iconst (v := 1) hx hb dX11_choices_37 (by decide) ?_
          refine lv_goto (tgt := 42) hx hb dX11_choices_38 (by decide) ?_
          refine lv_istore (lv' := [(4, .int 1), (3, .int r_1), (0, .ref oX), (1, .int a), (2, .int b)]) hx hb dX11_choices_42 hl (by decide) rfl (fun ls hl => ?_)
          refine lv_iload hx hb dX11_choices_44 (lv_at hl 0 rfl) ?_
          refine lv_if_eq (tgt := 61) hx hb dX11_choices_46 (by decide) (fun c_17 => absurd c_17 (by decide)) (fun c_17 => ?_)
          refine lv_aload_n hx hb dX11_choices_49 rfl (lv_at hl 2 rfl) ?_
          refine va_get (D := (dC, dI)) (ci := 11) (v := .ref nL) (C := RX11) (T := TX11) (N := 12) hx hb hts in_X11 hown hK hP 0 rfl rfl 1 (Nat.le_of_ble_eq_true rfl) (hts (.fieldLink RX11 34 "TextMender" "letters" "LTextMender$Numbers;") (List.mem_of_getElem? (i := 2) rfl)) (fun _ h9 => h9) rfl dX11_choices_50 ?_
          refine kV_i (rest := []) (q0 := 0) (ci := 5) hcf (m_X5_length l dC dI cI cS H.size nL aL lL ) kc_X5_length gX11_choices_X5_length rfl rfl rfl ⟨Nat.le_of_ble_eq_true rfl, Nat.le_of_ble_eq_true rfl⟩ kX_t hK hP hD hS hA (posT mk_153 0) (posF mk_153 0) (kC_of mk_153 rfl rfl) (by decide +kernel) rfl rfl rfl hl rfl (Nat.le_of_ble_eq_true rfl) dX11_choices_53 ⟨Nat.le_of_ble_eq_true rfl, Nat.le_of_ble_eq_true rfl⟩ (fun r_18 H locs hB hJ hSn => ?_)
          refine hB _ (fun hPD9 hf18_0 => ?_)
          clear hB
          obtain ⟨hPn, hDn⟩ := kJi (m := mk_153) hJ rfl hPD9.1 hPD9.2 (wn := [(oX, .inr (11, [.ref nT, .ref nL, .ref nM, .ref oC, .ref oP, .ref oH, .ref oK, .ref oG, .ref oR, .ref oQ, .ref oW, .int (-1)])), (nL, .inr (5, [.ref aL, .int lL])), (aL, .inl (cI, 300, .inl fL)), (oW, .inr (1, [.ref oC, .ref oK, .ref nw, .ref w1, .ref w2, .ref w3, .ref o7, .ref o8, .ref o9, .ref w4, .ref w5, .ref w6, .ref w7, .int ke, .int tl, .int fsh, .int wi, .int ri, .int fm, .int lm])), (w1, .inl (cI, 801, .inl fW1)), (w2, .inl (cI, 801, .inl fW2)), (w3, .inl (cI, 801, .inl fW3)), (w4, .inl (cI, 200, .inl fW4)), (w5, .inl (cI, 200, .inl fW5)), (w6, .inl (cI, 200, .inl fW6)), (w7, .inl (cI, 200, .inl fW7)), (nw, .inr (5, [.ref aw, .int lw])), (aw, .inl (cI, 800, .inl fw)), (o7, .inr (8, [.ref oC, .ref oK, .int re7, .int la7, .int su7, .int le7])), (o8, .inr (8, [.ref oC, .ref oK, .int re8, .int la8, .int su8, .int le8])), (o9, .inr (8, [.ref oC, .ref oK, .int re9, .int la9, .int su9, .int le9])), (oC, .inr (2, [.ref o4, .ref o5])), (o4, .inr (10, [.ref a41, .ref a42, .ref a43, .int l4])), (a41, .inl (cI, 256, .inl f41)), (a42, .inl (cI, 512, .inl f42)), (a43, .inl (cI, 512, .inl f43)), (o5, .inr (10, [.ref a51, .ref a52, .ref a53, .int l5])), (a51, .inl (cI, 256, .inl f51)), (a52, .inl (cI, 512, .inl f52)), (a53, .inl (cI, 512, .inl f53)), (oK, .inr (3, [.ref k1, .ref k2, .int lK])), (k1, .inl (cI, 1024, .inl fK1)), (k2, .inl (cI, 1024, .inl fK2))]) rfl
          clear hP hD hS hJ hPD9
          have hP := hPn
          have hD := hDn
          have hS := hSn
          clear hPn hDn hSn
          rw [hf18_0]
          refine lv_bipush (v := 100) hx hb dX11_choices_56 (by decide) ?_
          refine lv_icmp_le (tgt := 63) hx hb dX11_choices_58 (by decide) (fun c_19 => ?_) (fun c_19 => ?_)
          · have tc_19 : lL.toInt ≤ 100 := v_le c_19
            refine lv_aload_n hx hb dX11_choices_63 rfl (lv_at hl 2 rfl) ?_
            refine lv_aload_n hx hb dX11_choices_64 rfl (lv_at hl 2 rfl) ?_
            refine va_get (D := (dC, dI)) (ci := 11) (v := .ref oW) (C := RX11) (T := TX11) (N := 12) hx hb hts in_X11 hown hK hP 0 rfl rfl 10 (Nat.le_of_ble_eq_true rfl) (hts (.fieldLink RX11 86 "TextMender" "choiceBook" "LTextMender$Choices;") (List.mem_of_getElem? (i := 3) rfl)) (fun _ h9 => h9) rfl dX11_choices_65 ?_
            refine lv_iload_n hx hb dX11_choices_68 rfl (lv_at hl 4 rfl) ?_
            refine lv_aload_n hx hb dX11_choices_69 rfl (lv_at hl 2 rfl) ?_
            refine va_get (D := (dC, dI)) (ci := 11) (v := .ref nL) (C := RX11) (T := TX11) (N := 12) hx hb hts in_X11 hown hK hP 0 rfl rfl 1 (Nat.le_of_ble_eq_true rfl) (hts (.fieldLink RX11 34 "TextMender" "letters" "LTextMender$Numbers;") (List.mem_of_getElem? (i := 2) rfl)) (fun _ h9 => h9) rfl dX11_choices_70 ?_
            refine kV_i (rest := [.ref oX]) (q0 := 0) (ci := 1) hcf (f_X1_layOut l dC dI cI cS H.size oW nL oC oK nw w1 w2 w3 o7 o8 o9 w4 w5 w6 w7 aw o4 o5 a41 a42 a43 a51 a52 a53 aL ke tl fsh wi ri fm lm lw fw l4 f42 f43 l5 f52 f53 lL fL b (g_ke) (g_fsh) (g_fm) (g_lm) (g_lw) (g_lL) (by omega) (hlt) (hT4) (ho4) (hT5) (ho5)) kc_X1_layOut gX11_choices_X1_layOut rfl rfl rfl ⟨Nat.le_of_ble_eq_true rfl, Nat.le_of_ble_eq_true rfl⟩ kX_t hK hP hD hS hA ([2, 3, 4, 5, 6, 7, 8, 9, 10, 11, 0, 1].filterMap (fun j => (posT mk_154 0)[j]?)) (posF mk_154 0) (kCp (ws := [(nL, .inr (5, [.ref aL, .int lL])), (aL, .inl (cI, 300, .inl fL)), (oW, .inr (1, [.ref oC, .ref oK, .ref nw, .ref w1, .ref w2, .ref w3, .ref o7, .ref o8, .ref o9, .ref w4, .ref w5, .ref w6, .ref w7, .int ke, .int tl, .int fsh, .int wi, .int ri, .int fm, .int lm])), (nw, .inr (5, [.ref aw, .int lw])), (aw, .inl (cI, 800, .inl fw)), (oC, .inr (2, [.ref o4, .ref o5])), (o4, .inr (10, [.ref a41, .ref a42, .ref a43, .int l4])), (a42, .inl (cI, 512, .inl f42)), (a43, .inl (cI, 512, .inl f43)), (o5, .inr (10, [.ref a51, .ref a52, .ref a53, .int l5])), (a52, .inl (cI, 512, .inl f52)), (a53, .inl (cI, 512, .inl f53))]) (kC_of mk_154 rfl rfl) rfl) (by decide +kernel) rfl rfl rfl hl rfl (Nat.le_of_ble_eq_true rfl) dX11_choices_73 ⟨Nat.le_of_ble_eq_true rfl, Nat.le_of_ble_eq_true rfl⟩ (fun r_20 H locs hB hJ hSn => ?_)
            refine hB _ (fun lw_20 fw_20 fm_20 lm_20 hPD9 hf20_0 hf20_1 hf20_2 hf20_3 hf20_4 => ?_)
            clear hB
            obtain ⟨hPn, hDn⟩ := kJm (m := mk_154) hJ rfl hPD9.1 hPD9.2 [10, 11, 0, 1, 2, 3, 4, 5, 6, 7, 8, 9] (by decide +kernel) (ws := [(nL, .inr (5, [.ref aL, .int lL])), (aL, .inl (cI, 300, .inl fL)), (oW, .inr (1, [.ref oC, .ref oK, .ref nw, .ref w1, .ref w2, .ref w3, .ref o7, .ref o8, .ref o9, .ref w4, .ref w5, .ref w6, .ref w7, .int ke, .int tl, .int fsh, .int wi, .int ri, .int fm_20, .int lm_20])), (nw, .inr (5, [.ref aw, .int lw_20])), (aw, .inl (cI, 800, .inl fw_20)), (oC, .inr (2, [.ref o4, .ref o5])), (o4, .inr (10, [.ref a41, .ref a42, .ref a43, .int l4])), (a42, .inl (cI, 512, .inl f42)), (a43, .inl (cI, 512, .inl f43)), (o5, .inr (10, [.ref a51, .ref a52, .ref a53, .int l5])), (a52, .inl (cI, 512, .inl f52)), (a53, .inl (cI, 512, .inl f53))]) rfl (wn := [(oX, .inr (11, [.ref nT, .ref nL, .ref nM, .ref oC, .ref oP, .ref oH, .ref oK, .ref oG, .ref oR, .ref oQ, .ref oW, .int (-1)])), (nL, .inr (5, [.ref aL, .int lL])), (aL, .inl (cI, 300, .inl fL)), (oW, .inr (1, [.ref oC, .ref oK, .ref nw, .ref w1, .ref w2, .ref w3, .ref o7, .ref o8, .ref o9, .ref w4, .ref w5, .ref w6, .ref w7, .int ke, .int tl, .int fsh, .int wi, .int ri, .int fm_20, .int lm_20])), (w1, .inl (cI, 801, .inl fW1)), (w2, .inl (cI, 801, .inl fW2)), (w3, .inl (cI, 801, .inl fW3)), (w4, .inl (cI, 200, .inl fW4)), (w5, .inl (cI, 200, .inl fW5)), (w6, .inl (cI, 200, .inl fW6)), (w7, .inl (cI, 200, .inl fW7)), (nw, .inr (5, [.ref aw, .int lw_20])), (aw, .inl (cI, 800, .inl fw_20)), (o7, .inr (8, [.ref oC, .ref oK, .int re7, .int la7, .int su7, .int le7])), (o8, .inr (8, [.ref oC, .ref oK, .int re8, .int la8, .int su8, .int le8])), (o9, .inr (8, [.ref oC, .ref oK, .int re9, .int la9, .int su9, .int le9])), (oC, .inr (2, [.ref o4, .ref o5])), (o4, .inr (10, [.ref a41, .ref a42, .ref a43, .int l4])), (a41, .inl (cI, 256, .inl f41)), (a42, .inl (cI, 512, .inl f42)), (a43, .inl (cI, 512, .inl f43)), (o5, .inr (10, [.ref a51, .ref a52, .ref a53, .int l5])), (a51, .inl (cI, 256, .inl f51)), (a52, .inl (cI, 512, .inl f52)), (a53, .inl (cI, 512, .inl f53)), (oK, .inr (3, [.ref k1, .ref k2, .int lK])), (k1, .inl (cI, 1024, .inl fK1)), (k2, .inl (cI, 1024, .inl fK2))]) rfl
            clear hP hD hS hJ hPD9
            have hP := hPn
            have hD := hDn
            have hS := hSn
            clear hPn hDn hSn
            refine va_put (D := (dC, dI)) (ci := 11) (v := .int r_20) (ty := .int) (C := RX11) (T := TX11) (N := 12) hx hb hts in_X11 tyX11 tyX11_ok nmX11 hown hK hP hD hS 0 rfl rfl 11 (Nat.le_of_ble_eq_true rfl) (hts (.fieldLink RX11 90 "TextMender" "fault" "I") (List.mem_of_getElem? (i := 1) rfl)) (fun _ h9 => h9) rfl (tyX11_ok 11 (Nat.le_of_ble_eq_true rfl)) rfl rfl (Nat.le_of_ble_eq_true rfl) dX11_choices_76 (kW (wn := [(oX, .inr (11, [.ref nT, .ref nL, .ref nM, .ref oC, .ref oP, .ref oH, .ref oK, .ref oG, .ref oR, .ref oQ, .ref oW, .int r_20])), (nL, .inr (5, [.ref aL, .int lL])), (aL, .inl (cI, 300, .inl fL)), (oW, .inr (1, [.ref oC, .ref oK, .ref nw, .ref w1, .ref w2, .ref w3, .ref o7, .ref o8, .ref o9, .ref w4, .ref w5, .ref w6, .ref w7, .int ke, .int tl, .int fsh, .int wi, .int ri, .int fm_20, .int lm_20])), (w1, .inl (cI, 801, .inl fW1)), (w2, .inl (cI, 801, .inl fW2)), (w3, .inl (cI, 801, .inl fW3)), (w4, .inl (cI, 200, .inl fW4)), (w5, .inl (cI, 200, .inl fW5)), (w6, .inl (cI, 200, .inl fW6)), (w7, .inl (cI, 200, .inl fW7)), (nw, .inr (5, [.ref aw, .int lw_20])), (aw, .inl (cI, 800, .inl fw_20)), (o7, .inr (8, [.ref oC, .ref oK, .int re7, .int la7, .int su7, .int le7])), (o8, .inr (8, [.ref oC, .ref oK, .int re8, .int la8, .int su8, .int le8])), (o9, .inr (8, [.ref oC, .ref oK, .int re9, .int la9, .int su9, .int le9])), (oC, .inr (2, [.ref o4, .ref o5])), (o4, .inr (10, [.ref a41, .ref a42, .ref a43, .int l4])), (a41, .inl (cI, 256, .inl f41)), (a42, .inl (cI, 512, .inl f42)), (a43, .inl (cI, 512, .inl f43)), (o5, .inr (10, [.ref a51, .ref a52, .ref a53, .int l5])), (a51, .inl (cI, 256, .inl f51)), (a52, .inl (cI, 512, .inl f52)), (a53, .inl (cI, 512, .inl f53)), (oK, .inr (3, [.ref k1, .ref k2, .int lK])), (k1, .inl (cI, 1024, .inl fK1)), (k2, .inl (cI, 1024, .inl fK2))]) rfl (fun H locs hPn hDn hSn => ?_))
            clear hP hD hS
            have hP := hPn
            have hD := hDn
            have hS := hSn
            clear hPn hDn hSn
            refine lv_aload_n hx hb dX11_choices_79 rfl (lv_at hl 2 rfl) ?_
            refine va_get (D := (dC, dI)) (ci := 11) (v := .int r_20) (C := RX11) (T := TX11) (N := 12) hx hb hts in_X11 hown hK hP 0 rfl rfl 11 (Nat.le_of_ble_eq_true rfl) (hts (.fieldLink RX11 90 "TextMender" "fault" "I") (List.mem_of_getElem? (i := 1) rfl)) (fun _ h9 => h9) rfl dX11_choices_80 ?_
            refine lv_iconst (v := (-1)) hx hb dX11_choices_83 (by decide) ?_
            refine lv_icmp_eq (tgt := 89) hx hb dX11_choices_84 (by decide) (fun c_21 => ?_) (fun c_21 => ?_)
            · have tc_21 : r_20.toInt = (-1) := v_eq c_21
              have hlo9 := lo_y hf20_4 (by omega)
              have hmk8 : mkB fL lL.toInt.toNat = 2 := by omega
              obtain ⟨hp1, hp2, hp3, -, -⟩ := lo2 (o := 0) (v := 0) hlo9 hmk8
              have hbw9 := WRV_b hlo9.1 hf9 (hBr _) ⟨by decide, Or.inr (by decide)⟩
              refine lv_aload_n hx hb dX11_choices_89 rfl (lv_at hl 2 rfl) ?_
              refine va_get (D := (dC, dI)) (ci := 11) (v := .ref oW) (C := RX11) (T := TX11) (N := 12) hx hb hts in_X11 hown hK hP 0 rfl rfl 10 (Nat.le_of_ble_eq_true rfl) (hts (.fieldLink RX11 86 "TextMender" "choiceBook" "LTextMender$Choices;") (List.mem_of_getElem? (i := 3) rfl)) (fun _ h9 => h9) rfl dX11_choices_90 ?_
              refine lv_iload_n hx hb dX11_choices_93 rfl (lv_at hl 3 rfl) ?_
              refine lv_iload_n hx hb dX11_choices_94 rfl (lv_at hl 4 rfl) ?_
              refine kV_i (rest := []) (q0 := 0) (ci := 1) hcf (f_X1_find l dC dI cI cS H.size oW oC oK nw w1 w2 w3 o7 o8 o9 w4 w5 w6 w7 aw o4 o5 a41 a42 a43 a51 a52 a53 k1 k2 ke tl fsh wi ri fm_20 lm_20 fW1 fW2 fW3 fW4 fW5 fW6 fW7 lw_20 fw_20 re7 la7 su7 le7 re8 la8 su8 le8 re9 la9 su9 le9 l4 f41 l5 f51 lK fK1 fK2 a b (VX a b f41 f51 (Bc b f42 f43 f52 f53) (tcC fK1 fK2) lL.toInt.toNat fL 2) (g_ke) (g_fsh) (hf20_1) (hf20_2) (hf20_0) (g_lK) (by omega) (by omega) (by omega) (hbw9) (hL4) (hL5) (hT) (ho) (hVk) (fun h9 => absurd h9 (by omega)) (fun _ o v h0 h1 h2 h3 e => vx_2 hf9 (hBr _) hlo9 hmk8 h0 h1 h2 h3)) kc_X1_find gX11_choices_X1_find rfl rfl rfl ⟨Nat.le_of_ble_eq_true rfl, Nat.le_of_ble_eq_true rfl⟩ (kX_1 hN52) hK hP hD hS hA (posT mk_155 0) (posF mk_155 0) (kC_of mk_155 rfl rfl) (by decide +kernel) rfl rfl rfl hl rfl (Nat.le_of_ble_eq_true rfl) dX11_choices_95 ⟨Nat.le_of_ble_eq_true rfl, Nat.le_of_ble_eq_true rfl⟩ (fun r_22 H locs hB hJ hSn => ?_)
              refine hB _ (fun wi_22 ri_22 fsh_22 fw_22 fW1_22 fW2_22 fW3_22 ke_22 tl_22 fW4_22 fW5_22 fW6_22 fW7_22 re7_22 la7_22 su7_22 le7_22 re8_22 la8_22 su8_22 le8_22 re9_22 la9_22 su9_22 le9_22 hPD9 hf22_0 hf22_1 hf22_2 hf22_3 hf22_4 hf22_5 => ?_)
              clear hB
              obtain ⟨hPn, hDn⟩ := kJi (m := mk_155) hJ rfl hPD9.1 hPD9.2 (wn := [(oX, .inr (11, [.ref nT, .ref nL, .ref nM, .ref oC, .ref oP, .ref oH, .ref oK, .ref oG, .ref oR, .ref oQ, .ref oW, .int r_20])), (nL, .inr (5, [.ref aL, .int lL])), (aL, .inl (cI, 300, .inl fL)), (oW, .inr (1, [.ref oC, .ref oK, .ref nw, .ref w1, .ref w2, .ref w3, .ref o7, .ref o8, .ref o9, .ref w4, .ref w5, .ref w6, .ref w7, .int ke_22, .int tl_22, .int fsh_22, .int wi_22, .int ri_22, .int fm_20, .int lm_20])), (w1, .inl (cI, 801, .inl fW1_22)), (w2, .inl (cI, 801, .inl fW2_22)), (w3, .inl (cI, 801, .inl fW3_22)), (w4, .inl (cI, 200, .inl fW4_22)), (w5, .inl (cI, 200, .inl fW5_22)), (w6, .inl (cI, 200, .inl fW6_22)), (w7, .inl (cI, 200, .inl fW7_22)), (nw, .inr (5, [.ref aw, .int lw_20])), (aw, .inl (cI, 800, .inl fw_22)), (o7, .inr (8, [.ref oC, .ref oK, .int re7_22, .int la7_22, .int su7_22, .int le7_22])), (o8, .inr (8, [.ref oC, .ref oK, .int re8_22, .int la8_22, .int su8_22, .int le8_22])), (o9, .inr (8, [.ref oC, .ref oK, .int re9_22, .int la9_22, .int su9_22, .int le9_22])), (oC, .inr (2, [.ref o4, .ref o5])), (o4, .inr (10, [.ref a41, .ref a42, .ref a43, .int l4])), (a41, .inl (cI, 256, .inl f41)), (a42, .inl (cI, 512, .inl f42)), (a43, .inl (cI, 512, .inl f43)), (o5, .inr (10, [.ref a51, .ref a52, .ref a53, .int l5])), (a51, .inl (cI, 256, .inl f51)), (a52, .inl (cI, 512, .inl f52)), (a53, .inl (cI, 512, .inl f53)), (oK, .inr (3, [.ref k1, .ref k2, .int lK])), (k1, .inl (cI, 1024, .inl fK1)), (k2, .inl (cI, 1024, .inl fK2))]) rfl
              clear hP hD hS hJ hPD9
              have hP := hPn
              have hD := hDn
              have hS := hSn
              clear hPn hDn hSn
              have hrt22 := v_eq hf22_3.2.2.2
              exact kl_i (v := r_22) hQQ hx hb hr hlocks hS dX11_choices_98 (fun PZ9 kZ9 => kZ9 r_20 lw_20 fm_20 lm_20 wi_22 ri_22 fsh_22 fw_22 fW1_22 fW2_22 fW3_22 ke_22 tl_22 fW4_22 fW5_22 fW6_22 fW7_22 re7_22 la7_22 su7_22 le7_22 re8_22 la8_22 su8_22 le8_22 re9_22 la9_22 su9_22 le9_22 (⟨hP, hD⟩) (hf20_0) (hf20_1) (hf20_2) (hf22_0) (hf22_1) (Or.inl ⟨⟨by unfold okd; omega, by unfold okd; omega, by omega, by omega, fun i hi => (hlo9.1.2 i hi).1⟩, (by rw [hmk8, if_neg (by decide)]; have q9 := hf22_5; rw [if_neg (by omega)] at q9; rw [hf22_3.2.2.2]; exact q9), by omega, by omega, by rw [hf22_3.2.2.2]; exact hf22_4, hf22_3.2.2.1, hf22_3.1, hf22_3.2.1⟩))
            · have tc_21 : ¬ r_20.toInt = (-1) := v_ne c_21
              refine lv_iconst (v := (-1)) hx hb dX11_choices_87 (by decide) ?_
              exact kl_i (v := (-1)) hQQ hx hb hr hlocks hS dX11_choices_88 (fun PZ9 kZ9 => kZ9 r_20 lw_20 fm_20 lm_20 wi ri fsh fw_20 fW1 fW2 fW3 ke tl fW4 fW5 fW6 fW7 re7 la7 su7 le7 re8 la8 su8 le8 re9 la9 su9 le9 (⟨hP, hD⟩) (hf20_0) (hf20_1) (hf20_2) (g_fsh) (g_ke) (Or.inr ⟨fun h9 => lo_n hf20_4 (by omega) h9.2.2.2.2, rfl, ⟨rfl, rfl, rfl, rfl, rfl, rfl, rfl, rfl⟩⟩))
          · have tc_19 : 100 < lL.toInt := v_nle c_19
            refine lv_iconst (v := (-1)) hx hb dX11_choices_61 (by decide) ?_
            exact kl_i (v := (-1)) hQQ hx hb hr hlocks hS dX11_choices_62 (fun PZ9 kZ9 => kZ9 (-1) lw fm lm wi ri fsh fw fW1 fW2 fW3 ke tl fW4 fW5 fW6 fW7 re7 la7 su7 le7 re8 la8 su8 le8 re9 la9 su9 le9 (⟨hP, hD⟩) (g_lw) (g_fm) (g_lm) (g_fsh) (g_ke) (Or.inr ⟨fun h9 => by have h1 := h9.1; have h2 := h9.2.1; have h3 := h9.2.2.1; have h4 := h9.2.2.2.1; unfold okd at h1 h2; omega, rfl, ⟨rfl, rfl, rfl, rfl, rfl, rfl, rfl, rfl⟩⟩))

end

/-! 5n.a.rows -/
section
set_option maxRecDepth 100000 in
theorem dA346_cX1_build : kDec cX1_build [(0, .iload_n 1, 1), (1, .ifCond .lt 24, 3), (4, .iload_n 1, 1), (5, .aload_n 0, 1), (6, .getfield 65, 3), (9, .if_icmp .ge 16, 3), (12, .aload_n 0, 1), (13, .aload_n 0, 1), (14, .getfield 79, 3), (17, .aload_n 2, 1), (18, .invokevirtual 179, 3), (21, .iconst (-1), 1), (22, .if_icmp .eq 5, 3), (27, .aload_n 0, 1), (28, .getfield 16, 3), (31, .aload_n 0, 1), (32, .getfield 82, 3), (35, .iconst (-1), 1), (36, .if_icmp .ne 10, 3), (46, .aload_n 0, 1), (47, .getfield 82, 3), (50, .aload_n 0, 1), (51, .getfield 30, 3), (54, .iload_n 1, 1)] = true := by decide +kernel
theorem dX1_build_0 : decode cX1_build 0 = .ok (.iload_n 1, 1) := kDec_at dA346_cX1_build 0 rfl
theorem dX1_build_1 : decode cX1_build 1 = .ok (.ifCond .lt 24, 3) := kDec_at dA346_cX1_build 1 rfl
theorem dX1_build_4 : decode cX1_build 4 = .ok (.iload_n 1, 1) := kDec_at dA346_cX1_build 2 rfl
theorem dX1_build_5 : decode cX1_build 5 = .ok (.aload_n 0, 1) := kDec_at dA346_cX1_build 3 rfl
theorem dX1_build_6 : decode cX1_build 6 = .ok (.getfield 65, 3) := kDec_at dA346_cX1_build 4 rfl
theorem dX1_build_9 : decode cX1_build 9 = .ok (.if_icmp .ge 16, 3) := kDec_at dA346_cX1_build 5 rfl
theorem dX1_build_12 : decode cX1_build 12 = .ok (.aload_n 0, 1) := kDec_at dA346_cX1_build 6 rfl
theorem dX1_build_13 : decode cX1_build 13 = .ok (.aload_n 0, 1) := kDec_at dA346_cX1_build 7 rfl
theorem dX1_build_14 : decode cX1_build 14 = .ok (.getfield 79, 3) := kDec_at dA346_cX1_build 8 rfl
theorem dX1_build_17 : decode cX1_build 17 = .ok (.aload_n 2, 1) := kDec_at dA346_cX1_build 9 rfl
theorem dX1_build_18 : decode cX1_build 18 = .ok (.invokevirtual 179, 3) := kDec_at dA346_cX1_build 10 rfl
theorem dX1_build_21 : decode cX1_build 21 = .ok (.iconst (-1), 1) := kDec_at dA346_cX1_build 11 rfl
theorem dX1_build_22 : decode cX1_build 22 = .ok (.if_icmp .eq 5, 3) := kDec_at dA346_cX1_build 12 rfl
theorem dX1_build_27 : decode cX1_build 27 = .ok (.aload_n 0, 1) := kDec_at dA346_cX1_build 13 rfl
theorem dX1_build_28 : decode cX1_build 28 = .ok (.getfield 16, 3) := kDec_at dA346_cX1_build 14 rfl
theorem dX1_build_31 : decode cX1_build 31 = .ok (.aload_n 0, 1) := kDec_at dA346_cX1_build 15 rfl
theorem dX1_build_32 : decode cX1_build 32 = .ok (.getfield 82, 3) := kDec_at dA346_cX1_build 16 rfl
theorem dX1_build_35 : decode cX1_build 35 = .ok (.iconst (-1), 1) := kDec_at dA346_cX1_build 17 rfl
theorem dX1_build_36 : decode cX1_build 36 = .ok (.if_icmp .ne 10, 3) := kDec_at dA346_cX1_build 18 rfl
theorem dX1_build_46 : decode cX1_build 46 = .ok (.aload_n 0, 1) := kDec_at dA346_cX1_build 19 rfl
theorem dX1_build_47 : decode cX1_build 47 = .ok (.getfield 82, 3) := kDec_at dA346_cX1_build 20 rfl
theorem dX1_build_50 : decode cX1_build 50 = .ok (.aload_n 0, 1) := kDec_at dA346_cX1_build 21 rfl
theorem dX1_build_51 : decode cX1_build 51 = .ok (.getfield 30, 3) := kDec_at dA346_cX1_build 22 rfl
theorem dX1_build_54 : decode cX1_build 54 = .ok (.iload_n 1, 1) := kDec_at dA346_cX1_build 23 rfl
set_option maxRecDepth 20000 in
theorem ggX1_build_X1_layOut : GoodIn wsX1_build wsX1_layOut := goodIn_sub (fun _ h => List.mem_cons_of_mem _ (List.mem_append_left _ (List.mem_append_left _ (List.mem_append_right _ (h))))) gX1_layOut_all
set_option maxRecDepth 20000 in
theorem gX1_build_X1_layOut : GoodIn wsX1_build (wsV RX1 179 RX1 yX1_layOut wsX1_layOut) := goodIn_app (goodIn_r _ [9, 10, 11, 12] rfl (by decide +kernel)) ggX1_build_X1_layOut
set_option maxRecDepth 100000 in
theorem dA347_cX1_build : kDec cX1_build [(55, .iaload, 1), (56, .invokevirtual 131, 3), (59, .aload_n 0, 1), (60, .getfield 82, 3), (63, .iconst (-1), 1), (64, .if_icmp .eq 20, 3), (67, .aload_n 0, 1), (68, .getfield 16, 3), (71, .aload_n 0, 1), (72, .getfield 85, 3), (75, .aload_n 0, 1), (76, .getfield 33, 3), (79, .iload_n 1, 1), (80, .iaload, 1), (81, .invokevirtual 131, 3), (84, .aload_n 3, 1), (85, .aload_n 0, 1), (86, .getfield 76, 3), (89, .aload_n 0, 1), (90, .getfield 16, 3), (93, .aload 4, 2), (95, .invokevirtual 183, 3), (98, .ireturn, 1), (39, .aload_n 0, 1)] = true := by decide +kernel
theorem dX1_build_55 : decode cX1_build 55 = .ok (.iaload, 1) := kDec_at dA347_cX1_build 0 rfl
theorem dX1_build_56 : decode cX1_build 56 = .ok (.invokevirtual 131, 3) := kDec_at dA347_cX1_build 1 rfl
theorem dX1_build_59 : decode cX1_build 59 = .ok (.aload_n 0, 1) := kDec_at dA347_cX1_build 2 rfl
theorem dX1_build_60 : decode cX1_build 60 = .ok (.getfield 82, 3) := kDec_at dA347_cX1_build 3 rfl
theorem dX1_build_63 : decode cX1_build 63 = .ok (.iconst (-1), 1) := kDec_at dA347_cX1_build 4 rfl
theorem dX1_build_64 : decode cX1_build 64 = .ok (.if_icmp .eq 20, 3) := kDec_at dA347_cX1_build 5 rfl
theorem dX1_build_67 : decode cX1_build 67 = .ok (.aload_n 0, 1) := kDec_at dA347_cX1_build 6 rfl
theorem dX1_build_68 : decode cX1_build 68 = .ok (.getfield 16, 3) := kDec_at dA347_cX1_build 7 rfl
theorem dX1_build_71 : decode cX1_build 71 = .ok (.aload_n 0, 1) := kDec_at dA347_cX1_build 8 rfl
theorem dX1_build_72 : decode cX1_build 72 = .ok (.getfield 85, 3) := kDec_at dA347_cX1_build 9 rfl
theorem dX1_build_75 : decode cX1_build 75 = .ok (.aload_n 0, 1) := kDec_at dA347_cX1_build 10 rfl
theorem dX1_build_76 : decode cX1_build 76 = .ok (.getfield 33, 3) := kDec_at dA347_cX1_build 11 rfl
theorem dX1_build_79 : decode cX1_build 79 = .ok (.iload_n 1, 1) := kDec_at dA347_cX1_build 12 rfl
theorem dX1_build_80 : decode cX1_build 80 = .ok (.iaload, 1) := kDec_at dA347_cX1_build 13 rfl
theorem dX1_build_81 : decode cX1_build 81 = .ok (.invokevirtual 131, 3) := kDec_at dA347_cX1_build 14 rfl
theorem dX1_build_84 : decode cX1_build 84 = .ok (.aload_n 3, 1) := kDec_at dA347_cX1_build 15 rfl
theorem dX1_build_85 : decode cX1_build 85 = .ok (.aload_n 0, 1) := kDec_at dA347_cX1_build 16 rfl
theorem dX1_build_86 : decode cX1_build 86 = .ok (.getfield 76, 3) := kDec_at dA347_cX1_build 17 rfl
theorem dX1_build_89 : decode cX1_build 89 = .ok (.aload_n 0, 1) := kDec_at dA347_cX1_build 18 rfl
theorem dX1_build_90 : decode cX1_build 90 = .ok (.getfield 16, 3) := kDec_at dA347_cX1_build 19 rfl
theorem dX1_build_93 : decode cX1_build 93 = .ok (.aload 4, 2) := kDec_at dA347_cX1_build 20 rfl
theorem dX1_build_95 : decode cX1_build 95 = .ok (.invokevirtual 183, 3) := kDec_at dA347_cX1_build 21 rfl
theorem dX1_build_98 : decode cX1_build 98 = .ok (.ireturn, 1) := kDec_at dA347_cX1_build 22 rfl
theorem dX1_build_39 : decode cX1_build 39 = .ok (.aload_n 0, 1) := kDec_at dA347_cX1_build 23 rfl
set_option maxRecDepth 20000 in
theorem ggX1_build_X5_set : GoodIn wsX1_build wsX5_set := goodIn_sub (fun _ h => List.mem_cons_of_mem _ (List.mem_append_left _ (List.mem_append_right _ (h)))) gX5_set_all
set_option maxRecDepth 20000 in
theorem gX1_build_X5_set : GoodIn wsX1_build (wsV RX1 131 RX5 yX5_set wsX5_set) := goodIn_app (goodIn_r _ [14, 15, 16, 13] rfl (by decide +kernel)) ggX1_build_X5_set
set_option maxRecDepth 20000 in
theorem ggX1_build_X7_readExactly : GoodIn wsX1_build wsX7_readExactly := goodIn_sub (fun _ h => List.mem_cons_of_mem _ (List.mem_append_right _ (h))) gX7_readExactly_all
set_option maxRecDepth 20000 in
theorem gX1_build_X7_readExactly : GoodIn wsX1_build (wsV RX1 183 RX7 yX7_readExactly wsX7_readExactly) := goodIn_app (goodIn_r _ [17, 18, 19, 20] rfl (by decide +kernel)) ggX1_build_X7_readExactly
set_option maxRecDepth 100000 in
theorem dA348_cX1_build : kDec cX1_build [(40, .getfield 85, 3), (43, .goto 7, 3), (25, .iconst 0, 1), (26, .ireturn, 1)] = true := by decide +kernel
theorem dX1_build_40 : decode cX1_build 40 = .ok (.getfield 85, 3) := kDec_at dA348_cX1_build 0 rfl
theorem dX1_build_43 : decode cX1_build 43 = .ok (.goto 7, 3) := kDec_at dA348_cX1_build 1 rfl
theorem dX1_build_25 : decode cX1_build 25 = .ok (.iconst 0, 1) := kDec_at dA348_cX1_build 2 rfl
theorem dX1_build_26 : decode cX1_build 26 = .ok (.ireturn, 1) := kDec_at dA348_cX1_build 3 rfl

end

/-! 5n.chs -/
section
theorem bld_ok {a b r ft ld l : Int32} {L4 L5 g f fd : Nat → Int32} {Bf : Int32 → Int32} {n c : Nat} {v1 v2 : Int} {f' : Nat → Int32} (hf : prg n 0 65535 f) (hB : okB Bf) (hv : byV f n v1 v2) (hw : WR (EV b Bf f v1 v2) n l g) (hx : F_rx r ft ld fd (dl a L4 L5 g l.toInt) (dx a L4 L5 g l.toInt) l.toInt) (h : VCH a b L4 L5 Bf n f v1 v2 c f') : r.toInt = 1 ∧ ld.toInt = c ∧ ∀ j, j < c → fd j = f' j := by
  obtain ⟨m, g', a1, a2, a3, a4, a5⟩ := h
  obtain ⟨q1, q2⟩ := WR_eq a1 hw
  subst q1
  have hb := WRV_b a1 hf hB hv
  have e1 := dl_congr (cd := a) (L4 := L4) (L5 := L5) q2 (fun _ _ => rfl) (fun _ _ => rfl) hb
  have e2 := dx_congr (cd := a) (L4 := L4) (L5 := L5) q2 (fun _ _ => rfl) (fun _ _ => rfl) hb
  rw [e1] at a3 a5
  rw [e2] at a5
  rcases hx with ⟨r1, r2, c', r3, r4, r5, r6⟩ | ⟨r1, r2, c', r3, r4⟩ | ⟨r1, c', r2, r3, r4, r5⟩
  · have q := rd_uniq a3 r3
    subst q
    exact ⟨by rw [r1]; rfl, r5, fun j hj => (r6 j hj).trans (a5 j hj).symm⟩
  · have q := rd_uniq a3 r3
    omega
  · exact absurd a3 (rd_stop r2 r3 r4 c)
theorem vch_lo {a b l fm lm r : Int32} {L4 L5 g f f' : Nat → Int32} {Bf : Int32 → Int32} {n : Int} {c : Nat} {v1 v2 : Int} (h : F_lo r l fm lm g b Bf f n) (hv : VCH a b L4 L5 Bf n.toNat f v1 v2 c f') : r.toInt = -1 := by
  rcases h with h | ⟨i, _, h1, h2, _⟩
  · exact h.1
  · obtain ⟨m, g', a1, _⟩ := hv
    have q := (a1.2 i (by omega)).1
    by_cases w : f i = 65533
    · rw [EV_m w] at h2
      exact absurd h2 (List.cons_ne_nil _ _)
    · rw [EV_n w] at q h2
      exact absurd h2 q

set_option maxHeartbeats 40000000 in
set_option maxRecDepth 100000 in
theorem f_X1_build (l : Launch) (dC : Nat → ClassId) (dI : Nat → Nat → Nat) (cI cS : ClassId) (sz : Nat) (oW : Nat) (nx : Nat) (oP : Nat) (nd : Nat) (oC : Nat) (oK : Nat) (nw : Nat) (w1 : Nat) (w2 : Nat) (w3 : Nat) (o7 : Nat) (o8 : Nat) (o9 : Nat) (w4 : Nat) (w5 : Nat) (w6 : Nat) (w7 : Nat) (aw : Nat) (ax : Nat) (nB : Nat) (ad : Nat) (o4 : Nat) (o5 : Nat) (a41 : Nat) (a42 : Nat) (a43 : Nat) (a51 : Nat) (a52 : Nat) (a53 : Nat) (ke : Int32) (tl : Int32) (fsh : Int32) (wi : Int32) (ri : Int32) (fm : Int32) (lm : Int32) (fW4 : Nat → Int32) (fW5 : Nat → Int32) (lw : Int32) (fw : Nat → Int32) (lx : Int32) (fx : Nat → Int32) (ft : Int32) (ld : Int32) (fd : Nat → Int32) (l4 : Int32) (f41 : Nat → Int32) (f42 : Nat → Int32) (f43 : Nat → Int32) (l5 : Int32) (f51 : Nat → Int32) (f52 : Nat → Int32) (f53 : Nat → Int32) (i : Int32) (g_ke : 0 ≤ ke.toInt ∧ ke.toInt ≤ 200) (g_fsh : 0 ≤ fsh.toInt ∧ fsh.toInt ≤ 1) (g_fm : -1 ≤ fm.toInt ∧ fm.toInt ≤ 800) (g_lm : -1 ≤ lm.toInt ∧ lm.toInt ≤ 800) (g_lw : 0 ≤ lw.toInt ∧ lw.toInt ≤ 800) (g_lx : 0 ≤ lx.toInt ∧ lx.toInt ≤ 300) (g_ld : 0 ≤ ld.toInt ∧ ld.toInt ≤ 300) (g_i : 0 ≤ i.toInt ∧ i.toInt ≤ 199) (hik : i.toInt < ke.toInt) (hl100 : lx.toInt ≤ 100) (hlt : prg lx.toInt 0 65535 fx) (hmk : mkB fx lx.toInt.toNat = 1 ∨ mkB fx lx.toInt.toNat = 2) (hby9 : byV fx lx.toInt.toNat (fW4 i.toNatClampNeg).toInt (fW5 i.toNatClampNeg).toInt) (hT4 : HT 512 511 hsT f42 f43) (ho4 : (occ f43 512 : Int) ≤ 511) (hT5 : HT 512 511 hsT f52 f53) (ho5 : (occ f53 512 : Int) ≤ 511) (hL4 : prg 256 (-1) 65535 f41) (hL5 : prg 256 (-1) 65535 f51) (hBr : ∀ cd : Int32, okB (Bc cd f42 f43 f52 f53)) : kMi l yX1_build wsX1_build ({ frames := 4, cells := 0, slots := 0, locals := 100 } : Room) [.ref oW, .int i, .ref nx, .ref oP, .ref nd] sz (dC, dI) vwCl [(cI, .int), (cS, .short)] [(oW, .inr (1, [.ref oC, .ref oK, .ref nw, .ref w1, .ref w2, .ref w3, .ref o7, .ref o8, .ref o9, .ref w4, .ref w5, .ref w6, .ref w7, .int ke, .int tl, .int fsh, .int wi, .int ri, .int fm, .int lm])), (w4, .inl (cI, 200, .inl fW4)), (w5, .inl (cI, 200, .inl fW5)), (nw, .inr (5, [.ref aw, .int lw])), (aw, .inl (cI, 800, .inl fw)), (nx, .inr (5, [.ref ax, .int lx])), (ax, .inl (cI, 300, .inl fx)), (oP, .inr (7, [.ref oC, .ref nB, .int ft])), (nd, .inr (5, [.ref ad, .int ld])), (ad, .inl (cI, 300, .inl fd)), (oC, .inr (2, [.ref o4, .ref o5])), (o4, .inr (10, [.ref a41, .ref a42, .ref a43, .int l4])), (a41, .inl (cI, 256, .inl f41)), (a42, .inl (cI, 512, .inl f42)), (a43, .inl (cI, 512, .inl f43)), (o5, .inr (10, [.ref a51, .ref a52, .ref a53, .int l5])), (a51, .inl (cI, 256, .inl f51)), (a52, .inl (cI, 512, .inl f52)), (a53, .inl (cI, 512, .inl f53))] (va_Nw (.methodLinkNest RX2 52 yX11_isLetter "TextMender")) 0 0 (fun (A : Nat → Prop) (r : Int32) (hh9 : Heap) => ∀ PZ9 : Prop, (∀ (lw' : Int32) (fw' : Nat → Int32) (fm' : Int32) (lm' : Int32) (ft' : Int32) (ld' : Int32) (fd' : Nat → Int32), kPD (dC, dI) vwCl A [(oW, .inr (1, [.ref oC, .ref oK, .ref nw, .ref w1, .ref w2, .ref w3, .ref o7, .ref o8, .ref o9, .ref w4, .ref w5, .ref w6, .ref w7, .int ke, .int tl, .int fsh, .int wi, .int ri, .int fm', .int lm'])), (w4, .inl (cI, 200, .inl fW4)), (w5, .inl (cI, 200, .inl fW5)), (nw, .inr (5, [.ref aw, .int lw'])), (aw, .inl (cI, 800, .inl fw')), (nx, .inr (5, [.ref ax, .int lx])), (ax, .inl (cI, 300, .inl fx)), (oP, .inr (7, [.ref oC, .ref nB, .int ft'])), (nd, .inr (5, [.ref ad, .int ld'])), (ad, .inl (cI, 300, .inl fd')), (oC, .inr (2, [.ref o4, .ref o5])), (o4, .inr (10, [.ref a41, .ref a42, .ref a43, .int l4])), (a41, .inl (cI, 256, .inl f41)), (a42, .inl (cI, 512, .inl f42)), (a43, .inl (cI, 512, .inl f43)), (o5, .inr (10, [.ref a51, .ref a52, .ref a53, .int l5])), (a51, .inl (cI, 256, .inl f51)), (a52, .inl (cI, 512, .inl f52)), (a53, .inl (cI, 512, .inl f53))] hh9 → (0 ≤ lw'.toInt ∧ lw'.toInt ≤ 800) → (-1 ≤ fm'.toInt ∧ fm'.toInt ≤ 800) → (-1 ≤ lm'.toInt ∧ lm'.toInt ≤ 800) → (0 ≤ ld'.toInt ∧ ld'.toInt ≤ 300) → (0 ≤ r.toInt ∧ r.toInt ≤ 1) → (∀ (c : Nat) (f' : Nat → Int32), VCH wi ri f41 f51 (Bc ri f42 f43 f52 f53) lx.toInt.toNat fx (fW4 i.toNatClampNeg).toInt (fW5 i.toNatClampNeg).toInt c f' → r.toInt = 1 ∧ ld'.toInt = c ∧ ∀ j, j < c → fd' j = f' j) → PZ9) → PZ9) := by
  refine kMi_of (cc := cX1_build) (maxL := 5) (ret := (some .boolean)) (lv := [(0, .ref oW), (1, .int i), (2, .ref nx), (3, .ref oP), (4, .ref nd)]) (by decide +kernel) rfl rfl (Nat.le_of_ble_eq_true rfl) ?_
  intro p e s m below meth c A QQ ls hx hb hr hts hml hown hlocks hA hQQ hK hX hP hD hS hl
  have hown : s.vm.findClass RX1 = some m.cls := hown
  have hcf := k_cf hx hb hml hown hts
  have hN52 := hX
  have in_X1 : ∀ w ∈ wsX10, w ∈ wsX1_build := fun _ h => List.mem_cons_of_mem _ (List.mem_append_left _ (List.mem_append_left _ (List.mem_append_left _ (List.mem_append_left _ (List.mem_append_left _ (List.mem_append_left _ (List.mem_append_left _ (List.mem_append_right _ (h)))))))))
  replace g_fsh := hid g_fsh
  replace g_fm := hid g_fm
  replace g_lm := hid g_lm
  replace g_lw := hid g_lw
  have z0 : (0 : Int32).toInt = 0 := rfl
  have z1 : (1 : Int32).toInt = 1 := rfl
  have zm1 : (-1 : Int32).toInt = -1 := rfl
  have hf9 : prg ((lx.toInt.toNat : Nat) : Int) 0 65535 fx := fun j hj => hlt j (by omega)
  refine lv_iload_n hx hb dX1_build_0 rfl (lv_at hl 1 rfl) ?_
  refine lv_if_lt (tgt := 25) hx hb dX1_build_1 (by decide) (fun c_1 => by exfalso; have tc_1 : i.toInt < 0 := v_lt c_1; omega) (fun c_1 => ?_)
  have tc_1 : 0 ≤ i.toInt := v_nlt c_1
  refine lv_iload_n hx hb dX1_build_4 rfl (lv_at hl 1 rfl) ?_
  refine lv_aload_n hx hb dX1_build_5 rfl (lv_at hl 0 rfl) ?_
  refine va_get (D := (dC, dI)) (ci := 1) (v := .int ke) (C := RX1) (T := TX1) (N := 20) hx hb hts in_X1 hown hK hP 0 rfl rfl 13 (Nat.le_of_ble_eq_true rfl) (hts (.fieldLink RX1 65 "TextMender$Choices" "kept" "I") (List.mem_of_getElem? (i := 1) rfl)) (fun _ h9 => h9) rfl dX1_build_6 ?_
  refine lv_icmp_ge (tgt := 25) hx hb dX1_build_9 (by decide) (fun c_2 => by exfalso; have tc_2 : ke.toInt ≤ i.toInt := v_le c_2; omega) (fun c_2 => ?_)
  have tc_2 : i.toInt < ke.toInt := v_nle c_2
  refine lv_aload_n hx hb dX1_build_12 rfl (lv_at hl 0 rfl) ?_
  refine lv_aload_n hx hb dX1_build_13 rfl (lv_at hl 0 rfl) ?_
  refine va_get (D := (dC, dI)) (ci := 1) (v := .int ri) (C := RX1) (T := TX1) (N := 20) hx hb hts in_X1 hown hK hP 0 rfl rfl 17 (Nat.le_of_ble_eq_true rfl) (hts (.fieldLink RX1 79 "TextMender$Choices" "readIn" "I") (List.mem_of_getElem? (i := 2) rfl)) (fun _ h9 => h9) rfl dX1_build_14 ?_
  refine lv_aload_n hx hb dX1_build_17 rfl (lv_at hl 2 rfl) ?_
  refine kV_i (rest := []) (q0 := 0) (ci := 1) hcf (f_X1_layOut l dC dI cI cS s.heap.size oW nx oC oK nw w1 w2 w3 o7 o8 o9 w4 w5 w6 w7 aw o4 o5 a41 a42 a43 a51 a52 a53 ax ke tl fsh wi ri fm lm lw fw l4 f42 f43 l5 f52 f53 lx fx ri (g_ke) (g_fsh) (g_fm) (g_lm) (g_lw) (g_lx) (by omega) (hlt) (hT4) (ho4) (hT5) (ho5)) kc_X1_layOut gX1_build_X1_layOut rfl rfl rfl ⟨Nat.le_of_ble_eq_true rfl, Nat.le_of_ble_eq_true rfl⟩ kX_t hK hP hD hS hA ([0, 1, 2, 5, 6, 7, 8, 9, 10, 11, 3, 4].filterMap (fun j => (posT mk_93 0)[j]?)) (posF mk_93 0) (kCp (ws := [(oW, .inr (1, [.ref oC, .ref oK, .ref nw, .ref w1, .ref w2, .ref w3, .ref o7, .ref o8, .ref o9, .ref w4, .ref w5, .ref w6, .ref w7, .int ke, .int tl, .int fsh, .int wi, .int ri, .int fm, .int lm])), (nw, .inr (5, [.ref aw, .int lw])), (aw, .inl (cI, 800, .inl fw)), (nx, .inr (5, [.ref ax, .int lx])), (ax, .inl (cI, 300, .inl fx)), (oC, .inr (2, [.ref o4, .ref o5])), (o4, .inr (10, [.ref a41, .ref a42, .ref a43, .int l4])), (a42, .inl (cI, 512, .inl f42)), (a43, .inl (cI, 512, .inl f43)), (o5, .inr (10, [.ref a51, .ref a52, .ref a53, .int l5])), (a52, .inl (cI, 512, .inl f52)), (a53, .inl (cI, 512, .inl f53))]) (kC_of mk_93 rfl rfl) rfl) (by decide +kernel) rfl rfl rfl hl rfl (Nat.le_of_ble_eq_true rfl) dX1_build_18 ⟨Nat.le_of_ble_eq_true rfl, Nat.le_of_ble_eq_true rfl⟩ (fun r_3 H locs hB hJ hSn => ?_)
  refine hB _ (fun lw_3 fw_3 fm_3 lm_3 hPD9 hf3_0 hf3_1 hf3_2 hf3_3 hf3_4 => ?_)
  clear hB
  obtain ⟨hPn, hDn⟩ := kJm (m := mk_93) hJ rfl hPD9.1 hPD9.2 [0, 1, 2, 10, 11, 3, 4, 5, 6, 7, 8, 9] (by decide +kernel) (ws := [(oW, .inr (1, [.ref oC, .ref oK, .ref nw, .ref w1, .ref w2, .ref w3, .ref o7, .ref o8, .ref o9, .ref w4, .ref w5, .ref w6, .ref w7, .int ke, .int tl, .int fsh, .int wi, .int ri, .int fm_3, .int lm_3])), (nw, .inr (5, [.ref aw, .int lw_3])), (aw, .inl (cI, 800, .inl fw_3)), (nx, .inr (5, [.ref ax, .int lx])), (ax, .inl (cI, 300, .inl fx)), (oC, .inr (2, [.ref o4, .ref o5])), (o4, .inr (10, [.ref a41, .ref a42, .ref a43, .int l4])), (a42, .inl (cI, 512, .inl f42)), (a43, .inl (cI, 512, .inl f43)), (o5, .inr (10, [.ref a51, .ref a52, .ref a53, .int l5])), (a52, .inl (cI, 512, .inl f52)), (a53, .inl (cI, 512, .inl f53))]) rfl (wn := [(oW, .inr (1, [.ref oC, .ref oK, .ref nw, .ref w1, .ref w2, .ref w3, .ref o7, .ref o8, .ref o9, .ref w4, .ref w5, .ref w6, .ref w7, .int ke, .int tl, .int fsh, .int wi, .int ri, .int fm_3, .int lm_3])), (w4, .inl (cI, 200, .inl fW4)), (w5, .inl (cI, 200, .inl fW5)), (nw, .inr (5, [.ref aw, .int lw_3])), (aw, .inl (cI, 800, .inl fw_3)), (nx, .inr (5, [.ref ax, .int lx])), (ax, .inl (cI, 300, .inl fx)), (oP, .inr (7, [.ref oC, .ref nB, .int ft])), (nd, .inr (5, [.ref ad, .int ld])), (ad, .inl (cI, 300, .inl fd)), (oC, .inr (2, [.ref o4, .ref o5])), (o4, .inr (10, [.ref a41, .ref a42, .ref a43, .int l4])), (a41, .inl (cI, 256, .inl f41)), (a42, .inl (cI, 512, .inl f42)), (a43, .inl (cI, 512, .inl f43)), (o5, .inr (10, [.ref a51, .ref a52, .ref a53, .int l5])), (a51, .inl (cI, 256, .inl f51)), (a52, .inl (cI, 512, .inl f52)), (a53, .inl (cI, 512, .inl f53))]) rfl
  clear hP hD hS hJ hPD9
  have hP := hPn
  have hD := hDn
  have hS := hSn
  clear hPn hDn hSn
  refine lv_iconst (v := (-1)) hx hb dX1_build_21 (by decide) ?_
  refine lv_icmp_eq (tgt := 27) hx hb dX1_build_22 (by decide) (fun c_4 => ?_) (fun c_4 => ?_)
  · have tc_4 : r_3.toInt = (-1) := v_eq c_4
    have hlo9 := lo_y hf3_4 (by omega)
    refine lv_aload_n hx hb dX1_build_27 rfl (lv_at hl 0 rfl) ?_
    refine va_get (D := (dC, dI)) (ci := 1) (v := .ref nw) (C := RX1) (T := TX1) (N := 20) hx hb hts in_X1 hown hK hP 0 rfl rfl 2 (Nat.le_of_ble_eq_true rfl) (hts (.fieldLink RX1 16 "TextMender$Choices" "bytes" "LTextMender$Numbers;") (List.mem_of_getElem? (i := 3) rfl)) (fun _ h9 => h9) rfl dX1_build_28 ?_
    refine lv_aload_n hx hb dX1_build_31 rfl (lv_at hl 0 rfl) ?_
    refine va_get (D := (dC, dI)) (ci := 1) (v := .int fm_3) (C := RX1) (T := TX1) (N := 20) hx hb hts in_X1 hown hK hP 0 rfl rfl 18 (Nat.le_of_ble_eq_true rfl) (hts (.fieldLink RX1 82 "TextMender$Choices" "firstMark" "I") (List.mem_of_getElem? (i := 4) rfl)) (fun _ h9 => h9) rfl dX1_build_32 ?_
    refine lv_iconst (v := (-1)) hx hb dX1_build_35 (by decide) ?_
    refine lv_icmp_ne (tgt := 46) hx hb dX1_build_36 (by decide) (fun c_5 => ?_) (fun c_5 => ?_)
    · have tc_5 : ¬ fm_3.toInt = (-1) := v_ne c_5
      refine lv_aload_n hx hb dX1_build_46 rfl (lv_at hl 0 rfl) ?_
      refine va_get (D := (dC, dI)) (ci := 1) (v := .int fm_3) (C := RX1) (T := TX1) (N := 20) hx hb hts in_X1 hown hK hP 0 rfl rfl 18 (Nat.le_of_ble_eq_true rfl) (hts (.fieldLink RX1 82 "TextMender$Choices" "firstMark" "I") (List.mem_of_getElem? (i := 4) rfl)) (fun _ h9 => h9) rfl dX1_build_47 ?_
      refine lv_aload_n hx hb dX1_build_50 rfl (lv_at hl 0 rfl) ?_
      refine va_get (D := (dC, dI)) (ci := 1) (v := .ref w4) (C := RX1) (T := TX1) (N := 20) hx hb hts in_X1 hown hK hP 0 rfl rfl 9 (Nat.le_of_ble_eq_true rfl) (hts (.fieldLink RX1 30 "TextMender$Choices" "firstByte" "[I") (List.mem_of_getElem? (i := 6) rfl)) (fun _ h9 => h9) rfl dX1_build_51 ?_
      refine lv_iload_n hx hb dX1_build_54 rfl (lv_at hl 1 rfl) ?_
      refine va_iald hx hb hK hP 1 0 rfl rfl (v_inR g_i (by decide) (by decide)) dX1_build_55 ?_
      refine lv_topi (fun x_6 ex_6 => ?_)
      refine kV_v (rest := []) (q0 := 0) (ci := 5) hcf (f_X5_set l dC dI cI cS H.size nw aw 800 lw_3 fw_3 fm_3 x_6 (by omega) (by omega)) kc_X5_set gX1_build_X5_set rfl rfl rfl ⟨Nat.le_of_ble_eq_true rfl, Nat.le_of_ble_eq_true rfl⟩ kX_t hK hP hD hS hA (posT mk_94 0) (posF mk_94 0) (kC_of mk_94 rfl rfl) (by decide +kernel) rfl rfl rfl hl rfl (Nat.le_of_ble_eq_true rfl) dX1_build_56 ⟨Nat.le_of_ble_eq_true rfl, Nat.le_of_ble_eq_true rfl⟩ (fun H locs hB hJ hSn => ?_)
      refine hB _ (fun fu_7 hPD9 hf7_0 => ?_)
      clear hB
      obtain ⟨hPn, hDn⟩ := kJi (m := mk_94) hJ rfl hPD9.1 hPD9.2 (wn := [(oW, .inr (1, [.ref oC, .ref oK, .ref nw, .ref w1, .ref w2, .ref w3, .ref o7, .ref o8, .ref o9, .ref w4, .ref w5, .ref w6, .ref w7, .int ke, .int tl, .int fsh, .int wi, .int ri, .int fm_3, .int lm_3])), (w4, .inl (cI, 200, .inl fW4)), (w5, .inl (cI, 200, .inl fW5)), (nw, .inr (5, [.ref aw, .int lw_3])), (aw, .inl (cI, 800, .inl fu_7)), (nx, .inr (5, [.ref ax, .int lx])), (ax, .inl (cI, 300, .inl fx)), (oP, .inr (7, [.ref oC, .ref nB, .int ft])), (nd, .inr (5, [.ref ad, .int ld])), (ad, .inl (cI, 300, .inl fd)), (oC, .inr (2, [.ref o4, .ref o5])), (o4, .inr (10, [.ref a41, .ref a42, .ref a43, .int l4])), (a41, .inl (cI, 256, .inl f41)), (a42, .inl (cI, 512, .inl f42)), (a43, .inl (cI, 512, .inl f43)), (o5, .inr (10, [.ref a51, .ref a52, .ref a53, .int l5])), (a51, .inl (cI, 256, .inl f51)), (a52, .inl (cI, 512, .inl f52)), (a53, .inl (cI, 512, .inl f53))]) rfl
      clear hP hD hS hJ hPD9
      have hP := hPn
      have hD := hDn
      have hS := hSn
      clear hPn hDn hSn
      refine lv_aload_n hx hb dX1_build_59 rfl (lv_at hl 0 rfl) ?_
      refine va_get (D := (dC, dI)) (ci := 1) (v := .int fm_3) (C := RX1) (T := TX1) (N := 20) hx hb hts in_X1 hown hK hP 0 rfl rfl 18 (Nat.le_of_ble_eq_true rfl) (hts (.fieldLink RX1 82 "TextMender$Choices" "firstMark" "I") (List.mem_of_getElem? (i := 4) rfl)) (fun _ h9 => h9) rfl dX1_build_60 ?_
      refine lv_iconst (v := (-1)) hx hb dX1_build_63 (by decide) ?_
      refine lv_icmp_eq (tgt := 84) hx hb dX1_build_64 (by decide) (fun c_8 => by exfalso; have tc_8 : fm_3.toInt = (-1) := v_eq c_8; omega) (fun c_8 => ?_)
      have tc_8 : ¬ fm_3.toInt = (-1) := v_ne c_8
      refine lv_aload_n hx hb dX1_build_67 rfl (lv_at hl 0 rfl) ?_
      refine va_get (D := (dC, dI)) (ci := 1) (v := .ref nw) (C := RX1) (T := TX1) (N := 20) hx hb hts in_X1 hown hK hP 0 rfl rfl 2 (Nat.le_of_ble_eq_true rfl) (hts (.fieldLink RX1 16 "TextMender$Choices" "bytes" "LTextMender$Numbers;") (List.mem_of_getElem? (i := 3) rfl)) (fun _ h9 => h9) rfl dX1_build_68 ?_
      refine lv_aload_n hx hb dX1_build_71 rfl (lv_at hl 0 rfl) ?_
      refine va_get (D := (dC, dI)) (ci := 1) (v := .int lm_3) (C := RX1) (T := TX1) (N := 20) hx hb hts in_X1 hown hK hP 0 rfl rfl 19 (Nat.le_of_ble_eq_true rfl) (hts (.fieldLink RX1 85 "TextMender$Choices" "lastMark" "I") (List.mem_of_getElem? (i := 5) rfl)) (fun _ h9 => h9) rfl dX1_build_72 ?_
      refine lv_aload_n hx hb dX1_build_75 rfl (lv_at hl 0 rfl) ?_
      refine va_get (D := (dC, dI)) (ci := 1) (v := .ref w5) (C := RX1) (T := TX1) (N := 20) hx hb hts in_X1 hown hK hP 0 rfl rfl 10 (Nat.le_of_ble_eq_true rfl) (hts (.fieldLink RX1 33 "TextMender$Choices" "secondByte" "[I") (List.mem_of_getElem? (i := 7) rfl)) (fun _ h9 => h9) rfl dX1_build_76 ?_
      refine lv_iload_n hx hb dX1_build_79 rfl (lv_at hl 1 rfl) ?_
      refine va_iald hx hb hK hP 2 0 rfl rfl (v_inR g_i (by decide) (by decide)) dX1_build_80 ?_
      refine lv_topi (fun x_9 ex_9 => ?_)
      refine kV_v (rest := []) (q0 := 0) (ci := 5) hcf (f_X5_set l dC dI cI cS H.size nw aw 800 lw_3 fu_7 lm_3 x_9 (by omega) (by omega)) kc_X5_set gX1_build_X5_set rfl rfl rfl ⟨Nat.le_of_ble_eq_true rfl, Nat.le_of_ble_eq_true rfl⟩ kX_t hK hP hD hS hA (posT mk_94 0) (posF mk_94 0) (kC_of mk_94 rfl rfl) (by decide +kernel) rfl rfl rfl hl rfl (Nat.le_of_ble_eq_true rfl) dX1_build_81 ⟨Nat.le_of_ble_eq_true rfl, Nat.le_of_ble_eq_true rfl⟩ (fun H locs hB hJ hSn => ?_)
      refine hB _ (fun fu_10 hPD9 hf10_0 => ?_)
      clear hB
      obtain ⟨hPn, hDn⟩ := kJi (m := mk_94) hJ rfl hPD9.1 hPD9.2 (wn := [(oW, .inr (1, [.ref oC, .ref oK, .ref nw, .ref w1, .ref w2, .ref w3, .ref o7, .ref o8, .ref o9, .ref w4, .ref w5, .ref w6, .ref w7, .int ke, .int tl, .int fsh, .int wi, .int ri, .int fm_3, .int lm_3])), (w4, .inl (cI, 200, .inl fW4)), (w5, .inl (cI, 200, .inl fW5)), (nw, .inr (5, [.ref aw, .int lw_3])), (aw, .inl (cI, 800, .inl fu_10)), (nx, .inr (5, [.ref ax, .int lx])), (ax, .inl (cI, 300, .inl fx)), (oP, .inr (7, [.ref oC, .ref nB, .int ft])), (nd, .inr (5, [.ref ad, .int ld])), (ad, .inl (cI, 300, .inl fd)), (oC, .inr (2, [.ref o4, .ref o5])), (o4, .inr (10, [.ref a41, .ref a42, .ref a43, .int l4])), (a41, .inl (cI, 256, .inl f41)), (a42, .inl (cI, 512, .inl f42)), (a43, .inl (cI, 512, .inl f43)), (o5, .inr (10, [.ref a51, .ref a52, .ref a53, .int l5])), (a51, .inl (cI, 256, .inl f51)), (a52, .inl (cI, 512, .inl f52)), (a53, .inl (cI, 512, .inl f53))]) rfl
      clear hP hD hS hJ hPD9
      have hP := hPn
      have hD := hDn
      have hS := hSn
      clear hPn hDn hSn
      have hmk8 : mkB fx lx.toInt.toNat = 2 := hmk.resolve_left (fun z9 => by have q9 := (lo1 (v := 0) hlo9 z9 0).1; omega)
      obtain ⟨hp1, hp2, hp3, hwr8, -⟩ := lo2 (o := x_6) (v := x_9) hlo9 hmk8
      have hwr9 : WR (EV ri (Bc ri f42 f43 f52 f53) fx (fW4 i.toNatClampNeg).toInt (fW5 i.toNatClampNeg).toInt) lx.toInt.toNat lw_3 fu_10 := by rw [F_set_f hf10_0 (by omega) (by omega), F_set_f hf7_0 (by omega) (by omega), ← ex_6, ← ex_9]; exact hwr8
      have hbb9 := WRV_b hwr9 hf9 (hBr _) hby9
      refine lv_aload_n hx hb dX1_build_84 rfl (lv_at hl 3 rfl) ?_
      refine lv_aload_n hx hb dX1_build_85 rfl (lv_at hl 0 rfl) ?_
      refine va_get (D := (dC, dI)) (ci := 1) (v := .int wi) (C := RX1) (T := TX1) (N := 20) hx hb hts in_X1 hown hK hP 0 rfl rfl 16 (Nat.le_of_ble_eq_true rfl) (hts (.fieldLink RX1 76 "TextMender$Choices" "writtenIn" "I") (List.mem_of_getElem? (i := 8) rfl)) (fun _ h9 => h9) rfl dX1_build_86 ?_
      refine lv_aload_n hx hb dX1_build_89 rfl (lv_at hl 0 rfl) ?_
      refine va_get (D := (dC, dI)) (ci := 1) (v := .ref nw) (C := RX1) (T := TX1) (N := 20) hx hb hts in_X1 hown hK hP 0 rfl rfl 2 (Nat.le_of_ble_eq_true rfl) (hts (.fieldLink RX1 16 "TextMender$Choices" "bytes" "LTextMender$Numbers;") (List.mem_of_getElem? (i := 3) rfl)) (fun _ h9 => h9) rfl dX1_build_90 ?_
      refine lv_aload hx hb dX1_build_93 (lv_at hl 4 rfl) ?_
      refine kV_i (rest := []) (q0 := 0) (ci := 7) hcf (f_X7_readExactly l dC dI cI cS H.size oP nw nd oC nB aw ad o4 o5 a41 a42 a43 a51 a52 a53 800 ft lw_3 fu_10 ld fd l4 f41 l5 f51 wi (by omega) (g_ld) (by omega) (hbb9) (hL4) (hL5)) kc_X7_readExactly gX1_build_X7_readExactly rfl rfl rfl ⟨Nat.le_of_ble_eq_true rfl, Nat.le_of_ble_eq_true rfl⟩ (kX_1 hN52) hK hP hD hS hA ([2, 0, 1, 3, 4, 5, 6, 7, 8, 9].filterMap (fun j => (posT mk_95 0)[j]?)) (posF mk_95 0) (kCp (ws := [(nw, .inr (5, [.ref aw, .int lw_3])), (aw, .inl (cI, 800, .inl fu_10)), (oP, .inr (7, [.ref oC, .ref nB, .int ft])), (nd, .inr (5, [.ref ad, .int ld])), (ad, .inl (cI, 300, .inl fd)), (oC, .inr (2, [.ref o4, .ref o5])), (o4, .inr (10, [.ref a41, .ref a42, .ref a43, .int l4])), (a41, .inl (cI, 256, .inl f41)), (o5, .inr (10, [.ref a51, .ref a52, .ref a53, .int l5])), (a51, .inl (cI, 256, .inl f51))]) (kC_of mk_95 rfl rfl) rfl) (by decide +kernel) rfl rfl rfl hl rfl (Nat.le_of_ble_eq_true rfl) dX1_build_95 ⟨Nat.le_of_ble_eq_true rfl, Nat.le_of_ble_eq_true rfl⟩ (fun r_11 H locs hB hJ hSn => ?_)
      refine hB _ (fun ft_11 ld_11 fd_11 hPD9 hf11_0 hf11_1 hf11_2 => ?_)
      clear hB
      obtain ⟨hPn, hDn⟩ := kJm (m := mk_95) hJ rfl hPD9.1 hPD9.2 [1, 2, 0, 3, 4, 5, 6, 7, 8, 9] (by decide +kernel) (ws := [(nw, .inr (5, [.ref aw, .int lw_3])), (aw, .inl (cI, 800, .inl fu_10)), (oP, .inr (7, [.ref oC, .ref nB, .int ft_11])), (nd, .inr (5, [.ref ad, .int ld_11])), (ad, .inl (cI, 300, .inl fd_11)), (oC, .inr (2, [.ref o4, .ref o5])), (o4, .inr (10, [.ref a41, .ref a42, .ref a43, .int l4])), (a41, .inl (cI, 256, .inl f41)), (o5, .inr (10, [.ref a51, .ref a52, .ref a53, .int l5])), (a51, .inl (cI, 256, .inl f51))]) rfl (wn := [(oW, .inr (1, [.ref oC, .ref oK, .ref nw, .ref w1, .ref w2, .ref w3, .ref o7, .ref o8, .ref o9, .ref w4, .ref w5, .ref w6, .ref w7, .int ke, .int tl, .int fsh, .int wi, .int ri, .int fm_3, .int lm_3])), (w4, .inl (cI, 200, .inl fW4)), (w5, .inl (cI, 200, .inl fW5)), (nw, .inr (5, [.ref aw, .int lw_3])), (aw, .inl (cI, 800, .inl fu_10)), (nx, .inr (5, [.ref ax, .int lx])), (ax, .inl (cI, 300, .inl fx)), (oP, .inr (7, [.ref oC, .ref nB, .int ft_11])), (nd, .inr (5, [.ref ad, .int ld_11])), (ad, .inl (cI, 300, .inl fd_11)), (oC, .inr (2, [.ref o4, .ref o5])), (o4, .inr (10, [.ref a41, .ref a42, .ref a43, .int l4])), (a41, .inl (cI, 256, .inl f41)), (a42, .inl (cI, 512, .inl f42)), (a43, .inl (cI, 512, .inl f43)), (o5, .inr (10, [.ref a51, .ref a52, .ref a53, .int l5])), (a51, .inl (cI, 256, .inl f51)), (a52, .inl (cI, 512, .inl f52)), (a53, .inl (cI, 512, .inl f53))]) rfl
      clear hP hD hS hJ hPD9
      have hP := hPn
      have hD := hDn
      have hS := hSn
      clear hPn hDn hSn
      exact kl_z (v := r_11) hQQ hx hb hr hlocks hS dX1_build_98 (v_bool (by omega)) (fun PZ9 kZ9 => kZ9 lw_3 fu_10 fm_3 lm_3 ft_11 ld_11 fd_11 (⟨hP, hD⟩) (hf3_0) (hf3_1) (hf3_2) (hf11_0) (hf11_1) (fun c f' h9 => bld_ok hf9 (hBr _) hby9 hwr9 hf11_2 h9))
    · have tc_5 : fm_3.toInt = (-1) := v_eq c_5
      refine lv_aload_n hx hb dX1_build_39 rfl (lv_at hl 0 rfl) ?_
      refine va_get (D := (dC, dI)) (ci := 1) (v := .int lm_3) (C := RX1) (T := TX1) (N := 20) hx hb hts in_X1 hown hK hP 0 rfl rfl 19 (Nat.le_of_ble_eq_true rfl) (hts (.fieldLink RX1 85 "TextMender$Choices" "lastMark" "I") (List.mem_of_getElem? (i := 5) rfl)) (fun _ h9 => h9) rfl dX1_build_40 ?_
      refine lv_goto (tgt := 50) hx hb dX1_build_43 (by decide) ?_
      refine lv_aload_n hx hb dX1_build_50 rfl (lv_at hl 0 rfl) ?_
      refine va_get (D := (dC, dI)) (ci := 1) (v := .ref w4) (C := RX1) (T := TX1) (N := 20) hx hb hts in_X1 hown hK hP 0 rfl rfl 9 (Nat.le_of_ble_eq_true rfl) (hts (.fieldLink RX1 30 "TextMender$Choices" "firstByte" "[I") (List.mem_of_getElem? (i := 6) rfl)) (fun _ h9 => h9) rfl dX1_build_51 ?_
      refine lv_iload_n hx hb dX1_build_54 rfl (lv_at hl 1 rfl) ?_
      refine va_iald hx hb hK hP 1 0 rfl rfl (v_inR g_i (by decide) (by decide)) dX1_build_55 ?_
      refine lv_topi (fun x_12 ex_12 => ?_)
      refine kV_v (rest := []) (q0 := 0) (ci := 5) hcf (f_X5_set l dC dI cI cS H.size nw aw 800 lw_3 fw_3 lm_3 x_12 (by omega) (by omega)) kc_X5_set gX1_build_X5_set rfl rfl rfl ⟨Nat.le_of_ble_eq_true rfl, Nat.le_of_ble_eq_true rfl⟩ kX_t hK hP hD hS hA (posT mk_94 0) (posF mk_94 0) (kC_of mk_94 rfl rfl) (by decide +kernel) rfl rfl rfl hl rfl (Nat.le_of_ble_eq_true rfl) dX1_build_56 ⟨Nat.le_of_ble_eq_true rfl, Nat.le_of_ble_eq_true rfl⟩ (fun H locs hB hJ hSn => ?_)
      refine hB _ (fun fu_13 hPD9 hf13_0 => ?_)
      clear hB
      obtain ⟨hPn, hDn⟩ := kJi (m := mk_94) hJ rfl hPD9.1 hPD9.2 (wn := [(oW, .inr (1, [.ref oC, .ref oK, .ref nw, .ref w1, .ref w2, .ref w3, .ref o7, .ref o8, .ref o9, .ref w4, .ref w5, .ref w6, .ref w7, .int ke, .int tl, .int fsh, .int wi, .int ri, .int fm_3, .int lm_3])), (w4, .inl (cI, 200, .inl fW4)), (w5, .inl (cI, 200, .inl fW5)), (nw, .inr (5, [.ref aw, .int lw_3])), (aw, .inl (cI, 800, .inl fu_13)), (nx, .inr (5, [.ref ax, .int lx])), (ax, .inl (cI, 300, .inl fx)), (oP, .inr (7, [.ref oC, .ref nB, .int ft])), (nd, .inr (5, [.ref ad, .int ld])), (ad, .inl (cI, 300, .inl fd)), (oC, .inr (2, [.ref o4, .ref o5])), (o4, .inr (10, [.ref a41, .ref a42, .ref a43, .int l4])), (a41, .inl (cI, 256, .inl f41)), (a42, .inl (cI, 512, .inl f42)), (a43, .inl (cI, 512, .inl f43)), (o5, .inr (10, [.ref a51, .ref a52, .ref a53, .int l5])), (a51, .inl (cI, 256, .inl f51)), (a52, .inl (cI, 512, .inl f52)), (a53, .inl (cI, 512, .inl f53))]) rfl
      clear hP hD hS hJ hPD9
      have hP := hPn
      have hD := hDn
      have hS := hSn
      clear hPn hDn hSn
      refine lv_aload_n hx hb dX1_build_59 rfl (lv_at hl 0 rfl) ?_
      refine va_get (D := (dC, dI)) (ci := 1) (v := .int fm_3) (C := RX1) (T := TX1) (N := 20) hx hb hts in_X1 hown hK hP 0 rfl rfl 18 (Nat.le_of_ble_eq_true rfl) (hts (.fieldLink RX1 82 "TextMender$Choices" "firstMark" "I") (List.mem_of_getElem? (i := 4) rfl)) (fun _ h9 => h9) rfl dX1_build_60 ?_
      refine lv_iconst (v := (-1)) hx hb dX1_build_63 (by decide) ?_
      refine lv_icmp_eq (tgt := 84) hx hb dX1_build_64 (by decide) (fun c_14 => ?_) (fun c_14 => by exfalso; have tc_14 : ¬ fm_3.toInt = (-1) := v_ne c_14; omega)
      have tc_14 : fm_3.toInt = (-1) := v_eq c_14
      have hmk8 : mkB fx lx.toInt.toNat = 1 := hmk.resolve_right (fun z9 => by have q9 := (lo2 (o := 0) (v := 0) hlo9 z9).1; omega)
      obtain ⟨hp1, hp2, hp3, hwr8, -⟩ := lo1 (v := x_12) hlo9 hmk8 (fW5 i.toNatClampNeg).toInt
      have hwr9 : WR (EV ri (Bc ri f42 f43 f52 f53) fx (fW4 i.toNatClampNeg).toInt (fW5 i.toNatClampNeg).toInt) lx.toInt.toNat lw_3 fu_13 := by rw [F_set_f hf13_0 (by omega) (by omega), ← ex_12]; exact hwr8
      have hbb9 := WRV_b hwr9 hf9 (hBr _) hby9
      refine lv_aload_n hx hb dX1_build_84 rfl (lv_at hl 3 rfl) ?_
      refine lv_aload_n hx hb dX1_build_85 rfl (lv_at hl 0 rfl) ?_
      refine va_get (D := (dC, dI)) (ci := 1) (v := .int wi) (C := RX1) (T := TX1) (N := 20) hx hb hts in_X1 hown hK hP 0 rfl rfl 16 (Nat.le_of_ble_eq_true rfl) (hts (.fieldLink RX1 76 "TextMender$Choices" "writtenIn" "I") (List.mem_of_getElem? (i := 8) rfl)) (fun _ h9 => h9) rfl dX1_build_86 ?_
      refine lv_aload_n hx hb dX1_build_89 rfl (lv_at hl 0 rfl) ?_
      refine va_get (D := (dC, dI)) (ci := 1) (v := .ref nw) (C := RX1) (T := TX1) (N := 20) hx hb hts in_X1 hown hK hP 0 rfl rfl 2 (Nat.le_of_ble_eq_true rfl) (hts (.fieldLink RX1 16 "TextMender$Choices" "bytes" "LTextMender$Numbers;") (List.mem_of_getElem? (i := 3) rfl)) (fun _ h9 => h9) rfl dX1_build_90 ?_
      refine lv_aload hx hb dX1_build_93 (lv_at hl 4 rfl) ?_
      refine kV_i (rest := []) (q0 := 0) (ci := 7) hcf (f_X7_readExactly l dC dI cI cS H.size oP nw nd oC nB aw ad o4 o5 a41 a42 a43 a51 a52 a53 800 ft lw_3 fu_13 ld fd l4 f41 l5 f51 wi (by omega) (g_ld) (by omega) (hbb9) (hL4) (hL5)) kc_X7_readExactly gX1_build_X7_readExactly rfl rfl rfl ⟨Nat.le_of_ble_eq_true rfl, Nat.le_of_ble_eq_true rfl⟩ (kX_1 hN52) hK hP hD hS hA ([2, 0, 1, 3, 4, 5, 6, 7, 8, 9].filterMap (fun j => (posT mk_95 0)[j]?)) (posF mk_95 0) (kCp (ws := [(nw, .inr (5, [.ref aw, .int lw_3])), (aw, .inl (cI, 800, .inl fu_13)), (oP, .inr (7, [.ref oC, .ref nB, .int ft])), (nd, .inr (5, [.ref ad, .int ld])), (ad, .inl (cI, 300, .inl fd)), (oC, .inr (2, [.ref o4, .ref o5])), (o4, .inr (10, [.ref a41, .ref a42, .ref a43, .int l4])), (a41, .inl (cI, 256, .inl f41)), (o5, .inr (10, [.ref a51, .ref a52, .ref a53, .int l5])), (a51, .inl (cI, 256, .inl f51))]) (kC_of mk_95 rfl rfl) rfl) (by decide +kernel) rfl rfl rfl hl rfl (Nat.le_of_ble_eq_true rfl) dX1_build_95 ⟨Nat.le_of_ble_eq_true rfl, Nat.le_of_ble_eq_true rfl⟩ (fun r_15 H locs hB hJ hSn => ?_)
      refine hB _ (fun ft_15 ld_15 fd_15 hPD9 hf15_0 hf15_1 hf15_2 => ?_)
      clear hB
      obtain ⟨hPn, hDn⟩ := kJm (m := mk_95) hJ rfl hPD9.1 hPD9.2 [1, 2, 0, 3, 4, 5, 6, 7, 8, 9] (by decide +kernel) (ws := [(nw, .inr (5, [.ref aw, .int lw_3])), (aw, .inl (cI, 800, .inl fu_13)), (oP, .inr (7, [.ref oC, .ref nB, .int ft_15])), (nd, .inr (5, [.ref ad, .int ld_15])), (ad, .inl (cI, 300, .inl fd_15)), (oC, .inr (2, [.ref o4, .ref o5])), (o4, .inr (10, [.ref a41, .ref a42, .ref a43, .int l4])), (a41, .inl (cI, 256, .inl f41)), (o5, .inr (10, [.ref a51, .ref a52, .ref a53, .int l5])), (a51, .inl (cI, 256, .inl f51))]) rfl (wn := [(oW, .inr (1, [.ref oC, .ref oK, .ref nw, .ref w1, .ref w2, .ref w3, .ref o7, .ref o8, .ref o9, .ref w4, .ref w5, .ref w6, .ref w7, .int ke, .int tl, .int fsh, .int wi, .int ri, .int fm_3, .int lm_3])), (w4, .inl (cI, 200, .inl fW4)), (w5, .inl (cI, 200, .inl fW5)), (nw, .inr (5, [.ref aw, .int lw_3])), (aw, .inl (cI, 800, .inl fu_13)), (nx, .inr (5, [.ref ax, .int lx])), (ax, .inl (cI, 300, .inl fx)), (oP, .inr (7, [.ref oC, .ref nB, .int ft_15])), (nd, .inr (5, [.ref ad, .int ld_15])), (ad, .inl (cI, 300, .inl fd_15)), (oC, .inr (2, [.ref o4, .ref o5])), (o4, .inr (10, [.ref a41, .ref a42, .ref a43, .int l4])), (a41, .inl (cI, 256, .inl f41)), (a42, .inl (cI, 512, .inl f42)), (a43, .inl (cI, 512, .inl f43)), (o5, .inr (10, [.ref a51, .ref a52, .ref a53, .int l5])), (a51, .inl (cI, 256, .inl f51)), (a52, .inl (cI, 512, .inl f52)), (a53, .inl (cI, 512, .inl f53))]) rfl
      clear hP hD hS hJ hPD9
      have hP := hPn
      have hD := hDn
      have hS := hSn
      clear hPn hDn hSn
      exact kl_z (v := r_15) hQQ hx hb hr hlocks hS dX1_build_98 (v_bool (by omega)) (fun PZ9 kZ9 => kZ9 lw_3 fu_13 fm_3 lm_3 ft_15 ld_15 fd_15 (⟨hP, hD⟩) (hf3_0) (hf3_1) (hf3_2) (hf15_0) (hf15_1) (fun c f' h9 => bld_ok hf9 (hBr _) hby9 hwr9 hf15_2 h9))
  · have tc_4 : ¬ r_3.toInt = (-1) := v_ne c_4
    refine lv_iconst (v := 0) hx hb dX1_build_25 (by decide) ?_
    exact kl_z (v := 0) hQQ hx hb hr hlocks hS dX1_build_26 (rfl) (fun PZ9 kZ9 => kZ9 lw_3 fw_3 fm_3 lm_3 ft ld fd (⟨hP, hD⟩) (hf3_0) (hf3_1) (hf3_2) (g_ld) (by decide) (fun c f' h9 => absurd (vch_lo hf3_4 h9) (by omega)))

end

/-! 5o.a.rows -/
section
set_option maxRecDepth 100000 in
theorem dA349_cX1_isFresh : kDec cX1_isFresh [(0, .aload_n 0, 1), (1, .getfield 72, 3), (4, .ifCond .eq 19, 3), (23, .iconst 0, 1), (24, .ireturn, 1), (7, .iload_n 1, 1), (8, .ifCond .lt 15, 3), (11, .iload_n 1, 1), (12, .aload_n 0, 1), (13, .getfield 65, 3), (16, .if_icmp .ge 7, 3), (19, .iconst 1, 1), (20, .goto 4, 3)] = true := by decide +kernel
theorem dX1_isFresh_0 : decode cX1_isFresh 0 = .ok (.aload_n 0, 1) := kDec_at dA349_cX1_isFresh 0 rfl
theorem dX1_isFresh_1 : decode cX1_isFresh 1 = .ok (.getfield 72, 3) := kDec_at dA349_cX1_isFresh 1 rfl
theorem dX1_isFresh_4 : decode cX1_isFresh 4 = .ok (.ifCond .eq 19, 3) := kDec_at dA349_cX1_isFresh 2 rfl
theorem dX1_isFresh_23 : decode cX1_isFresh 23 = .ok (.iconst 0, 1) := kDec_at dA349_cX1_isFresh 3 rfl
theorem dX1_isFresh_24 : decode cX1_isFresh 24 = .ok (.ireturn, 1) := kDec_at dA349_cX1_isFresh 4 rfl
theorem dX1_isFresh_7 : decode cX1_isFresh 7 = .ok (.iload_n 1, 1) := kDec_at dA349_cX1_isFresh 5 rfl
theorem dX1_isFresh_8 : decode cX1_isFresh 8 = .ok (.ifCond .lt 15, 3) := kDec_at dA349_cX1_isFresh 6 rfl
theorem dX1_isFresh_11 : decode cX1_isFresh 11 = .ok (.iload_n 1, 1) := kDec_at dA349_cX1_isFresh 7 rfl
theorem dX1_isFresh_12 : decode cX1_isFresh 12 = .ok (.aload_n 0, 1) := kDec_at dA349_cX1_isFresh 8 rfl
theorem dX1_isFresh_13 : decode cX1_isFresh 13 = .ok (.getfield 65, 3) := kDec_at dA349_cX1_isFresh 9 rfl
theorem dX1_isFresh_16 : decode cX1_isFresh 16 = .ok (.if_icmp .ge 7, 3) := kDec_at dA349_cX1_isFresh 10 rfl
theorem dX1_isFresh_19 : decode cX1_isFresh 19 = .ok (.iconst 1, 1) := kDec_at dA349_cX1_isFresh 11 rfl
theorem dX1_isFresh_20 : decode cX1_isFresh 20 = .ok (.goto 4, 3) := kDec_at dA349_cX1_isFresh 12 rfl
set_option maxRecDepth 100000 in
theorem dA350_cX11_chosen : kDec cX11_chosen [(0, .aload_n 0, 1), (1, .getfield 86, 3), (4, .iload_n 1, 1), (5, .invokevirtual 243, 3), (8, .ifCond .eq 26, 3), (34, .iconst 0, 1), (35, .ireturn, 1), (11, .aload_n 0, 1), (12, .getfield 86, 3), (15, .iload_n 1, 1), (16, .aload_n 0, 1), (17, .getfield 34, 3), (20, .aload_n 0, 1), (21, .getfield 44, 3), (24, .aload_n 0, 1), (25, .getfield 37, 3), (28, .invokevirtual 246, 3), (31, .ifCond .ne 5, 3), (36, .aload_n 0, 1), (37, .aload_n 0, 1), (38, .getfield 37, 3), (41, .invokevirtual 113, 3), (44, .pop, 1), (45, .iconst 1, 1)] = true := by decide +kernel
theorem dX11_chosen_0 : decode cX11_chosen 0 = .ok (.aload_n 0, 1) := kDec_at dA350_cX11_chosen 0 rfl
theorem dX11_chosen_1 : decode cX11_chosen 1 = .ok (.getfield 86, 3) := kDec_at dA350_cX11_chosen 1 rfl
theorem dX11_chosen_4 : decode cX11_chosen 4 = .ok (.iload_n 1, 1) := kDec_at dA350_cX11_chosen 2 rfl
theorem dX11_chosen_5 : decode cX11_chosen 5 = .ok (.invokevirtual 243, 3) := kDec_at dA350_cX11_chosen 3 rfl
theorem dX11_chosen_8 : decode cX11_chosen 8 = .ok (.ifCond .eq 26, 3) := kDec_at dA350_cX11_chosen 4 rfl
theorem dX11_chosen_34 : decode cX11_chosen 34 = .ok (.iconst 0, 1) := kDec_at dA350_cX11_chosen 5 rfl
theorem dX11_chosen_35 : decode cX11_chosen 35 = .ok (.ireturn, 1) := kDec_at dA350_cX11_chosen 6 rfl
theorem dX11_chosen_11 : decode cX11_chosen 11 = .ok (.aload_n 0, 1) := kDec_at dA350_cX11_chosen 7 rfl
theorem dX11_chosen_12 : decode cX11_chosen 12 = .ok (.getfield 86, 3) := kDec_at dA350_cX11_chosen 8 rfl
theorem dX11_chosen_15 : decode cX11_chosen 15 = .ok (.iload_n 1, 1) := kDec_at dA350_cX11_chosen 9 rfl
theorem dX11_chosen_16 : decode cX11_chosen 16 = .ok (.aload_n 0, 1) := kDec_at dA350_cX11_chosen 10 rfl
theorem dX11_chosen_17 : decode cX11_chosen 17 = .ok (.getfield 34, 3) := kDec_at dA350_cX11_chosen 11 rfl
theorem dX11_chosen_20 : decode cX11_chosen 20 = .ok (.aload_n 0, 1) := kDec_at dA350_cX11_chosen 12 rfl
theorem dX11_chosen_21 : decode cX11_chosen 21 = .ok (.getfield 44, 3) := kDec_at dA350_cX11_chosen 13 rfl
theorem dX11_chosen_24 : decode cX11_chosen 24 = .ok (.aload_n 0, 1) := kDec_at dA350_cX11_chosen 14 rfl
theorem dX11_chosen_25 : decode cX11_chosen 25 = .ok (.getfield 37, 3) := kDec_at dA350_cX11_chosen 15 rfl
theorem dX11_chosen_28 : decode cX11_chosen 28 = .ok (.invokevirtual 246, 3) := kDec_at dA350_cX11_chosen 16 rfl
theorem dX11_chosen_31 : decode cX11_chosen 31 = .ok (.ifCond .ne 5, 3) := kDec_at dA350_cX11_chosen 17 rfl
theorem dX11_chosen_36 : decode cX11_chosen 36 = .ok (.aload_n 0, 1) := kDec_at dA350_cX11_chosen 18 rfl
theorem dX11_chosen_37 : decode cX11_chosen 37 = .ok (.aload_n 0, 1) := kDec_at dA350_cX11_chosen 19 rfl
theorem dX11_chosen_38 : decode cX11_chosen 38 = .ok (.getfield 37, 3) := kDec_at dA350_cX11_chosen 20 rfl
theorem dX11_chosen_41 : decode cX11_chosen 41 = .ok (.invokevirtual 113, 3) := kDec_at dA350_cX11_chosen 21 rfl
theorem dX11_chosen_44 : decode cX11_chosen 44 = .ok (.pop, 1) := kDec_at dA350_cX11_chosen 22 rfl
theorem dX11_chosen_45 : decode cX11_chosen 45 = .ok (.iconst 1, 1) := kDec_at dA350_cX11_chosen 23 rfl
set_option maxRecDepth 20000 in
theorem gX1_isFresh_all : wsX1_isFresh.all goodWord = true := by
  unfold wsX1_isFresh
  exact good_c (by decide +kernel) (good_a ((by decide +kernel)) gX1_clsall)
set_option maxRecDepth 20000 in
theorem ggX11_chosen_X1_isFresh : GoodIn wsX11_chosen wsX1_isFresh := goodIn_sub (fun _ h => List.mem_cons_of_mem _ (List.mem_append_left _ (List.mem_append_left _ (List.mem_append_right _ (h))))) gX1_isFresh_all
set_option maxRecDepth 20000 in
theorem gX11_chosen_X1_isFresh : GoodIn wsX11_chosen (wsV RX11 243 RX1 yX1_isFresh wsX1_isFresh) := goodIn_app (goodIn_r _ [5, 6, 7, 8] rfl (by decide +kernel)) ggX11_chosen_X1_isFresh
set_option maxRecDepth 20000 in
theorem gX1_build_all : wsX1_build.all goodWord = true := by
  unfold wsX1_build
  exact good_c (by decide +kernel) (good_a (good_a (good_a (good_a (good_a (good_a (good_a (good_a ((by decide +kernel)) gX1_clsall) gX5_clsall) gX2_clsall) gX10_clsall) gX7_clsall) gX1_layOut_all) gX5_set_all) gX7_readExactly_all)
set_option maxRecDepth 20000 in
theorem ggX11_chosen_X1_build : GoodIn wsX11_chosen wsX1_build := goodIn_sub (fun _ h => List.mem_cons_of_mem _ (List.mem_append_left _ (List.mem_append_right _ (h)))) gX1_build_all
set_option maxRecDepth 20000 in
theorem gX11_chosen_X1_build : GoodIn wsX11_chosen (wsV RX11 246 RX1 yX1_build wsX1_build) := goodIn_app (goodIn_r _ [9, 10, 11, 8] rfl (by decide +kernel)) ggX11_chosen_X1_build
set_option maxRecDepth 20000 in
theorem ggX11_chosen_X11_become : GoodIn wsX11_chosen wsX11_become := goodIn_sub (fun _ h => List.mem_cons_of_mem _ (List.mem_append_right _ (h))) gX11_become_all
set_option maxRecDepth 20000 in
theorem gX11_chosen_X11_become : GoodIn wsX11_chosen (wsV RX11 113 RX11 yX11_become wsX11_become) := goodIn_app (goodIn_r _ [13, 14, 15, 12] rfl (by decide +kernel)) ggX11_chosen_X11_become
set_option maxRecDepth 100000 in
theorem dA351_cX11_chosen : kDec cX11_chosen [(46, .ireturn, 1)] = true := by decide +kernel
theorem dX11_chosen_46 : decode cX11_chosen 46 = .ok (.ireturn, 1) := kDec_at dA351_cX11_chosen 0 rfl

end

/-! 5o.chs -/
section
def frsC (fsh ke wi ri : Int32) (W4 W5 L4 L5 f : Nat → Int32) (Bf : Int32 → Int32 → Int32) (n : Nat) : Prop := fsh.toInt = 1 → (mkB f n = 1 ∨ mkB f n = 2) ∧ n ≤ 100 ∧ ∀ i : Nat, (i : Int) < ke.toInt → byV f n (W4 i).toInt (W5 i).toInt ∧ ∃ (c : Nat) (f' : Nat → Int32), VCH wi ri L4 L5 (Bf ri) n f (W4 i).toInt (W5 i).toInt c f'
def csP (fsh ke wi ri i : Int32) (W4 W5 L4 L5 f : Nat → Int32) (Bf : Int32 → Int32) (n : Nat) (c : Nat) (fm : Nat → Int32) (v : Int) : Prop := v = 1 ∧ (fsh.toInt = 1 ∧ 0 ≤ i.toInt ∧ i.toInt < ke.toInt) ∧ VCH wi ri L4 L5 Bf n f (W4 i.toNatClampNeg).toInt (W5 i.toNatClampNeg).toInt c fm

set_option maxHeartbeats 40000000 in
set_option maxRecDepth 100000 in
theorem f_X1_isFresh (l : Launch) (dC : Nat → ClassId) (dI : Nat → Nat → Nat) (cI cS : ClassId) (sz : Nat) (oW : Nat) (oC : Nat) (oK : Nat) (nw : Nat) (w1 : Nat) (w2 : Nat) (w3 : Nat) (o7 : Nat) (o8 : Nat) (o9 : Nat) (w4 : Nat) (w5 : Nat) (w6 : Nat) (w7 : Nat) (ke : Int32) (tl : Int32) (fsh : Int32) (wi : Int32) (ri : Int32) (fm : Int32) (lm : Int32) (i : Int32) (g_ke : 0 ≤ ke.toInt ∧ ke.toInt ≤ 200) (g_fsh : 0 ≤ fsh.toInt ∧ fsh.toInt ≤ 1) (g_fm : -1 ≤ fm.toInt ∧ fm.toInt ≤ 800) (g_lm : -1 ≤ lm.toInt ∧ lm.toInt ≤ 800) : kMi l yX1_isFresh wsX1_isFresh ({ frames := 0, cells := 0, slots := 0, locals := 0 } : Room) [.ref oW, .int i] sz (dC, dI) vwCl [(cI, .int), (cS, .short)] [(oW, .inr (1, [.ref oC, .ref oK, .ref nw, .ref w1, .ref w2, .ref w3, .ref o7, .ref o8, .ref o9, .ref w4, .ref w5, .ref w6, .ref w7, .int ke, .int tl, .int fsh, .int wi, .int ri, .int fm, .int lm]))] (fun _ => True) 0 0 (fun (A : Nat → Prop) (r : Int32) (hh9 : Heap) => ∀ PZ9 : Prop, (kPD (dC, dI) vwCl A [(oW, .inr (1, [.ref oC, .ref oK, .ref nw, .ref w1, .ref w2, .ref w3, .ref o7, .ref o8, .ref o9, .ref w4, .ref w5, .ref w6, .ref w7, .int ke, .int tl, .int fsh, .int wi, .int ri, .int fm, .int lm]))] hh9 → (0 ≤ r.toInt ∧ r.toInt ≤ 1) → ((r.toInt = 1 ∧ fsh.toInt = 1 ∧ 0 ≤ i.toInt ∧ i.toInt < ke.toInt) ∨ (r.toInt = 0 ∧ ¬ (fsh.toInt = 1 ∧ 0 ≤ i.toInt ∧ i.toInt < ke.toInt))) → PZ9) → PZ9) := by
  refine kMi_of (cc := cX1_isFresh) (maxL := 2) (ret := (some .boolean)) (lv := [(0, .ref oW), (1, .int i)]) (by decide +kernel) rfl rfl (Nat.le_of_ble_eq_true rfl) ?_
  intro p e s m below meth c A QQ ls hx hb hr hts hml hown hlocks hA hQQ hK hX hP hD hS hl
  have hown : s.vm.findClass RX1 = some m.cls := hown
  have hcf := k_cf hx hb hml hown hts
  have in_X1 : ∀ w ∈ wsX10, w ∈ wsX1_isFresh := fun _ h => List.mem_cons_of_mem _ (List.mem_append_right _ (h))
  replace g_fm := hid g_fm
  replace g_lm := hid g_lm
  refine lv_aload_n hx hb dX1_isFresh_0 rfl (lv_at hl 0 rfl) ?_
  refine va_get (D := (dC, dI)) (ci := 1) (v := .int fsh) (C := RX1) (T := TX1) (N := 20) hx hb hts in_X1 hown hK hP 0 rfl rfl 15 (Nat.le_of_ble_eq_true rfl) (hts (.fieldLink RX1 72 "TextMender$Choices" "fresh" "Z") (List.mem_of_getElem? (i := 1) rfl)) (fun _ h9 => h9) rfl dX1_isFresh_1 ?_
  refine lv_if_eq (tgt := 23) hx hb dX1_isFresh_4 (by decide) (fun c_1 => ?_) (fun c_1 => ?_)
  · have tc_1 : fsh.toInt = 0 := v_eq c_1
    refine lv_iconst (v := 0) hx hb dX1_isFresh_23 (by decide) ?_
    exact kl_z (v := 0) hQQ hx hb hr hlocks hS dX1_isFresh_24 (rfl) (fun PZ9 kZ9 => kZ9 (⟨hP, hD⟩) (by decide) (by show (0 = 1 ∧ fsh.toInt = 1 ∧ 0 ≤ i.toInt ∧ i.toInt < ke.toInt) ∨ (0 = 0 ∧ ¬ (fsh.toInt = 1 ∧ 0 ≤ i.toInt ∧ i.toInt < ke.toInt)); omega))
  · have tc_1 : ¬ fsh.toInt = 0 := v_ne c_1
    refine lv_iload_n hx hb dX1_isFresh_7 rfl (lv_at hl 1 rfl) ?_
    refine lv_if_lt (tgt := 23) hx hb dX1_isFresh_8 (by decide) (fun c_2 => ?_) (fun c_2 => ?_)
    · have tc_2 : i.toInt < 0 := v_lt c_2
      refine lv_iconst (v := 0) hx hb dX1_isFresh_23 (by decide) ?_
      exact kl_z (v := 0) hQQ hx hb hr hlocks hS dX1_isFresh_24 (rfl) (fun PZ9 kZ9 => kZ9 (⟨hP, hD⟩) (by decide) (by show (0 = 1 ∧ fsh.toInt = 1 ∧ 0 ≤ i.toInt ∧ i.toInt < ke.toInt) ∨ (0 = 0 ∧ ¬ (fsh.toInt = 1 ∧ 0 ≤ i.toInt ∧ i.toInt < ke.toInt)); omega))
    · have tc_2 : 0 ≤ i.toInt := v_nlt c_2
      refine lv_iload_n hx hb dX1_isFresh_11 rfl (lv_at hl 1 rfl) ?_
      refine lv_aload_n hx hb dX1_isFresh_12 rfl (lv_at hl 0 rfl) ?_
      refine va_get (D := (dC, dI)) (ci := 1) (v := .int ke) (C := RX1) (T := TX1) (N := 20) hx hb hts in_X1 hown hK hP 0 rfl rfl 13 (Nat.le_of_ble_eq_true rfl) (hts (.fieldLink RX1 65 "TextMender$Choices" "kept" "I") (List.mem_of_getElem? (i := 2) rfl)) (fun _ h9 => h9) rfl dX1_isFresh_13 ?_
      refine lv_icmp_ge (tgt := 23) hx hb dX1_isFresh_16 (by decide) (fun c_3 => ?_) (fun c_3 => ?_)
      · have tc_3 : ke.toInt ≤ i.toInt := v_le c_3
        have rw3_0 := v_rng i
        refine lv_iconst (v := 0) hx hb dX1_isFresh_23 (by decide) ?_
        exact kl_z (v := 0) hQQ hx hb hr hlocks hS dX1_isFresh_24 (rfl) (fun PZ9 kZ9 => kZ9 (⟨hP, hD⟩) (by decide) (by show (0 = 1 ∧ fsh.toInt = 1 ∧ 0 ≤ i.toInt ∧ i.toInt < ke.toInt) ∨ (0 = 0 ∧ ¬ (fsh.toInt = 1 ∧ 0 ≤ i.toInt ∧ i.toInt < ke.toInt)); omega))
      · have tc_3 : i.toInt < ke.toInt := v_nle c_3
        have rw3_0 := v_rng i
        refine lv_iconst (v := 1) hx hb dX1_isFresh_19 (by decide) ?_
        refine lv_goto (tgt := 24) hx hb dX1_isFresh_20 (by decide) ?_
        exact kl_z (v := 1) hQQ hx hb hr hlocks hS dX1_isFresh_24 (rfl) (fun PZ9 kZ9 => kZ9 (⟨hP, hD⟩) (by decide) (by show (1 = 1 ∧ fsh.toInt = 1 ∧ 0 ≤ i.toInt ∧ i.toInt < ke.toInt) ∨ (1 = 0 ∧ ¬ (fsh.toInt = 1 ∧ 0 ≤ i.toInt ∧ i.toInt < ke.toInt)); omega))

theorem VCH_fm {a b : Int32} {L4 L5 f f1 f2 : Nat → Int32} {Bf : Int32 → Int32} {n c : Nat} {v1 v2 : Int} (h : VCH a b L4 L5 Bf n f v1 v2 c f1) (he : ∀ j, j < c → f2 j = f1 j) : VCH a b L4 L5 Bf n f v1 v2 c f2 := by
  obtain ⟨m, g, a1, a2, a3, a4, a5⟩ := h
  exact ⟨m, g, a1, a2, a3, a4, fun i hi => (he i hi).trans (a5 i hi)⟩

set_option maxHeartbeats 40000000 in
set_option maxRecDepth 100000 in
theorem f_X11_chosen (l : Launch) (dC : Nat → ClassId) (dI : Nat → Nat → Nat) (cI cS : ClassId) (sz : Nat) (oX : Nat) (nT : Nat) (nL : Nat) (nM : Nat) (oC : Nat) (oP : Nat) (oH : Nat) (oK : Nat) (oG : Nat) (oR : Nat) (oQ : Nat) (oW : Nat) (nw : Nat) (w1 : Nat) (w2 : Nat) (w3 : Nat) (o7 : Nat) (o8 : Nat) (o9 : Nat) (w4 : Nat) (w5 : Nat) (w6 : Nat) (w7 : Nat) (aw : Nat) (aL : Nat) (nB : Nat) (aM : Nat) (o4 : Nat) (o5 : Nat) (a41 : Nat) (a42 : Nat) (a43 : Nat) (a51 : Nat) (a52 : Nat) (a53 : Nat) (g1 : Nat) (g2 : Nat) (fa : Int32) (ke : Int32) (tl : Int32) (fsh : Int32) (wi : Int32) (ri : Int32) (fm : Int32) (lm : Int32) (fW4 : Nat → Int32) (fW5 : Nat → Int32) (lw : Int32) (fw : Nat → Int32) (lL : Int32) (fL : Nat → Int32) (ft : Int32) (lM : Int32) (fM : Nat → Int32) (l4 : Int32) (f41 : Nat → Int32) (f42 : Nat → Int32) (f43 : Nat → Int32) (l5 : Int32) (f51 : Nat → Int32) (f52 : Nat → Int32) (f53 : Nat → Int32) (gn : Int32) (lG : Int32) (fG1 : Nat → Int32) (fG2 : Nat → Int32) (i : Int32) (g_ke : 0 ≤ ke.toInt ∧ ke.toInt ≤ 200) (g_fsh : 0 ≤ fsh.toInt ∧ fsh.toInt ≤ 1) (g_fm : -1 ≤ fm.toInt ∧ fm.toInt ≤ 800) (g_lm : -1 ≤ lm.toInt ∧ lm.toInt ≤ 800) (g_lw : 0 ≤ lw.toInt ∧ lw.toInt ≤ 800) (g_lL : 0 ≤ lL.toInt ∧ lL.toInt ≤ 300) (g_lM : 0 ≤ lM.toInt ∧ lM.toInt ≤ 300) (g_gn : 0 ≤ gn.toInt ∧ gn.toInt ≤ 19) (g_lG : 0 ≤ lG.toInt ∧ lG.toInt ≤ 20) (g_fG2 : rg 0 300 fG2) (hlt : prg lL.toInt 0 65535 fL) (hfr : frsC fsh ke wi ri fW4 fW5 f41 f51 fL (fun c9 => Bc c9 f42 f43 f52 f53) lL.toInt.toNat) (hT4 : HT 512 511 hsT f42 f43) (ho4 : (occ f43 512 : Int) ≤ 511) (hT5 : HT 512 511 hsT f52 f53) (ho5 : (occ f53 512 : Int) ≤ 511) (hL4 : prg 256 (-1) 65535 f41) (hL5 : prg 256 (-1) 65535 f51) (hBr : ∀ cd : Int32, okB (Bc cd f42 f43 f52 f53)) : kMi l yX11_chosen wsX11_chosen ({ frames := 5, cells := 0, slots := 0, locals := 124 } : Room) [.ref oX, .int i] sz (dC, dI) vwCl [(cI, .int), (cS, .short)] [(oX, .inr (11, [.ref nT, .ref nL, .ref nM, .ref oC, .ref oP, .ref oH, .ref oK, .ref oG, .ref oR, .ref oQ, .ref oW, .int fa])), (oW, .inr (1, [.ref oC, .ref oK, .ref nw, .ref w1, .ref w2, .ref w3, .ref o7, .ref o8, .ref o9, .ref w4, .ref w5, .ref w6, .ref w7, .int ke, .int tl, .int fsh, .int wi, .int ri, .int fm, .int lm])), (w4, .inl (cI, 200, .inl fW4)), (w5, .inl (cI, 200, .inl fW5)), (nw, .inr (5, [.ref aw, .int lw])), (aw, .inl (cI, 800, .inl fw)), (nL, .inr (5, [.ref aL, .int lL])), (aL, .inl (cI, 300, .inl fL)), (oP, .inr (7, [.ref oC, .ref nB, .int ft])), (nM, .inr (5, [.ref aM, .int lM])), (aM, .inl (cI, 300, .inl fM)), (oC, .inr (2, [.ref o4, .ref o5])), (o4, .inr (10, [.ref a41, .ref a42, .ref a43, .int l4])), (a41, .inl (cI, 256, .inl f41)), (a42, .inl (cI, 512, .inl f42)), (a43, .inl (cI, 512, .inl f43)), (o5, .inr (10, [.ref a51, .ref a52, .ref a53, .int l5])), (a51, .inl (cI, 256, .inl f51)), (a52, .inl (cI, 512, .inl f52)), (a53, .inl (cI, 512, .inl f53)), (oG, .inr (0, [.ref g1, .ref g2, .int gn, .int lG])), (g1, .inl (cI, 6000, .inl fG1)), (g2, .inl (cI, 20, .inl fG2))] (va_Nw (.methodLinkNest RX2 52 yX11_isLetter "TextMender")) 0 0 (fun (A : Nat → Prop) (r : Int32) (hh9 : Heap) => ∀ PZ9 : Prop, (∀ (lw' : Int32) (fw' : Nat → Int32) (fm' : Int32) (lm' : Int32) (ft' : Int32) (lM' : Int32) (fM' : Nat → Int32) (lL' : Int32) (fL' : Nat → Int32) (fsh' : Int32) (gn' : Int32) (lG' : Int32) (fG1' : Nat → Int32) (fG2' : Nat → Int32), kPD (dC, dI) vwCl A [(oX, .inr (11, [.ref nT, .ref nL, .ref nM, .ref oC, .ref oP, .ref oH, .ref oK, .ref oG, .ref oR, .ref oQ, .ref oW, .int fa])), (oW, .inr (1, [.ref oC, .ref oK, .ref nw, .ref w1, .ref w2, .ref w3, .ref o7, .ref o8, .ref o9, .ref w4, .ref w5, .ref w6, .ref w7, .int ke, .int tl, .int fsh', .int wi, .int ri, .int fm', .int lm'])), (w4, .inl (cI, 200, .inl fW4)), (w5, .inl (cI, 200, .inl fW5)), (nw, .inr (5, [.ref aw, .int lw'])), (aw, .inl (cI, 800, .inl fw')), (nL, .inr (5, [.ref aL, .int lL'])), (aL, .inl (cI, 300, .inl fL')), (oP, .inr (7, [.ref oC, .ref nB, .int ft'])), (nM, .inr (5, [.ref aM, .int lM'])), (aM, .inl (cI, 300, .inl fM')), (oC, .inr (2, [.ref o4, .ref o5])), (o4, .inr (10, [.ref a41, .ref a42, .ref a43, .int l4])), (a41, .inl (cI, 256, .inl f41)), (a42, .inl (cI, 512, .inl f42)), (a43, .inl (cI, 512, .inl f43)), (o5, .inr (10, [.ref a51, .ref a52, .ref a53, .int l5])), (a51, .inl (cI, 256, .inl f51)), (a52, .inl (cI, 512, .inl f52)), (a53, .inl (cI, 512, .inl f53)), (oG, .inr (0, [.ref g1, .ref g2, .int gn', .int lG'])), (g1, .inl (cI, 6000, .inl fG1')), (g2, .inl (cI, 20, .inl fG2'))] hh9 → (0 ≤ lw'.toInt ∧ lw'.toInt ≤ 800) → (-1 ≤ fm'.toInt ∧ fm'.toInt ≤ 800) → (-1 ≤ lm'.toInt ∧ lm'.toInt ≤ 800) → (0 ≤ lM'.toInt ∧ lM'.toInt ≤ 300) → (0 ≤ lL'.toInt ∧ lL'.toInt ≤ 300) → (0 ≤ fsh'.toInt ∧ fsh'.toInt ≤ 1) → (0 ≤ gn'.toInt ∧ gn'.toInt ≤ 19) → (0 ≤ lG'.toInt ∧ lG'.toInt ≤ 20) → (rg 0 300 fG2') → (0 ≤ r.toInt ∧ r.toInt ≤ 1) → (OC (0) r fsh fsh' gn gn' lG lG' lL lL' fG1 fG1' fG2 fG2' fL fL' (csP fsh ke wi ri i fW4 fW5 f41 f51 fL (Bc ri f42 f43 f52 f53) lL.toInt.toNat)) → PZ9) → PZ9) := by
  refine kMi_of (cc := cX11_chosen) (maxL := 2) (ret := (some .boolean)) (lv := [(0, .ref oX), (1, .int i)]) (by decide +kernel) rfl rfl (Nat.le_of_ble_eq_true rfl) ?_
  intro p e s m below meth c A QQ ls hx hb hr hts hml hown hlocks hA hQQ hK hX hP hD hS hl
  have hown : s.vm.findClass RX11 = some m.cls := hown
  have hcf := k_cf hx hb hml hown hts
  have hN52 := hX
  have in_X11 : ∀ w ∈ wsX110, w ∈ wsX11_chosen := fun _ h => List.mem_cons_of_mem _ (List.mem_append_left _ (List.mem_append_left _ (List.mem_append_left _ (List.mem_append_left _ (List.mem_append_left _ (List.mem_append_left _ (List.mem_append_left _ (List.mem_append_left _ (List.mem_append_left _ (List.mem_append_right _ (h)))))))))))
  replace g_lm := hid g_lm
  replace g_lw := hid g_lw
  replace g_lM := hid g_lM
  refine lv_aload_n hx hb dX11_chosen_0 rfl (lv_at hl 0 rfl) ?_
  refine va_get (D := (dC, dI)) (ci := 11) (v := .ref oW) (C := RX11) (T := TX11) (N := 12) hx hb hts in_X11 hown hK hP 0 rfl rfl 10 (Nat.le_of_ble_eq_true rfl) (hts (.fieldLink RX11 86 "TextMender" "choiceBook" "LTextMender$Choices;") (List.mem_of_getElem? (i := 1) rfl)) (fun _ h9 => h9) rfl dX11_chosen_1 ?_
  refine lv_iload_n hx hb dX11_chosen_4 rfl (lv_at hl 1 rfl) ?_
  refine kV_i (rest := []) (q0 := 0) (ci := 1) hcf (f_X1_isFresh l dC dI cI cS s.heap.size oW oC oK nw w1 w2 w3 o7 o8 o9 w4 w5 w6 w7 ke tl fsh wi ri fm lm i (g_ke) (g_fsh) (g_fm) (g_lm)) kc_X1_isFresh gX11_chosen_X1_isFresh rfl rfl rfl ⟨Nat.le_of_ble_eq_true rfl, Nat.le_of_ble_eq_true rfl⟩ kX_t hK hP hD hS hA (posT mk_156 0) (posF mk_156 0) (kC_of mk_156 rfl rfl) (by decide +kernel) rfl rfl rfl hl rfl (Nat.le_of_ble_eq_true rfl) dX11_chosen_5 ⟨Nat.le_of_ble_eq_true rfl, Nat.le_of_ble_eq_true rfl⟩ (fun r_1 H locs hB hJ hSn => ?_)
  refine hB _ (fun hPD9 hf1_0 hf1_1 => ?_)
  clear hB
  obtain ⟨hPn, hDn⟩ := kJi (m := mk_156) hJ rfl hPD9.1 hPD9.2 (wn := [(oX, .inr (11, [.ref nT, .ref nL, .ref nM, .ref oC, .ref oP, .ref oH, .ref oK, .ref oG, .ref oR, .ref oQ, .ref oW, .int fa])), (oW, .inr (1, [.ref oC, .ref oK, .ref nw, .ref w1, .ref w2, .ref w3, .ref o7, .ref o8, .ref o9, .ref w4, .ref w5, .ref w6, .ref w7, .int ke, .int tl, .int fsh, .int wi, .int ri, .int fm, .int lm])), (w4, .inl (cI, 200, .inl fW4)), (w5, .inl (cI, 200, .inl fW5)), (nw, .inr (5, [.ref aw, .int lw])), (aw, .inl (cI, 800, .inl fw)), (nL, .inr (5, [.ref aL, .int lL])), (aL, .inl (cI, 300, .inl fL)), (oP, .inr (7, [.ref oC, .ref nB, .int ft])), (nM, .inr (5, [.ref aM, .int lM])), (aM, .inl (cI, 300, .inl fM)), (oC, .inr (2, [.ref o4, .ref o5])), (o4, .inr (10, [.ref a41, .ref a42, .ref a43, .int l4])), (a41, .inl (cI, 256, .inl f41)), (a42, .inl (cI, 512, .inl f42)), (a43, .inl (cI, 512, .inl f43)), (o5, .inr (10, [.ref a51, .ref a52, .ref a53, .int l5])), (a51, .inl (cI, 256, .inl f51)), (a52, .inl (cI, 512, .inl f52)), (a53, .inl (cI, 512, .inl f53)), (oG, .inr (0, [.ref g1, .ref g2, .int gn, .int lG])), (g1, .inl (cI, 6000, .inl fG1)), (g2, .inl (cI, 20, .inl fG2))]) rfl
  clear hP hD hS hJ hPD9
  have hP := hPn
  have hD := hDn
  have hS := hSn
  clear hPn hDn hSn
  refine lv_if_eq (tgt := 34) hx hb dX11_chosen_8 (by decide) (fun c_2 => ?_) (fun c_2 => ?_)
  · have tc_2 : r_1.toInt = 0 := v_eq c_2
    refine lv_iconst (v := 0) hx hb dX11_chosen_34 (by decide) ?_
    exact kl_z (v := 0) hQQ hx hb hr hlocks hS dX11_chosen_35 (rfl) (fun PZ9 kZ9 => kZ9 lw fw fm lm ft lM fM lL fL fsh gn lG fG1 fG2 (⟨hP, hD⟩) (g_lw) (g_fm) (g_lm) (g_lM) (g_lL) (g_fsh) (g_gn) (g_lG) (g_fG2) (by decide) (OC_n rfl (fun c fm v h => absurd h.2.1 (by omega))))
  · have tc_2 : ¬ r_1.toInt = 0 := v_ne c_2
    obtain ⟨hbv9, hex9⟩ := (hfr (by omega)).2.2 i.toNatClampNeg (by have c9 := v_clamp (x := i) (by omega); omega)
    refine lv_aload_n hx hb dX11_chosen_11 rfl (lv_at hl 0 rfl) ?_
    refine va_get (D := (dC, dI)) (ci := 11) (v := .ref oW) (C := RX11) (T := TX11) (N := 12) hx hb hts in_X11 hown hK hP 0 rfl rfl 10 (Nat.le_of_ble_eq_true rfl) (hts (.fieldLink RX11 86 "TextMender" "choiceBook" "LTextMender$Choices;") (List.mem_of_getElem? (i := 1) rfl)) (fun _ h9 => h9) rfl dX11_chosen_12 ?_
    refine lv_iload_n hx hb dX11_chosen_15 rfl (lv_at hl 1 rfl) ?_
    refine lv_aload_n hx hb dX11_chosen_16 rfl (lv_at hl 0 rfl) ?_
    refine va_get (D := (dC, dI)) (ci := 11) (v := .ref nL) (C := RX11) (T := TX11) (N := 12) hx hb hts in_X11 hown hK hP 0 rfl rfl 1 (Nat.le_of_ble_eq_true rfl) (hts (.fieldLink RX11 34 "TextMender" "letters" "LTextMender$Numbers;") (List.mem_of_getElem? (i := 2) rfl)) (fun _ h9 => h9) rfl dX11_chosen_17 ?_
    refine lv_aload_n hx hb dX11_chosen_20 rfl (lv_at hl 0 rfl) ?_
    refine va_get (D := (dC, dI)) (ci := 11) (v := .ref oP) (C := RX11) (T := TX11) (N := 12) hx hb hts in_X11 hown hK hP 0 rfl rfl 4 (Nat.le_of_ble_eq_true rfl) (hts (.fieldLink RX11 44 "TextMender" "passage" "LTextMender$Passage;") (List.mem_of_getElem? (i := 3) rfl)) (fun _ h9 => h9) rfl dX11_chosen_21 ?_
    refine lv_aload_n hx hb dX11_chosen_24 rfl (lv_at hl 0 rfl) ?_
    refine va_get (D := (dC, dI)) (ci := 11) (v := .ref nM) (C := RX11) (T := TX11) (N := 12) hx hb hts in_X11 hown hK hP 0 rfl rfl 2 (Nat.le_of_ble_eq_true rfl) (hts (.fieldLink RX11 37 "TextMender" "made" "LTextMender$Numbers;") (List.mem_of_getElem? (i := 4) rfl)) (fun _ h9 => h9) rfl dX11_chosen_25 ?_
    refine kV_i (rest := []) (q0 := 0) (ci := 1) hcf (f_X1_build l dC dI cI cS H.size oW nL oP nM oC oK nw w1 w2 w3 o7 o8 o9 w4 w5 w6 w7 aw aL nB aM o4 o5 a41 a42 a43 a51 a52 a53 ke tl fsh wi ri fm lm fW4 fW5 lw fw lL fL ft lM fM l4 f41 f42 f43 l5 f51 f52 f53 i (g_ke) (g_fsh) (g_fm) (g_lm) (g_lw) (g_lL) (g_lM) (by omega) (by omega) (by have q9 := (hfr (by omega)).2.1; omega) (hlt) ((hfr (by omega)).1) (((hfr (by omega)).2.2 i.toNatClampNeg (by have c9 := v_clamp (x := i) (by omega); omega)).1) (hT4) (ho4) (hT5) (ho5) (hL4) (hL5) (hBr)) kc_X1_build gX11_chosen_X1_build rfl rfl rfl ⟨Nat.le_of_ble_eq_true rfl, Nat.le_of_ble_eq_true rfl⟩ (kX_1 hN52) hK hP hD hS hA (posT mk_157 0) (posF mk_157 0) (kC_of mk_157 rfl rfl) (by decide +kernel) rfl rfl rfl hl rfl (Nat.le_of_ble_eq_true rfl) dX11_chosen_28 ⟨Nat.le_of_ble_eq_true rfl, Nat.le_of_ble_eq_true rfl⟩ (fun r_3 H locs hB hJ hSn => ?_)
    refine hB _ (fun lw_3 fw_3 fm_3 lm_3 ft_3 ld_3 fd_3 hPD9 hf3_0 hf3_1 hf3_2 hf3_3 hf3_4 hf3_5 => ?_)
    clear hB
    obtain ⟨hPn, hDn⟩ := kJi (m := mk_157) hJ rfl hPD9.1 hPD9.2 (wn := [(oX, .inr (11, [.ref nT, .ref nL, .ref nM, .ref oC, .ref oP, .ref oH, .ref oK, .ref oG, .ref oR, .ref oQ, .ref oW, .int fa])), (oW, .inr (1, [.ref oC, .ref oK, .ref nw, .ref w1, .ref w2, .ref w3, .ref o7, .ref o8, .ref o9, .ref w4, .ref w5, .ref w6, .ref w7, .int ke, .int tl, .int fsh, .int wi, .int ri, .int fm_3, .int lm_3])), (w4, .inl (cI, 200, .inl fW4)), (w5, .inl (cI, 200, .inl fW5)), (nw, .inr (5, [.ref aw, .int lw_3])), (aw, .inl (cI, 800, .inl fw_3)), (nL, .inr (5, [.ref aL, .int lL])), (aL, .inl (cI, 300, .inl fL)), (oP, .inr (7, [.ref oC, .ref nB, .int ft_3])), (nM, .inr (5, [.ref aM, .int ld_3])), (aM, .inl (cI, 300, .inl fd_3)), (oC, .inr (2, [.ref o4, .ref o5])), (o4, .inr (10, [.ref a41, .ref a42, .ref a43, .int l4])), (a41, .inl (cI, 256, .inl f41)), (a42, .inl (cI, 512, .inl f42)), (a43, .inl (cI, 512, .inl f43)), (o5, .inr (10, [.ref a51, .ref a52, .ref a53, .int l5])), (a51, .inl (cI, 256, .inl f51)), (a52, .inl (cI, 512, .inl f52)), (a53, .inl (cI, 512, .inl f53)), (oG, .inr (0, [.ref g1, .ref g2, .int gn, .int lG])), (g1, .inl (cI, 6000, .inl fG1)), (g2, .inl (cI, 20, .inl fG2))]) rfl
    clear hP hD hS hJ hPD9
    have hP := hPn
    have hD := hDn
    have hS := hSn
    clear hPn hDn hSn
    refine lv_if_ne (tgt := 36) hx hb dX11_chosen_31 (by decide) (fun c_4 => ?_) (fun c_4 => ?_)
    · have tc_4 : ¬ r_3.toInt = 0 := v_ne c_4
      refine lv_aload_n hx hb dX11_chosen_36 rfl (lv_at hl 0 rfl) ?_
      refine lv_aload_n hx hb dX11_chosen_37 rfl (lv_at hl 0 rfl) ?_
      refine va_get (D := (dC, dI)) (ci := 11) (v := .ref nM) (C := RX11) (T := TX11) (N := 12) hx hb hts in_X11 hown hK hP 0 rfl rfl 2 (Nat.le_of_ble_eq_true rfl) (hts (.fieldLink RX11 37 "TextMender" "made" "LTextMender$Numbers;") (List.mem_of_getElem? (i := 4) rfl)) (fun _ h9 => h9) rfl dX11_chosen_38 ?_
      refine kV_i (rest := []) (q0 := 0) (ci := 11) hcf (f_X11_bec l dC dI cI cS H.size oX nM nT nL oC oP oH oK oG oR oQ oW aL aM g1 g2 nw w1 w2 w3 o7 o8 o9 w4 w5 w6 w7 fa lL fL ld_3 fd_3 gn lG fG1 fG2 ke tl fsh wi ri fm_3 lm_3 (g_lL) (hf3_3) (g_gn) (g_lG) (g_fG2) (g_ke) (g_fsh) (hf3_1) (hf3_2)) kc_X11_become gX11_chosen_X11_become rfl rfl rfl ⟨Nat.le_of_ble_eq_true rfl, Nat.le_of_ble_eq_true rfl⟩ kX_t hK hP hD hS hA ([0, 2, 3, 4, 5, 6, 7, 8, 1].filterMap (fun j => (posT mk_158 0)[j]?)) (posF mk_158 0) (kCp (ws := [(oX, .inr (11, [.ref nT, .ref nL, .ref nM, .ref oC, .ref oP, .ref oH, .ref oK, .ref oG, .ref oR, .ref oQ, .ref oW, .int fa])), (oW, .inr (1, [.ref oC, .ref oK, .ref nw, .ref w1, .ref w2, .ref w3, .ref o7, .ref o8, .ref o9, .ref w4, .ref w5, .ref w6, .ref w7, .int ke, .int tl, .int fsh, .int wi, .int ri, .int fm_3, .int lm_3])), (nL, .inr (5, [.ref aL, .int lL])), (aL, .inl (cI, 300, .inl fL)), (nM, .inr (5, [.ref aM, .int ld_3])), (aM, .inl (cI, 300, .inl fd_3)), (oG, .inr (0, [.ref g1, .ref g2, .int gn, .int lG])), (g1, .inl (cI, 6000, .inl fG1)), (g2, .inl (cI, 20, .inl fG2))]) (kC_of mk_158 rfl rfl) rfl) (by decide +kernel) rfl rfl rfl hl rfl (Nat.le_of_ble_eq_true rfl) dX11_chosen_41 ⟨Nat.le_of_ble_eq_true rfl, Nat.le_of_ble_eq_true rfl⟩ (fun r_5 H locs hB hJ hSn => ?_)
      refine hB _ (fun lL_5 fL_5 fsh_5 gn_5 lG_5 fG1_5 fG2_5 hPD9 hf5_0 hf5_1 hf5_2 hf5_3 hf5_4 hf5_5 hf5_6 hf5_7 => ?_)
      clear hB
      obtain ⟨hPn, hDn⟩ := kJm (m := mk_158) hJ rfl hPD9.1 hPD9.2 [0, 8, 1, 2, 3, 4, 5, 6, 7] (by decide +kernel) (ws := [(oX, .inr (11, [.ref nT, .ref nL, .ref nM, .ref oC, .ref oP, .ref oH, .ref oK, .ref oG, .ref oR, .ref oQ, .ref oW, .int fa])), (oW, .inr (1, [.ref oC, .ref oK, .ref nw, .ref w1, .ref w2, .ref w3, .ref o7, .ref o8, .ref o9, .ref w4, .ref w5, .ref w6, .ref w7, .int ke, .int tl, .int fsh_5, .int wi, .int ri, .int fm_3, .int lm_3])), (nL, .inr (5, [.ref aL, .int lL_5])), (aL, .inl (cI, 300, .inl fL_5)), (nM, .inr (5, [.ref aM, .int ld_3])), (aM, .inl (cI, 300, .inl fd_3)), (oG, .inr (0, [.ref g1, .ref g2, .int gn_5, .int lG_5])), (g1, .inl (cI, 6000, .inl fG1_5)), (g2, .inl (cI, 20, .inl fG2_5))]) rfl (wn := [(oX, .inr (11, [.ref nT, .ref nL, .ref nM, .ref oC, .ref oP, .ref oH, .ref oK, .ref oG, .ref oR, .ref oQ, .ref oW, .int fa])), (oW, .inr (1, [.ref oC, .ref oK, .ref nw, .ref w1, .ref w2, .ref w3, .ref o7, .ref o8, .ref o9, .ref w4, .ref w5, .ref w6, .ref w7, .int ke, .int tl, .int fsh_5, .int wi, .int ri, .int fm_3, .int lm_3])), (w4, .inl (cI, 200, .inl fW4)), (w5, .inl (cI, 200, .inl fW5)), (nw, .inr (5, [.ref aw, .int lw_3])), (aw, .inl (cI, 800, .inl fw_3)), (nL, .inr (5, [.ref aL, .int lL_5])), (aL, .inl (cI, 300, .inl fL_5)), (oP, .inr (7, [.ref oC, .ref nB, .int ft_3])), (nM, .inr (5, [.ref aM, .int ld_3])), (aM, .inl (cI, 300, .inl fd_3)), (oC, .inr (2, [.ref o4, .ref o5])), (o4, .inr (10, [.ref a41, .ref a42, .ref a43, .int l4])), (a41, .inl (cI, 256, .inl f41)), (a42, .inl (cI, 512, .inl f42)), (a43, .inl (cI, 512, .inl f43)), (o5, .inr (10, [.ref a51, .ref a52, .ref a53, .int l5])), (a51, .inl (cI, 256, .inl f51)), (a52, .inl (cI, 512, .inl f52)), (a53, .inl (cI, 512, .inl f53)), (oG, .inr (0, [.ref g1, .ref g2, .int gn_5, .int lG_5])), (g1, .inl (cI, 6000, .inl fG1_5)), (g2, .inl (cI, 20, .inl fG2_5))]) rfl
      clear hP hD hS hJ hPD9
      have hP := hPn
      have hD := hDn
      have hS := hSn
      clear hPn hDn hSn
      refine lv_pop hx hb dX11_chosen_44 rfl ?_
      refine lv_iconst (v := 1) hx hb dX11_chosen_45 (by decide) ?_
      exact kl_z (v := 1) hQQ hx hb hr hlocks hS dX11_chosen_46 (rfl) (fun PZ9 kZ9 => kZ9 lw_3 fw_3 fm_3 lm_3 ft_3 ld_3 fd_3 lL_5 fL_5 fsh_5 gn_5 lG_5 fG1_5 fG2_5 (⟨hP, hD⟩) (hf3_0) (hf3_1) (hf3_2) (hf3_3) (hf5_0) (hf5_1) (hf5_2) (hf5_3) (hf5_4) (by decide) (hex9.elim (fun c9 h8 => h8.elim (fun f9 h9 => OC_y ⟨c9, (hf3_5 c9 f9 h9).2.1, rfl, by omega, VCH_fm h9 (hf3_5 c9 f9 h9).2.2⟩ hf5_6 hf5_7))))
    · have tc_4 : r_3.toInt = 0 := v_eq c_4
      refine lv_iconst (v := 0) hx hb dX11_chosen_34 (by decide) ?_
      exact kl_z (v := 0) hQQ hx hb hr hlocks hS dX11_chosen_35 (rfl) (fun PZ9 kZ9 => kZ9 lw_3 fw_3 fm_3 lm_3 ft_3 ld_3 fd_3 lL fL fsh gn lG fG1 fG2 (⟨hP, hD⟩) (hf3_0) (hf3_1) (hf3_2) (hf3_3) (g_lL) (g_fsh) (g_gn) (g_lG) (g_fG2) (by decide) (absurd hex9 (fun ⟨c9, f9, h9⟩ => by have q9 := (hf3_5 c9 f9 h9).1; omega)))

end

/-! 5p.chs -/
section
/-! choices of the reference -/
def WWI (b : Int32) (Bf : Int32 → Int32) (f : Nat → Int32) (v1 v2 : Int) (i : Nat) (l : Int32) (g : Nat → Int32) (fi : Int32) : Prop := WR (EV b Bf f v1 v2) i l g ∧ ((mkB f i = 0 ∧ fi.toInt = 1) ∨ (1 ≤ mkB f i ∧ fi.toInt = 0))
theorem WW_0 {b l fi : Int32} {Bf : Int32 → Int32} {f g : Nat → Int32} {v1 v2 : Int} {i : Nat} (hi : i = 0) (hl : l.toInt = 0) (h1 : fi.toInt = 1) : WWI b Bf f v1 v2 i l g fi := by
  subst hi
  exact ⟨WR_0 hl, Or.inl ⟨rfl, h1⟩⟩
theorem WW_m {b l l' fi fi' v : Int32} {Bf : Int32 → Int32} {f g g' : Nat → Int32} {v1 v2 : Int} {i i' : Nat} (h : WWI b Bf f v1 v2 i l g fi) (hm : f i = 65533) (e1 : l'.toInt = l.toInt + 1) (e2 : g' = upd g l.toNatClampNeg v) (hv : (fi.toInt = 1 ∧ v.toInt = v1) ∨ (fi.toInt = 0 ∧ v.toInt = v2)) (h0 : 0 ≤ l.toInt) (h1 : fi'.toInt = 0) (ei : i' = i + 1) : WWI b Bf f v1 v2 i' l' g' fi' := by
  subst ei
  obtain ⟨q1, q2⟩ := h
  have eE : EV b Bf f v1 v2 i = [] ++ [v.toInt] := by
    rw [EV_m hm]
    by_cases z : mkB f i = 0
    · rw [if_pos z, show v.toInt = v1 by omega]; rfl
    · rw [if_neg z, show v.toInt = v2 by omega]; rfl
  have ap : AP l l' g g' ([] ++ [v.toInt]) := AP_u AP_0 h0 e1 e2
  refine ⟨WR_s q1 (by rw [eE]; exact List.cons_ne_nil _ _) (by rw [eE]; exact ap), Or.inr ⟨by rw [mkB_y hm]; omega, h1⟩⟩
theorem WW_n {b l l' fi r x B : Int32} {Bf : Int32 → Int32} {f g g' : Nat → Int32} {v1 v2 : Int} {i i' : Nat} (h : WWI b Bf f v1 v2 i l g fi) (hm : ¬ f i = 65533) (ex : x = f i) (eB : B = Bf (f i)) (hf : F_en r b x B l l' g g') (hr : ¬ r.toInt = 0) (ei : i' = i + 1) : WWI b Bf f v1 v2 i' l' g' fi := by
  subst ei
  subst eB
  subst ex
  obtain ⟨q1, q2⟩ := h
  obtain ⟨a1, a2⟩ := F_en_1 hf hr
  have eE := EV_n (b := b) (Bf := Bf) (v1 := v1) (v2 := v2) hm
  refine ⟨WR_s q1 (by rw [eE]; exact a1) (by rw [eE]; exact a2), ?_⟩
  rw [mkB_n hm]; exact q2
def F_ww (r : Int32) (b : Int32) (Bf : Int32 → Int32) (f : Nat → Int32) (v1 v2 : Int) (n : Nat) (l : Int32) (g : Nat → Int32) : Prop := (r.toInt = 1 ∧ WR (EV b Bf f v1 v2) n l g) ∨ (r.toInt = 0 ∧ ∃ i, i < n ∧ EV b Bf f v1 v2 i = [])
theorem WW_f {b l r x B l' l9 q : Int32} {Bf : Int32 → Int32} {f g g' g9 : Nat → Int32} {v1 v2 : Int} {i n : Nat} (hm : ¬ f i = 65533) (ex : x = f i) (eB : B = Bf (f i)) (hf : F_en r b x B l l' g g') (hr : r.toInt = 0) (hq : q.toInt = 0) (hn : i < n) : F_ww q b Bf f v1 v2 n l9 g9 := by
  subst eB
  subst ex
  exact Or.inr ⟨hq, i, hn, by rw [EV_n hm]; exact F_en_0 hf hr⟩
theorem WW_e {b l fi q : Int32} {Bf : Int32 → Int32} {f g : Nat → Int32} {v1 v2 : Int} {i n : Nat} (h : WWI b Bf f v1 v2 i l g fi) (hi : i = n) (hq : q.toInt = 1) : F_ww q b Bf f v1 v2 n l g := by
  subst hi
  exact Or.inl ⟨hq, h.1⟩
theorem EV_e {b : Int32} {Bf : Int32 → Int32} {f : Nat → Int32} {v1 v2 w1 w2 : Int} {i : Nat} (h : EV b Bf f v1 v2 i = []) : EV b Bf f w1 w2 i = [] := by
  by_cases z : f i = 65533
  · rw [EV_m z] at h; exact absurd h (List.cons_ne_nil _ _)
  · rw [EV_n z] at h ⊢; exact h
/-- a byte alone -/
theorem al_ra {r cd x v : Int32} {L4 L5 g : Nat → Int32} {n : Int} {p : Nat} (h : F_ra r cd x L4 L5 g n p) (hn : n = 1) (hp : p = 0) (hv : g 0 = v) : (r.toInt = 0 ∧ alF cd v L4 L5 = -1) ∨ (¬ r.toInt = 0 ∧ ¬ alF cd v L4 L5 = -1) := by
  subst hn
  subst hp
  have o1 : bt g 1 (0 + 1) = -1 := bt_out (by omega)
  have o2 : bt g 1 (0 + 2) = -1 := bt_out (by omega)
  rcases h with ⟨l, h1, h2⟩ | ⟨h1, h2⟩
  · have hp := Dec_pos h2
    obtain ⟨h0, ⟨a1, a2, a3⟩ | ⟨a1, a2⟩ | ⟨a1, a2⟩⟩ := h2
    · rw [hv] at a2
      exact Or.inr ⟨by omega, by rw [a2]; exact a3⟩
    · unfold DMa DM at a2
      omega
    · unfold DNa DN at a2
      omega
  · refine Or.inl ⟨h1, Classical.byContradiction (fun w => ?_)⟩
    exact h2 1 (alF cd v L4 L5) ⟨by omega, Or.inl ⟨rfl, by rw [hv], w⟩⟩
/-- reading in a and writing in a again gives the same bytes -/
theorem wr_rd {a m : Int32} {L4 L5 g w : Nat → Int32} {Bf : Int32 → Int32} {c : Nat} (hb : prg m.toInt 0 255 g) (h4 : prg 256 (-1) 65535 L4) (h5 : prg 256 (-1) 65535 L5) (hL : LBk a L4 L5 Bf) (hr : rdOk (dl a L4 L5 g m.toInt) m.toInt c) (hw : ∀ i, i < c → w i = dx a L4 L5 g m.toInt (psn (dl a L4 L5 g m.toInt) i)) : WR (fun j => enc a (w j) (Bf (w j))) c m g := by
  have tok : ∀ i, i < c → (enc a (w i) (Bf (w i))).length = dl a L4 L5 g m.toInt (psn (dl a L4 L5 g m.toInt) i) ∧ sg g (psn (dl a L4 L5 g m.toInt) i) (enc a (w i) (Bf (w i))) := fun i hi => by
    have q := Dec_en (dl_ex (hr.2 i hi)) hb h4 h5 hL
    rw [← hw i hi] at q
    exact q
  have ps : ∀ i, i ≤ c → psE (fun j => enc a (w j) (Bf (w j))) i = psn (dl a L4 L5 g m.toInt) i := by
    intro i
    induction i with
    | zero => intro _; rfl
    | succ i ih =>
      intro hi
      rw [psE, psn, ih (by omega)]
      show _ + (enc a (w i) (Bf (w i))).length = _
      rw [(tok i (by omega)).1]
  refine ⟨by rw [ps c (Nat.le_refl _)]; exact hr.1.symm, fun j hj => ⟨fun e => ?_, ?_⟩⟩
  · have q := (tok j hj).1
    have e : enc a (w j) (Bf (w j)) = [] := e
    rw [e] at q
    exact hr.2 j hj q.symm
  · show sg g (psE (fun j => enc a (w j) (Bf (w j))) j) (enc a (w j) (Bf (w j)))
    rw [ps j (by omega)]
    exact (tok j hj).2
/-- what isChoice answers -/
def F_ic (r zk : Int32) (eW : Nat → Int32) (a b : Int32) (L4 L5 : Nat → Int32) (Bf : Int32 → Int32) (n : Nat) (f : Nat → Int32) (v1 v2 : Int) : Prop := (r.toInt = 1 ∧ ∃ c : Nat, zk.toInt = c ∧ VCH a b L4 L5 Bf n f v1 v2 c eW) ∨ (r.toInt = 0 ∧ ∀ c f', ¬ VCH a b L4 L5 Bf n f v1 v2 c f')
section CHR
variable {a b m : Int32} {L4 L5 f g : Nat → Int32} {Bf Ba : Int32 → Int32} {n : Nat} {v1 v2 : Int}
theorem ic_w0 {r q zk : Int32} {eW : Nat → Int32} (h : F_ww r b Bf f v1 v2 n m g) (hr : r.toInt = 0) (hq : q.toInt = 0) : F_ic q zk eW a b L4 L5 Bf n f v1 v2 := by
  rcases h with h | ⟨_, i, h1, h2⟩
  · have := h.1
    omega
  · refine Or.inr ⟨hq, fun c f' hv => ?_⟩
    obtain ⟨m', g', a1, _⟩ := hv
    exact (a1.2 i h1).1 h2
theorem ww_1 {r : Int32} (h : F_ww r b Bf f v1 v2 n m g) (hr : ¬ r.toInt = 0) : WR (EV b Bf f v1 v2) n m g := h.elim (fun z => z.2) (fun z => absurd z.1 hr)
theorem ic_no {q zk : Int32} {eW : Nat → Int32} (hw : WR (EV b Bf f v1 v2) n m g) (hf : prg n 0 65535 f) (hB : okB Bf) (hv : byV f n v1 v2) (hq : q.toInt = 0) (h : ∀ c, rdOk (dl a L4 L5 g m.toInt) m.toInt c → c ≤ 300 → ¬ BKB b m L4 L5 g f (EV b Bf f v1 v2) n) : F_ic q zk eW a b L4 L5 Bf n f v1 v2 := by
  refine Or.inr ⟨hq, fun c f' w => ?_⟩
  obtain ⟨m', g', a1, a2, a3, a4, a5⟩ := w
  obtain ⟨q1, q2⟩ := WR_eq a1 hw
  subst q1
  have hb := WRV_b a1 hf hB hv
  have e1 := dl_congr (cd := a) (L4 := L4) (L5 := L5) q2 (fun _ _ => rfl) (fun _ _ => rfl) hb
  have e3 := dl_congr (cd := b) (L4 := L4) (L5 := L5) q2 (fun _ _ => rfl) (fun _ _ => rfl) hb
  rw [e1] at a3
  exact h c a3 a4 (fun i hi hm => by rw [← e3]; exact a2 i hi hm)
theorem ic_yes {q zk : Int32} {eW : Nat → Int32} {c : Nat} (hw : WR (EV b Bf f v1 v2) n m g) (hq : q.toInt = 1) (hz : zk.toInt = c) (hk : BKB b m L4 L5 g f (EV b Bf f v1 v2) n) (hr : rdOk (dl a L4 L5 g m.toInt) m.toInt c) (h3 : c ≤ 300) (he : ∀ i, i < c → eW i = dx a L4 L5 g m.toInt (psn (dl a L4 L5 g m.toInt) i)) : F_ic q zk eW a b L4 L5 Bf n f v1 v2 := Or.inl ⟨hq, c, hz, m, g, hw, hk, hr, h3, he⟩
/-- the bytes at the marks are those put there -/
theorem mk_at (hw : WR (EV b Bf f v1 v2) n m g) {o w : Int32} (e1 : v1 = o.toInt) (e2 : mkB f n ≤ 1 ∨ v2 = w.toInt) (h1 : alF b o L4 L5 = -1) (h2 : mkB f n ≤ 1 ∨ alF b w L4 L5 = -1) : ∀ i, i < n → f i = 65533 → alF b (g (psE (EV b Bf f v1 v2) i)) L4 L5 = -1 := by
  intro i hi hm
  obtain ⟨c1, c2⟩ := hw.2 i hi
  have ln := mk_len (b := b) (Bf := Bf) (v1 := v1) (v2 := v2) hm
  have q := sg_h c2 (by omega)
  rw [EV_m hm] at q
  by_cases z : mkB f i = 0
  · rw [if_pos z] at q
    have q3 : (g (psE (EV b Bf f v1 v2) i)).toInt = v1 := q
    have e : g (psE (EV b Bf f v1 v2) i) = o := v_inj (q3.trans e1)
    rw [e]; exact h1
  · rw [if_neg z] at q
    have q2 := mkB_m f (i := i + 1) n (by omega)
    rw [mkB_y hm] at q2
    have e3 := e2.resolve_left (by omega)
    have q3 : (g (psE (EV b Bf f v1 v2) i)).toInt = v2 := q
    have e : g (psE (EV b Bf f v1 v2) i) = w := v_inj (q3.trans e3)
    rw [e]; exact h2.resolve_left (by omega)
end CHR
/-! the row of choices as the reference keeps it -/
def RA4 (eH : Nat → Int32) (i k : Nat) : Int := (eH (4 * i + k)).toInt
theorem ww_tw {b l fi tw : Int32} {Bf : Int32 → Int32} {f g : Nat → Int32} {v1 v2 : Int} {i n : Nat} (h : WWI b Bf f v1 v2 i l g fi) (hf : fi.toInt = 0) (hm : f i = 65533) (hi : i < n) (ht : mkB f n ≤ 1 ∨ 0 ≤ tw.toInt) : 0 ≤ tw.toInt := by
  rcases h.2 with q | q
  · omega
  · have a := mkB_m f (i := i + 1) n (by omega)
    rw [mkB_y hm] at a
    exact ht.resolve_left (by omega)
/-- read roughly -/
def RQ2 (p m : Int32) (f : Nat → Int32) (D : Nat → Nat) (X : Nat → Int32) : Prop := ∃ c : Nat, p.toInt = psn (D1 D) c ∧ m.toInt = c ∧ ∀ i : Nat, i < c → f i = X1 D X (psn (D1 D) i)
theorem RQ2_0 {p m : Int32} {f : Nat → Int32} {D : Nat → Nat} {X : Nat → Int32} (hp : p.toInt = 0) (hm : m.toInt = 0) : RQ2 p m f D X := ⟨0, by rw [hp]; rfl, by rw [hm]; rfl, fun i hi => absurd hi (Nat.not_lt_zero i)⟩
theorem RQ2_s {p p' m m' v : Int32} {f f' : Nat → Int32} {D : Nat → Nat} {X : Nat → Int32} (h : RQ2 p m f D X) (e1 : m'.toInt = m.toInt + 1) (e2 : f' = upd f m.toNatClampNeg v) (hc : (D p.toNatClampNeg = 0 ∧ v = 65533 ∧ p'.toInt = p.toInt + 1) ∨ (¬ D p.toNatClampNeg = 0 ∧ v = X p.toNatClampNeg ∧ p'.toInt = p.toInt + D p.toNatClampNeg)) : RQ2 p' m' f' D X := by
  obtain ⟨c, h1, h2, h3⟩ := h
  have ep : p.toNatClampNeg = psn (D1 D) c := ix_eq h1
  have em : m.toNatClampNeg = c := ix_eq h2
  rw [ep] at hc
  refine ⟨c + 1, ?_, by omega, fun i hi => ?_⟩
  · have d1 : D1 D (psn (D1 D) c) = if D (psn (D1 D) c) = 0 then 1 else D (psn (D1 D) c) := rfl
    rw [psn, d1]
    rcases hc with ⟨a, _, b⟩ | ⟨a, _, b⟩
    · rw [if_pos a]
      omega
    · rw [if_neg a]
      omega
  · rw [e2, em]
    by_cases z : i = c
    · rw [z, pk_us]
      unfold X1
      rcases hc with ⟨a, b, _⟩ | ⟨a, b, _⟩
      · rw [if_pos a, b]
      · rw [if_neg a, b]
    · rw [pk_un z]; exact h3 i (by omega)
def F_r2 (m : Int32) (f : Nat → Int32) (D : Nat → Nat) (X : Nat → Int32) (n : Int) : Prop := ∃ c : Nat, (psn (D1 D) c : Int) = n ∧ m.toInt = c ∧ ∀ i : Nat, i < c → f i = X1 D X (psn (D1 D) i)
theorem RQ2_e {p m : Int32} {f : Nat → Int32} {D : Nat → Nat} {X : Nat → Int32} {n : Int} (h : RQ2 p m f D X) (hp : p.toInt = n) : F_r2 m f D X n := by
  obtain ⟨c, h1, h2, h3⟩ := h
  exact ⟨c, by omega, h2, h3⟩
section CH6
variable {a b m : Int32} {L4 L5 f g g2 : Nat → Int32} {Bf Ba : Int32 → Int32} {n : Nat} {v1 v2 : Int}
/-- the rough reading gives as many letters just if all comes back -/
theorem ic_cnt {zm : Int32} {eE : Nat → Int32} (hw : WR (EV b Bf f v1 v2) n m g) (hb : prg m.toInt 0 255 g) (hl : ∀ i, i < n → isLz (f i)) (hB : okB Bf) (hL : LBk b L4 L5 Bf) (h2 : mkB f n ≤ 2) (hal : ∀ i, i < n → f i = 65533 → alF b (g (psE (EV b Bf f v1 v2) i)) L4 L5 = -1) (hr : F_r2 zm eE (dl b L4 L5 g m.toInt) (dx b L4 L5 g m.toInt) m.toInt) : (zm.toInt = n → BKB b m L4 L5 g f (EV b Bf f v1 v2) n ∧ ∀ i, i < n → eE i = f i) ∧ (¬ zm.toInt = n → ¬ BKB b m L4 L5 g f (EV b Bf f v1 v2) n) := by
  obtain ⟨c, r1, r2, r3⟩ := hr
  have iff9 := rgh_iff hw hb hl hB hL h2 hal
  refine ⟨fun e => ?_, fun e w => e ?_⟩
  · have ec : c = n := by omega
    subst ec
    have hk := iff9.mp r1
    exact ⟨hk, fun i hi => (r3 i hi).trans (rgh_x hw hl hB hL hk hi)⟩
  · have q := rd_uniq (rg_rd r1) (rg_rd (iff9.mpr w))
    omega
theorem F_r2_cg {zm : Int32} {eE : Nat → Int32} {k : Int} (hg : ∀ j : Nat, (j : Int) < k → g2 j = g j) (hb : prg k 0 255 g2) (h : F_r2 zm eE (dl b L4 L5 g2 k) (dx b L4 L5 g2 k) k) : F_r2 zm eE (dl b L4 L5 g k) (dx b L4 L5 g k) k := by
  have e1 := dl_congr (cd := b) (L4 := L4) (L5 := L5) hg (fun _ _ => rfl) (fun _ _ => rfl) hb
  have e2 := dx_congr (cd := b) (L4 := L4) (L5 := L5) hg (fun _ _ => rfl) (fun _ _ => rfl) hb
  rw [e1, e2] at h
  exact h
end CH6

end

/-! 5q.a.rows -/
section
set_option maxRecDepth 100000 in
theorem dA352_cX12_writeWith : kDec cX12_writeWith [(0, .aload_n 0, 1), (1, .iconst 0, 1), (2, .putfield 91, 3), (5, .iconst 1, 1), (6, .istore 4, 2), (8, .iconst 0, 1), (9, .istore 5, 2), (11, .iload 5, 2), (13, .aload_n 0, 1), (14, .getfield 13, 3), (17, .iconst 0, 1), (18, .iaload, 1), (19, .if_icmp .ge 64, 3), (83, .iconst 1, 1), (84, .ireturn, 1), (22, .aload_n 0, 1), (23, .getfield 16, 3), (26, .iload 5, 2), (28, .iaload, 1), (29, .ldc 126, 2), (31, .if_icmp .ne 23, 3), (54, .aload_n 0, 1), (55, .iload_n 1, 1), (56, .aload_n 0, 1)] = true := by decide +kernel
theorem dX12_writeWith_0 : decode cX12_writeWith 0 = .ok (.aload_n 0, 1) := kDec_at dA352_cX12_writeWith 0 rfl
theorem dX12_writeWith_1 : decode cX12_writeWith 1 = .ok (.iconst 0, 1) := kDec_at dA352_cX12_writeWith 1 rfl
theorem dX12_writeWith_2 : decode cX12_writeWith 2 = .ok (.putfield 91, 3) := kDec_at dA352_cX12_writeWith 2 rfl
theorem dX12_writeWith_5 : decode cX12_writeWith 5 = .ok (.iconst 1, 1) := kDec_at dA352_cX12_writeWith 3 rfl
theorem dX12_writeWith_6 : decode cX12_writeWith 6 = .ok (.istore 4, 2) := kDec_at dA352_cX12_writeWith 4 rfl
theorem dX12_writeWith_8 : decode cX12_writeWith 8 = .ok (.iconst 0, 1) := kDec_at dA352_cX12_writeWith 5 rfl
theorem dX12_writeWith_9 : decode cX12_writeWith 9 = .ok (.istore 5, 2) := kDec_at dA352_cX12_writeWith 6 rfl
theorem dX12_writeWith_11 : decode cX12_writeWith 11 = .ok (.iload 5, 2) := kDec_at dA352_cX12_writeWith 7 rfl
theorem dX12_writeWith_13 : decode cX12_writeWith 13 = .ok (.aload_n 0, 1) := kDec_at dA352_cX12_writeWith 8 rfl
theorem dX12_writeWith_14 : decode cX12_writeWith 14 = .ok (.getfield 13, 3) := kDec_at dA352_cX12_writeWith 9 rfl
theorem dX12_writeWith_17 : decode cX12_writeWith 17 = .ok (.iconst 0, 1) := kDec_at dA352_cX12_writeWith 10 rfl
theorem dX12_writeWith_18 : decode cX12_writeWith 18 = .ok (.iaload, 1) := kDec_at dA352_cX12_writeWith 11 rfl
theorem dX12_writeWith_19 : decode cX12_writeWith 19 = .ok (.if_icmp .ge 64, 3) := kDec_at dA352_cX12_writeWith 12 rfl
theorem dX12_writeWith_83 : decode cX12_writeWith 83 = .ok (.iconst 1, 1) := kDec_at dA352_cX12_writeWith 13 rfl
theorem dX12_writeWith_84 : decode cX12_writeWith 84 = .ok (.ireturn, 1) := kDec_at dA352_cX12_writeWith 14 rfl
theorem dX12_writeWith_22 : decode cX12_writeWith 22 = .ok (.aload_n 0, 1) := kDec_at dA352_cX12_writeWith 15 rfl
theorem dX12_writeWith_23 : decode cX12_writeWith 23 = .ok (.getfield 16, 3) := kDec_at dA352_cX12_writeWith 16 rfl
theorem dX12_writeWith_26 : decode cX12_writeWith 26 = .ok (.iload 5, 2) := kDec_at dA352_cX12_writeWith 17 rfl
theorem dX12_writeWith_28 : decode cX12_writeWith 28 = .ok (.iaload, 1) := kDec_at dA352_cX12_writeWith 18 rfl
theorem dX12_writeWith_29 : decode cX12_writeWith 29 = .ok (.ldc 126, 2) := kDec_at dA352_cX12_writeWith 19 rfl
theorem dX12_writeWith_31 : decode cX12_writeWith 31 = .ok (.if_icmp .ne 23, 3) := kDec_at dA352_cX12_writeWith 20 rfl
theorem dX12_writeWith_54 : decode cX12_writeWith 54 = .ok (.aload_n 0, 1) := kDec_at dA352_cX12_writeWith 21 rfl
theorem dX12_writeWith_55 : decode cX12_writeWith 55 = .ok (.iload_n 1, 1) := kDec_at dA352_cX12_writeWith 22 rfl
theorem dX12_writeWith_56 : decode cX12_writeWith 56 = .ok (.aload_n 0, 1) := kDec_at dA352_cX12_writeWith 23 rfl
set_option maxRecDepth 100000 in
theorem dA353_cX12_writeWith : kDec cX12_writeWith [(57, .getfield 16, 3), (60, .iload 5, 2), (62, .iaload, 1), (63, .invokevirtual 98, 3), (66, .ifCond .ne 11, 3), (77, .iinc 5 1, 3), (80, .goto (-69), 3), (69, .aload_n 0, 1), (70, .iload 5, 2), (72, .putfield 102, 3), (75, .iconst 0, 1), (76, .ireturn, 1), (34, .aload_n 0, 1), (35, .iload 4, 2), (37, .ifCond .eq 7, 3), (44, .iload_n 3, 1), (45, .invokevirtual 94, 3), (48, .iconst 0, 1), (49, .istore 4, 2), (51, .goto 26, 3), (40, .iload_n 2, 1), (41, .goto 4, 3)] = true := by decide +kernel
theorem dX12_writeWith_57 : decode cX12_writeWith 57 = .ok (.getfield 16, 3) := kDec_at dA353_cX12_writeWith 0 rfl
theorem dX12_writeWith_60 : decode cX12_writeWith 60 = .ok (.iload 5, 2) := kDec_at dA353_cX12_writeWith 1 rfl
theorem dX12_writeWith_62 : decode cX12_writeWith 62 = .ok (.iaload, 1) := kDec_at dA353_cX12_writeWith 2 rfl
theorem dX12_writeWith_63 : decode cX12_writeWith 63 = .ok (.invokevirtual 98, 3) := kDec_at dA353_cX12_writeWith 3 rfl
theorem dX12_writeWith_66 : decode cX12_writeWith 66 = .ok (.ifCond .ne 11, 3) := kDec_at dA353_cX12_writeWith 4 rfl
theorem dX12_writeWith_77 : decode cX12_writeWith 77 = .ok (.iinc 5 1, 3) := kDec_at dA353_cX12_writeWith 5 rfl
theorem dX12_writeWith_80 : decode cX12_writeWith 80 = .ok (.goto (-69), 3) := kDec_at dA353_cX12_writeWith 6 rfl
theorem dX12_writeWith_69 : decode cX12_writeWith 69 = .ok (.aload_n 0, 1) := kDec_at dA353_cX12_writeWith 7 rfl
theorem dX12_writeWith_70 : decode cX12_writeWith 70 = .ok (.iload 5, 2) := kDec_at dA353_cX12_writeWith 8 rfl
theorem dX12_writeWith_72 : decode cX12_writeWith 72 = .ok (.putfield 102, 3) := kDec_at dA353_cX12_writeWith 9 rfl
theorem dX12_writeWith_75 : decode cX12_writeWith 75 = .ok (.iconst 0, 1) := kDec_at dA353_cX12_writeWith 10 rfl
theorem dX12_writeWith_76 : decode cX12_writeWith 76 = .ok (.ireturn, 1) := kDec_at dA353_cX12_writeWith 11 rfl
theorem dX12_writeWith_34 : decode cX12_writeWith 34 = .ok (.aload_n 0, 1) := kDec_at dA353_cX12_writeWith 12 rfl
theorem dX12_writeWith_35 : decode cX12_writeWith 35 = .ok (.iload 4, 2) := kDec_at dA353_cX12_writeWith 13 rfl
theorem dX12_writeWith_37 : decode cX12_writeWith 37 = .ok (.ifCond .eq 7, 3) := kDec_at dA353_cX12_writeWith 14 rfl
theorem dX12_writeWith_44 : decode cX12_writeWith 44 = .ok (.iload_n 3, 1) := kDec_at dA353_cX12_writeWith 15 rfl
theorem dX12_writeWith_45 : decode cX12_writeWith 45 = .ok (.invokevirtual 94, 3) := kDec_at dA353_cX12_writeWith 16 rfl
theorem dX12_writeWith_48 : decode cX12_writeWith 48 = .ok (.iconst 0, 1) := kDec_at dA353_cX12_writeWith 17 rfl
theorem dX12_writeWith_49 : decode cX12_writeWith 49 = .ok (.istore 4, 2) := kDec_at dA353_cX12_writeWith 18 rfl
theorem dX12_writeWith_51 : decode cX12_writeWith 51 = .ok (.goto 26, 3) := kDec_at dA353_cX12_writeWith 19 rfl
theorem dX12_writeWith_40 : decode cX12_writeWith 40 = .ok (.iload_n 2, 1) := kDec_at dA353_cX12_writeWith 20 rfl
theorem dX12_writeWith_41 : decode cX12_writeWith 41 = .ok (.goto 4, 3) := kDec_at dA353_cX12_writeWith 21 rfl
set_option maxRecDepth 20000 in
theorem ggX12_writeWith_X12_writeLetter : GoodIn wsX12_writeWith wsX12_writeLetter := goodIn_sub (fun _ h => List.mem_cons_of_mem _ (List.mem_append_right _ (h))) gX12_writeLetter_all
set_option maxRecDepth 20000 in
theorem gX12_writeWith_X12_writeLetter : GoodIn wsX12_writeWith (wsV RX12 98 RX12 yX12_writeLetter wsX12_writeLetter) := goodIn_app (goodIn_r _ [10, 11, 12, 9] rfl (by decide +kernel)) ggX12_writeWith_X12_writeLetter
set_option maxRecDepth 20000 in
theorem ggX12_writeWith_X12_put : GoodIn wsX12_writeWith wsX12_put := goodIn_sub (fun _ h => List.mem_cons_of_mem _ (List.mem_append_left _ (List.mem_append_right _ (h)))) gX12_put_all
set_option maxRecDepth 20000 in
theorem gX12_writeWith_X12_put : GoodIn wsX12_writeWith (wsV RX12 94 RX12 yX12_put wsX12_put) := goodIn_app (goodIn_r _ [6, 7, 8, 9] rfl (by decide +kernel)) ggX12_writeWith_X12_put
set_option maxRecDepth 100000 in
theorem dA354_cX12_isAlone : kDec cX12_isAlone [(0, .aload_n 0, 1), (1, .getfield 58, 3), (4, .iconst 0, 1), (5, .iload_n 2, 1), (6, .iastore, 1), (7, .aload_n 0, 1), (8, .iconst 1, 1), (9, .putfield 91, 3), (12, .aload_n 0, 1), (13, .iload_n 1, 1), (14, .iconst 0, 1), (15, .invokevirtual 122, 3), (18, .ifCond .le 7, 3), (25, .iconst 0, 1), (26, .ireturn, 1), (21, .iconst 1, 1), (22, .goto 4, 3)] = true := by decide +kernel
theorem dX12_isAlone_0 : decode cX12_isAlone 0 = .ok (.aload_n 0, 1) := kDec_at dA354_cX12_isAlone 0 rfl
theorem dX12_isAlone_1 : decode cX12_isAlone 1 = .ok (.getfield 58, 3) := kDec_at dA354_cX12_isAlone 1 rfl
theorem dX12_isAlone_4 : decode cX12_isAlone 4 = .ok (.iconst 0, 1) := kDec_at dA354_cX12_isAlone 2 rfl
theorem dX12_isAlone_5 : decode cX12_isAlone 5 = .ok (.iload_n 2, 1) := kDec_at dA354_cX12_isAlone 3 rfl
theorem dX12_isAlone_6 : decode cX12_isAlone 6 = .ok (.iastore, 1) := kDec_at dA354_cX12_isAlone 4 rfl
theorem dX12_isAlone_7 : decode cX12_isAlone 7 = .ok (.aload_n 0, 1) := kDec_at dA354_cX12_isAlone 5 rfl
theorem dX12_isAlone_8 : decode cX12_isAlone 8 = .ok (.iconst 1, 1) := kDec_at dA354_cX12_isAlone 6 rfl
theorem dX12_isAlone_9 : decode cX12_isAlone 9 = .ok (.putfield 91, 3) := kDec_at dA354_cX12_isAlone 7 rfl
theorem dX12_isAlone_12 : decode cX12_isAlone 12 = .ok (.aload_n 0, 1) := kDec_at dA354_cX12_isAlone 8 rfl
theorem dX12_isAlone_13 : decode cX12_isAlone 13 = .ok (.iload_n 1, 1) := kDec_at dA354_cX12_isAlone 9 rfl
theorem dX12_isAlone_14 : decode cX12_isAlone 14 = .ok (.iconst 0, 1) := kDec_at dA354_cX12_isAlone 10 rfl
theorem dX12_isAlone_15 : decode cX12_isAlone 15 = .ok (.invokevirtual 122, 3) := kDec_at dA354_cX12_isAlone 11 rfl
theorem dX12_isAlone_18 : decode cX12_isAlone 18 = .ok (.ifCond .le 7, 3) := kDec_at dA354_cX12_isAlone 12 rfl
theorem dX12_isAlone_25 : decode cX12_isAlone 25 = .ok (.iconst 0, 1) := kDec_at dA354_cX12_isAlone 13 rfl
theorem dX12_isAlone_26 : decode cX12_isAlone 26 = .ok (.ireturn, 1) := kDec_at dA354_cX12_isAlone 14 rfl
theorem dX12_isAlone_21 : decode cX12_isAlone 21 = .ok (.iconst 1, 1) := kDec_at dA354_cX12_isAlone 15 rfl
theorem dX12_isAlone_22 : decode cX12_isAlone 22 = .ok (.goto 4, 3) := kDec_at dA354_cX12_isAlone 16 rfl
set_option maxRecDepth 20000 in
theorem ggX12_isAlone_X12_readAt : GoodIn wsX12_isAlone wsX12_readAt := goodIn_sub (fun _ h => List.mem_cons_of_mem _ (List.mem_append_right _ (h))) gX12_readAt_all
set_option maxRecDepth 20000 in
theorem gX12_isAlone_X12_readAt : GoodIn wsX12_isAlone (wsV RX12 122 RX12 yX12_readAt wsX12_readAt) := goodIn_app (goodIn_r _ [3, 4, 5, 6] rfl (by decide +kernel)) ggX12_isAlone_X12_readAt
set_option maxRecDepth 100000 in
theorem dA355_cX12_read : kDec cX12_read [(52, .ldc 126, 2), (54, .goto 7, 3), (78, .iconst 1, 1), (79, .goto 5, 3)] = true := by decide +kernel
theorem dX12_read_52 : decode cX12_read 52 = .ok (.ldc 126, 2) := kDec_at dA355_cX12_read 0 rfl
theorem dX12_read_54 : decode cX12_read 54 = .ok (.goto 7, 3) := kDec_at dA355_cX12_read 1 rfl
theorem dX12_read_78 : decode cX12_read 78 = .ok (.iconst 1, 1) := kDec_at dA355_cX12_read 2 rfl
theorem dX12_read_79 : decode cX12_read 79 = .ok (.goto 5, 3) := kDec_at dA355_cX12_read 3 rfl

end

/-! 5q.chs -/
section
set_option maxHeartbeats 40000000 in
set_option maxRecDepth 100000 in
theorem f_X12_writeWith (l : Launch) (dC : Nat → ClassId) (dI : Nat → Nat → Nat) (cI cS : ClassId) (sz : Nat) (oM : Nat) (mT : Nat) (mS : Nat) (mX : Nat) (mL : Nat) (mB : Nat) (mD : Nat) (m1 : Nat) (m2 : Nat) (mR : Nat) (x1 : Nat) (x2 : Nat) (x3 : Nat) (mH : Nat) (mY : Nat) (mE : Nat) (mW : Nat) (mO : Nat) (y1 : Nat) (y2 : Nat) (y3 : Nat) (y4 : Nat) (mZ : Nat) (zt : Int32) (zp : Int32) (zf : Int32) (zh : Int32) (zr : Int32) (zc : Int32) (zy : Int32) (za : Int32) (zb : Int32) (zs : Int32) (zq : Int32) (zw : Int32) (ze : Int32) (zn : Int32) (zm : Int32) (zl : Int32) (zk : Int32) (zd : Int32) (eY : Nat → Int32) (eB : Nat → Int32) (eS : Nat → Int32) (eX : Nat → Int32) (cd : Int32) (on : Int32) (tw : Int32) (g_zt : 0 ≤ zt.toInt ∧ zt.toInt ≤ 900) (g_zp : 0 ≤ zp.toInt ∧ zp.toInt ≤ 20) (g_zf : 0 ≤ zf.toInt ∧ zf.toInt ≤ 19) (g_zh : 0 ≤ zh.toInt ∧ zh.toInt ≤ 6) (g_zr : 0 ≤ zr.toInt ∧ zr.toInt ≤ 258) (g_zc : 0 ≤ zc.toInt ∧ zc.toInt ≤ 300) (g_zy : 0 ≤ zy.toInt ∧ zy.toInt ≤ 65536) (g_za : 0 ≤ za.toInt ∧ za.toInt ≤ 5) (g_zb : 0 ≤ zb.toInt ∧ zb.toInt ≤ 5) (g_zs : 0 ≤ zs.toInt ∧ zs.toInt ≤ 2000000) (g_zq : -1 ≤ zq.toInt ∧ zq.toInt ≤ 2000000) (g_zn : 0 ≤ zn.toInt ∧ zn.toInt ≤ 2600) (g_zm : 0 ≤ zm.toInt ∧ zm.toInt ≤ 2600) (g_zk : 0 ≤ zk.toInt ∧ zk.toInt ≤ 300) (g_eY : rg 0 255 eY) (g_eB : rg (-1) 255 eB) (g_eS : rg 0 300 eS) (g_eX : rg 0 65535 eX) (g_cd : 0 ≤ cd.toInt ∧ cd.toInt ≤ 5) (g_on : 0 ≤ on.toInt ∧ on.toInt ≤ 255) (g_tw : -1 ≤ tw.toInt ∧ tw.toInt ≤ 255) (hmkb : mkB eX (eS 0).toInt.toNat ≤ 1 ∨ 0 ≤ tw.toInt) : kMi l yX12_writeWith wsX12_writeWith ({ frames := 2, cells := 0, slots := 0, locals := 44 } : Room) [.ref oM, .int cd, .int on, .int tw] sz (dC, dI) vwCl [(cI, .int), (cS, .short)] [(oM, .inr (12, [.ref mT, .int zt, .ref mS, .ref mX, .int zp, .int zf, .ref mL, .ref mB, .ref mD, .ref m1, .ref m2, .int zh, .ref mR, .int zr, .ref x1, .ref x2, .ref x3, .int zc, .ref mH, .int zy, .int za, .int zb, .int zs, .int zq, .int zw, .int ze, .ref mY, .int zn, .ref mE, .int zm, .int zl, .ref mW, .int zk, .ref mO, .int zd, .ref y1, .ref y2, .ref y3, .ref y4, .ref mZ])), (mY, .inl (cI, 2600, .inl eY)), (mB, .inl (cS, 131072, .inl eB)), (mS, .inl (cI, 21, .inl eS)), (mX, .inl (cI, 6300, .inl eX))] (fun _ => True) 0 0 (fun (A : Nat → Prop) (r : Int32) (hh9 : Heap) => ∀ PZ9 : Prop, (∀ (zn' : Int32) (eY' : Nat → Int32) (zl' : Int32), kPD (dC, dI) vwCl A [(oM, .inr (12, [.ref mT, .int zt, .ref mS, .ref mX, .int zp, .int zf, .ref mL, .ref mB, .ref mD, .ref m1, .ref m2, .int zh, .ref mR, .int zr, .ref x1, .ref x2, .ref x3, .int zc, .ref mH, .int zy, .int za, .int zb, .int zs, .int zq, .int zw, .int ze, .ref mY, .int zn', .ref mE, .int zm, .int zl', .ref mW, .int zk, .ref mO, .int zd, .ref y1, .ref y2, .ref y3, .ref y4, .ref mZ])), (mY, .inl (cI, 2600, .inl eY')), (mB, .inl (cS, 131072, .inl eB)), (mS, .inl (cI, 21, .inl eS)), (mX, .inl (cI, 6300, .inl eX))] hh9 → (0 ≤ zn'.toInt ∧ zn'.toInt ≤ 2600) → (rg 0 255 eY') → (0 ≤ r.toInt ∧ r.toInt ≤ 1) → (zn'.toInt ≤ 8 * (eS 0).toInt ∨ r.toInt = 0) → (F_ww r cd (Br cd eB) eX on.toInt tw.toInt (eS 0).toInt.toNat zn' eY') → PZ9) → PZ9) := by
  refine kMi_of (cc := cX12_writeWith) (maxL := 6) (ret := (some .boolean)) (lv := [(0, .ref oM), (1, .int cd), (2, .int on), (3, .int tw)]) (by decide +kernel) rfl rfl (Nat.le_of_ble_eq_true rfl) ?_
  intro p e s m below meth c A QQ ls hx hb hr hts hml hown hlocks hA hQQ hK hX hP hD hS hl
  have hown : s.vm.findClass RX12 = some m.cls := hown
  have hcf := k_cf hx hb hml hown hts
  have in_X12 : ∀ w ∈ wsX120, w ∈ wsX12_writeWith := fun _ h => List.mem_cons_of_mem _ (List.mem_append_left _ (List.mem_append_left _ (List.mem_append_right _ (h))))
  replace g_zt := hid g_zt
  replace g_zp := hid g_zp
  replace g_zf := hid g_zf
  replace g_zh := hid g_zh
  replace g_zr := hid g_zr
  replace g_zc := hid g_zc
  replace g_zy := hid g_zy
  replace g_za := hid g_za
  replace g_zb := hid g_zb
  replace g_zs := hid g_zs
  replace g_zq := hid g_zq
  replace g_zn := hid g_zn
  replace g_zm := hid g_zm
  replace g_zk := hid g_zk
  have z0 : (0 : Int32).toInt = 0 := rfl
  have z1 : (1 : Int32).toInt = 1 := rfl
  have zm1 : (-1 : Int32).toInt = -1 := rfl
  have gS0 := g_eS 0
  refine lv_aload_n hx hb dX12_writeWith_0 rfl (lv_at hl 0 rfl) ?_
  refine lv_iconst (v := 0) hx hb dX12_writeWith_1 (by decide) ?_
  refine va_put (D := (dC, dI)) (ci := 12) (v := .int 0) (ty := .int) (C := RX12) (T := TX12) (N := 40) hx hb hts in_X12 tyX12 tyX12_ok nmX12 hown hK hP hD hS 0 rfl rfl 27 (Nat.le_of_ble_eq_true rfl) (hts (.fieldLink RX12 91 "TextMenderModel" "byteMany" "I") (List.mem_of_getElem? (i := 1) rfl)) (fun _ h9 => h9) rfl (tyX12_ok 27 (Nat.le_of_ble_eq_true rfl)) rfl rfl (Nat.le_of_ble_eq_true rfl) dX12_writeWith_2 (kW (wn := [(oM, .inr (12, [.ref mT, .int zt, .ref mS, .ref mX, .int zp, .int zf, .ref mL, .ref mB, .ref mD, .ref m1, .ref m2, .int zh, .ref mR, .int zr, .ref x1, .ref x2, .ref x3, .int zc, .ref mH, .int zy, .int za, .int zb, .int zs, .int zq, .int zw, .int ze, .ref mY, .int 0, .ref mE, .int zm, .int zl, .ref mW, .int zk, .ref mO, .int zd, .ref y1, .ref y2, .ref y3, .ref y4, .ref mZ])), (mY, .inl (cI, 2600, .inl eY)), (mB, .inl (cS, 131072, .inl eB)), (mS, .inl (cI, 21, .inl eS)), (mX, .inl (cI, 6300, .inl eX))]) rfl (fun H locs hPn hDn hSn => ?_))
  clear hP hD hS
  have hP := hPn
  have hD := hDn
  have hS := hSn
  clear hPn hDn hSn
  refine lv_iconst (v := 1) hx hb dX12_writeWith_5 (by decide) ?_
  refine lv_istore (lv' := [(4, .int 1), (0, .ref oM), (1, .int cd), (2, .int on), (3, .int tw)]) hx hb dX12_writeWith_6 hl (by decide) rfl (fun ls hl => ?_)
  refine lv_iconst (v := 0) hx hb dX12_writeWith_8 (by decide) ?_
  refine lv_istore (lv' := [(5, .int 0), (4, .int 1), (0, .ref oM), (1, .int cd), (2, .int on), (3, .int tw)]) hx hb dX12_writeWith_9 hl (by decide) rfl (fun ls hl => ?_)
  have LOOP_11 : ∀ (k_11 : Nat) (fi : Int32) (k : Int32) (zna : Int32) (zla : Int32) (eYa : Nat → Int32) (H : Heap) (locs : List Loc) (ls : Array Slot), MSd (300 - k.toInt : Int) k_11 → (0 ≤ fi.toInt ∧ fi.toInt ≤ 1) → (0 ≤ k.toInt ∧ k.toInt ≤ 300) → (0 ≤ zna.toInt ∧ zna.toInt ≤ 8 * k.toInt) → (rg 0 255 eYa) → (k.toInt ≤ (eS 0).toInt) → (WWI cd (Br cd eB) eX on.toInt tw.toInt k.toNatClampNeg zna eYa fi) → va_P (dC, dI) vwCl [(oM, .inr (12, [.ref mT, .int zt, .ref mS, .ref mX, .int zp, .int zf, .ref mL, .ref mB, .ref mD, .ref m1, .ref m2, .int zh, .ref mR, .int zr, .ref x1, .ref x2, .ref x3, .int zc, .ref mH, .int zy, .int za, .int zb, .int zs, .int zq, .int zw, .int ze, .ref mY, .int zna, .ref mE, .int zm, .int zla, .ref mW, .int zk, .ref mO, .int zd, .ref y1, .ref y2, .ref y3, .ref y4, .ref mZ])), (mY, .inl (cI, 2600, .inl eYa)), (mB, .inl (cS, 131072, .inl eB)), (mS, .inl (cI, 21, .inl eS)), (mX, .inl (cI, 6300, .inl eX))] H → va_D A [(oM, .inr (12, [.ref mT, .int zt, .ref mS, .ref mX, .int zp, .int zf, .ref mL, .ref mB, .ref mD, .ref m1, .ref m2, .int zh, .ref mR, .int zr, .ref x1, .ref x2, .ref x3, .int zc, .ref mH, .int zy, .int za, .int zb, .int zs, .int zq, .int zw, .int ze, .ref mY, .int zna, .ref mE, .int zm, .int zla, .ref mW, .int zk, .ref mO, .int zd, .ref y1, .ref y2, .ref y3, .ref y4, .ref mZ])), (mY, .inl (cI, 2600, .inl eYa)), (mB, .inl (cS, 131072, .inl eB)), (mS, .inl (cI, 21, .inl eS)), (mX, .inl (cI, 6300, .inl eX))] → va_S A s.heap H locs → lv_has ls 6 [(5, .int k), (4, .int fi), (0, .ref oM), (1, .int cd), (2, .int on), (3, .int tw)] → W p l e (headSpec wsX12_writeWith ({ frames := 2, cells := 0, slots := 0, locals := 44 } : Room)).room s m ([.ref oM, .int cd, .int on, .int tw] : List Value).toArray below meth c H locs 0 0 (MQ below QQ ([.ref oM, .int cd, .int on, .int tw] : List Value).toArray s 0 0 A) (F0 m 11 ls []) := by
    clear hP hD hS hl
    intro k_11
    induction k_11 with
    | zero =>
      intro fi k zna zla eYa H locs ls hm_11 g_fi g_k g_zna g_eYa hks hww hP hD hS hl
      exact ms_0 hm_11
    | succ k_11 ih_11 =>
      intro fi k zna zla eYa H locs ls hm_11 g_fi g_k g_zna g_eYa hks hww hP hD hS hl
      refine lv_iload hx hb dX12_writeWith_11 (lv_at hl 0 rfl) ?_
      refine lv_aload_n hx hb dX12_writeWith_13 rfl (lv_at hl 2 rfl) ?_
      refine va_get (D := (dC, dI)) (ci := 12) (v := .ref mS) (C := RX12) (T := TX12) (N := 40) hx hb hts in_X12 hown hK hP 0 rfl rfl 2 (Nat.le_of_ble_eq_true rfl) (hts (.fieldLink RX12 13 "TextMenderModel" "sizes" "[I") (List.mem_of_getElem? (i := 2) rfl)) (fun _ h9 => h9) rfl dX12_writeWith_14 ?_
      refine lv_iconst (v := 0) hx hb dX12_writeWith_17 (by decide) ?_
      refine va_iald hx hb hK hP 3 0 rfl rfl (by unfold vp_in; decide) dX12_writeWith_18 ?_
      refine lv_topi (fun x_1 ex_1 => ?_)
      have tx_1 : 0 ≤ x_1.toInt ∧ x_1.toInt ≤ 300 := rg_at g_eS ex_1
      have hs9 : x_1.toInt = (eS 0).toInt := by rw [ex_1]; rfl
      refine lv_icmp_ge (tgt := 83) hx hb dX12_writeWith_19 (by decide) (fun c_2 => ?_) (fun c_2 => ?_)
      · have tc_2 : x_1.toInt ≤ k.toInt := v_le c_2
        refine lv_iconst (v := 1) hx hb dX12_writeWith_83 (by decide) ?_
        exact kl_z (v := 1) hQQ hx hb hr hlocks hS dX12_writeWith_84 (rfl) (fun PZ9 kZ9 => kZ9 zna eYa zla (⟨hP, hD⟩) (by omega) (g_eYa) (by decide) (by show zna.toInt ≤ 8 * (eS 0).toInt ∨ 1 = 0; omega) (WW_e hww (by have c8 := v_clamp (x := k) (by omega); omega) rfl))
      · have tc_2 : k.toInt < x_1.toInt := v_nle c_2
        have ck9 := v_clamp (x := k) (by omega)
        refine lv_aload_n hx hb dX12_writeWith_22 rfl (lv_at hl 2 rfl) ?_
        refine va_get (D := (dC, dI)) (ci := 12) (v := .ref mX) (C := RX12) (T := TX12) (N := 40) hx hb hts in_X12 hown hK hP 0 rfl rfl 3 (Nat.le_of_ble_eq_true rfl) (hts (.fieldLink RX12 16 "TextMenderModel" "texts" "[I") (List.mem_of_getElem? (i := 3) rfl)) (fun _ h9 => h9) rfl dX12_writeWith_23 ?_
        refine lv_iload hx hb dX12_writeWith_26 (lv_at hl 0 rfl) ?_
        refine va_iald hx hb hK hP 4 0 rfl rfl (v_inR g_k (by decide) (by decide)) dX12_writeWith_28 ?_
        refine lv_topi (fun x_3 ex_3 => ?_)
        have tx_3 : 0 ≤ x_3.toInt ∧ x_3.toInt ≤ 65535 := rg_at g_eX ex_3
        refine lv_ldc hx hb hown (hts (.constant RX12 126 (65533)) (List.mem_of_getElem? (i := 4) rfl)) dX12_writeWith_29 ?_
        refine lv_icmp_ne (tgt := 54) hx hb dX12_writeWith_31 (by decide) (fun c_4 => ?_) (fun c_4 => ?_)
        · have tc_4 : ¬ x_3.toInt = 65533 := v_ne c_4
          refine lv_aload_n hx hb dX12_writeWith_54 rfl (lv_at hl 2 rfl) ?_
          refine lv_iload_n hx hb dX12_writeWith_55 rfl (lv_at hl 3 rfl) ?_
          refine lv_aload_n hx hb dX12_writeWith_56 rfl (lv_at hl 2 rfl) ?_
          refine va_get (D := (dC, dI)) (ci := 12) (v := .ref mX) (C := RX12) (T := TX12) (N := 40) hx hb hts in_X12 hown hK hP 0 rfl rfl 3 (Nat.le_of_ble_eq_true rfl) (hts (.fieldLink RX12 16 "TextMenderModel" "texts" "[I") (List.mem_of_getElem? (i := 3) rfl)) (fun _ h9 => h9) rfl dX12_writeWith_57 ?_
          refine lv_iload hx hb dX12_writeWith_60 (lv_at hl 0 rfl) ?_
          refine va_iald hx hb hK hP 4 0 rfl rfl (v_inR g_k (by decide) (by decide)) dX12_writeWith_62 ?_
          refine k_i (y := x_3) ex_3.symm ?_
          refine kV_i (rest := []) (q0 := 0) (ci := 12) hcf (f_X12_writeLetter l dC dI cI cS H.size oM mT mS mX mL mB mD m1 m2 mR x1 x2 x3 mH mY mE mW mO y1 y2 y3 y4 mZ zt zp zf zh zr zc zy za zb zs zq zw ze zna zm zla zk zd eYa eB cd x_3 (g_zt) (g_zp) (g_zf) (g_zh) (g_zr) (g_zc) (g_zy) (g_za) (g_zb) (g_zs) (g_zq) (by omega) (g_zm) (g_zk) (g_eYa) (g_eB) (g_cd) (v_rr tx_3 (by decide) (by decide)) (by omega)) kc_X12_writeLetter gX12_writeWith_X12_writeLetter rfl rfl rfl ⟨Nat.le_of_ble_eq_true rfl, Nat.le_of_ble_eq_true rfl⟩ kX_t hK hP hD hS hA [0, 1, 2] [3, 4] rfl (by decide +kernel) rfl rfl rfl hl rfl (Nat.le_of_ble_eq_true rfl) dX12_writeWith_63 ⟨Nat.le_of_ble_eq_true rfl, Nat.le_of_ble_eq_true rfl⟩ (fun r_5 H locs hB hJ hSn => ?_)
          refine hB _ (fun zn_5 eY_5 hPD9 hf5_0 hf5_1 hf5_2 hf5_3 hf5_4 => ?_)
          clear hB
          obtain ⟨hPn, hDn⟩ := hJ _ hPD9.1 hPD9.2 [(mS, .inl (cI, 21, .inl eS)), (mX, .inl (cI, 6300, .inl eX)), (oM, .inr (12, [.ref mT, .int zt, .ref mS, .ref mX, .int zp, .int zf, .ref mL, .ref mB, .ref mD, .ref m1, .ref m2, .int zh, .ref mR, .int zr, .ref x1, .ref x2, .ref x3, .int zc, .ref mH, .int zy, .int za, .int zb, .int zs, .int zq, .int zw, .int ze, .ref mY, .int zn_5, .ref mE, .int zm, .int zla, .ref mW, .int zk, .ref mO, .int zd, .ref y1, .ref y2, .ref y3, .ref y4, .ref mZ])), (mY, .inl (cI, 2600, .inl eY_5)), (mB, .inl (cS, 131072, .inl eB))] rfl
          clear hP hD hS hJ hPD9
          have hP := hPn
          have hD := hDn
          have hS := hSn
          clear hPn hDn hSn
          refine lv_if_ne (tgt := 77) hx hb dX12_writeWith_66 (by decide) (fun c_6 => ?_) (fun c_6 => ?_)
          · have tc_6 : ¬ r_5.toInt = 0 := v_ne c_6
            obtain ⟨x_7, ex_7⟩ : ∃ y : Int32, y = k + 1 := ⟨_, rfl⟩
            have tx_7 : x_7.toInt = k.toInt + 1 := v_addR (l2 := 1) (h2 := 1) ex_7 g_k (by decide) (by decide) (by decide)
            refine lv_iinc (v := x_7) (lv' := [(5, .int x_7), (4, .int fi), (0, .ref oM), (1, .int cd), (2, .int on), (3, .int tw)]) hx hb dX12_writeWith_77 hl (k := 0) rfl (by rw [ex_7]; rfl) (by decide) rfl (fun ls hl => ?_)
            refine lv_goto (tgt := 11) hx hb dX12_writeWith_80 (by decide) ?_
            exact ih_11 fi x_7 zn_5 zla eY_5 _ _ _ (ms_lt hm_11 (by show ((300 - x_7.toInt : Int)) < 300 - k.toInt; omega) (by show (0 : Int) < 300 - k.toInt; omega)) (g_fi) (by show 0 ≤ x_7.toInt ∧ x_7.toInt ≤ 300; omega) (by show 0 ≤ zn_5.toInt ∧ zn_5.toInt ≤ 8 * x_7.toInt; omega) (hf5_1) (by show x_7.toInt ≤ (eS 0).toInt; omega) (WW_n hww (fun e9 => c_4 (ex_3.trans e9)) ex_3 (by rw [← ex_3]) hf5_4 (by omega) (by rw [ix_eq (x := x_7) (N := k.toNatClampNeg + 1) (by omega)])) (hP.sub [2, 3, 4, 0, 1] rfl) (hD.sub [2, 3, 4, 0, 1] (by decide +kernel) rfl) hS (lv_sub hl [0, 1, 2, 3, 4, 5] rfl)
          · have tc_6 : r_5.toInt = 0 := v_eq c_6
            refine lv_aload_n hx hb dX12_writeWith_69 rfl (lv_at hl 2 rfl) ?_
            refine lv_iload hx hb dX12_writeWith_70 (lv_at hl 0 rfl) ?_
            refine va_put (D := (dC, dI)) (ci := 12) (v := .int k) (ty := .int) (C := RX12) (T := TX12) (N := 40) hx hb hts in_X12 tyX12 tyX12_ok nmX12 hown hK hP hD hS 2 rfl rfl 30 (Nat.le_of_ble_eq_true rfl) (hts (.fieldLink RX12 102 "TextMenderModel" "faultAt" "I") (List.mem_of_getElem? (i := 5) rfl)) (fun _ h9 => h9) rfl (tyX12_ok 30 (Nat.le_of_ble_eq_true rfl)) rfl rfl (Nat.le_of_ble_eq_true rfl) dX12_writeWith_72 (kW (wn := [(mS, .inl (cI, 21, .inl eS)), (mX, .inl (cI, 6300, .inl eX)), (oM, .inr (12, [.ref mT, .int zt, .ref mS, .ref mX, .int zp, .int zf, .ref mL, .ref mB, .ref mD, .ref m1, .ref m2, .int zh, .ref mR, .int zr, .ref x1, .ref x2, .ref x3, .int zc, .ref mH, .int zy, .int za, .int zb, .int zs, .int zq, .int zw, .int ze, .ref mY, .int zn_5, .ref mE, .int zm, .int k, .ref mW, .int zk, .ref mO, .int zd, .ref y1, .ref y2, .ref y3, .ref y4, .ref mZ])), (mY, .inl (cI, 2600, .inl eY_5)), (mB, .inl (cS, 131072, .inl eB))]) rfl (fun H locs hPn hDn hSn => ?_))
            clear hP hD hS
            have hP := hPn
            have hD := hDn
            have hS := hSn
            clear hPn hDn hSn
            refine lv_iconst (v := 0) hx hb dX12_writeWith_75 (by decide) ?_
            exact kl_z (v := 0) hQQ hx hb hr hlocks hS dX12_writeWith_76 (rfl) (fun PZ9 kZ9 => kZ9 zn_5 eY_5 k (kPD_sub hP hD [2, 3, 4, 0, 1] (by decide +kernel) rfl) (hf5_0) (hf5_1) (by decide) (by show zn_5.toInt ≤ 8 * (eS 0).toInt ∨ 0 = 0; omega) (WW_f (fun e9 => c_4 (ex_3.trans e9)) ex_3 (by rw [← ex_3]) hf5_4 (by omega) rfl (by omega)))
        · have tc_4 : x_3.toInt = 65533 := v_eq c_4
          refine lv_aload_n hx hb dX12_writeWith_34 rfl (lv_at hl 2 rfl) ?_
          refine lv_iload hx hb dX12_writeWith_35 (lv_at hl 1 rfl) ?_
          refine lv_if_eq (tgt := 44) hx hb dX12_writeWith_37 (by decide) (fun c_8 => ?_) (fun c_8 => ?_)
          · have tc_8 : fi.toInt = 0 := v_eq c_8
            refine lv_iload_n hx hb dX12_writeWith_44 rfl (lv_at hl 5 rfl) ?_
            refine kV_v (rest := []) (q0 := 0) (ci := 12) hcf (f_X12_put l dC dI cI cS H.size oM mT mS mX mL mB mD m1 m2 mR x1 x2 x3 mH mY mE mW mO y1 y2 y3 y4 mZ zt zp zf zh zr zc zy za zb zs zq zw ze zna zm zla zk zd eYa tw (g_zt) (g_zp) (g_zf) (g_zh) (g_zr) (g_zc) (g_zy) (g_za) (g_zb) (g_zs) (g_zq) (by omega) (g_zm) (g_zk) (g_eYa) (⟨ww_tw hww (by omega) (by rw [← ex_3]; exact c_4) (by omega) hmkb, by omega⟩) (by omega)) kc_X12_put gX12_writeWith_X12_put rfl rfl rfl ⟨Nat.le_of_ble_eq_true rfl, Nat.le_of_ble_eq_true rfl⟩ kX_t hK hP hD hS hA [0, 1] [2, 3, 4] rfl (by decide +kernel) rfl rfl rfl hl rfl (Nat.le_of_ble_eq_true rfl) dX12_writeWith_45 ⟨Nat.le_of_ble_eq_true rfl, Nat.le_of_ble_eq_true rfl⟩ (fun H locs hB hJ hSn => ?_)
            refine hB _ (fun zn_9 eY_9 hPD9 hf9_0 hf9_1 hf9_2 hf9_3 => ?_)
            clear hB
            obtain ⟨hPn, hDn⟩ := hJ _ hPD9.1 hPD9.2 [(mB, .inl (cS, 131072, .inl eB)), (mS, .inl (cI, 21, .inl eS)), (mX, .inl (cI, 6300, .inl eX)), (oM, .inr (12, [.ref mT, .int zt, .ref mS, .ref mX, .int zp, .int zf, .ref mL, .ref mB, .ref mD, .ref m1, .ref m2, .int zh, .ref mR, .int zr, .ref x1, .ref x2, .ref x3, .int zc, .ref mH, .int zy, .int za, .int zb, .int zs, .int zq, .int zw, .int ze, .ref mY, .int zn_9, .ref mE, .int zm, .int zla, .ref mW, .int zk, .ref mO, .int zd, .ref y1, .ref y2, .ref y3, .ref y4, .ref mZ])), (mY, .inl (cI, 2600, .inl eY_9))] rfl
            clear hP hD hS hJ hPD9
            have hP := hPn
            have hD := hDn
            have hS := hSn
            clear hPn hDn hSn
            refine lv_iconst (v := 0) hx hb dX12_writeWith_48 (by decide) ?_
            refine lv_istore (lv' := [(4, .int 0), (5, .int k), (0, .ref oM), (1, .int cd), (2, .int on), (3, .int tw)]) hx hb dX12_writeWith_49 hl (by decide) rfl (fun ls hl => ?_)
            refine lv_goto (tgt := 77) hx hb dX12_writeWith_51 (by decide) ?_
            obtain ⟨x_10, ex_10⟩ : ∃ y : Int32, y = k + 1 := ⟨_, rfl⟩
            have tx_10 : x_10.toInt = k.toInt + 1 := v_addR (l2 := 1) (h2 := 1) ex_10 g_k (by decide) (by decide) (by decide)
            refine lv_iinc (v := x_10) (lv' := [(5, .int x_10), (4, .int 0), (0, .ref oM), (1, .int cd), (2, .int on), (3, .int tw)]) hx hb dX12_writeWith_77 hl (k := 1) rfl (by rw [ex_10]; rfl) (by decide) rfl (fun ls hl => ?_)
            refine lv_goto (tgt := 11) hx hb dX12_writeWith_80 (by decide) ?_
            exact ih_11 0 x_10 zn_9 zla eY_9 _ _ _ (ms_lt hm_11 (by show ((300 - x_10.toInt : Int)) < 300 - k.toInt; omega) (by show (0 : Int) < 300 - k.toInt; omega)) (by decide) (by show 0 ≤ x_10.toInt ∧ x_10.toInt ≤ 300; omega) (by show 0 ≤ zn_9.toInt ∧ zn_9.toInt ≤ 8 * x_10.toInt; omega) (hf9_1) (by show x_10.toInt ≤ (eS 0).toInt; omega) (WW_m hww (by rw [← ex_3]; exact c_4) (by omega) hf9_3 (by omega) (by omega) rfl (by rw [ix_eq (x := x_10) (N := k.toNatClampNeg + 1) (by omega)])) (hP.sub [3, 4, 0, 1, 2] rfl) (hD.sub [3, 4, 0, 1, 2] (by decide +kernel) rfl) hS (lv_sub hl [0, 1, 2, 3, 4, 5] rfl)
          · have tc_8 : ¬ fi.toInt = 0 := v_ne c_8
            refine lv_iload_n hx hb dX12_writeWith_40 rfl (lv_at hl 4 rfl) ?_
            refine lv_goto (tgt := 45) hx hb dX12_writeWith_41 (by decide) ?_
            refine kV_v (rest := []) (q0 := 0) (ci := 12) hcf (f_X12_put l dC dI cI cS H.size oM mT mS mX mL mB mD m1 m2 mR x1 x2 x3 mH mY mE mW mO y1 y2 y3 y4 mZ zt zp zf zh zr zc zy za zb zs zq zw ze zna zm zla zk zd eYa on (g_zt) (g_zp) (g_zf) (g_zh) (g_zr) (g_zc) (g_zy) (g_za) (g_zb) (g_zs) (g_zq) (by omega) (g_zm) (g_zk) (g_eYa) (by omega) (by omega)) kc_X12_put gX12_writeWith_X12_put rfl rfl rfl ⟨Nat.le_of_ble_eq_true rfl, Nat.le_of_ble_eq_true rfl⟩ kX_t hK hP hD hS hA [0, 1] [2, 3, 4] rfl (by decide +kernel) rfl rfl rfl hl rfl (Nat.le_of_ble_eq_true rfl) dX12_writeWith_45 ⟨Nat.le_of_ble_eq_true rfl, Nat.le_of_ble_eq_true rfl⟩ (fun H locs hB hJ hSn => ?_)
            refine hB _ (fun zn_11 eY_11 hPD9 hf11_0 hf11_1 hf11_2 hf11_3 => ?_)
            clear hB
            obtain ⟨hPn, hDn⟩ := hJ _ hPD9.1 hPD9.2 [(mB, .inl (cS, 131072, .inl eB)), (mS, .inl (cI, 21, .inl eS)), (mX, .inl (cI, 6300, .inl eX)), (oM, .inr (12, [.ref mT, .int zt, .ref mS, .ref mX, .int zp, .int zf, .ref mL, .ref mB, .ref mD, .ref m1, .ref m2, .int zh, .ref mR, .int zr, .ref x1, .ref x2, .ref x3, .int zc, .ref mH, .int zy, .int za, .int zb, .int zs, .int zq, .int zw, .int ze, .ref mY, .int zn_11, .ref mE, .int zm, .int zla, .ref mW, .int zk, .ref mO, .int zd, .ref y1, .ref y2, .ref y3, .ref y4, .ref mZ])), (mY, .inl (cI, 2600, .inl eY_11))] rfl
            clear hP hD hS hJ hPD9
            have hP := hPn
            have hD := hDn
            have hS := hSn
            clear hPn hDn hSn
            refine lv_iconst (v := 0) hx hb dX12_writeWith_48 (by decide) ?_
            refine lv_istore (lv' := [(4, .int 0), (5, .int k), (0, .ref oM), (1, .int cd), (2, .int on), (3, .int tw)]) hx hb dX12_writeWith_49 hl (by decide) rfl (fun ls hl => ?_)
            refine lv_goto (tgt := 77) hx hb dX12_writeWith_51 (by decide) ?_
            obtain ⟨x_12, ex_12⟩ : ∃ y : Int32, y = k + 1 := ⟨_, rfl⟩
            have tx_12 : x_12.toInt = k.toInt + 1 := v_addR (l2 := 1) (h2 := 1) ex_12 g_k (by decide) (by decide) (by decide)
            refine lv_iinc (v := x_12) (lv' := [(5, .int x_12), (4, .int 0), (0, .ref oM), (1, .int cd), (2, .int on), (3, .int tw)]) hx hb dX12_writeWith_77 hl (k := 1) rfl (by rw [ex_12]; rfl) (by decide) rfl (fun ls hl => ?_)
            refine lv_goto (tgt := 11) hx hb dX12_writeWith_80 (by decide) ?_
            exact ih_11 0 x_12 zn_11 zla eY_11 _ _ _ (ms_lt hm_11 (by show ((300 - x_12.toInt : Int)) < 300 - k.toInt; omega) (by show (0 : Int) < 300 - k.toInt; omega)) (by decide) (by show 0 ≤ x_12.toInt ∧ x_12.toInt ≤ 300; omega) (by show 0 ≤ zn_11.toInt ∧ zn_11.toInt ≤ 8 * x_12.toInt; omega) (hf11_1) (by show x_12.toInt ≤ (eS 0).toInt; omega) (WW_m hww (by rw [← ex_3]; exact c_4) (by omega) hf11_3 (by omega) (by omega) rfl (by rw [ix_eq (x := x_12) (N := k.toNatClampNeg + 1) (by omega)])) (hP.sub [3, 4, 0, 1, 2] rfl) (hD.sub [3, 4, 0, 1, 2] (by decide +kernel) rfl) hS (lv_sub hl [0, 1, 2, 3, 4, 5] rfl)
  exact LOOP_11 _ 1 0 0 zl eY _ _ _ (ms_s _) (by decide) (by decide) (by show 0 ≤ (0 : Int) ∧ (0 : Int) ≤ 8 * 0; omega) (g_eY) (by show 0 ≤ (eS 0).toInt; omega) (WW_0 rfl rfl rfl) hP hD hS (lv_sub hl [0, 1, 2, 3, 4, 5] rfl)

set_option maxHeartbeats 40000000 in
set_option maxRecDepth 100000 in
theorem f_X12_isAlone (l : Launch) (dC : Nat → ClassId) (dI : Nat → Nat → Nat) (cI cS : ClassId) (sz : Nat) (oM : Nat) (mT : Nat) (mS : Nat) (mX : Nat) (mL : Nat) (mB : Nat) (mD : Nat) (m1 : Nat) (m2 : Nat) (mR : Nat) (x1 : Nat) (x2 : Nat) (x3 : Nat) (mH : Nat) (mY : Nat) (mE : Nat) (mW : Nat) (mO : Nat) (y1 : Nat) (y2 : Nat) (y3 : Nat) (y4 : Nat) (mZ : Nat) (zt : Int32) (zp : Int32) (zf : Int32) (zh : Int32) (zr : Int32) (zc : Int32) (zy : Int32) (za : Int32) (zb : Int32) (zs : Int32) (zq : Int32) (zw : Int32) (ze : Int32) (zn : Int32) (zm : Int32) (zl : Int32) (zk : Int32) (zd : Int32) (eY : Nat → Int32) (eL : Nat → Int32) (cd : Int32) (v : Int32) (g_zt : 0 ≤ zt.toInt ∧ zt.toInt ≤ 900) (g_zp : 0 ≤ zp.toInt ∧ zp.toInt ≤ 20) (g_zf : 0 ≤ zf.toInt ∧ zf.toInt ≤ 19) (g_zh : 0 ≤ zh.toInt ∧ zh.toInt ≤ 6) (g_zr : 0 ≤ zr.toInt ∧ zr.toInt ≤ 258) (g_zc : 0 ≤ zc.toInt ∧ zc.toInt ≤ 300) (g_zy : 0 ≤ zy.toInt ∧ zy.toInt ≤ 65536) (g_za : 0 ≤ za.toInt ∧ za.toInt ≤ 5) (g_zb : 0 ≤ zb.toInt ∧ zb.toInt ≤ 5) (g_zs : 0 ≤ zs.toInt ∧ zs.toInt ≤ 2000000) (g_zq : -1 ≤ zq.toInt ∧ zq.toInt ≤ 2000000) (g_zn : 0 ≤ zn.toInt ∧ zn.toInt ≤ 2600) (g_zm : 0 ≤ zm.toInt ∧ zm.toInt ≤ 2600) (g_zk : 0 ≤ zk.toInt ∧ zk.toInt ≤ 300) (g_eY : rg 0 255 eY) (g_eL : rg (-1) 65535 eL) (g_cd : 0 ≤ cd.toInt ∧ cd.toInt ≤ 5) (g_v : 0 ≤ v.toInt ∧ v.toInt ≤ 255) : kMi l yX12_isAlone wsX12_isAlone ({ frames := 2, cells := 0, slots := 0, locals := 47 } : Room) [.ref oM, .int cd, .int v] sz (dC, dI) vwCl [(cI, .int), (cS, .short)] [(oM, .inr (12, [.ref mT, .int zt, .ref mS, .ref mX, .int zp, .int zf, .ref mL, .ref mB, .ref mD, .ref m1, .ref m2, .int zh, .ref mR, .int zr, .ref x1, .ref x2, .ref x3, .int zc, .ref mH, .int zy, .int za, .int zb, .int zs, .int zq, .int zw, .int ze, .ref mY, .int zn, .ref mE, .int zm, .int zl, .ref mW, .int zk, .ref mO, .int zd, .ref y1, .ref y2, .ref y3, .ref y4, .ref mZ])), (mY, .inl (cI, 2600, .inl eY)), (mL, .inl (cI, 512, .inl eL))] (fun _ => True) 0 0 (fun (A : Nat → Prop) (r : Int32) (hh9 : Heap) => ∀ PZ9 : Prop, (∀ (eY' : Nat → Int32) (zn' : Int32) (zd' : Int32), kPD (dC, dI) vwCl A [(oM, .inr (12, [.ref mT, .int zt, .ref mS, .ref mX, .int zp, .int zf, .ref mL, .ref mB, .ref mD, .ref m1, .ref m2, .int zh, .ref mR, .int zr, .ref x1, .ref x2, .ref x3, .int zc, .ref mH, .int zy, .int za, .int zb, .int zs, .int zq, .int zw, .int ze, .ref mY, .int zn', .ref mE, .int zm, .int zl, .ref mW, .int zk, .ref mO, .int zd', .ref y1, .ref y2, .ref y3, .ref y4, .ref mZ])), (mY, .inl (cI, 2600, .inl eY')), (mL, .inl (cI, 512, .inl eL))] hh9 → (rg 0 255 eY') → (0 ≤ zn'.toInt ∧ zn'.toInt ≤ 2600) → (0 ≤ r.toInt ∧ r.toInt ≤ 1) → ((r.toInt = 0 ∧ alF cd v (fun k => eL k) (fun k => eL (256 + k)) = -1) ∨ (¬ r.toInt = 0 ∧ ¬ alF cd v (fun k => eL k) (fun k => eL (256 + k)) = -1)) → PZ9) → PZ9) := by
  refine kMi_of (cc := cX12_isAlone) (maxL := 3) (ret := (some .boolean)) (lv := [(0, .ref oM), (1, .int cd), (2, .int v)]) (by decide +kernel) rfl rfl (Nat.le_of_ble_eq_true rfl) ?_
  intro p e s m below meth c A QQ ls hx hb hr hts hml hown hlocks hA hQQ hK hX hP hD hS hl
  have hown : s.vm.findClass RX12 = some m.cls := hown
  have hcf := k_cf hx hb hml hown hts
  have in_X12 : ∀ w ∈ wsX120, w ∈ wsX12_isAlone := fun _ h => List.mem_cons_of_mem _ (List.mem_append_left _ (List.mem_append_right _ (h)))
  replace g_zt := hid g_zt
  replace g_zp := hid g_zp
  replace g_zf := hid g_zf
  replace g_zh := hid g_zh
  replace g_zr := hid g_zr
  replace g_zc := hid g_zc
  replace g_zy := hid g_zy
  replace g_za := hid g_za
  replace g_zb := hid g_zb
  replace g_zs := hid g_zs
  replace g_zq := hid g_zq
  replace g_zn := hid g_zn
  replace g_zm := hid g_zm
  replace g_zk := hid g_zk
  have z0 : (0 : Int32).toInt = 0 := rfl
  have z1 : (1 : Int32).toInt = 1 := rfl
  have zm1 : (-1 : Int32).toInt = -1 := rfl
  refine lv_aload_n hx hb dX12_isAlone_0 rfl (lv_at hl 0 rfl) ?_
  refine va_get (D := (dC, dI)) (ci := 12) (v := .ref mY) (C := RX12) (T := TX12) (N := 40) hx hb hts in_X12 hown hK hP 0 rfl rfl 26 (Nat.le_of_ble_eq_true rfl) (hts (.fieldLink RX12 58 "TextMenderModel" "bytes" "[I") (List.mem_of_getElem? (i := 1) rfl)) (fun _ h9 => h9) rfl dX12_isAlone_1 ?_
  refine lv_iconst (v := 0) hx hb dX12_isAlone_4 (by decide) ?_
  refine lv_iload_n hx hb dX12_isAlone_5 rfl (lv_at hl 2 rfl) ?_
  obtain ⟨f_1, ef_1⟩ : ∃ g : Nat → Int32, g = upd eY (0 : Int32).toNatClampNeg v := ⟨_, rfl⟩
  refine va_iast hx hb hK hP hD hS 1 0 rfl rfl (by unfold vp_in; decide) dX12_isAlone_6 (kWf (g := f_1) (F := fun f_1 => [(oM, .inr (12, [.ref mT, .int zt, .ref mS, .ref mX, .int zp, .int zf, .ref mL, .ref mB, .ref mD, .ref m1, .ref m2, .int zh, .ref mR, .int zr, .ref x1, .ref x2, .ref x3, .int zc, .ref mH, .int zy, .int za, .int zb, .int zs, .int zq, .int zw, .int ze, .ref mY, .int zn, .ref mE, .int zm, .int zl, .ref mW, .int zk, .ref mO, .int zd, .ref y1, .ref y2, .ref y3, .ref y4, .ref mZ])), (mY, .inl (cI, 2600, .inl f_1)), (mL, .inl (cI, 512, .inl eL))]) ef_1 rfl (fun H locs hPn hDn hSn => ?_))
  clear hP hD hS
  have hP := hPn
  have hD := hDn
  have hS := hSn
  clear hPn hDn hSn
  have g_f1 : rg 0 255 f_1 := rg_upd ef_1 g_eY (by omega)
  refine lv_aload_n hx hb dX12_isAlone_7 rfl (lv_at hl 0 rfl) ?_
  refine lv_iconst (v := 1) hx hb dX12_isAlone_8 (by decide) ?_
  refine va_put (D := (dC, dI)) (ci := 12) (v := .int 1) (ty := .int) (C := RX12) (T := TX12) (N := 40) hx hb hts in_X12 tyX12 tyX12_ok nmX12 hown hK hP hD hS 0 rfl rfl 27 (Nat.le_of_ble_eq_true rfl) (hts (.fieldLink RX12 91 "TextMenderModel" "byteMany" "I") (List.mem_of_getElem? (i := 2) rfl)) (fun _ h9 => h9) rfl (tyX12_ok 27 (Nat.le_of_ble_eq_true rfl)) rfl rfl (Nat.le_of_ble_eq_true rfl) dX12_isAlone_9 (kW (wn := [(oM, .inr (12, [.ref mT, .int zt, .ref mS, .ref mX, .int zp, .int zf, .ref mL, .ref mB, .ref mD, .ref m1, .ref m2, .int zh, .ref mR, .int zr, .ref x1, .ref x2, .ref x3, .int zc, .ref mH, .int zy, .int za, .int zb, .int zs, .int zq, .int zw, .int ze, .ref mY, .int 1, .ref mE, .int zm, .int zl, .ref mW, .int zk, .ref mO, .int zd, .ref y1, .ref y2, .ref y3, .ref y4, .ref mZ])), (mY, .inl (cI, 2600, .inl f_1)), (mL, .inl (cI, 512, .inl eL))]) rfl (fun H locs hPn hDn hSn => ?_))
  clear hP hD hS
  have hP := hPn
  have hD := hDn
  have hS := hSn
  clear hPn hDn hSn
  refine lv_aload_n hx hb dX12_isAlone_12 rfl (lv_at hl 0 rfl) ?_
  refine lv_iload_n hx hb dX12_isAlone_13 rfl (lv_at hl 1 rfl) ?_
  refine lv_iconst (v := 0) hx hb dX12_isAlone_14 (by decide) ?_
  refine kV_i (rest := []) (q0 := 0) (ci := 12) hcf (f_X12_readAt l dC dI cI cS H.size oM mT mS mX mL mB mD m1 m2 mR x1 x2 x3 mH mY mE mW mO y1 y2 y3 y4 mZ zt zp zf zh zr zc zy za zb zs zq zw ze 1 zm zl zk zd f_1 eL cd 0 (g_zt) (g_zp) (g_zf) (g_zh) (g_zr) (g_zc) (g_zy) (g_za) (g_zb) (g_zs) (g_zq) (by decide) (g_zm) (g_zk) (g_f1) (g_eL) (g_cd) (by decide) (by decide)) kc_X12_readAt gX12_isAlone_X12_readAt rfl rfl rfl ⟨Nat.le_of_ble_eq_true rfl, Nat.le_of_ble_eq_true rfl⟩ kX_t hK hP hD hS hA [0, 1, 2] [] rfl (by decide +kernel) rfl rfl rfl hl rfl (Nat.le_of_ble_eq_true rfl) dX12_isAlone_15 ⟨Nat.le_of_ble_eq_true rfl, Nat.le_of_ble_eq_true rfl⟩ (fun r_2 H locs hB hJ hSn => ?_)
  refine hB _ (fun zd_2 hPD9 hf2_0 hf2_1 hf2_2 => ?_)
  clear hB
  obtain ⟨hPn, hDn⟩ := hJ _ hPD9.1 hPD9.2 [(oM, .inr (12, [.ref mT, .int zt, .ref mS, .ref mX, .int zp, .int zf, .ref mL, .ref mB, .ref mD, .ref m1, .ref m2, .int zh, .ref mR, .int zr, .ref x1, .ref x2, .ref x3, .int zc, .ref mH, .int zy, .int za, .int zb, .int zs, .int zq, .int zw, .int ze, .ref mY, .int 1, .ref mE, .int zm, .int zl, .ref mW, .int zk, .ref mO, .int zd_2, .ref y1, .ref y2, .ref y3, .ref y4, .ref mZ])), (mY, .inl (cI, 2600, .inl f_1)), (mL, .inl (cI, 512, .inl eL))] rfl
  clear hP hD hS hJ hPD9
  have hP := hPn
  have hD := hDn
  have hS := hSn
  clear hPn hDn hSn
  refine lv_if_le (tgt := 25) hx hb dX12_isAlone_18 (by decide) (fun c_3 => ?_) (fun c_3 => ?_)
  · have tc_3 : r_2.toInt ≤ 0 := v_le c_3
    refine lv_iconst (v := 0) hx hb dX12_isAlone_25 (by decide) ?_
    exact kl_z (v := 0) hQQ hx hb hr hlocks hS dX12_isAlone_26 (rfl) (fun PZ9 kZ9 => kZ9 f_1 1 zd_2 (⟨hP, hD⟩) (g_f1) (by decide) (by decide) ((al_ra hf2_2 rfl rfl (by rw [ef_1]; rfl)).imp (fun z9 => ⟨by first | rfl | (exfalso; omega), z9.2⟩) (fun z9 => ⟨by first | decide | (exfalso; omega), z9.2⟩)))
  · have tc_3 : 0 < r_2.toInt := v_nle c_3
    refine lv_iconst (v := 1) hx hb dX12_isAlone_21 (by decide) ?_
    refine lv_goto (tgt := 26) hx hb dX12_isAlone_22 (by decide) ?_
    exact kl_z (v := 1) hQQ hx hb hr hlocks hS dX12_isAlone_26 (rfl) (fun PZ9 kZ9 => kZ9 f_1 1 zd_2 (⟨hP, hD⟩) (g_f1) (by decide) (by decide) ((al_ra hf2_2 rfl rfl (by rw [ef_1]; rfl)).imp (fun z9 => ⟨by first | rfl | (exfalso; omega), z9.2⟩) (fun z9 => ⟨by first | decide | (exfalso; omega), z9.2⟩)))

set_option maxHeartbeats 40000000 in
set_option maxRecDepth 100000 in
theorem f_X12_readR (l : Launch) (dC : Nat → ClassId) (dI : Nat → Nat → Nat) (cI cS : ClassId) (sz : Nat) (oM : Nat) (mT : Nat) (mS : Nat) (mX : Nat) (mL : Nat) (mB : Nat) (mD : Nat) (m1 : Nat) (m2 : Nat) (mR : Nat) (x1 : Nat) (x2 : Nat) (x3 : Nat) (mH : Nat) (mY : Nat) (mE : Nat) (mW : Nat) (mO : Nat) (y1 : Nat) (y2 : Nat) (y3 : Nat) (y4 : Nat) (mZ : Nat) (zt : Int32) (zp : Int32) (zf : Int32) (zh : Int32) (zr : Int32) (zc : Int32) (zy : Int32) (za : Int32) (zb : Int32) (zs : Int32) (zq : Int32) (zw : Int32) (ze : Int32) (zn : Int32) (zm : Int32) (zl : Int32) (zk : Int32) (zd : Int32) (eY : Nat → Int32) (eL : Nat → Int32) (eE : Nat → Int32) (cd : Int32) (ro : Int32) (g_zt : 0 ≤ zt.toInt ∧ zt.toInt ≤ 900) (g_zp : 0 ≤ zp.toInt ∧ zp.toInt ≤ 20) (g_zf : 0 ≤ zf.toInt ∧ zf.toInt ≤ 19) (g_zh : 0 ≤ zh.toInt ∧ zh.toInt ≤ 6) (g_zr : 0 ≤ zr.toInt ∧ zr.toInt ≤ 258) (g_zc : 0 ≤ zc.toInt ∧ zc.toInt ≤ 300) (g_zy : 0 ≤ zy.toInt ∧ zy.toInt ≤ 65536) (g_za : 0 ≤ za.toInt ∧ za.toInt ≤ 5) (g_zb : 0 ≤ zb.toInt ∧ zb.toInt ≤ 5) (g_zs : 0 ≤ zs.toInt ∧ zs.toInt ≤ 2000000) (g_zq : -1 ≤ zq.toInt ∧ zq.toInt ≤ 2000000) (g_zn : 0 ≤ zn.toInt ∧ zn.toInt ≤ 2600) (g_zm : 0 ≤ zm.toInt ∧ zm.toInt ≤ 2600) (g_zk : 0 ≤ zk.toInt ∧ zk.toInt ≤ 300) (g_eY : rg 0 255 eY) (g_eL : rg (-1) 65535 eL) (g_eE : rg 0 65535 eE) (g_cd : 0 ≤ cd.toInt ∧ cd.toInt ≤ 5) (hro : ro.toInt = 1) : kMi l yX12_read wsX12_read ({ frames := 2, cells := 0, slots := 0, locals := 47 } : Room) [.ref oM, .int cd, .int ro] sz (dC, dI) vwCl [(cI, .int), (cS, .short)] [(oM, .inr (12, [.ref mT, .int zt, .ref mS, .ref mX, .int zp, .int zf, .ref mL, .ref mB, .ref mD, .ref m1, .ref m2, .int zh, .ref mR, .int zr, .ref x1, .ref x2, .ref x3, .int zc, .ref mH, .int zy, .int za, .int zb, .int zs, .int zq, .int zw, .int ze, .ref mY, .int zn, .ref mE, .int zm, .int zl, .ref mW, .int zk, .ref mO, .int zd, .ref y1, .ref y2, .ref y3, .ref y4, .ref mZ])), (mY, .inl (cI, 2600, .inl eY)), (mL, .inl (cI, 512, .inl eL)), (mE, .inl (cI, 2600, .inl eE))] (fun _ => True) 0 0 (fun (A : Nat → Prop) (r : Int32) (hh9 : Heap) => ∀ PZ9 : Prop, (∀ (zd' : Int32) (zm' : Int32) (zl' : Int32) (eE' : Nat → Int32), kPD (dC, dI) vwCl A [(oM, .inr (12, [.ref mT, .int zt, .ref mS, .ref mX, .int zp, .int zf, .ref mL, .ref mB, .ref mD, .ref m1, .ref m2, .int zh, .ref mR, .int zr, .ref x1, .ref x2, .ref x3, .int zc, .ref mH, .int zy, .int za, .int zb, .int zs, .int zq, .int zw, .int ze, .ref mY, .int zn, .ref mE, .int zm', .int zl', .ref mW, .int zk, .ref mO, .int zd', .ref y1, .ref y2, .ref y3, .ref y4, .ref mZ])), (mY, .inl (cI, 2600, .inl eY)), (mL, .inl (cI, 512, .inl eL)), (mE, .inl (cI, 2600, .inl eE'))] hh9 → (0 ≤ zm'.toInt ∧ zm'.toInt ≤ 2600) → (rg 0 65535 eE') → (0 ≤ r.toInt ∧ r.toInt ≤ 1) → (zm'.toInt ≤ zn.toInt) → (F_r2 zm' eE' (dl cd (fun k => eL k) (fun k => eL (256 + k)) eY zn.toInt) (dx cd (fun k => eL k) (fun k => eL (256 + k)) eY zn.toInt) zn.toInt) → PZ9) → PZ9) := by
  refine kMi_of (cc := cX12_read) (maxL := 5) (ret := (some .boolean)) (lv := [(0, .ref oM), (1, .int cd), (2, .int ro)]) (by decide +kernel) rfl rfl (Nat.le_of_ble_eq_true rfl) ?_
  intro p e s m below meth c A QQ ls hx hb hr hts hml hown hlocks hA hQQ hK hX hP hD hS hl
  have hown : s.vm.findClass RX12 = some m.cls := hown
  have hcf := k_cf hx hb hml hown hts
  have in_X12 : ∀ w ∈ wsX120, w ∈ wsX12_read := fun _ h => List.mem_cons_of_mem _ (List.mem_append_left _ (List.mem_append_right _ (h)))
  replace g_zt := hid g_zt
  replace g_zp := hid g_zp
  replace g_zf := hid g_zf
  replace g_zh := hid g_zh
  replace g_zr := hid g_zr
  replace g_zc := hid g_zc
  replace g_zy := hid g_zy
  replace g_za := hid g_za
  replace g_zb := hid g_zb
  replace g_zs := hid g_zs
  replace g_zq := hid g_zq
  replace g_zm := hid g_zm
  replace g_zk := hid g_zk
  have z0 : (0 : Int32).toInt = 0 := rfl
  have z1 : (1 : Int32).toInt = 1 := rfl
  have zm1 : (-1 : Int32).toInt = -1 := rfl
  refine lv_aload_n hx hb dX12_read_0 rfl (lv_at hl 0 rfl) ?_
  refine lv_iconst (v := 0) hx hb dX12_read_1 (by decide) ?_
  refine va_put (D := (dC, dI)) (ci := 12) (v := .int 0) (ty := .int) (C := RX12) (T := TX12) (N := 40) hx hb hts in_X12 tyX12 tyX12_ok nmX12 hown hK hP hD hS 0 rfl rfl 29 (Nat.le_of_ble_eq_true rfl) (hts (.fieldLink RX12 119 "TextMenderModel" "cameMany" "I") (List.mem_of_getElem? (i := 1) rfl)) (fun _ h9 => h9) rfl (tyX12_ok 29 (Nat.le_of_ble_eq_true rfl)) rfl rfl (Nat.le_of_ble_eq_true rfl) dX12_read_2 (kW (wn := [(oM, .inr (12, [.ref mT, .int zt, .ref mS, .ref mX, .int zp, .int zf, .ref mL, .ref mB, .ref mD, .ref m1, .ref m2, .int zh, .ref mR, .int zr, .ref x1, .ref x2, .ref x3, .int zc, .ref mH, .int zy, .int za, .int zb, .int zs, .int zq, .int zw, .int ze, .ref mY, .int zn, .ref mE, .int 0, .int zl, .ref mW, .int zk, .ref mO, .int zd, .ref y1, .ref y2, .ref y3, .ref y4, .ref mZ])), (mY, .inl (cI, 2600, .inl eY)), (mL, .inl (cI, 512, .inl eL)), (mE, .inl (cI, 2600, .inl eE))]) rfl (fun H locs hPn hDn hSn => ?_))
  clear hP hD hS
  have hP := hPn
  have hD := hDn
  have hS := hSn
  clear hPn hDn hSn
  refine lv_iconst (v := 0) hx hb dX12_read_5 (by decide) ?_
  refine lv_istore_n (lv' := [(3, .int 0), (0, .ref oM), (1, .int cd), (2, .int ro)]) hx hb dX12_read_6 rfl hl (by decide) rfl (fun ls hl => ?_)
  have LOOP_7 : ∀ (k_7 : Nat) (p_ : Int32) (zma : Int32) (zda : Int32) (zla : Int32) (eEa : Nat → Int32) (H : Heap) (locs : List Loc) (ls : Array Slot), MSd (2608 - p_.toInt : Int) k_7 → (0 ≤ p_.toInt ∧ p_.toInt ≤ zn.toInt) → (0 ≤ zma.toInt ∧ zma.toInt ≤ p_.toInt) → (rg 0 65535 eEa) → (RQ2 p_ zma eEa (dl cd (fun k => eL k) (fun k => eL (256 + k)) eY zn.toInt) (dx cd (fun k => eL k) (fun k => eL (256 + k)) eY zn.toInt)) → va_P (dC, dI) vwCl [(oM, .inr (12, [.ref mT, .int zt, .ref mS, .ref mX, .int zp, .int zf, .ref mL, .ref mB, .ref mD, .ref m1, .ref m2, .int zh, .ref mR, .int zr, .ref x1, .ref x2, .ref x3, .int zc, .ref mH, .int zy, .int za, .int zb, .int zs, .int zq, .int zw, .int ze, .ref mY, .int zn, .ref mE, .int zma, .int zla, .ref mW, .int zk, .ref mO, .int zda, .ref y1, .ref y2, .ref y3, .ref y4, .ref mZ])), (mY, .inl (cI, 2600, .inl eY)), (mL, .inl (cI, 512, .inl eL)), (mE, .inl (cI, 2600, .inl eEa))] H → va_D A [(oM, .inr (12, [.ref mT, .int zt, .ref mS, .ref mX, .int zp, .int zf, .ref mL, .ref mB, .ref mD, .ref m1, .ref m2, .int zh, .ref mR, .int zr, .ref x1, .ref x2, .ref x3, .int zc, .ref mH, .int zy, .int za, .int zb, .int zs, .int zq, .int zw, .int ze, .ref mY, .int zn, .ref mE, .int zma, .int zla, .ref mW, .int zk, .ref mO, .int zda, .ref y1, .ref y2, .ref y3, .ref y4, .ref mZ])), (mY, .inl (cI, 2600, .inl eY)), (mL, .inl (cI, 512, .inl eL)), (mE, .inl (cI, 2600, .inl eEa))] → va_S A s.heap H locs → lv_has ls 5 [(3, .int p_), (0, .ref oM), (1, .int cd), (2, .int ro)] → W p l e (headSpec wsX12_read ({ frames := 2, cells := 0, slots := 0, locals := 47 } : Room)).room s m ([.ref oM, .int cd, .int ro] : List Value).toArray below meth c H locs 0 0 (MQ below QQ ([.ref oM, .int cd, .int ro] : List Value).toArray s 0 0 A) (F0 m 7 ls []) := by
    clear hP hD hS hl
    intro k_7
    induction k_7 with
    | zero =>
      intro p_ zma zda zla eEa H locs ls hm_7 g_p_ g_zma g_eEa hrq hP hD hS hl
      exact ms_0 hm_7
    | succ k_7 ih_7 =>
      intro p_ zma zda zla eEa H locs ls hm_7 g_p_ g_zma g_eEa hrq hP hD hS hl
      refine lv_iload_n hx hb dX12_read_7 rfl (lv_at hl 0 rfl) ?_
      refine lv_aload_n hx hb dX12_read_8 rfl (lv_at hl 1 rfl) ?_
      refine va_get (D := (dC, dI)) (ci := 12) (v := .int zn) (C := RX12) (T := TX12) (N := 40) hx hb hts in_X12 hown hK hP 0 rfl rfl 27 (Nat.le_of_ble_eq_true rfl) (hts (.fieldLink RX12 91 "TextMenderModel" "byteMany" "I") (List.mem_of_getElem? (i := 2) rfl)) (fun _ h9 => h9) rfl dX12_read_9 ?_
      refine lv_icmp_ge (tgt := 89) hx hb dX12_read_12 (by decide) (fun c_1 => ?_) (fun c_1 => ?_)
      · have tc_1 : zn.toInt ≤ p_.toInt := v_le c_1
        refine lv_iconst (v := 1) hx hb dX12_read_89 (by decide) ?_
        exact kl_z (v := 1) hQQ hx hb hr hlocks hS dX12_read_90 (rfl) (fun PZ9 kZ9 => kZ9 zda zma zla eEa (⟨hP, hD⟩) (by omega) (g_eEa) (by decide) (by show zma.toInt ≤ zn.toInt; omega) (RQ2_e hrq (by omega)))
      · have tc_1 : p_.toInt < zn.toInt := v_nle c_1
        refine lv_aload_n hx hb dX12_read_15 rfl (lv_at hl 1 rfl) ?_
        refine lv_iload_n hx hb dX12_read_16 rfl (lv_at hl 2 rfl) ?_
        refine lv_iload_n hx hb dX12_read_17 rfl (lv_at hl 0 rfl) ?_
        refine kV_i (rest := []) (q0 := 0) (ci := 12) hcf (f_X12_readAt l dC dI cI cS H.size oM mT mS mX mL mB mD m1 m2 mR x1 x2 x3 mH mY mE mW mO y1 y2 y3 y4 mZ zt zp zf zh zr zc zy za zb zs zq zw ze zn zma zla zk zda eY eL cd p_ (g_zt) (g_zp) (g_zf) (g_zh) (g_zr) (g_zc) (g_zy) (g_za) (g_zb) (g_zs) (g_zq) (g_zn) (by omega) (g_zk) (g_eY) (g_eL) (g_cd) (by omega) (by omega)) kc_X12_readAt gX12_read_X12_readAt rfl rfl rfl ⟨Nat.le_of_ble_eq_true rfl, Nat.le_of_ble_eq_true rfl⟩ kX_t hK hP hD hS hA [0, 1, 2] [3] rfl (by decide +kernel) rfl rfl rfl hl rfl (Nat.le_of_ble_eq_true rfl) dX12_read_18 ⟨Nat.le_of_ble_eq_true rfl, Nat.le_of_ble_eq_true rfl⟩ (fun r_2 H locs hB hJ hSn => ?_)
        refine hB _ (fun zd_2 hPD9 hf2_0 hf2_1 hf2_2 => ?_)
        clear hB
        obtain ⟨hPn, hDn⟩ := hJ _ hPD9.1 hPD9.2 [(mE, .inl (cI, 2600, .inl eEa)), (oM, .inr (12, [.ref mT, .int zt, .ref mS, .ref mX, .int zp, .int zf, .ref mL, .ref mB, .ref mD, .ref m1, .ref m2, .int zh, .ref mR, .int zr, .ref x1, .ref x2, .ref x3, .int zc, .ref mH, .int zy, .int za, .int zb, .int zs, .int zq, .int zw, .int ze, .ref mY, .int zn, .ref mE, .int zma, .int zla, .ref mW, .int zk, .ref mO, .int zd_2, .ref y1, .ref y2, .ref y3, .ref y4, .ref mZ])), (mY, .inl (cI, 2600, .inl eY)), (mL, .inl (cI, 512, .inl eL))] rfl
        clear hP hD hS hJ hPD9
        have hP := hPn
        have hD := hDn
        have hS := hSn
        clear hPn hDn hSn
        have cp9 := v_clamp (x := p_) (by omega)
        have hu9 : ¬ r_2.toInt = 0 → (p_.toNatClampNeg : Int) + r_2.toInt ≤ _ := fun z => (F_ra_1 hf2_2 z).2.2.2
        refine lv_istore (lv' := [(4, .int r_2), (3, .int p_), (0, .ref oM), (1, .int cd), (2, .int ro)]) hx hb dX12_read_21 hl (by decide) rfl (fun ls hl => ?_)
        refine lv_iload hx hb dX12_read_23 (lv_at hl 0 rfl) ?_
        refine lv_if_ne (tgt := 39) hx hb dX12_read_25 (by decide) (fun c_3 => ?_) (fun c_3 => ?_)
        · have tc_3 : ¬ r_2.toInt = 0 := v_ne c_3
          refine lv_aload_n hx hb dX12_read_39 rfl (lv_at hl 2 rfl) ?_
          refine va_get (D := (dC, dI)) (ci := 12) (v := .ref mE) (C := RX12) (T := TX12) (N := 40) hx hb hts in_X12 hown hK hP 1 rfl rfl 28 (Nat.le_of_ble_eq_true rfl) (hts (.fieldLink RX12 61 "TextMenderModel" "came" "[I") (List.mem_of_getElem? (i := 4) rfl)) (fun _ h9 => h9) rfl dX12_read_40 ?_
          refine lv_aload_n hx hb dX12_read_43 rfl (lv_at hl 2 rfl) ?_
          refine va_get (D := (dC, dI)) (ci := 12) (v := .int zma) (C := RX12) (T := TX12) (N := 40) hx hb hts in_X12 hown hK hP 1 rfl rfl 29 (Nat.le_of_ble_eq_true rfl) (hts (.fieldLink RX12 119 "TextMenderModel" "cameMany" "I") (List.mem_of_getElem? (i := 1) rfl)) (fun _ h9 => h9) rfl dX12_read_44 ?_
          refine lv_iload hx hb dX12_read_47 (lv_at hl 0 rfl) ?_
          refine lv_if_ne (tgt := 57) hx hb dX12_read_49 (by decide) (fun c_4 => ?_) (fun c_4 => by exfalso; have tc_4 : r_2.toInt = 0 := v_eq c_4; omega)
          have tc_4 : ¬ r_2.toInt = 0 := v_ne c_4
          refine lv_aload_n hx hb dX12_read_57 rfl (lv_at hl 2 rfl) ?_
          refine va_get (D := (dC, dI)) (ci := 12) (v := .int zd_2) (C := RX12) (T := TX12) (N := 40) hx hb hts in_X12 hown hK hP 1 rfl rfl 34 (Nat.le_of_ble_eq_true rfl) (hts (.fieldLink RX12 105 "TextMenderModel" "readLetter" "I") (List.mem_of_getElem? (i := 6) rfl)) (fun _ h9 => h9) rfl dX12_read_58 ?_
          obtain ⟨f_5, ef_5⟩ : ∃ g : Nat → Int32, g = upd eEa (zma : Int32).toNatClampNeg zd_2 := ⟨_, rfl⟩
          refine va_iast hx hb hK hP hD hS 0 0 rfl rfl (v_in (by omega)) dX12_read_61 (kWf (g := f_5) (F := fun f_5 => [(mE, .inl (cI, 2600, .inl f_5)), (oM, .inr (12, [.ref mT, .int zt, .ref mS, .ref mX, .int zp, .int zf, .ref mL, .ref mB, .ref mD, .ref m1, .ref m2, .int zh, .ref mR, .int zr, .ref x1, .ref x2, .ref x3, .int zc, .ref mH, .int zy, .int za, .int zb, .int zs, .int zq, .int zw, .int ze, .ref mY, .int zn, .ref mE, .int zma, .int zla, .ref mW, .int zk, .ref mO, .int zd_2, .ref y1, .ref y2, .ref y3, .ref y4, .ref mZ])), (mY, .inl (cI, 2600, .inl eY)), (mL, .inl (cI, 512, .inl eL))]) ef_5 rfl (fun H locs hPn hDn hSn => ?_))
          clear hP hD hS
          have hP := hPn
          have hD := hDn
          have hS := hSn
          clear hPn hDn hSn
          have g_f5 : rg 0 65535 f_5 := rg_upd ef_5 g_eEa (by omega)
          refine lv_aload_n hx hb dX12_read_62 rfl (lv_at hl 2 rfl) ?_
          refine lv_dup hx hb dX12_read_63 rfl ?_
          refine va_get (D := (dC, dI)) (ci := 12) (v := .int zma) (C := RX12) (T := TX12) (N := 40) hx hb hts in_X12 hown hK hP 1 rfl rfl 29 (Nat.le_of_ble_eq_true rfl) (hts (.fieldLink RX12 119 "TextMenderModel" "cameMany" "I") (List.mem_of_getElem? (i := 1) rfl)) (fun _ h9 => h9) rfl dX12_read_64 ?_
          refine lv_iconst (v := 1) hx hb dX12_read_67 (by decide) ?_
          refine lv_iadd hx hb dX12_read_68 ?_
          refine lv_topi (fun x_6 ex_6 => ?_)
          have tx_6 : x_6.toInt = zma.toInt + 1 := v_add ex_6 (by show -2147483648 ≤ zma.toInt + 1; omega) (by show zma.toInt + 1 < 2147483648; omega)
          refine va_put (D := (dC, dI)) (ci := 12) (v := .int x_6) (ty := .int) (C := RX12) (T := TX12) (N := 40) hx hb hts in_X12 tyX12 tyX12_ok nmX12 hown hK hP hD hS 1 rfl rfl 29 (Nat.le_of_ble_eq_true rfl) (hts (.fieldLink RX12 119 "TextMenderModel" "cameMany" "I") (List.mem_of_getElem? (i := 1) rfl)) (fun _ h9 => h9) rfl (tyX12_ok 29 (Nat.le_of_ble_eq_true rfl)) rfl rfl (Nat.le_of_ble_eq_true rfl) dX12_read_69 (kW (wn := [(mE, .inl (cI, 2600, .inl f_5)), (oM, .inr (12, [.ref mT, .int zt, .ref mS, .ref mX, .int zp, .int zf, .ref mL, .ref mB, .ref mD, .ref m1, .ref m2, .int zh, .ref mR, .int zr, .ref x1, .ref x2, .ref x3, .int zc, .ref mH, .int zy, .int za, .int zb, .int zs, .int zq, .int zw, .int ze, .ref mY, .int zn, .ref mE, .int x_6, .int zla, .ref mW, .int zk, .ref mO, .int zd_2, .ref y1, .ref y2, .ref y3, .ref y4, .ref mZ])), (mY, .inl (cI, 2600, .inl eY)), (mL, .inl (cI, 512, .inl eL))]) rfl (fun H locs hPn hDn hSn => ?_))
          clear hP hD hS
          have hP := hPn
          have hD := hDn
          have hS := hSn
          clear hPn hDn hSn
          refine lv_iload_n hx hb dX12_read_72 rfl (lv_at hl 1 rfl) ?_
          refine lv_iload hx hb dX12_read_73 (lv_at hl 0 rfl) ?_
          refine lv_if_ne (tgt := 82) hx hb dX12_read_75 (by decide) (fun c_7 => ?_) (fun c_7 => by exfalso; have tc_7 : r_2.toInt = 0 := v_eq c_7; omega)
          have tc_7 : ¬ r_2.toInt = 0 := v_ne c_7
          refine lv_iload hx hb dX12_read_82 (lv_at hl 0 rfl) ?_
          refine lv_iadd hx hb dX12_read_84 ?_
          refine lv_topi (fun x_8 ex_8 => ?_)
          have tx_8 : x_8.toInt = p_.toInt + r_2.toInt := v_add ex_8 (by show -2147483648 ≤ p_.toInt + r_2.toInt; omega) (by show p_.toInt + r_2.toInt < 2147483648; omega)
          refine lv_istore_n (lv' := [(3, .int x_8), (4, .int r_2), (0, .ref oM), (1, .int cd), (2, .int ro)]) hx hb dX12_read_85 rfl hl (by decide) rfl (fun ls hl => ?_)
          refine lv_goto (tgt := 7) hx hb dX12_read_86 (by decide) ?_
          exact ih_7 x_8 x_6 zd_2 zla f_5 _ _ _ (ms_lt hm_7 (by show ((2608 - x_8.toInt : Int)) < 2608 - p_.toInt; omega) (by show (0 : Int) < 2608 - p_.toInt; omega)) (by show 0 ≤ x_8.toInt ∧ x_8.toInt ≤ zn.toInt; omega) (by show 0 ≤ x_6.toInt ∧ x_6.toInt ≤ x_8.toInt; omega) (g_f5) (RQ2_s hrq (by omega) ef_5 (Or.inr ⟨fun e9 => by have u9 := (F_ra_1 hf2_2 (by omega)).2.2.1; omega, (F_ra_1 hf2_2 (by omega)).2.1.symm, by have u9 := (F_ra_1 hf2_2 (by omega)).1; omega⟩)) (hP.sub [1, 2, 3, 0] rfl) (hD.sub [1, 2, 3, 0] (by decide +kernel) rfl) hS (lv_sub hl [0, 2, 3, 4] rfl)
        · have tc_3 : r_2.toInt = 0 := v_eq c_3
          refine lv_iload_n hx hb dX12_read_28 rfl (lv_at hl 4 rfl) ?_
          refine lv_if_ne (tgt := 39) hx hb dX12_read_29 (by decide) (fun c_9 => ?_) (fun c_9 => by exfalso; have tc_9 : ro.toInt = 0 := v_eq c_9; omega)
          have tc_9 : ¬ ro.toInt = 0 := v_ne c_9
          refine lv_aload_n hx hb dX12_read_39 rfl (lv_at hl 2 rfl) ?_
          refine va_get (D := (dC, dI)) (ci := 12) (v := .ref mE) (C := RX12) (T := TX12) (N := 40) hx hb hts in_X12 hown hK hP 1 rfl rfl 28 (Nat.le_of_ble_eq_true rfl) (hts (.fieldLink RX12 61 "TextMenderModel" "came" "[I") (List.mem_of_getElem? (i := 4) rfl)) (fun _ h9 => h9) rfl dX12_read_40 ?_
          refine lv_aload_n hx hb dX12_read_43 rfl (lv_at hl 2 rfl) ?_
          refine va_get (D := (dC, dI)) (ci := 12) (v := .int zma) (C := RX12) (T := TX12) (N := 40) hx hb hts in_X12 hown hK hP 1 rfl rfl 29 (Nat.le_of_ble_eq_true rfl) (hts (.fieldLink RX12 119 "TextMenderModel" "cameMany" "I") (List.mem_of_getElem? (i := 1) rfl)) (fun _ h9 => h9) rfl dX12_read_44 ?_
          refine lv_iload hx hb dX12_read_47 (lv_at hl 0 rfl) ?_
          refine lv_if_ne (tgt := 57) hx hb dX12_read_49 (by decide) (fun c_10 => by exfalso; have tc_10 : ¬ r_2.toInt = 0 := v_ne c_10; omega) (fun c_10 => ?_)
          have tc_10 : r_2.toInt = 0 := v_eq c_10
          refine lv_ldc hx hb hown (hts (.constant RX12 126 (65533)) (List.mem_of_getElem? (i := 5) rfl)) dX12_read_52 ?_
          refine lv_goto (tgt := 61) hx hb dX12_read_54 (by decide) ?_
          obtain ⟨f_11, ef_11⟩ : ∃ g : Nat → Int32, g = upd eEa (zma : Int32).toNatClampNeg 65533 := ⟨_, rfl⟩
          refine va_iast hx hb hK hP hD hS 0 0 rfl rfl (v_in (by omega)) dX12_read_61 (kWf (g := f_11) (F := fun f_11 => [(mE, .inl (cI, 2600, .inl f_11)), (oM, .inr (12, [.ref mT, .int zt, .ref mS, .ref mX, .int zp, .int zf, .ref mL, .ref mB, .ref mD, .ref m1, .ref m2, .int zh, .ref mR, .int zr, .ref x1, .ref x2, .ref x3, .int zc, .ref mH, .int zy, .int za, .int zb, .int zs, .int zq, .int zw, .int ze, .ref mY, .int zn, .ref mE, .int zma, .int zla, .ref mW, .int zk, .ref mO, .int zd_2, .ref y1, .ref y2, .ref y3, .ref y4, .ref mZ])), (mY, .inl (cI, 2600, .inl eY)), (mL, .inl (cI, 512, .inl eL))]) ef_11 rfl (fun H locs hPn hDn hSn => ?_))
          clear hP hD hS
          have hP := hPn
          have hD := hDn
          have hS := hSn
          clear hPn hDn hSn
          have g_f11 : rg 0 65535 f_11 := rg_upd ef_11 g_eEa (by decide)
          refine lv_aload_n hx hb dX12_read_62 rfl (lv_at hl 2 rfl) ?_
          refine lv_dup hx hb dX12_read_63 rfl ?_
          refine va_get (D := (dC, dI)) (ci := 12) (v := .int zma) (C := RX12) (T := TX12) (N := 40) hx hb hts in_X12 hown hK hP 1 rfl rfl 29 (Nat.le_of_ble_eq_true rfl) (hts (.fieldLink RX12 119 "TextMenderModel" "cameMany" "I") (List.mem_of_getElem? (i := 1) rfl)) (fun _ h9 => h9) rfl dX12_read_64 ?_
          refine lv_iconst (v := 1) hx hb dX12_read_67 (by decide) ?_
          refine lv_iadd hx hb dX12_read_68 ?_
          refine lv_topi (fun x_12 ex_12 => ?_)
          have tx_12 : x_12.toInt = zma.toInt + 1 := v_add ex_12 (by show -2147483648 ≤ zma.toInt + 1; omega) (by show zma.toInt + 1 < 2147483648; omega)
          refine va_put (D := (dC, dI)) (ci := 12) (v := .int x_12) (ty := .int) (C := RX12) (T := TX12) (N := 40) hx hb hts in_X12 tyX12 tyX12_ok nmX12 hown hK hP hD hS 1 rfl rfl 29 (Nat.le_of_ble_eq_true rfl) (hts (.fieldLink RX12 119 "TextMenderModel" "cameMany" "I") (List.mem_of_getElem? (i := 1) rfl)) (fun _ h9 => h9) rfl (tyX12_ok 29 (Nat.le_of_ble_eq_true rfl)) rfl rfl (Nat.le_of_ble_eq_true rfl) dX12_read_69 (kW (wn := [(mE, .inl (cI, 2600, .inl f_11)), (oM, .inr (12, [.ref mT, .int zt, .ref mS, .ref mX, .int zp, .int zf, .ref mL, .ref mB, .ref mD, .ref m1, .ref m2, .int zh, .ref mR, .int zr, .ref x1, .ref x2, .ref x3, .int zc, .ref mH, .int zy, .int za, .int zb, .int zs, .int zq, .int zw, .int ze, .ref mY, .int zn, .ref mE, .int x_12, .int zla, .ref mW, .int zk, .ref mO, .int zd_2, .ref y1, .ref y2, .ref y3, .ref y4, .ref mZ])), (mY, .inl (cI, 2600, .inl eY)), (mL, .inl (cI, 512, .inl eL))]) rfl (fun H locs hPn hDn hSn => ?_))
          clear hP hD hS
          have hP := hPn
          have hD := hDn
          have hS := hSn
          clear hPn hDn hSn
          refine lv_iload_n hx hb dX12_read_72 rfl (lv_at hl 1 rfl) ?_
          refine lv_iload hx hb dX12_read_73 (lv_at hl 0 rfl) ?_
          refine lv_if_ne (tgt := 82) hx hb dX12_read_75 (by decide) (fun c_13 => by exfalso; have tc_13 : ¬ r_2.toInt = 0 := v_ne c_13; omega) (fun c_13 => ?_)
          have tc_13 : r_2.toInt = 0 := v_eq c_13
          refine lv_iconst (v := 1) hx hb dX12_read_78 (by decide) ?_
          refine lv_goto (tgt := 84) hx hb dX12_read_79 (by decide) ?_
          refine lv_iadd hx hb dX12_read_84 ?_
          refine lv_topi (fun x_14 ex_14 => ?_)
          have tx_14 : x_14.toInt = p_.toInt + 1 := v_add ex_14 (by show -2147483648 ≤ p_.toInt + 1; omega) (by show p_.toInt + 1 < 2147483648; omega)
          refine lv_istore_n (lv' := [(3, .int x_14), (4, .int r_2), (0, .ref oM), (1, .int cd), (2, .int ro)]) hx hb dX12_read_85 rfl hl (by decide) rfl (fun ls hl => ?_)
          refine lv_goto (tgt := 7) hx hb dX12_read_86 (by decide) ?_
          exact ih_7 x_14 x_12 zd_2 zla f_11 _ _ _ (ms_lt hm_7 (by show ((2608 - x_14.toInt : Int)) < 2608 - p_.toInt; omega) (by show (0 : Int) < 2608 - p_.toInt; omega)) (by show 0 ≤ x_14.toInt ∧ x_14.toInt ≤ zn.toInt; omega) (by show 0 ≤ x_12.toInt ∧ x_12.toInt ≤ x_14.toInt; omega) (g_f11) (RQ2_s hrq (by omega) ef_11 (Or.inl ⟨F_ra_0 hf2_2 (by omega), rfl, by omega⟩)) (hP.sub [1, 2, 3, 0] rfl) (hD.sub [1, 2, 3, 0] (by decide +kernel) rfl) hS (lv_sub hl [0, 2, 3, 4] rfl)
  exact LOOP_7 _ 0 0 zd zl eE _ _ _ (ms_s _) (by show 0 ≤ (0 : Int) ∧ (0 : Int) ≤ zn.toInt; omega) (by show 0 ≤ (0 : Int) ∧ (0 : Int) ≤ 0; omega) (g_eE) (RQ2_0 rfl rfl) hP hD hS (lv_sub hl [0, 1, 2, 3] rfl)

end

/-! 5r.a.rows -/
section
set_option maxRecDepth 100000 in
theorem dA356_cX12_isChoice : kDec cX12_isChoice [(0, .aload_n 0, 1), (1, .iload_n 2, 1), (2, .iload_n 3, 1), (3, .iload 4, 2), (5, .invokevirtual 203, 3), (8, .ifCond .eq 22, 3), (30, .iconst 0, 1), (31, .ireturn, 1), (11, .aload_n 0, 1), (12, .iload_n 1, 1), (13, .iconst 0, 1), (14, .invokevirtual 131, 3), (17, .ifCond .eq 13, 3), (20, .aload_n 0, 1), (21, .getfield 119, 3), (24, .sipush 300, 3), (27, .if_icmp .le 5, 3), (32, .aload_n 0, 1), (33, .aload_n 0, 1), (34, .getfield 119, 3), (37, .putfield 135, 3), (40, .iconst 0, 1), (41, .istore 5, 2), (43, .iload 5, 2)] = true := by decide +kernel
theorem dX12_isChoice_0 : decode cX12_isChoice 0 = .ok (.aload_n 0, 1) := kDec_at dA356_cX12_isChoice 0 rfl
theorem dX12_isChoice_1 : decode cX12_isChoice 1 = .ok (.iload_n 2, 1) := kDec_at dA356_cX12_isChoice 1 rfl
theorem dX12_isChoice_2 : decode cX12_isChoice 2 = .ok (.iload_n 3, 1) := kDec_at dA356_cX12_isChoice 2 rfl
theorem dX12_isChoice_3 : decode cX12_isChoice 3 = .ok (.iload 4, 2) := kDec_at dA356_cX12_isChoice 3 rfl
theorem dX12_isChoice_5 : decode cX12_isChoice 5 = .ok (.invokevirtual 203, 3) := kDec_at dA356_cX12_isChoice 4 rfl
theorem dX12_isChoice_8 : decode cX12_isChoice 8 = .ok (.ifCond .eq 22, 3) := kDec_at dA356_cX12_isChoice 5 rfl
theorem dX12_isChoice_30 : decode cX12_isChoice 30 = .ok (.iconst 0, 1) := kDec_at dA356_cX12_isChoice 6 rfl
theorem dX12_isChoice_31 : decode cX12_isChoice 31 = .ok (.ireturn, 1) := kDec_at dA356_cX12_isChoice 7 rfl
theorem dX12_isChoice_11 : decode cX12_isChoice 11 = .ok (.aload_n 0, 1) := kDec_at dA356_cX12_isChoice 8 rfl
theorem dX12_isChoice_12 : decode cX12_isChoice 12 = .ok (.iload_n 1, 1) := kDec_at dA356_cX12_isChoice 9 rfl
theorem dX12_isChoice_13 : decode cX12_isChoice 13 = .ok (.iconst 0, 1) := kDec_at dA356_cX12_isChoice 10 rfl
theorem dX12_isChoice_14 : decode cX12_isChoice 14 = .ok (.invokevirtual 131, 3) := kDec_at dA356_cX12_isChoice 11 rfl
theorem dX12_isChoice_17 : decode cX12_isChoice 17 = .ok (.ifCond .eq 13, 3) := kDec_at dA356_cX12_isChoice 12 rfl
theorem dX12_isChoice_20 : decode cX12_isChoice 20 = .ok (.aload_n 0, 1) := kDec_at dA356_cX12_isChoice 13 rfl
theorem dX12_isChoice_21 : decode cX12_isChoice 21 = .ok (.getfield 119, 3) := kDec_at dA356_cX12_isChoice 14 rfl
theorem dX12_isChoice_24 : decode cX12_isChoice 24 = .ok (.sipush 300, 3) := kDec_at dA356_cX12_isChoice 15 rfl
theorem dX12_isChoice_27 : decode cX12_isChoice 27 = .ok (.if_icmp .le 5, 3) := kDec_at dA356_cX12_isChoice 16 rfl
theorem dX12_isChoice_32 : decode cX12_isChoice 32 = .ok (.aload_n 0, 1) := kDec_at dA356_cX12_isChoice 17 rfl
theorem dX12_isChoice_33 : decode cX12_isChoice 33 = .ok (.aload_n 0, 1) := kDec_at dA356_cX12_isChoice 18 rfl
theorem dX12_isChoice_34 : decode cX12_isChoice 34 = .ok (.getfield 119, 3) := kDec_at dA356_cX12_isChoice 19 rfl
theorem dX12_isChoice_37 : decode cX12_isChoice 37 = .ok (.putfield 135, 3) := kDec_at dA356_cX12_isChoice 20 rfl
theorem dX12_isChoice_40 : decode cX12_isChoice 40 = .ok (.iconst 0, 1) := kDec_at dA356_cX12_isChoice 21 rfl
theorem dX12_isChoice_41 : decode cX12_isChoice 41 = .ok (.istore 5, 2) := kDec_at dA356_cX12_isChoice 22 rfl
theorem dX12_isChoice_43 : decode cX12_isChoice 43 = .ok (.iload 5, 2) := kDec_at dA356_cX12_isChoice 23 rfl
set_option maxRecDepth 20000 in
theorem gX12_writeWith_all : wsX12_writeWith.all goodWord = true := by
  unfold wsX12_writeWith
  exact good_c (by decide +kernel) (good_a (good_a (good_a ((by decide +kernel)) gX12_clsall) gX12_put_all) gX12_writeLetter_all)
set_option maxRecDepth 20000 in
theorem ggX12_isChoice_X12_writeWith : GoodIn wsX12_isChoice wsX12_writeWith := goodIn_sub (fun _ h => List.mem_cons_of_mem _ (List.mem_append_left _ (List.mem_append_left _ (List.mem_append_right _ (h))))) gX12_writeWith_all
set_option maxRecDepth 20000 in
theorem gX12_isChoice_X12_writeWith : GoodIn wsX12_isChoice (wsV RX12 203 RX12 yX12_writeWith wsX12_writeWith) := goodIn_app (goodIn_r _ [8, 9, 10, 11] rfl (by decide +kernel)) ggX12_isChoice_X12_writeWith
set_option maxRecDepth 20000 in
theorem ggX12_isChoice_X12_read : GoodIn wsX12_isChoice wsX12_read := goodIn_sub (fun _ h => List.mem_cons_of_mem _ (List.mem_append_left _ (List.mem_append_right _ (h)))) gX12_read_all
set_option maxRecDepth 20000 in
theorem gX12_isChoice_X12_read : GoodIn wsX12_isChoice (wsV RX12 131 RX12 yX12_read wsX12_read) := goodIn_app (goodIn_r _ [12, 13, 14, 11] rfl (by decide +kernel)) ggX12_isChoice_X12_read
set_option maxRecDepth 100000 in
theorem dA357_cX12_isChoice : kDec cX12_isChoice [(45, .aload_n 0, 1), (46, .getfield 135, 3), (49, .if_icmp .ge 23, 3), (72, .aload_n 0, 1), (73, .iload_n 1, 1), (74, .aload_n 0, 1), (75, .getfield 64, 3), (78, .aload_n 0, 1), (79, .getfield 135, 3), (82, .invokevirtual 127, 3), (85, .ifCond .eq 13, 3), (88, .aload_n 0, 1), (89, .getfield 91, 3), (92, .sipush 900, 3), (95, .if_icmp .le 5, 3), (100, .aload_n 0, 1), (101, .iload_n 2, 1), (102, .iconst 1, 1), (103, .invokevirtual 131, 3), (106, .pop, 1), (107, .aload_n 0, 1), (108, .getfield 119, 3), (111, .aload_n 0, 1), (112, .getfield 13, 3)] = true := by decide +kernel
theorem dX12_isChoice_45 : decode cX12_isChoice 45 = .ok (.aload_n 0, 1) := kDec_at dA357_cX12_isChoice 0 rfl
theorem dX12_isChoice_46 : decode cX12_isChoice 46 = .ok (.getfield 135, 3) := kDec_at dA357_cX12_isChoice 1 rfl
theorem dX12_isChoice_49 : decode cX12_isChoice 49 = .ok (.if_icmp .ge 23, 3) := kDec_at dA357_cX12_isChoice 2 rfl
theorem dX12_isChoice_72 : decode cX12_isChoice 72 = .ok (.aload_n 0, 1) := kDec_at dA357_cX12_isChoice 3 rfl
theorem dX12_isChoice_73 : decode cX12_isChoice 73 = .ok (.iload_n 1, 1) := kDec_at dA357_cX12_isChoice 4 rfl
theorem dX12_isChoice_74 : decode cX12_isChoice 74 = .ok (.aload_n 0, 1) := kDec_at dA357_cX12_isChoice 5 rfl
theorem dX12_isChoice_75 : decode cX12_isChoice 75 = .ok (.getfield 64, 3) := kDec_at dA357_cX12_isChoice 6 rfl
theorem dX12_isChoice_78 : decode cX12_isChoice 78 = .ok (.aload_n 0, 1) := kDec_at dA357_cX12_isChoice 7 rfl
theorem dX12_isChoice_79 : decode cX12_isChoice 79 = .ok (.getfield 135, 3) := kDec_at dA357_cX12_isChoice 8 rfl
theorem dX12_isChoice_82 : decode cX12_isChoice 82 = .ok (.invokevirtual 127, 3) := kDec_at dA357_cX12_isChoice 9 rfl
theorem dX12_isChoice_85 : decode cX12_isChoice 85 = .ok (.ifCond .eq 13, 3) := kDec_at dA357_cX12_isChoice 10 rfl
theorem dX12_isChoice_88 : decode cX12_isChoice 88 = .ok (.aload_n 0, 1) := kDec_at dA357_cX12_isChoice 11 rfl
theorem dX12_isChoice_89 : decode cX12_isChoice 89 = .ok (.getfield 91, 3) := kDec_at dA357_cX12_isChoice 12 rfl
theorem dX12_isChoice_92 : decode cX12_isChoice 92 = .ok (.sipush 900, 3) := kDec_at dA357_cX12_isChoice 13 rfl
theorem dX12_isChoice_95 : decode cX12_isChoice 95 = .ok (.if_icmp .le 5, 3) := kDec_at dA357_cX12_isChoice 14 rfl
theorem dX12_isChoice_100 : decode cX12_isChoice 100 = .ok (.aload_n 0, 1) := kDec_at dA357_cX12_isChoice 15 rfl
theorem dX12_isChoice_101 : decode cX12_isChoice 101 = .ok (.iload_n 2, 1) := kDec_at dA357_cX12_isChoice 16 rfl
theorem dX12_isChoice_102 : decode cX12_isChoice 102 = .ok (.iconst 1, 1) := kDec_at dA357_cX12_isChoice 17 rfl
theorem dX12_isChoice_103 : decode cX12_isChoice 103 = .ok (.invokevirtual 131, 3) := kDec_at dA357_cX12_isChoice 18 rfl
theorem dX12_isChoice_106 : decode cX12_isChoice 106 = .ok (.pop, 1) := kDec_at dA357_cX12_isChoice 19 rfl
theorem dX12_isChoice_107 : decode cX12_isChoice 107 = .ok (.aload_n 0, 1) := kDec_at dA357_cX12_isChoice 20 rfl
theorem dX12_isChoice_108 : decode cX12_isChoice 108 = .ok (.getfield 119, 3) := kDec_at dA357_cX12_isChoice 21 rfl
theorem dX12_isChoice_111 : decode cX12_isChoice 111 = .ok (.aload_n 0, 1) := kDec_at dA357_cX12_isChoice 22 rfl
theorem dX12_isChoice_112 : decode cX12_isChoice 112 = .ok (.getfield 13, 3) := kDec_at dA357_cX12_isChoice 23 rfl
set_option maxRecDepth 20000 in
theorem ggX12_isChoice_X12_write : GoodIn wsX12_isChoice wsX12_write := goodIn_sub (fun _ h => List.mem_cons_of_mem _ (List.mem_append_right _ (h))) gX12_write_all
set_option maxRecDepth 20000 in
theorem gX12_isChoice_X12_write : GoodIn wsX12_isChoice (wsV RX12 127 RX12 yX12_write wsX12_write) := goodIn_app (goodIn_r _ [15, 16, 17, 11] rfl (by decide +kernel)) ggX12_isChoice_X12_write
set_option maxRecDepth 100000 in
theorem dA358_cX12_isChoice : kDec cX12_isChoice [(115, .iconst 0, 1), (116, .iaload, 1), (117, .if_icmp .ne 7, 3), (124, .iconst 0, 1), (125, .istore 5, 2), (127, .iconst 0, 1), (128, .istore 6, 2), (130, .iload 5, 2), (132, .ifCond .eq 42, 3), (174, .iload 5, 2), (176, .ireturn, 1), (120, .iconst 1, 1), (121, .goto 4, 3), (135, .iload 6, 2), (137, .aload_n 0, 1), (138, .getfield 119, 3), (141, .if_icmp .ge 33, 3), (144, .aload_n 0, 1), (145, .getfield 61, 3), (148, .iload 6, 2), (150, .iaload, 1), (151, .aload_n 0, 1), (152, .getfield 16, 3), (155, .iload 6, 2)] = true := by decide +kernel
theorem dX12_isChoice_115 : decode cX12_isChoice 115 = .ok (.iconst 0, 1) := kDec_at dA358_cX12_isChoice 0 rfl
theorem dX12_isChoice_116 : decode cX12_isChoice 116 = .ok (.iaload, 1) := kDec_at dA358_cX12_isChoice 1 rfl
theorem dX12_isChoice_117 : decode cX12_isChoice 117 = .ok (.if_icmp .ne 7, 3) := kDec_at dA358_cX12_isChoice 2 rfl
theorem dX12_isChoice_124 : decode cX12_isChoice 124 = .ok (.iconst 0, 1) := kDec_at dA358_cX12_isChoice 3 rfl
theorem dX12_isChoice_125 : decode cX12_isChoice 125 = .ok (.istore 5, 2) := kDec_at dA358_cX12_isChoice 4 rfl
theorem dX12_isChoice_127 : decode cX12_isChoice 127 = .ok (.iconst 0, 1) := kDec_at dA358_cX12_isChoice 5 rfl
theorem dX12_isChoice_128 : decode cX12_isChoice 128 = .ok (.istore 6, 2) := kDec_at dA358_cX12_isChoice 6 rfl
theorem dX12_isChoice_130 : decode cX12_isChoice 130 = .ok (.iload 5, 2) := kDec_at dA358_cX12_isChoice 7 rfl
theorem dX12_isChoice_132 : decode cX12_isChoice 132 = .ok (.ifCond .eq 42, 3) := kDec_at dA358_cX12_isChoice 8 rfl
theorem dX12_isChoice_174 : decode cX12_isChoice 174 = .ok (.iload 5, 2) := kDec_at dA358_cX12_isChoice 9 rfl
theorem dX12_isChoice_176 : decode cX12_isChoice 176 = .ok (.ireturn, 1) := kDec_at dA358_cX12_isChoice 10 rfl
theorem dX12_isChoice_120 : decode cX12_isChoice 120 = .ok (.iconst 1, 1) := kDec_at dA358_cX12_isChoice 11 rfl
theorem dX12_isChoice_121 : decode cX12_isChoice 121 = .ok (.goto 4, 3) := kDec_at dA358_cX12_isChoice 12 rfl
theorem dX12_isChoice_135 : decode cX12_isChoice 135 = .ok (.iload 6, 2) := kDec_at dA358_cX12_isChoice 13 rfl
theorem dX12_isChoice_137 : decode cX12_isChoice 137 = .ok (.aload_n 0, 1) := kDec_at dA358_cX12_isChoice 14 rfl
theorem dX12_isChoice_138 : decode cX12_isChoice 138 = .ok (.getfield 119, 3) := kDec_at dA358_cX12_isChoice 15 rfl
theorem dX12_isChoice_141 : decode cX12_isChoice 141 = .ok (.if_icmp .ge 33, 3) := kDec_at dA358_cX12_isChoice 16 rfl
theorem dX12_isChoice_144 : decode cX12_isChoice 144 = .ok (.aload_n 0, 1) := kDec_at dA358_cX12_isChoice 17 rfl
theorem dX12_isChoice_145 : decode cX12_isChoice 145 = .ok (.getfield 61, 3) := kDec_at dA358_cX12_isChoice 18 rfl
theorem dX12_isChoice_148 : decode cX12_isChoice 148 = .ok (.iload 6, 2) := kDec_at dA358_cX12_isChoice 19 rfl
theorem dX12_isChoice_150 : decode cX12_isChoice 150 = .ok (.iaload, 1) := kDec_at dA358_cX12_isChoice 20 rfl
theorem dX12_isChoice_151 : decode cX12_isChoice 151 = .ok (.aload_n 0, 1) := kDec_at dA358_cX12_isChoice 21 rfl
theorem dX12_isChoice_152 : decode cX12_isChoice 152 = .ok (.getfield 16, 3) := kDec_at dA358_cX12_isChoice 22 rfl
theorem dX12_isChoice_155 : decode cX12_isChoice 155 = .ok (.iload 6, 2) := kDec_at dA358_cX12_isChoice 23 rfl
set_option maxRecDepth 100000 in
theorem dA359_cX12_isChoice : kDec cX12_isChoice [(157, .iaload, 1), (158, .if_icmp .ne 7, 3), (161, .iconst 1, 1), (162, .goto 4, 3), (166, .istore 5, 2), (168, .iinc 6 1, 3), (171, .goto (-41), 3), (52, .aload_n 0, 1), (53, .getfield 64, 3), (56, .iload 5, 2), (58, .aload_n 0, 1), (59, .getfield 61, 3), (62, .iload 5, 2), (64, .iaload, 1), (65, .iastore, 1), (66, .iinc 5 1, 3), (69, .goto (-26), 3)] = true := by decide +kernel
theorem dX12_isChoice_157 : decode cX12_isChoice 157 = .ok (.iaload, 1) := kDec_at dA359_cX12_isChoice 0 rfl
theorem dX12_isChoice_158 : decode cX12_isChoice 158 = .ok (.if_icmp .ne 7, 3) := kDec_at dA359_cX12_isChoice 1 rfl
theorem dX12_isChoice_161 : decode cX12_isChoice 161 = .ok (.iconst 1, 1) := kDec_at dA359_cX12_isChoice 2 rfl
theorem dX12_isChoice_162 : decode cX12_isChoice 162 = .ok (.goto 4, 3) := kDec_at dA359_cX12_isChoice 3 rfl
theorem dX12_isChoice_166 : decode cX12_isChoice 166 = .ok (.istore 5, 2) := kDec_at dA359_cX12_isChoice 4 rfl
theorem dX12_isChoice_168 : decode cX12_isChoice 168 = .ok (.iinc 6 1, 3) := kDec_at dA359_cX12_isChoice 5 rfl
theorem dX12_isChoice_171 : decode cX12_isChoice 171 = .ok (.goto (-41), 3) := kDec_at dA359_cX12_isChoice 6 rfl
theorem dX12_isChoice_52 : decode cX12_isChoice 52 = .ok (.aload_n 0, 1) := kDec_at dA359_cX12_isChoice 7 rfl
theorem dX12_isChoice_53 : decode cX12_isChoice 53 = .ok (.getfield 64, 3) := kDec_at dA359_cX12_isChoice 8 rfl
theorem dX12_isChoice_56 : decode cX12_isChoice 56 = .ok (.iload 5, 2) := kDec_at dA359_cX12_isChoice 9 rfl
theorem dX12_isChoice_58 : decode cX12_isChoice 58 = .ok (.aload_n 0, 1) := kDec_at dA359_cX12_isChoice 10 rfl
theorem dX12_isChoice_59 : decode cX12_isChoice 59 = .ok (.getfield 61, 3) := kDec_at dA359_cX12_isChoice 11 rfl
theorem dX12_isChoice_62 : decode cX12_isChoice 62 = .ok (.iload 5, 2) := kDec_at dA359_cX12_isChoice 12 rfl
theorem dX12_isChoice_64 : decode cX12_isChoice 64 = .ok (.iaload, 1) := kDec_at dA359_cX12_isChoice 13 rfl
theorem dX12_isChoice_65 : decode cX12_isChoice 65 = .ok (.iastore, 1) := kDec_at dA359_cX12_isChoice 14 rfl
theorem dX12_isChoice_66 : decode cX12_isChoice 66 = .ok (.iinc 5 1, 3) := kDec_at dA359_cX12_isChoice 15 rfl
theorem dX12_isChoice_69 : decode cX12_isChoice 69 = .ok (.goto (-26), 3) := kDec_at dA359_cX12_isChoice 16 rfl

end

/-! 5r.chs -/
section
set_option maxHeartbeats 40000000 in
set_option maxRecDepth 100000 in
theorem f_X12_marksOf (l : Launch) (dC : Nat → ClassId) (dI : Nat → Nat → Nat) (cI cS : ClassId) (sz : Nat) (oM : Nat) (mT : Nat) (mS : Nat) (mX : Nat) (mL : Nat) (mB : Nat) (mD : Nat) (m1 : Nat) (m2 : Nat) (mR : Nat) (x1 : Nat) (x2 : Nat) (x3 : Nat) (mH : Nat) (mY : Nat) (mE : Nat) (mW : Nat) (mO : Nat) (y1 : Nat) (y2 : Nat) (y3 : Nat) (y4 : Nat) (mZ : Nat) (zt : Int32) (zp : Int32) (zf : Int32) (zh : Int32) (zr : Int32) (zc : Int32) (zy : Int32) (za : Int32) (zb : Int32) (zs : Int32) (zq : Int32) (zw : Int32) (ze : Int32) (zn : Int32) (zm : Int32) (zl : Int32) (zk : Int32) (zd : Int32) (eS : Nat → Int32) (eX : Nat → Int32) (g_zt : 0 ≤ zt.toInt ∧ zt.toInt ≤ 900) (g_zp : 0 ≤ zp.toInt ∧ zp.toInt ≤ 20) (g_zf : 0 ≤ zf.toInt ∧ zf.toInt ≤ 19) (g_zh : 0 ≤ zh.toInt ∧ zh.toInt ≤ 6) (g_zr : 0 ≤ zr.toInt ∧ zr.toInt ≤ 258) (g_zc : 0 ≤ zc.toInt ∧ zc.toInt ≤ 300) (g_zy : 0 ≤ zy.toInt ∧ zy.toInt ≤ 65536) (g_za : 0 ≤ za.toInt ∧ za.toInt ≤ 5) (g_zb : 0 ≤ zb.toInt ∧ zb.toInt ≤ 5) (g_zs : 0 ≤ zs.toInt ∧ zs.toInt ≤ 2000000) (g_zq : -1 ≤ zq.toInt ∧ zq.toInt ≤ 2000000) (g_zn : 0 ≤ zn.toInt ∧ zn.toInt ≤ 2600) (g_zm : 0 ≤ zm.toInt ∧ zm.toInt ≤ 2600) (g_zk : 0 ≤ zk.toInt ∧ zk.toInt ≤ 300) (g_eS : rg 0 300 eS) (g_eX : rg 0 65535 eX) : kMi l yX12_marksOf wsX12_marksOf ({ frames := 0, cells := 0, slots := 0, locals := 0 } : Room) [.ref oM] sz (dC, dI) vwCl [(cI, .int), (cS, .short)] [(oM, .inr (12, [.ref mT, .int zt, .ref mS, .ref mX, .int zp, .int zf, .ref mL, .ref mB, .ref mD, .ref m1, .ref m2, .int zh, .ref mR, .int zr, .ref x1, .ref x2, .ref x3, .int zc, .ref mH, .int zy, .int za, .int zb, .int zs, .int zq, .int zw, .int ze, .ref mY, .int zn, .ref mE, .int zm, .int zl, .ref mW, .int zk, .ref mO, .int zd, .ref y1, .ref y2, .ref y3, .ref y4, .ref mZ])), (mS, .inl (cI, 21, .inl eS)), (mX, .inl (cI, 6300, .inl eX))] (fun _ => True) 0 0 (fun (A : Nat → Prop) (r : Int32) (hh9 : Heap) => ∀ PZ9 : Prop, (kPD (dC, dI) vwCl A [(oM, .inr (12, [.ref mT, .int zt, .ref mS, .ref mX, .int zp, .int zf, .ref mL, .ref mB, .ref mD, .ref m1, .ref m2, .int zh, .ref mR, .int zr, .ref x1, .ref x2, .ref x3, .int zc, .ref mH, .int zy, .int za, .int zb, .int zs, .int zq, .int zw, .int ze, .ref mY, .int zn, .ref mE, .int zm, .int zl, .ref mW, .int zk, .ref mO, .int zd, .ref y1, .ref y2, .ref y3, .ref y4, .ref mZ])), (mS, .inl (cI, 21, .inl eS)), (mX, .inl (cI, 6300, .inl eX))] hh9 → (0 ≤ r.toInt ∧ r.toInt ≤ 300) → (r.toInt = mkB eX (eS 0).toInt.toNat) → PZ9) → PZ9) := by
  refine kMi_of (cc := cX12_marksOf) (maxL := 3) (ret := (some .int)) (lv := [(0, .ref oM)]) (by decide +kernel) rfl rfl (Nat.le_of_ble_eq_true rfl) ?_
  intro p e s m below meth c A QQ ls hx hb hr hts hml hown hlocks hA hQQ hK hX hP hD hS hl
  have hown : s.vm.findClass RX12 = some m.cls := hown
  have hcf := k_cf hx hb hml hown hts
  have in_X12 : ∀ w ∈ wsX120, w ∈ wsX12_marksOf := fun _ h => List.mem_cons_of_mem _ (List.mem_append_right _ (h))
  replace g_zt := hid g_zt
  replace g_zp := hid g_zp
  replace g_zf := hid g_zf
  replace g_zh := hid g_zh
  replace g_zr := hid g_zr
  replace g_zc := hid g_zc
  replace g_zy := hid g_zy
  replace g_za := hid g_za
  replace g_zb := hid g_zb
  replace g_zs := hid g_zs
  replace g_zq := hid g_zq
  replace g_zn := hid g_zn
  replace g_zm := hid g_zm
  replace g_zk := hid g_zk
  have z0 : (0 : Int32).toInt = 0 := rfl
  have z1 : (1 : Int32).toInt = 1 := rfl
  have zm1 : (-1 : Int32).toInt = -1 := rfl
  have gS0 := g_eS 0
  refine lv_iconst (v := 0) hx hb dX12_marksOf_0 (by decide) ?_
  refine lv_istore_n (lv' := [(1, .int 0), (0, .ref oM)]) hx hb dX12_marksOf_1 rfl hl (by decide) rfl (fun ls hl => ?_)
  refine lv_iconst (v := 0) hx hb dX12_marksOf_2 (by decide) ?_
  refine lv_istore_n (lv' := [(2, .int 0), (1, .int 0), (0, .ref oM)]) hx hb dX12_marksOf_3 rfl hl (by decide) rfl (fun ls hl => ?_)
  have LOOP_4 : ∀ (k_4 : Nat) (k : Int32) (mk : Int32) (H : Heap) (locs : List Loc) (ls : Array Slot), MSd (300 - k.toInt : Int) k_4 → (0 ≤ k.toInt ∧ k.toInt ≤ 300) → (0 ≤ mk.toInt ∧ mk.toInt ≤ k.toInt) → (k.toInt ≤ (eS 0).toInt) → (mk.toInt = mkB eX k.toNatClampNeg) → va_P (dC, dI) vwCl [(oM, .inr (12, [.ref mT, .int zt, .ref mS, .ref mX, .int zp, .int zf, .ref mL, .ref mB, .ref mD, .ref m1, .ref m2, .int zh, .ref mR, .int zr, .ref x1, .ref x2, .ref x3, .int zc, .ref mH, .int zy, .int za, .int zb, .int zs, .int zq, .int zw, .int ze, .ref mY, .int zn, .ref mE, .int zm, .int zl, .ref mW, .int zk, .ref mO, .int zd, .ref y1, .ref y2, .ref y3, .ref y4, .ref mZ])), (mS, .inl (cI, 21, .inl eS)), (mX, .inl (cI, 6300, .inl eX))] H → va_D A [(oM, .inr (12, [.ref mT, .int zt, .ref mS, .ref mX, .int zp, .int zf, .ref mL, .ref mB, .ref mD, .ref m1, .ref m2, .int zh, .ref mR, .int zr, .ref x1, .ref x2, .ref x3, .int zc, .ref mH, .int zy, .int za, .int zb, .int zs, .int zq, .int zw, .int ze, .ref mY, .int zn, .ref mE, .int zm, .int zl, .ref mW, .int zk, .ref mO, .int zd, .ref y1, .ref y2, .ref y3, .ref y4, .ref mZ])), (mS, .inl (cI, 21, .inl eS)), (mX, .inl (cI, 6300, .inl eX))] → va_S A s.heap H locs → lv_has ls 3 [(2, .int k), (1, .int mk), (0, .ref oM)] → W p l e (headSpec wsX12_marksOf ({ frames := 0, cells := 0, slots := 0, locals := 0 } : Room)).room s m ([.ref oM] : List Value).toArray below meth c H locs 0 0 (MQ below QQ ([.ref oM] : List Value).toArray s 0 0 A) (F0 m 4 ls []) := by
    clear hP hD hS hl
    intro k_4
    induction k_4 with
    | zero =>
      intro k mk H locs ls hm_4 g_k g_mk hks hmb hP hD hS hl
      exact ms_0 hm_4
    | succ k_4 ih_4 =>
      intro k mk H locs ls hm_4 g_k g_mk hks hmb hP hD hS hl
      refine lv_iload_n hx hb dX12_marksOf_4 rfl (lv_at hl 0 rfl) ?_
      refine lv_aload_n hx hb dX12_marksOf_5 rfl (lv_at hl 2 rfl) ?_
      refine va_get (D := (dC, dI)) (ci := 12) (v := .ref mS) (C := RX12) (T := TX12) (N := 40) hx hb hts in_X12 hown hK hP 0 rfl rfl 2 (Nat.le_of_ble_eq_true rfl) (hts (.fieldLink RX12 13 "TextMenderModel" "sizes" "[I") (List.mem_of_getElem? (i := 1) rfl)) (fun _ h9 => h9) rfl dX12_marksOf_6 ?_
      refine lv_iconst (v := 0) hx hb dX12_marksOf_9 (by decide) ?_
      refine va_iald hx hb hK hP 1 0 rfl rfl (by unfold vp_in; decide) dX12_marksOf_10 ?_
      refine lv_topi (fun x_1 ex_1 => ?_)
      have tx_1 : 0 ≤ x_1.toInt ∧ x_1.toInt ≤ 300 := rg_at g_eS ex_1
      have hs9 : x_1.toInt = (eS 0).toInt := by rw [ex_1]; rfl
      refine lv_icmp_ge (tgt := 34) hx hb dX12_marksOf_11 (by decide) (fun c_2 => ?_) (fun c_2 => ?_)
      · have tc_2 : x_1.toInt ≤ k.toInt := v_le c_2
        refine lv_iload_n hx hb dX12_marksOf_34 rfl (lv_at hl 1 rfl) ?_
        exact kl_i (v := mk) hQQ hx hb hr hlocks hS dX12_marksOf_35 (fun PZ9 kZ9 => kZ9 (⟨hP, hD⟩) (by omega) ((show k.toNatClampNeg = (eS 0).toInt.toNat from ix_eq (by omega)) ▸ hmb))
      · have tc_2 : k.toInt < x_1.toInt := v_nle c_2
        refine lv_aload_n hx hb dX12_marksOf_14 rfl (lv_at hl 2 rfl) ?_
        refine va_get (D := (dC, dI)) (ci := 12) (v := .ref mX) (C := RX12) (T := TX12) (N := 40) hx hb hts in_X12 hown hK hP 0 rfl rfl 3 (Nat.le_of_ble_eq_true rfl) (hts (.fieldLink RX12 16 "TextMenderModel" "texts" "[I") (List.mem_of_getElem? (i := 2) rfl)) (fun _ h9 => h9) rfl dX12_marksOf_15 ?_
        refine lv_iload_n hx hb dX12_marksOf_18 rfl (lv_at hl 0 rfl) ?_
        refine va_iald hx hb hK hP 2 0 rfl rfl (v_inR g_k (by decide) (by decide)) dX12_marksOf_19 ?_
        refine lv_topi (fun x_3 ex_3 => ?_)
        have tx_3 : 0 ≤ x_3.toInt ∧ x_3.toInt ≤ 65535 := rg_at g_eX ex_3
        refine lv_ldc hx hb hown (hts (.constant RX12 126 (65533)) (List.mem_of_getElem? (i := 3) rfl)) dX12_marksOf_20 ?_
        refine lv_icmp_ne (tgt := 28) hx hb dX12_marksOf_22 (by decide) (fun c_4 => ?_) (fun c_4 => ?_)
        · have tc_4 : ¬ x_3.toInt = 65533 := v_ne c_4
          obtain ⟨x_5, ex_5⟩ : ∃ y : Int32, y = k + 1 := ⟨_, rfl⟩
          have tx_5 : x_5.toInt = k.toInt + 1 := v_addR (l2 := 1) (h2 := 1) ex_5 g_k (by decide) (by decide) (by decide)
          refine lv_iinc (v := x_5) (lv' := [(2, .int x_5), (1, .int mk), (0, .ref oM)]) hx hb dX12_marksOf_28 hl (k := 0) rfl (by rw [ex_5]; rfl) (by decide) rfl (fun ls hl => ?_)
          refine lv_goto (tgt := 4) hx hb dX12_marksOf_31 (by decide) ?_
          exact ih_4 x_5 mk _ _ _ (ms_lt hm_4 (by show ((300 - x_5.toInt : Int)) < 300 - k.toInt; omega) (by show (0 : Int) < 300 - k.toInt; omega)) (by show 0 ≤ x_5.toInt ∧ x_5.toInt ≤ 300; omega) (by show 0 ≤ mk.toInt ∧ mk.toInt ≤ x_5.toInt; omega) (by show x_5.toInt ≤ (eS 0).toInt; omega) (mkB_st hmb ex_3 (Or.inr ⟨c_4, by omega⟩) (by omega) (by omega)) hP hD hS (lv_sub hl [0, 1, 2] rfl)
        · have tc_4 : x_3.toInt = 65533 := v_eq c_4
          obtain ⟨x_6, ex_6⟩ : ∃ y : Int32, y = mk + 1 := ⟨_, rfl⟩
          have tx_6 : x_6.toInt = mk.toInt + 1 := v_add ex_6 (by show -2147483648 ≤ mk.toInt + 1; omega) (by show mk.toInt + 1 < 2147483648; omega)
          refine lv_iinc (v := x_6) (lv' := [(1, .int x_6), (2, .int k), (0, .ref oM)]) hx hb dX12_marksOf_25 hl (k := 1) rfl (by rw [ex_6]; rfl) (by decide) rfl (fun ls hl => ?_)
          obtain ⟨x_7, ex_7⟩ : ∃ y : Int32, y = k + 1 := ⟨_, rfl⟩
          have tx_7 : x_7.toInt = k.toInt + 1 := v_addR (l2 := 1) (h2 := 1) ex_7 g_k (by decide) (by decide) (by decide)
          refine lv_iinc (v := x_7) (lv' := [(2, .int x_7), (1, .int x_6), (0, .ref oM)]) hx hb dX12_marksOf_28 hl (k := 1) rfl (by rw [ex_7]; rfl) (by decide) rfl (fun ls hl => ?_)
          refine lv_goto (tgt := 4) hx hb dX12_marksOf_31 (by decide) ?_
          exact ih_4 x_7 x_6 _ _ _ (ms_lt hm_4 (by show ((300 - x_7.toInt : Int)) < 300 - k.toInt; omega) (by show (0 : Int) < 300 - k.toInt; omega)) (by show 0 ≤ x_7.toInt ∧ x_7.toInt ≤ 300; omega) (by show 0 ≤ x_6.toInt ∧ x_6.toInt ≤ x_7.toInt; omega) (by show x_7.toInt ≤ (eS 0).toInt; omega) (mkB_st hmb ex_3 (Or.inl ⟨c_4, by omega⟩) (by omega) (by omega)) hP hD hS (lv_sub hl [0, 1, 2] rfl)
  exact LOOP_4 _ 0 0 _ _ _ (ms_s _) (by decide) (by show 0 ≤ (0 : Int) ∧ (0 : Int) ≤ 0; omega) (by show 0 ≤ (eS 0).toInt; omega) (rfl) hP hD hS (lv_sub hl [0, 1, 2] rfl)

theorem ic_rr {a b m zm ft r : Int32} {L4 L5 g f eE : Nat → Int32} {E : Nat → List Int} {n : Nat} (h : F_rr r zm ft eE (dl a L4 L5 g m.toInt) (dx a L4 L5 g m.toInt) m.toInt) (hr : r.toInt = 0 ∨ 300 < zm.toInt) : ∀ c, rdOk (dl a L4 L5 g m.toInt) m.toInt c → c ≤ 300 → ¬ BKB b m L4 L5 g f E n := by
  intro c h1 h2
  rcases h with ⟨r1, c', r2, r3, _⟩ | ⟨r1, c', r2, r3, r4, _⟩
  · have q := rd_uniq h1 r2
    rcases hr with hr | hr
    · rw [r1] at hr; exact absurd hr (by decide)
    · omega
  · exact absurd h1 (rd_stop r2 r3 r4 c)
theorem rr_1 {m zm ft r : Int32} {eE : Nat → Int32} {D : Nat → Nat} {X : Nat → Int32} (h : F_rr r zm ft eE D X m.toInt) (hr : ¬ r.toInt = 0) : ∃ c : Nat, rdOk D m.toInt c ∧ zm.toInt = c ∧ ∀ i, i < c → eE i = X (psn D i) := by
  rcases h with ⟨_, h⟩ | ⟨r1, _⟩
  · exact h
  · exact absurd (by rw [r1]; rfl) hr
theorem wr_y {E : Nat → List Int} {n : Int} {c : Nat} {r ft l m : Int32} {g g2 : Nat → Int32} (h : F_wr r ft l g2 E n) (hc : (c : Int) = n) (hw : WR E c m g) : ¬ r.toInt = 0 ∧ l = m ∧ ∀ j : Nat, (j : Int) < m.toInt → g2 j = g j := by
  rcases h with ⟨r1, c', h1, h2⟩ | ⟨r1, i, h1, _, h3, _⟩
  · have e : c' = c := by omega
    subst e
    obtain ⟨q1, q2⟩ := WR_eq h2 hw
    subst q1
    exact ⟨by rw [r1]; decide, rfl, q2⟩
  · exact absurd h3 (hw.2 i (by omega)).1

set_option maxHeartbeats 40000000 in
set_option maxRecDepth 100000 in
theorem f_X12_isChoice (l : Launch) (dC : Nat → ClassId) (dI : Nat → Nat → Nat) (cI cS : ClassId) (sz : Nat) (oM : Nat) (mT : Nat) (mS : Nat) (mX : Nat) (mL : Nat) (mB : Nat) (mD : Nat) (m1 : Nat) (m2 : Nat) (mR : Nat) (x1 : Nat) (x2 : Nat) (x3 : Nat) (mH : Nat) (mY : Nat) (mE : Nat) (mW : Nat) (mO : Nat) (y1 : Nat) (y2 : Nat) (y3 : Nat) (y4 : Nat) (mZ : Nat) (zt : Int32) (zp : Int32) (zf : Int32) (zh : Int32) (zr : Int32) (zc : Int32) (zy : Int32) (za : Int32) (zb : Int32) (zs : Int32) (zq : Int32) (zw : Int32) (ze : Int32) (zn : Int32) (zm : Int32) (zl : Int32) (zk : Int32) (zd : Int32) (eY : Nat → Int32) (eB : Nat → Int32) (eL : Nat → Int32) (eE : Nat → Int32) (eW : Nat → Int32) (eS : Nat → Int32) (eX : Nat → Int32) (a : Int32) (b : Int32) (on : Int32) (tw : Int32) (g_zt : 0 ≤ zt.toInt ∧ zt.toInt ≤ 900) (g_zp : 0 ≤ zp.toInt ∧ zp.toInt ≤ 20) (g_zf : 0 ≤ zf.toInt ∧ zf.toInt ≤ 19) (g_zh : 0 ≤ zh.toInt ∧ zh.toInt ≤ 6) (g_zr : 0 ≤ zr.toInt ∧ zr.toInt ≤ 258) (g_zc : 0 ≤ zc.toInt ∧ zc.toInt ≤ 300) (g_zy : 0 ≤ zy.toInt ∧ zy.toInt ≤ 65536) (g_za : 0 ≤ za.toInt ∧ za.toInt ≤ 5) (g_zb : 0 ≤ zb.toInt ∧ zb.toInt ≤ 5) (g_zs : 0 ≤ zs.toInt ∧ zs.toInt ≤ 2000000) (g_zq : -1 ≤ zq.toInt ∧ zq.toInt ≤ 2000000) (g_zn : 0 ≤ zn.toInt ∧ zn.toInt ≤ 2600) (g_zm : 0 ≤ zm.toInt ∧ zm.toInt ≤ 2600) (g_zk : 0 ≤ zk.toInt ∧ zk.toInt ≤ 300) (g_eY : rg 0 255 eY) (g_eB : rg (-1) 255 eB) (g_eL : rg (-1) 65535 eL) (g_eE : rg 0 65535 eE) (g_eW : rg 0 65535 eW) (g_eS : rg 0 300 eS) (g_eX : rg 0 65535 eX) (g_a : 0 ≤ a.toInt ∧ a.toInt ≤ 5) (g_b : 0 ≤ b.toInt ∧ b.toInt ≤ 5) (g_on : 0 ≤ on.toInt ∧ on.toInt ≤ 255) (g_tw : -1 ≤ tw.toInt ∧ tw.toInt ≤ 255) (hmkb : mkB eX (eS 0).toInt.toNat ≤ 1 ∨ 0 ≤ tw.toInt) (hal1 : alF b on (fun k => eL k) (fun k => eL (256 + k)) = -1) (hal2 : mkB eX (eS 0).toInt.toNat ≤ 1 ∨ alF b tw (fun k => eL k) (fun k => eL (256 + k)) = -1) (h2m : mkB eX (eS 0).toInt.toNat ≤ 2) (hs100 : (eS 0).toInt ≤ 100) (hxl : ∀ j : Nat, (j : Int) < (eS 0).toInt → isLz (eX j)) (hlb : LBr eL eB) (hlz : LZ eL) : kMi l yX12_isChoice wsX12_isChoice ({ frames := 3, cells := 0, slots := 0, locals := 71 } : Room) [.ref oM, .int a, .int b, .int on, .int tw] sz (dC, dI) vwCl [(cI, .int), (cS, .short)] [(oM, .inr (12, [.ref mT, .int zt, .ref mS, .ref mX, .int zp, .int zf, .ref mL, .ref mB, .ref mD, .ref m1, .ref m2, .int zh, .ref mR, .int zr, .ref x1, .ref x2, .ref x3, .int zc, .ref mH, .int zy, .int za, .int zb, .int zs, .int zq, .int zw, .int ze, .ref mY, .int zn, .ref mE, .int zm, .int zl, .ref mW, .int zk, .ref mO, .int zd, .ref y1, .ref y2, .ref y3, .ref y4, .ref mZ])), (mY, .inl (cI, 2600, .inl eY)), (mB, .inl (cS, 131072, .inl eB)), (mL, .inl (cI, 512, .inl eL)), (mE, .inl (cI, 2600, .inl eE)), (mW, .inl (cI, 300, .inl eW)), (mS, .inl (cI, 21, .inl eS)), (mX, .inl (cI, 6300, .inl eX))] (fun _ => True) 0 0 (fun (A : Nat → Prop) (r : Int32) (hh9 : Heap) => ∀ PZ9 : Prop, (∀ (zn' : Int32) (eY' : Nat → Int32) (zd' : Int32) (zm' : Int32) (zl' : Int32) (eE' : Nat → Int32) (zk' : Int32) (eW' : Nat → Int32), kPD (dC, dI) vwCl A [(oM, .inr (12, [.ref mT, .int zt, .ref mS, .ref mX, .int zp, .int zf, .ref mL, .ref mB, .ref mD, .ref m1, .ref m2, .int zh, .ref mR, .int zr, .ref x1, .ref x2, .ref x3, .int zc, .ref mH, .int zy, .int za, .int zb, .int zs, .int zq, .int zw, .int ze, .ref mY, .int zn', .ref mE, .int zm', .int zl', .ref mW, .int zk', .ref mO, .int zd', .ref y1, .ref y2, .ref y3, .ref y4, .ref mZ])), (mY, .inl (cI, 2600, .inl eY')), (mB, .inl (cS, 131072, .inl eB)), (mL, .inl (cI, 512, .inl eL)), (mE, .inl (cI, 2600, .inl eE')), (mW, .inl (cI, 300, .inl eW')), (mS, .inl (cI, 21, .inl eS)), (mX, .inl (cI, 6300, .inl eX))] hh9 → (0 ≤ zn'.toInt ∧ zn'.toInt ≤ 2600) → (rg 0 255 eY') → (0 ≤ zm'.toInt ∧ zm'.toInt ≤ 2600) → (rg 0 65535 eE') → (0 ≤ zk'.toInt ∧ zk'.toInt ≤ 300) → (rg 0 65535 eW') → (0 ≤ r.toInt ∧ r.toInt ≤ 1) → (F_ic r zk' eW' a b (fun k => eL k) (fun k => eL (256 + k)) (Br b eB) (eS 0).toInt.toNat eX on.toInt tw.toInt) → PZ9) → PZ9) := by
  refine kMi_of (cc := cX12_isChoice) (maxL := 7) (ret := (some .boolean)) (lv := [(0, .ref oM), (1, .int a), (2, .int b), (3, .int on), (4, .int tw)]) (by decide +kernel) rfl rfl (Nat.le_of_ble_eq_true rfl) ?_
  intro p e s m below meth c A QQ ls hx hb hr hts hml hown hlocks hA hQQ hK hX hP hD hS hl
  have hown : s.vm.findClass RX12 = some m.cls := hown
  have hcf := k_cf hx hb hml hown hts
  have in_X12 : ∀ w ∈ wsX120, w ∈ wsX12_isChoice := fun _ h => List.mem_cons_of_mem _ (List.mem_append_left _ (List.mem_append_left _ (List.mem_append_left _ (List.mem_append_right _ (h)))))
  replace g_zt := hid g_zt
  replace g_zp := hid g_zp
  replace g_zf := hid g_zf
  replace g_zh := hid g_zh
  replace g_zr := hid g_zr
  replace g_zc := hid g_zc
  replace g_zy := hid g_zy
  replace g_za := hid g_za
  replace g_zb := hid g_zb
  replace g_zs := hid g_zs
  replace g_zq := hid g_zq
  replace g_zn := hid g_zn
  replace g_zm := hid g_zm
  have z0 : (0 : Int32).toInt = 0 := rfl
  have z1 : (1 : Int32).toInt = 1 := rfl
  have zm1 : (-1 : Int32).toInt = -1 := rfl
  have gS0 := g_eS 0
  have hx9 : prg (((eS 0).toInt.toNat : Nat) : Int) 0 65535 eX := rg_prg g_eX
  have hlz9 : ∀ i, i < (eS 0).toInt.toNat → isLz (eX i) := fun i hi => hxl i (by omega)
  have hmv9 : mkB eX (eS 0).toInt.toNat ≤ 1 ∨ (0 ≤ tw.toInt ∧ tw.toInt ≤ 255) := hmkb.imp id (fun z9 => ⟨z9, by omega⟩)
  refine lv_aload_n hx hb dX12_isChoice_0 rfl (lv_at hl 0 rfl) ?_
  refine lv_iload_n hx hb dX12_isChoice_1 rfl (lv_at hl 2 rfl) ?_
  refine lv_iload_n hx hb dX12_isChoice_2 rfl (lv_at hl 3 rfl) ?_
  refine lv_iload hx hb dX12_isChoice_3 (lv_at hl 4 rfl) ?_
  refine kV_i (rest := []) (q0 := 0) (ci := 12) hcf (f_X12_writeWith l dC dI cI cS s.heap.size oM mT mS mX mL mB mD m1 m2 mR x1 x2 x3 mH mY mE mW mO y1 y2 y3 y4 mZ zt zp zf zh zr zc zy za zb zs zq zw ze zn zm zl zk zd eY eB eS eX b on tw (g_zt) (g_zp) (g_zf) (g_zh) (g_zr) (g_zc) (g_zy) (g_za) (g_zb) (g_zs) (g_zq) (g_zn) (g_zm) (g_zk) (g_eY) (g_eB) (g_eS) (g_eX) (g_b) (g_on) (g_tw) (hmkb)) kc_X12_writeWith gX12_isChoice_X12_writeWith rfl rfl rfl ⟨Nat.le_of_ble_eq_true rfl, Nat.le_of_ble_eq_true rfl⟩ kX_t hK hP hD hS hA (posT mk_182 0) (posF mk_182 0) (kC_of mk_182 rfl rfl) (by decide +kernel) rfl rfl rfl hl rfl (Nat.le_of_ble_eq_true rfl) dX12_isChoice_5 ⟨Nat.le_of_ble_eq_true rfl, Nat.le_of_ble_eq_true rfl⟩ (fun r_1 H locs hB hJ hSn => ?_)
  refine hB _ (fun zn_1 eY_1 zl_1 hPD9 hf1_0 hf1_1 hf1_2 hf1_3 hf1_4 => ?_)
  clear hB
  obtain ⟨hPn, hDn⟩ := kJi (m := mk_182) hJ rfl hPD9.1 hPD9.2 (wn := [(oM, .inr (12, [.ref mT, .int zt, .ref mS, .ref mX, .int zp, .int zf, .ref mL, .ref mB, .ref mD, .ref m1, .ref m2, .int zh, .ref mR, .int zr, .ref x1, .ref x2, .ref x3, .int zc, .ref mH, .int zy, .int za, .int zb, .int zs, .int zq, .int zw, .int ze, .ref mY, .int zn_1, .ref mE, .int zm, .int zl_1, .ref mW, .int zk, .ref mO, .int zd, .ref y1, .ref y2, .ref y3, .ref y4, .ref mZ])), (mY, .inl (cI, 2600, .inl eY_1)), (mB, .inl (cS, 131072, .inl eB)), (mL, .inl (cI, 512, .inl eL)), (mE, .inl (cI, 2600, .inl eE)), (mW, .inl (cI, 300, .inl eW)), (mS, .inl (cI, 21, .inl eS)), (mX, .inl (cI, 6300, .inl eX))]) rfl
  clear hP hD hS hJ hPD9
  have hP := hPn
  have hD := hDn
  have hS := hSn
  clear hPn hDn hSn
  refine lv_if_eq (tgt := 30) hx hb dX12_isChoice_8 (by decide) (fun c_2 => ?_) (fun c_2 => ?_)
  · have tc_2 : r_1.toInt = 0 := v_eq c_2
    refine lv_iconst (v := 0) hx hb dX12_isChoice_30 (by decide) ?_
    exact kl_z (v := 0) hQQ hx hb hr hlocks hS dX12_isChoice_31 (rfl) (fun PZ9 kZ9 => kZ9 zn_1 eY_1 zd zm zl_1 eE zk eW (⟨hP, hD⟩) (hf1_0) (hf1_1) (g_zm) (g_eE) (g_zk) (g_eW) (by decide) (ic_w0 hf1_4 (by omega) rfl))
  · have tc_2 : ¬ r_1.toInt = 0 := v_ne c_2
    have hwr9 := ww_1 hf1_4 (by omega)
    have hbb9 := WRV_b hwr9 hx9 (okB_r g_eB) ⟨⟨by omega, by omega⟩, hmv9⟩
    have hat9 := mk_at (o := on) (w := tw) hwr9 rfl (Or.inr rfl) hal1 hal2
    refine lv_aload_n hx hb dX12_isChoice_11 rfl (lv_at hl 0 rfl) ?_
    refine lv_iload_n hx hb dX12_isChoice_12 rfl (lv_at hl 1 rfl) ?_
    refine lv_iconst (v := 0) hx hb dX12_isChoice_13 (by decide) ?_
    refine kV_i (rest := []) (q0 := 0) (ci := 12) hcf (f_X12_read l dC dI cI cS H.size oM mT mS mX mL mB mD m1 m2 mR x1 x2 x3 mH mY mE mW mO y1 y2 y3 y4 mZ zt zp zf zh zr zc zy za zb zs zq zw ze zn_1 zm zl_1 zk zd eY_1 eL eE a 0 (g_zt) (g_zp) (g_zf) (g_zh) (g_zr) (g_zc) (g_zy) (g_za) (g_zb) (g_zs) (g_zq) (hf1_0) (g_zm) (g_zk) (hf1_1) (g_eL) (g_eE) (g_a) (rfl)) kc_X12_read gX12_isChoice_X12_read rfl rfl rfl ⟨Nat.le_of_ble_eq_true rfl, Nat.le_of_ble_eq_true rfl⟩ kX_t hK hP hD hS hA (posT mk_183 0) (posF mk_183 0) (kC_of mk_183 rfl rfl) (by decide +kernel) rfl rfl rfl hl rfl (Nat.le_of_ble_eq_true rfl) dX12_isChoice_14 ⟨Nat.le_of_ble_eq_true rfl, Nat.le_of_ble_eq_true rfl⟩ (fun r_3 H locs hB hJ hSn => ?_)
    refine hB _ (fun zd_3 zm_3 zl_3 eE_3 hPD9 hf3_0 hf3_1 hf3_2 hf3_3 hf3_4 => ?_)
    clear hB
    obtain ⟨hPn, hDn⟩ := kJi (m := mk_183) hJ rfl hPD9.1 hPD9.2 (wn := [(oM, .inr (12, [.ref mT, .int zt, .ref mS, .ref mX, .int zp, .int zf, .ref mL, .ref mB, .ref mD, .ref m1, .ref m2, .int zh, .ref mR, .int zr, .ref x1, .ref x2, .ref x3, .int zc, .ref mH, .int zy, .int za, .int zb, .int zs, .int zq, .int zw, .int ze, .ref mY, .int zn_1, .ref mE, .int zm_3, .int zl_3, .ref mW, .int zk, .ref mO, .int zd_3, .ref y1, .ref y2, .ref y3, .ref y4, .ref mZ])), (mY, .inl (cI, 2600, .inl eY_1)), (mB, .inl (cS, 131072, .inl eB)), (mL, .inl (cI, 512, .inl eL)), (mE, .inl (cI, 2600, .inl eE_3)), (mW, .inl (cI, 300, .inl eW)), (mS, .inl (cI, 21, .inl eS)), (mX, .inl (cI, 6300, .inl eX))]) rfl
    clear hP hD hS hJ hPD9
    have hP := hPn
    have hD := hDn
    have hS := hSn
    clear hPn hDn hSn
    refine lv_if_eq (tgt := 30) hx hb dX12_isChoice_17 (by decide) (fun c_4 => ?_) (fun c_4 => ?_)
    · have tc_4 : r_3.toInt = 0 := v_eq c_4
      refine lv_iconst (v := 0) hx hb dX12_isChoice_30 (by decide) ?_
      exact kl_z (v := 0) hQQ hx hb hr hlocks hS dX12_isChoice_31 (rfl) (fun PZ9 kZ9 => kZ9 zn_1 eY_1 zd_3 zm_3 zl_3 eE_3 zk eW (⟨hP, hD⟩) (hf1_0) (hf1_1) (hf3_0) (hf3_1) (g_zk) (g_eW) (by decide) (ic_no hwr9 hx9 (okB_r g_eB) ⟨⟨by omega, by omega⟩, hmv9⟩ rfl (ic_rr hf3_4 (by omega))))
    · have tc_4 : ¬ r_3.toInt = 0 := v_ne c_4
      refine lv_aload_n hx hb dX12_isChoice_20 rfl (lv_at hl 0 rfl) ?_
      refine va_get (D := (dC, dI)) (ci := 12) (v := .int zm_3) (C := RX12) (T := TX12) (N := 40) hx hb hts in_X12 hown hK hP 0 rfl rfl 29 (Nat.le_of_ble_eq_true rfl) (hts (.fieldLink RX12 119 "TextMenderModel" "cameMany" "I") (List.mem_of_getElem? (i := 1) rfl)) (fun _ h9 => h9) rfl dX12_isChoice_21 ?_
      refine lv_sipush (v := 300) hx hb dX12_isChoice_24 (by decide) ?_
      refine lv_icmp_le (tgt := 32) hx hb dX12_isChoice_27 (by decide) (fun c_5 => ?_) (fun c_5 => ?_)
      · have tc_5 : zm_3.toInt ≤ 300 := v_le c_5
        obtain ⟨c8, hrd9, hzm9, hce9⟩ := rr_1 hf3_4 (by omega)
        refine lv_aload_n hx hb dX12_isChoice_32 rfl (lv_at hl 0 rfl) ?_
        refine lv_aload_n hx hb dX12_isChoice_33 rfl (lv_at hl 0 rfl) ?_
        refine va_get (D := (dC, dI)) (ci := 12) (v := .int zm_3) (C := RX12) (T := TX12) (N := 40) hx hb hts in_X12 hown hK hP 0 rfl rfl 29 (Nat.le_of_ble_eq_true rfl) (hts (.fieldLink RX12 119 "TextMenderModel" "cameMany" "I") (List.mem_of_getElem? (i := 1) rfl)) (fun _ h9 => h9) rfl dX12_isChoice_34 ?_
        refine va_put (D := (dC, dI)) (ci := 12) (v := .int zm_3) (ty := .int) (C := RX12) (T := TX12) (N := 40) hx hb hts in_X12 tyX12 tyX12_ok nmX12 hown hK hP hD hS 0 rfl rfl 32 (Nat.le_of_ble_eq_true rfl) (hts (.fieldLink RX12 135 "TextMenderModel" "workMany" "I") (List.mem_of_getElem? (i := 2) rfl)) (fun _ h9 => h9) rfl (tyX12_ok 32 (Nat.le_of_ble_eq_true rfl)) rfl rfl (Nat.le_of_ble_eq_true rfl) dX12_isChoice_37 (kW (wn := [(oM, .inr (12, [.ref mT, .int zt, .ref mS, .ref mX, .int zp, .int zf, .ref mL, .ref mB, .ref mD, .ref m1, .ref m2, .int zh, .ref mR, .int zr, .ref x1, .ref x2, .ref x3, .int zc, .ref mH, .int zy, .int za, .int zb, .int zs, .int zq, .int zw, .int ze, .ref mY, .int zn_1, .ref mE, .int zm_3, .int zl_3, .ref mW, .int zm_3, .ref mO, .int zd_3, .ref y1, .ref y2, .ref y3, .ref y4, .ref mZ])), (mY, .inl (cI, 2600, .inl eY_1)), (mB, .inl (cS, 131072, .inl eB)), (mL, .inl (cI, 512, .inl eL)), (mE, .inl (cI, 2600, .inl eE_3)), (mW, .inl (cI, 300, .inl eW)), (mS, .inl (cI, 21, .inl eS)), (mX, .inl (cI, 6300, .inl eX))]) rfl (fun H locs hPn hDn hSn => ?_))
        clear hP hD hS
        have hP := hPn
        have hD := hDn
        have hS := hSn
        clear hPn hDn hSn
        refine lv_iconst (v := 0) hx hb dX12_isChoice_40 (by decide) ?_
        refine lv_istore (lv' := [(5, .int 0), (0, .ref oM), (1, .int a), (2, .int b), (3, .int on), (4, .int tw)]) hx hb dX12_isChoice_41 hl (by decide) rfl (fun ls hl => ?_)
        have LOOP_43 : ∀ (k_43 : Nat) (k : Int32) (eWa : Nat → Int32) (H : Heap) (locs : List Loc) (ls : Array Slot), MSd (300 - k.toInt : Int) k_43 → (0 ≤ k.toInt ∧ k.toInt ≤ 300) → (rg 0 65535 eWa) → (k.toInt ≤ zm_3.toInt) → (cpE k.toInt eWa eE_3) → va_P (dC, dI) vwCl [(oM, .inr (12, [.ref mT, .int zt, .ref mS, .ref mX, .int zp, .int zf, .ref mL, .ref mB, .ref mD, .ref m1, .ref m2, .int zh, .ref mR, .int zr, .ref x1, .ref x2, .ref x3, .int zc, .ref mH, .int zy, .int za, .int zb, .int zs, .int zq, .int zw, .int ze, .ref mY, .int zn_1, .ref mE, .int zm_3, .int zl_3, .ref mW, .int zm_3, .ref mO, .int zd_3, .ref y1, .ref y2, .ref y3, .ref y4, .ref mZ])), (mY, .inl (cI, 2600, .inl eY_1)), (mB, .inl (cS, 131072, .inl eB)), (mL, .inl (cI, 512, .inl eL)), (mE, .inl (cI, 2600, .inl eE_3)), (mW, .inl (cI, 300, .inl eWa)), (mS, .inl (cI, 21, .inl eS)), (mX, .inl (cI, 6300, .inl eX))] H → va_D A [(oM, .inr (12, [.ref mT, .int zt, .ref mS, .ref mX, .int zp, .int zf, .ref mL, .ref mB, .ref mD, .ref m1, .ref m2, .int zh, .ref mR, .int zr, .ref x1, .ref x2, .ref x3, .int zc, .ref mH, .int zy, .int za, .int zb, .int zs, .int zq, .int zw, .int ze, .ref mY, .int zn_1, .ref mE, .int zm_3, .int zl_3, .ref mW, .int zm_3, .ref mO, .int zd_3, .ref y1, .ref y2, .ref y3, .ref y4, .ref mZ])), (mY, .inl (cI, 2600, .inl eY_1)), (mB, .inl (cS, 131072, .inl eB)), (mL, .inl (cI, 512, .inl eL)), (mE, .inl (cI, 2600, .inl eE_3)), (mW, .inl (cI, 300, .inl eWa)), (mS, .inl (cI, 21, .inl eS)), (mX, .inl (cI, 6300, .inl eX))] → va_S A s.heap H locs → lv_has ls 7 [(5, .int k), (0, .ref oM), (1, .int a), (2, .int b), (3, .int on), (4, .int tw)] → W p l e (headSpec wsX12_isChoice ({ frames := 3, cells := 0, slots := 0, locals := 71 } : Room)).room s m ([.ref oM, .int a, .int b, .int on, .int tw] : List Value).toArray below meth c H locs 0 0 (MQ below QQ ([.ref oM, .int a, .int b, .int on, .int tw] : List Value).toArray s 0 0 A) (F0 m 43 ls []) := by
          clear hP hD hS hl
          try (clear g_zk)
          intro k_43
          induction k_43 with
          | zero =>
            intro k eWa H locs ls hm_43 g_k g_eWa hkz hcp hP hD hS hl
            exact ms_0 hm_43
          | succ k_43 ih_43 =>
            intro k eWa H locs ls hm_43 g_k g_eWa hkz hcp hP hD hS hl
            refine lv_iload hx hb dX12_isChoice_43 (lv_at hl 0 rfl) ?_
            refine lv_aload_n hx hb dX12_isChoice_45 rfl (lv_at hl 1 rfl) ?_
            refine va_get (D := (dC, dI)) (ci := 12) (v := .int zm_3) (C := RX12) (T := TX12) (N := 40) hx hb hts in_X12 hown hK hP 0 rfl rfl 32 (Nat.le_of_ble_eq_true rfl) (hts (.fieldLink RX12 135 "TextMenderModel" "workMany" "I") (List.mem_of_getElem? (i := 2) rfl)) (fun _ h9 => h9) rfl dX12_isChoice_46 ?_
            refine lv_icmp_ge (tgt := 72) hx hb dX12_isChoice_49 (by decide) (fun c_6 => ?_) (fun c_6 => ?_)
            · have tc_6 : zm_3.toInt ≤ k.toInt := v_le c_6
              have hcw9 : ∀ i, i < c8 → eWa i = dx a (fun k => eL k) (fun k => eL (256 + k)) eY_1 zn_1.toInt (psn (dl a (fun k => eL k) (fun k => eL (256 + k)) eY_1 zn_1.toInt) i) := fun i hi => (hcp i (by omega)).trans (hce9 i hi)
              have hww9 := wr_rd (Bf := Br a eB) hbb9 (rg_prg g_eL) (rg_L5 g_eL) (hlb a) hrd9 hcw9
              refine lv_aload_n hx hb dX12_isChoice_72 rfl (lv_at hl 1 rfl) ?_
              refine lv_iload_n hx hb dX12_isChoice_73 rfl (lv_at hl 2 rfl) ?_
              refine lv_aload_n hx hb dX12_isChoice_74 rfl (lv_at hl 1 rfl) ?_
              refine va_get (D := (dC, dI)) (ci := 12) (v := .ref mW) (C := RX12) (T := TX12) (N := 40) hx hb hts in_X12 hown hK hP 0 rfl rfl 31 (Nat.le_of_ble_eq_true rfl) (hts (.fieldLink RX12 64 "TextMenderModel" "work" "[I") (List.mem_of_getElem? (i := 3) rfl)) (fun _ h9 => h9) rfl dX12_isChoice_75 ?_
              refine lv_aload_n hx hb dX12_isChoice_78 rfl (lv_at hl 1 rfl) ?_
              refine va_get (D := (dC, dI)) (ci := 12) (v := .int zm_3) (C := RX12) (T := TX12) (N := 40) hx hb hts in_X12 hown hK hP 0 rfl rfl 32 (Nat.le_of_ble_eq_true rfl) (hts (.fieldLink RX12 135 "TextMenderModel" "workMany" "I") (List.mem_of_getElem? (i := 2) rfl)) (fun _ h9 => h9) rfl dX12_isChoice_79 ?_
              refine kV_i (rest := []) (q0 := 0) (ci := 12) hcf (f_X12_write l dC dI cI cS H.size oM mW mT mS mX mL mB mD m1 m2 mR x1 x2 x3 mH mY mE mW mO y1 y2 y3 y4 mZ 300 zt zp zf zh zr zc zy za zb zs zq zw ze zn_1 zm_3 zl_3 zm_3 zd_3 eY_1 eB eWa a zm_3 (g_zt) (g_zp) (g_zf) (g_zh) (g_zr) (g_zc) (g_zy) (g_za) (g_zb) (g_zs) (g_zq) (hf1_0) (hf3_0) (by omega) (hf1_1) (g_eB) (g_eWa) (g_a) (by omega) (by omega) (by omega)) kc_X12_write gX12_isChoice_X12_write rfl rfl rfl ⟨Nat.le_of_ble_eq_true rfl, Nat.le_of_ble_eq_true rfl⟩ kX_t hK hP hD hS hA (posT mk_184 0) (posF mk_184 0) (kC_of mk_184 rfl rfl) (by decide +kernel) rfl rfl rfl hl rfl (Nat.le_of_ble_eq_true rfl) dX12_isChoice_82 ⟨Nat.le_of_ble_eq_true rfl, Nat.le_of_ble_eq_true rfl⟩ (fun r_7 H locs hB hJ hSn => ?_)
              refine hB _ (fun zn_7 eY_7 zl_7 hPD9 hf7_0 hf7_1 hf7_2 hf7_3 => ?_)
              clear hB
              obtain ⟨hPn, hDn⟩ := kJi (m := mk_184) hJ rfl hPD9.1 hPD9.2 (wn := [(oM, .inr (12, [.ref mT, .int zt, .ref mS, .ref mX, .int zp, .int zf, .ref mL, .ref mB, .ref mD, .ref m1, .ref m2, .int zh, .ref mR, .int zr, .ref x1, .ref x2, .ref x3, .int zc, .ref mH, .int zy, .int za, .int zb, .int zs, .int zq, .int zw, .int ze, .ref mY, .int zn_7, .ref mE, .int zm_3, .int zl_7, .ref mW, .int zm_3, .ref mO, .int zd_3, .ref y1, .ref y2, .ref y3, .ref y4, .ref mZ])), (mY, .inl (cI, 2600, .inl eY_7)), (mB, .inl (cS, 131072, .inl eB)), (mL, .inl (cI, 512, .inl eL)), (mE, .inl (cI, 2600, .inl eE_3)), (mW, .inl (cI, 300, .inl eWa)), (mS, .inl (cI, 21, .inl eS)), (mX, .inl (cI, 6300, .inl eX))]) rfl
              clear hP hD hS hJ hPD9
              have hP := hPn
              have hD := hDn
              have hS := hSn
              clear hPn hDn hSn
              obtain ⟨hwa9, hwb9, hwc9⟩ := wr_y (c := c8) hf7_3 (by omega) hww9
              have hwd9 := v_eq hwb9
              refine lv_if_eq (tgt := 98) hx hb dX12_isChoice_85 (by decide) (fun c_8 => by exfalso; have tc_8 : r_7.toInt = 0 := v_eq c_8; omega) (fun c_8 => ?_)
              have tc_8 : ¬ r_7.toInt = 0 := v_ne c_8
              refine lv_aload_n hx hb dX12_isChoice_88 rfl (lv_at hl 1 rfl) ?_
              refine va_get (D := (dC, dI)) (ci := 12) (v := .int zn_7) (C := RX12) (T := TX12) (N := 40) hx hb hts in_X12 hown hK hP 0 rfl rfl 27 (Nat.le_of_ble_eq_true rfl) (hts (.fieldLink RX12 91 "TextMenderModel" "byteMany" "I") (List.mem_of_getElem? (i := 5) rfl)) (fun _ h9 => h9) rfl dX12_isChoice_89 ?_
              refine lv_sipush (v := 900) hx hb dX12_isChoice_92 (by decide) ?_
              refine lv_icmp_le (tgt := 100) hx hb dX12_isChoice_95 (by decide) (fun c_9 => ?_) (fun c_9 => by exfalso; have tc_9 : 900 < zn_7.toInt := v_nle c_9; omega)
              have tc_9 : zn_7.toInt ≤ 900 := v_le c_9
              refine lv_aload_n hx hb dX12_isChoice_100 rfl (lv_at hl 1 rfl) ?_
              refine lv_iload_n hx hb dX12_isChoice_101 rfl (lv_at hl 3 rfl) ?_
              refine lv_iconst (v := 1) hx hb dX12_isChoice_102 (by decide) ?_
              refine kV_i (rest := []) (q0 := 0) (ci := 12) hcf (f_X12_readR l dC dI cI cS H.size oM mT mS mX mL mB mD m1 m2 mR x1 x2 x3 mH mY mE mW mO y1 y2 y3 y4 mZ zt zp zf zh zr zc zy za zb zs zq zw ze zn_7 zm_3 zl_7 zm_3 zd_3 eY_7 eL eE_3 b 1 (g_zt) (g_zp) (g_zf) (g_zh) (g_zr) (g_zc) (g_zy) (g_za) (g_zb) (g_zs) (g_zq) (hf7_0) (hf3_0) (by omega) (hf7_1) (g_eL) (hf3_1) (g_b) (rfl)) kc_X12_read gX12_isChoice_X12_read rfl rfl rfl ⟨Nat.le_of_ble_eq_true rfl, Nat.le_of_ble_eq_true rfl⟩ kX_t hK hP hD hS hA (posT mk_183 0) (posF mk_183 0) (kC_of mk_183 rfl rfl) (by decide +kernel) rfl rfl rfl hl rfl (Nat.le_of_ble_eq_true rfl) dX12_isChoice_103 ⟨Nat.le_of_ble_eq_true rfl, Nat.le_of_ble_eq_true rfl⟩ (fun r_10 H locs hB hJ hSn => ?_)
              refine hB _ (fun zd_10 zm_10 zl_10 eE_10 hPD9 hf10_0 hf10_1 hf10_2 hf10_3 hf10_4 => ?_)
              clear hB
              obtain ⟨hPn, hDn⟩ := kJi (m := mk_183) hJ rfl hPD9.1 hPD9.2 (wn := [(oM, .inr (12, [.ref mT, .int zt, .ref mS, .ref mX, .int zp, .int zf, .ref mL, .ref mB, .ref mD, .ref m1, .ref m2, .int zh, .ref mR, .int zr, .ref x1, .ref x2, .ref x3, .int zc, .ref mH, .int zy, .int za, .int zb, .int zs, .int zq, .int zw, .int ze, .ref mY, .int zn_7, .ref mE, .int zm_10, .int zl_10, .ref mW, .int zm_3, .ref mO, .int zd_10, .ref y1, .ref y2, .ref y3, .ref y4, .ref mZ])), (mY, .inl (cI, 2600, .inl eY_7)), (mB, .inl (cS, 131072, .inl eB)), (mL, .inl (cI, 512, .inl eL)), (mE, .inl (cI, 2600, .inl eE_10)), (mW, .inl (cI, 300, .inl eWa)), (mS, .inl (cI, 21, .inl eS)), (mX, .inl (cI, 6300, .inl eX))]) rfl
              clear hP hD hS hJ hPD9
              have hP := hPn
              have hD := hDn
              have hS := hSn
              clear hPn hDn hSn
              have hrf9 : F_r2 zm_10 eE_10 (dl b (fun k => eL k) (fun k => eL (256 + k)) eY_1 zn_1.toInt) (dx b (fun k => eL k) (fun k => eL (256 + k)) eY_1 zn_1.toInt) zn_1.toInt := F_r2_cg hwc9 (fun j hj => by rw [hwc9 j hj]; exact hbb9 j hj) (by have q9 := hf10_4; rw [hwb9] at q9; exact q9)
              refine lv_pop hx hb dX12_isChoice_106 rfl ?_
              refine lv_aload_n hx hb dX12_isChoice_107 rfl (lv_at hl 1 rfl) ?_
              refine va_get (D := (dC, dI)) (ci := 12) (v := .int zm_10) (C := RX12) (T := TX12) (N := 40) hx hb hts in_X12 hown hK hP 0 rfl rfl 29 (Nat.le_of_ble_eq_true rfl) (hts (.fieldLink RX12 119 "TextMenderModel" "cameMany" "I") (List.mem_of_getElem? (i := 1) rfl)) (fun _ h9 => h9) rfl dX12_isChoice_108 ?_
              refine lv_aload_n hx hb dX12_isChoice_111 rfl (lv_at hl 1 rfl) ?_
              refine va_get (D := (dC, dI)) (ci := 12) (v := .ref mS) (C := RX12) (T := TX12) (N := 40) hx hb hts in_X12 hown hK hP 0 rfl rfl 2 (Nat.le_of_ble_eq_true rfl) (hts (.fieldLink RX12 13 "TextMenderModel" "sizes" "[I") (List.mem_of_getElem? (i := 6) rfl)) (fun _ h9 => h9) rfl dX12_isChoice_112 ?_
              refine lv_iconst (v := 0) hx hb dX12_isChoice_115 (by decide) ?_
              refine va_iald hx hb hK hP 6 0 rfl rfl (by unfold vp_in; decide) dX12_isChoice_116 ?_
              refine lv_topi (fun x_11 ex_11 => ?_)
              have tx_11 : 0 ≤ x_11.toInt ∧ x_11.toInt ≤ 300 := rg_at g_eS ex_11
              have hs9 : x_11.toInt = (eS 0).toInt := by rw [ex_11]; rfl
              refine lv_icmp_ne (tgt := 124) hx hb dX12_isChoice_117 (by decide) (fun c_12 => ?_) (fun c_12 => ?_)
              · have tc_12 : ¬ zm_10.toInt = x_11.toInt := v_ne c_12
                refine lv_iconst (v := 0) hx hb dX12_isChoice_124 (by decide) ?_
                refine lv_istore (lv' := [(5, .int 0), (0, .ref oM), (1, .int a), (2, .int b), (3, .int on), (4, .int tw)]) hx hb dX12_isChoice_125 hl (by decide) rfl (fun ls hl => ?_)
                refine lv_iconst (v := 0) hx hb dX12_isChoice_127 (by decide) ?_
                refine lv_istore (lv' := [(6, .int 0), (5, .int 0), (0, .ref oM), (1, .int a), (2, .int b), (3, .int on), (4, .int tw)]) hx hb dX12_isChoice_128 hl (by decide) rfl (fun ls hl => ?_)
                have LOOP_130 : ∀ (k_130 : Nat) (is : Int32) (k2 : Int32) (H : Heap) (locs : List Loc) (ls : Array Slot), MSd (2600 - k2.toInt : Int) k_130 → (0 ≤ is.toInt ∧ is.toInt ≤ 0) → (0 ≤ k2.toInt ∧ k2.toInt ≤ 2600) → va_P (dC, dI) vwCl [(oM, .inr (12, [.ref mT, .int zt, .ref mS, .ref mX, .int zp, .int zf, .ref mL, .ref mB, .ref mD, .ref m1, .ref m2, .int zh, .ref mR, .int zr, .ref x1, .ref x2, .ref x3, .int zc, .ref mH, .int zy, .int za, .int zb, .int zs, .int zq, .int zw, .int ze, .ref mY, .int zn_7, .ref mE, .int zm_10, .int zl_10, .ref mW, .int zm_3, .ref mO, .int zd_10, .ref y1, .ref y2, .ref y3, .ref y4, .ref mZ])), (mY, .inl (cI, 2600, .inl eY_7)), (mB, .inl (cS, 131072, .inl eB)), (mL, .inl (cI, 512, .inl eL)), (mE, .inl (cI, 2600, .inl eE_10)), (mW, .inl (cI, 300, .inl eWa)), (mS, .inl (cI, 21, .inl eS)), (mX, .inl (cI, 6300, .inl eX))] H → va_D A [(oM, .inr (12, [.ref mT, .int zt, .ref mS, .ref mX, .int zp, .int zf, .ref mL, .ref mB, .ref mD, .ref m1, .ref m2, .int zh, .ref mR, .int zr, .ref x1, .ref x2, .ref x3, .int zc, .ref mH, .int zy, .int za, .int zb, .int zs, .int zq, .int zw, .int ze, .ref mY, .int zn_7, .ref mE, .int zm_10, .int zl_10, .ref mW, .int zm_3, .ref mO, .int zd_10, .ref y1, .ref y2, .ref y3, .ref y4, .ref mZ])), (mY, .inl (cI, 2600, .inl eY_7)), (mB, .inl (cS, 131072, .inl eB)), (mL, .inl (cI, 512, .inl eL)), (mE, .inl (cI, 2600, .inl eE_10)), (mW, .inl (cI, 300, .inl eWa)), (mS, .inl (cI, 21, .inl eS)), (mX, .inl (cI, 6300, .inl eX))] → va_S A s.heap H locs → lv_has ls 7 [(6, .int k2), (5, .int is), (0, .ref oM), (1, .int a), (2, .int b), (3, .int on), (4, .int tw)] → W p l e (headSpec wsX12_isChoice ({ frames := 3, cells := 0, slots := 0, locals := 71 } : Room)).room s m ([.ref oM, .int a, .int b, .int on, .int tw] : List Value).toArray below meth c H locs 0 0 (MQ below QQ ([.ref oM, .int a, .int b, .int on, .int tw] : List Value).toArray s 0 0 A) (F0 m 130 ls []) := by
                  clear hP hD hS hl
                  try (clear hf10_2 hwd9 g_zk)
                  intro k_130
                  induction k_130 with
                  | zero =>
                    intro is k2 H locs ls hm_130 g_is g_k2 hP hD hS hl
                    exact ms_0 hm_130
                  | succ k_130 ih_130 =>
                    intro is k2 H locs ls hm_130 g_is g_k2 hP hD hS hl
                    refine lv_iload hx hb dX12_isChoice_130 (lv_at hl 1 rfl) ?_
                    refine lv_if_eq (tgt := 174) hx hb dX12_isChoice_132 (by decide) (fun c_13 => ?_) (fun c_13 => by exfalso; have tc_13 : ¬ is.toInt = 0 := v_ne c_13; omega)
                    have tc_13 : is.toInt = 0 := v_eq c_13
                    refine lv_iload hx hb dX12_isChoice_174 (lv_at hl 1 rfl) ?_
                    exact kl_z (v := is) hQQ hx hb hr hlocks hS dX12_isChoice_176 (v_bool (by omega)) (fun PZ9 kZ9 => kZ9 zn_7 eY_7 zd_10 zm_10 zl_10 eE_10 zm_3 eWa (⟨hP, hD⟩) (hf7_0) (hf7_1) (hf10_0) (hf10_1) (by omega) (g_eWa) (v_rr g_is (by decide) (by decide)) (ic_no hwr9 hx9 (okB_r g_eB) ⟨⟨by omega, by omega⟩, hmv9⟩ (by omega) (fun c9 r9 l9 => (ic_cnt hwr9 hbb9 hlz9 (okB_r g_eB) (hlb b) h2m hat9 hrf9).2 (by omega))))
                exact LOOP_130 _ 0 0 _ _ _ (ms_s _) (by decide) (by decide) hP hD hS (lv_sub hl [0, 1, 2, 3, 4, 5, 6] rfl)
              · have tc_12 : zm_10.toInt = x_11.toInt := v_eq c_12
                have hcn9 := (ic_cnt hwr9 hbb9 hlz9 (okB_r g_eB) (hlb b) h2m hat9 hrf9).1 (by omega)
                have hzk9 : zm_3.toInt = (c8 : Int) := hzm9
                refine lv_iconst (v := 1) hx hb dX12_isChoice_120 (by decide) ?_
                refine lv_goto (tgt := 125) hx hb dX12_isChoice_121 (by decide) ?_
                refine lv_istore (lv' := [(5, .int 1), (0, .ref oM), (1, .int a), (2, .int b), (3, .int on), (4, .int tw)]) hx hb dX12_isChoice_125 hl (by decide) rfl (fun ls hl => ?_)
                refine lv_iconst (v := 0) hx hb dX12_isChoice_127 (by decide) ?_
                refine lv_istore (lv' := [(6, .int 0), (5, .int 1), (0, .ref oM), (1, .int a), (2, .int b), (3, .int on), (4, .int tw)]) hx hb dX12_isChoice_128 hl (by decide) rfl (fun ls hl => ?_)
                have LOOP_130 : ∀ (k_130 : Nat) (is : Int32) (k2 : Int32) (H : Heap) (locs : List Loc) (ls : Array Slot), MSd (2600 - k2.toInt : Int) k_130 → (1 ≤ is.toInt ∧ is.toInt ≤ 1) → (0 ≤ k2.toInt ∧ k2.toInt ≤ 2600) → va_P (dC, dI) vwCl [(oM, .inr (12, [.ref mT, .int zt, .ref mS, .ref mX, .int zp, .int zf, .ref mL, .ref mB, .ref mD, .ref m1, .ref m2, .int zh, .ref mR, .int zr, .ref x1, .ref x2, .ref x3, .int zc, .ref mH, .int zy, .int za, .int zb, .int zs, .int zq, .int zw, .int ze, .ref mY, .int zn_7, .ref mE, .int zm_10, .int zl_10, .ref mW, .int zm_3, .ref mO, .int zd_10, .ref y1, .ref y2, .ref y3, .ref y4, .ref mZ])), (mY, .inl (cI, 2600, .inl eY_7)), (mB, .inl (cS, 131072, .inl eB)), (mL, .inl (cI, 512, .inl eL)), (mE, .inl (cI, 2600, .inl eE_10)), (mW, .inl (cI, 300, .inl eWa)), (mS, .inl (cI, 21, .inl eS)), (mX, .inl (cI, 6300, .inl eX))] H → va_D A [(oM, .inr (12, [.ref mT, .int zt, .ref mS, .ref mX, .int zp, .int zf, .ref mL, .ref mB, .ref mD, .ref m1, .ref m2, .int zh, .ref mR, .int zr, .ref x1, .ref x2, .ref x3, .int zc, .ref mH, .int zy, .int za, .int zb, .int zs, .int zq, .int zw, .int ze, .ref mY, .int zn_7, .ref mE, .int zm_10, .int zl_10, .ref mW, .int zm_3, .ref mO, .int zd_10, .ref y1, .ref y2, .ref y3, .ref y4, .ref mZ])), (mY, .inl (cI, 2600, .inl eY_7)), (mB, .inl (cS, 131072, .inl eB)), (mL, .inl (cI, 512, .inl eL)), (mE, .inl (cI, 2600, .inl eE_10)), (mW, .inl (cI, 300, .inl eWa)), (mS, .inl (cI, 21, .inl eS)), (mX, .inl (cI, 6300, .inl eX))] → va_S A s.heap H locs → lv_has ls 7 [(6, .int k2), (5, .int is), (0, .ref oM), (1, .int a), (2, .int b), (3, .int on), (4, .int tw)] → W p l e (headSpec wsX12_isChoice ({ frames := 3, cells := 0, slots := 0, locals := 71 } : Room)).room s m ([.ref oM, .int a, .int b, .int on, .int tw] : List Value).toArray below meth c H locs 0 0 (MQ below QQ ([.ref oM, .int a, .int b, .int on, .int tw] : List Value).toArray s 0 0 A) (F0 m 130 ls []) := by
                  clear hP hD hS hl
                  try (clear hf10_2 hwd9 g_zk)
                  intro k_130
                  induction k_130 with
                  | zero =>
                    intro is k2 H locs ls hm_130 g_is g_k2 hP hD hS hl
                    exact ms_0 hm_130
                  | succ k_130 ih_130 =>
                    intro is k2 H locs ls hm_130 g_is g_k2 hP hD hS hl
                    refine lv_iload hx hb dX12_isChoice_130 (lv_at hl 1 rfl) ?_
                    refine lv_if_eq (tgt := 174) hx hb dX12_isChoice_132 (by decide) (fun c_14 => by exfalso; have tc_14 : is.toInt = 0 := v_eq c_14; omega) (fun c_14 => ?_)
                    have tc_14 : ¬ is.toInt = 0 := v_ne c_14
                    refine lv_iload hx hb dX12_isChoice_135 (lv_at hl 0 rfl) ?_
                    refine lv_aload_n hx hb dX12_isChoice_137 rfl (lv_at hl 2 rfl) ?_
                    refine va_get (D := (dC, dI)) (ci := 12) (v := .int zm_10) (C := RX12) (T := TX12) (N := 40) hx hb hts in_X12 hown hK hP 0 rfl rfl 29 (Nat.le_of_ble_eq_true rfl) (hts (.fieldLink RX12 119 "TextMenderModel" "cameMany" "I") (List.mem_of_getElem? (i := 1) rfl)) (fun _ h9 => h9) rfl dX12_isChoice_138 ?_
                    refine lv_icmp_ge (tgt := 174) hx hb dX12_isChoice_141 (by decide) (fun c_15 => ?_) (fun c_15 => ?_)
                    · have tc_15 : zm_10.toInt ≤ k2.toInt := v_le c_15
                      refine lv_iload hx hb dX12_isChoice_174 (lv_at hl 1 rfl) ?_
                      exact kl_z (v := is) hQQ hx hb hr hlocks hS dX12_isChoice_176 (v_bool (by omega)) (fun PZ9 kZ9 => kZ9 zn_7 eY_7 zd_10 zm_10 zl_10 eE_10 zm_3 eWa (⟨hP, hD⟩) (hf7_0) (hf7_1) (hf10_0) (hf10_1) (by omega) (g_eWa) (v_rr g_is (by decide) (by decide)) (ic_yes hwr9 (by omega) hzk9 hcn9.1 hrd9 (by omega) hcw9))
                    · have tc_15 : k2.toInt < zm_10.toInt := v_nle c_15
                      refine lv_aload_n hx hb dX12_isChoice_144 rfl (lv_at hl 2 rfl) ?_
                      refine va_get (D := (dC, dI)) (ci := 12) (v := .ref mE) (C := RX12) (T := TX12) (N := 40) hx hb hts in_X12 hown hK hP 0 rfl rfl 28 (Nat.le_of_ble_eq_true rfl) (hts (.fieldLink RX12 61 "TextMenderModel" "came" "[I") (List.mem_of_getElem? (i := 4) rfl)) (fun _ h9 => h9) rfl dX12_isChoice_145 ?_
                      refine lv_iload hx hb dX12_isChoice_148 (lv_at hl 0 rfl) ?_
                      refine va_iald hx hb hK hP 4 0 rfl rfl (v_in (by omega)) dX12_isChoice_150 ?_
                      refine lv_topi (fun x_16 ex_16 => ?_)
                      have tx_16 : 0 ≤ x_16.toInt ∧ x_16.toInt ≤ 65535 := rg_at hf10_1 ex_16
                      refine lv_aload_n hx hb dX12_isChoice_151 rfl (lv_at hl 2 rfl) ?_
                      refine va_get (D := (dC, dI)) (ci := 12) (v := .ref mX) (C := RX12) (T := TX12) (N := 40) hx hb hts in_X12 hown hK hP 0 rfl rfl 3 (Nat.le_of_ble_eq_true rfl) (hts (.fieldLink RX12 16 "TextMenderModel" "texts" "[I") (List.mem_of_getElem? (i := 7) rfl)) (fun _ h9 => h9) rfl dX12_isChoice_152 ?_
                      refine lv_iload hx hb dX12_isChoice_155 (lv_at hl 0 rfl) ?_
                      refine va_iald hx hb hK hP 7 0 rfl rfl (v_inR g_k2 (by decide) (by decide)) dX12_isChoice_157 ?_
                      refine lv_topi (fun x_17 ex_17 => ?_)
                      have tx_17 : 0 ≤ x_17.toInt ∧ x_17.toInt ≤ 65535 := rg_at g_eX ex_17
                      have hxy9 : x_16.toInt = x_17.toInt := by rw [ex_16, ex_17, hcn9.2 k2.toNatClampNeg (by have c9 := v_clamp (x := k2) (by omega); omega)]
                      refine lv_icmp_ne (tgt := 165) hx hb dX12_isChoice_158 (by decide) (fun c_18 => by exfalso; have tc_18 : ¬ x_16.toInt = x_17.toInt := v_ne c_18; omega) (fun c_18 => ?_)
                      have tc_18 : x_16.toInt = x_17.toInt := v_eq c_18
                      refine lv_iconst (v := 1) hx hb dX12_isChoice_161 (by decide) ?_
                      refine lv_goto (tgt := 166) hx hb dX12_isChoice_162 (by decide) ?_
                      refine lv_istore (lv' := [(5, .int 1), (6, .int k2), (0, .ref oM), (1, .int a), (2, .int b), (3, .int on), (4, .int tw)]) hx hb dX12_isChoice_166 hl (by decide) rfl (fun ls hl => ?_)
                      obtain ⟨x_19, ex_19⟩ : ∃ y : Int32, y = k2 + 1 := ⟨_, rfl⟩
                      have tx_19 : x_19.toInt = k2.toInt + 1 := v_addR (l2 := 1) (h2 := 1) ex_19 g_k2 (by decide) (by decide) (by decide)
                      refine lv_iinc (v := x_19) (lv' := [(6, .int x_19), (5, .int 1), (0, .ref oM), (1, .int a), (2, .int b), (3, .int on), (4, .int tw)]) hx hb dX12_isChoice_168 hl (k := 1) rfl (by rw [ex_19]; rfl) (by decide) rfl (fun ls hl => ?_)
                      refine lv_goto (tgt := 130) hx hb dX12_isChoice_171 (by decide) ?_
                      exact ih_130 1 x_19 _ _ _ (ms_lt hm_130 (by show ((2600 - x_19.toInt : Int)) < 2600 - k2.toInt; omega) (by show (0 : Int) < 2600 - k2.toInt; omega)) (by decide) (by show 0 ≤ x_19.toInt ∧ x_19.toInt ≤ 2600; omega) hP hD hS (lv_sub hl [0, 1, 2, 3, 4, 5, 6] rfl)
                exact LOOP_130 _ 1 0 _ _ _ (ms_s _) (by decide) (by decide) hP hD hS (lv_sub hl [0, 1, 2, 3, 4, 5, 6] rfl)
            · have tc_6 : k.toInt < zm_3.toInt := v_nle c_6
              refine lv_aload_n hx hb dX12_isChoice_52 rfl (lv_at hl 1 rfl) ?_
              refine va_get (D := (dC, dI)) (ci := 12) (v := .ref mW) (C := RX12) (T := TX12) (N := 40) hx hb hts in_X12 hown hK hP 0 rfl rfl 31 (Nat.le_of_ble_eq_true rfl) (hts (.fieldLink RX12 64 "TextMenderModel" "work" "[I") (List.mem_of_getElem? (i := 3) rfl)) (fun _ h9 => h9) rfl dX12_isChoice_53 ?_
              refine lv_iload hx hb dX12_isChoice_56 (lv_at hl 0 rfl) ?_
              refine lv_aload_n hx hb dX12_isChoice_58 rfl (lv_at hl 1 rfl) ?_
              refine va_get (D := (dC, dI)) (ci := 12) (v := .ref mE) (C := RX12) (T := TX12) (N := 40) hx hb hts in_X12 hown hK hP 0 rfl rfl 28 (Nat.le_of_ble_eq_true rfl) (hts (.fieldLink RX12 61 "TextMenderModel" "came" "[I") (List.mem_of_getElem? (i := 4) rfl)) (fun _ h9 => h9) rfl dX12_isChoice_59 ?_
              refine lv_iload hx hb dX12_isChoice_62 (lv_at hl 0 rfl) ?_
              refine va_iald hx hb hK hP 4 0 rfl rfl (v_inR g_k (by decide) (by decide)) dX12_isChoice_64 ?_
              refine lv_topi (fun x_20 ex_20 => ?_)
              have tx_20 : 0 ≤ x_20.toInt ∧ x_20.toInt ≤ 65535 := rg_at hf3_1 ex_20
              obtain ⟨f_21, ef_21⟩ : ∃ g : Nat → Int32, g = upd eWa (k : Int32).toNatClampNeg x_20 := ⟨_, rfl⟩
              refine va_iast hx hb hK hP hD hS 5 0 rfl rfl (v_in (by omega)) dX12_isChoice_65 (kWf (g := f_21) (F := fun f_21 => [(oM, .inr (12, [.ref mT, .int zt, .ref mS, .ref mX, .int zp, .int zf, .ref mL, .ref mB, .ref mD, .ref m1, .ref m2, .int zh, .ref mR, .int zr, .ref x1, .ref x2, .ref x3, .int zc, .ref mH, .int zy, .int za, .int zb, .int zs, .int zq, .int zw, .int ze, .ref mY, .int zn_1, .ref mE, .int zm_3, .int zl_3, .ref mW, .int zm_3, .ref mO, .int zd_3, .ref y1, .ref y2, .ref y3, .ref y4, .ref mZ])), (mY, .inl (cI, 2600, .inl eY_1)), (mB, .inl (cS, 131072, .inl eB)), (mL, .inl (cI, 512, .inl eL)), (mE, .inl (cI, 2600, .inl eE_3)), (mW, .inl (cI, 300, .inl f_21)), (mS, .inl (cI, 21, .inl eS)), (mX, .inl (cI, 6300, .inl eX))]) ef_21 rfl (fun H locs hPn hDn hSn => ?_))
              clear hP hD hS
              have hP := hPn
              have hD := hDn
              have hS := hSn
              clear hPn hDn hSn
              have g_f21 : rg 0 65535 f_21 := rg_upd ef_21 g_eWa (by omega)
              obtain ⟨x_22, ex_22⟩ : ∃ y : Int32, y = k + 1 := ⟨_, rfl⟩
              have tx_22 : x_22.toInt = k.toInt + 1 := v_addR (l2 := 1) (h2 := 1) ex_22 g_k (by decide) (by decide) (by decide)
              refine lv_iinc (v := x_22) (lv' := [(5, .int x_22), (0, .ref oM), (1, .int a), (2, .int b), (3, .int on), (4, .int tw)]) hx hb dX12_isChoice_66 hl (k := 0) rfl (by rw [ex_22]; rfl) (by decide) rfl (fun ls hl => ?_)
              refine lv_goto (tgt := 43) hx hb dX12_isChoice_69 (by decide) ?_
              exact ih_43 x_22 f_21 _ _ _ (ms_lt hm_43 (by show ((300 - x_22.toInt : Int)) < 300 - k.toInt; omega) (by show (0 : Int) < 300 - k.toInt; omega)) (by show 0 ≤ x_22.toInt ∧ x_22.toInt ≤ 300; omega) (g_f21) (by show x_22.toInt ≤ zm_3.toInt; omega) (cpE_s hcp ex_20 ef_21 (by omega) (by omega)) hP hD hS (lv_sub hl [0, 1, 2, 3, 4, 5] rfl)
        exact LOOP_43 _ 0 eW _ _ _ (ms_s _) (by decide) (g_eW) (by show 0 ≤ zm_3.toInt; omega) (cpE_0 (by decide)) hP hD hS (lv_sub hl [0, 1, 2, 3, 4, 5] rfl)
      · have tc_5 : 300 < zm_3.toInt := v_nle c_5
        refine lv_iconst (v := 0) hx hb dX12_isChoice_30 (by decide) ?_
        exact kl_z (v := 0) hQQ hx hb hr hlocks hS dX12_isChoice_31 (rfl) (fun PZ9 kZ9 => kZ9 zn_1 eY_1 zd_3 zm_3 zl_3 eE_3 zk eW (⟨hP, hD⟩) (hf1_0) (hf1_1) (hf3_0) (hf3_1) (g_zk) (g_eW) (by decide) (ic_no hwr9 hx9 (okB_r g_eB) ⟨⟨by omega, by omega⟩, hmv9⟩ rfl (ic_rr hf3_4 (by omega))))

end

/-! 5s.a.rows -/
section
set_option maxRecDepth 100000 in
theorem dA360_cX12_choices : kDec cX12_choices [(0, .aload_n 0, 1), (1, .iconst 0, 1), (2, .putfield 85, 3), (5, .aload_n 0, 1), (6, .iconst (-1), 1), (7, .putfield 55, 3), (10, .aload_n 0, 1), (11, .invokevirtual 164, 3), (14, .istore_n 3, 1), (15, .iload_n 3, 1), (16, .iconst 1, 1), (17, .if_icmp .lt 33, 3), (50, .iconst (-1), 1), (51, .ireturn, 1), (20, .iload_n 3, 1), (21, .iconst 2, 1), (22, .if_icmp .gt 28, 3), (25, .iload_n 1, 1), (26, .invokestatic 158, 3), (29, .ifCond .eq 21, 3), (32, .iload_n 2, 1), (33, .invokestatic 158, 3), (36, .ifCond .eq 14, 3), (39, .aload_n 0, 1)] = true := by decide +kernel
theorem dX12_choices_0 : decode cX12_choices 0 = .ok (.aload_n 0, 1) := kDec_at dA360_cX12_choices 0 rfl
theorem dX12_choices_1 : decode cX12_choices 1 = .ok (.iconst 0, 1) := kDec_at dA360_cX12_choices 1 rfl
theorem dX12_choices_2 : decode cX12_choices 2 = .ok (.putfield 85, 3) := kDec_at dA360_cX12_choices 2 rfl
theorem dX12_choices_5 : decode cX12_choices 5 = .ok (.aload_n 0, 1) := kDec_at dA360_cX12_choices 3 rfl
theorem dX12_choices_6 : decode cX12_choices 6 = .ok (.iconst (-1), 1) := kDec_at dA360_cX12_choices 4 rfl
theorem dX12_choices_7 : decode cX12_choices 7 = .ok (.putfield 55, 3) := kDec_at dA360_cX12_choices 5 rfl
theorem dX12_choices_10 : decode cX12_choices 10 = .ok (.aload_n 0, 1) := kDec_at dA360_cX12_choices 6 rfl
theorem dX12_choices_11 : decode cX12_choices 11 = .ok (.invokevirtual 164, 3) := kDec_at dA360_cX12_choices 7 rfl
theorem dX12_choices_14 : decode cX12_choices 14 = .ok (.istore_n 3, 1) := kDec_at dA360_cX12_choices 8 rfl
theorem dX12_choices_15 : decode cX12_choices 15 = .ok (.iload_n 3, 1) := kDec_at dA360_cX12_choices 9 rfl
theorem dX12_choices_16 : decode cX12_choices 16 = .ok (.iconst 1, 1) := kDec_at dA360_cX12_choices 10 rfl
theorem dX12_choices_17 : decode cX12_choices 17 = .ok (.if_icmp .lt 33, 3) := kDec_at dA360_cX12_choices 11 rfl
theorem dX12_choices_50 : decode cX12_choices 50 = .ok (.iconst (-1), 1) := kDec_at dA360_cX12_choices 12 rfl
theorem dX12_choices_51 : decode cX12_choices 51 = .ok (.ireturn, 1) := kDec_at dA360_cX12_choices 13 rfl
theorem dX12_choices_20 : decode cX12_choices 20 = .ok (.iload_n 3, 1) := kDec_at dA360_cX12_choices 14 rfl
theorem dX12_choices_21 : decode cX12_choices 21 = .ok (.iconst 2, 1) := kDec_at dA360_cX12_choices 15 rfl
theorem dX12_choices_22 : decode cX12_choices 22 = .ok (.if_icmp .gt 28, 3) := kDec_at dA360_cX12_choices 16 rfl
theorem dX12_choices_25 : decode cX12_choices 25 = .ok (.iload_n 1, 1) := kDec_at dA360_cX12_choices 17 rfl
theorem dX12_choices_26 : decode cX12_choices 26 = .ok (.invokestatic 158, 3) := kDec_at dA360_cX12_choices 18 rfl
theorem dX12_choices_29 : decode cX12_choices 29 = .ok (.ifCond .eq 21, 3) := kDec_at dA360_cX12_choices 19 rfl
theorem dX12_choices_32 : decode cX12_choices 32 = .ok (.iload_n 2, 1) := kDec_at dA360_cX12_choices 20 rfl
theorem dX12_choices_33 : decode cX12_choices 33 = .ok (.invokestatic 158, 3) := kDec_at dA360_cX12_choices 21 rfl
theorem dX12_choices_36 : decode cX12_choices 36 = .ok (.ifCond .eq 14, 3) := kDec_at dA360_cX12_choices 22 rfl
theorem dX12_choices_39 : decode cX12_choices 39 = .ok (.aload_n 0, 1) := kDec_at dA360_cX12_choices 23 rfl
set_option maxRecDepth 20000 in
theorem ggX12_choices_X12_marksOf : GoodIn wsX12_choices wsX12_marksOf := goodIn_sub (fun _ h => List.mem_cons_of_mem _ (List.mem_append_left _ (List.mem_append_left _ (List.mem_append_left _ (List.mem_append_left _ (List.mem_append_left _ (List.mem_append_right _ (h)))))))) gX12_marksOf_all
set_option maxRecDepth 20000 in
theorem gX12_choices_X12_marksOf : GoodIn wsX12_choices (wsV RX12 164 RX12 yX12_marksOf wsX12_marksOf) := goodIn_app (goodIn_r _ [13, 14, 15, 16] rfl (by decide +kernel)) ggX12_choices_X12_marksOf
set_option maxRecDepth 20000 in
theorem ggX12_choices_X12_isCode : GoodIn wsX12_choices wsX12_isCode := goodIn_sub (fun _ h => List.mem_cons_of_mem _ (List.mem_append_left _ (List.mem_append_left _ (List.mem_append_left _ (List.mem_append_left _ (List.mem_append_right _ (h))))))) gX12_isCode_all
set_option maxRecDepth 20000 in
theorem gX12_choices_X12_isCode : GoodIn wsX12_choices (va_wsS RX12 158 yX12_isCode wsX12_isCode) := goodIn_app (goodIn_r _ [17, 18, 16] rfl (by decide +kernel)) ggX12_choices_X12_isCode
set_option maxRecDepth 100000 in
theorem dA361_cX12_choices : kDec cX12_choices [(40, .getfield 13, 3), (43, .iconst 0, 1), (44, .iaload, 1), (45, .bipush 100, 2), (47, .if_icmp .le 5, 3), (52, .aload_n 0, 1), (53, .iload_n 2, 1), (54, .iconst 0, 1), (55, .iconst 0, 1), (56, .invokevirtual 203, 3), (59, .ifCond .ne 13, 3), (72, .iconst 0, 1), (73, .istore 4, 2), (75, .iconst 0, 1), (76, .istore 5, 2), (78, .iload 5, 2), (80, .sipush 256, 3), (83, .if_icmp .ge 285, 3), (368, .aload_n 0, 1), (369, .iload 4, 2), (371, .putfield 213, 3), (374, .aload_n 0, 1), (375, .iload_n 1, 1), (376, .putfield 216, 3)] = true := by decide +kernel
theorem dX12_choices_40 : decode cX12_choices 40 = .ok (.getfield 13, 3) := kDec_at dA361_cX12_choices 0 rfl
theorem dX12_choices_43 : decode cX12_choices 43 = .ok (.iconst 0, 1) := kDec_at dA361_cX12_choices 1 rfl
theorem dX12_choices_44 : decode cX12_choices 44 = .ok (.iaload, 1) := kDec_at dA361_cX12_choices 2 rfl
theorem dX12_choices_45 : decode cX12_choices 45 = .ok (.bipush 100, 2) := kDec_at dA361_cX12_choices 3 rfl
theorem dX12_choices_47 : decode cX12_choices 47 = .ok (.if_icmp .le 5, 3) := kDec_at dA361_cX12_choices 4 rfl
theorem dX12_choices_52 : decode cX12_choices 52 = .ok (.aload_n 0, 1) := kDec_at dA361_cX12_choices 5 rfl
theorem dX12_choices_53 : decode cX12_choices 53 = .ok (.iload_n 2, 1) := kDec_at dA361_cX12_choices 6 rfl
theorem dX12_choices_54 : decode cX12_choices 54 = .ok (.iconst 0, 1) := kDec_at dA361_cX12_choices 7 rfl
theorem dX12_choices_55 : decode cX12_choices 55 = .ok (.iconst 0, 1) := kDec_at dA361_cX12_choices 8 rfl
theorem dX12_choices_56 : decode cX12_choices 56 = .ok (.invokevirtual 203, 3) := kDec_at dA361_cX12_choices 9 rfl
theorem dX12_choices_59 : decode cX12_choices 59 = .ok (.ifCond .ne 13, 3) := kDec_at dA361_cX12_choices 10 rfl
theorem dX12_choices_72 : decode cX12_choices 72 = .ok (.iconst 0, 1) := kDec_at dA361_cX12_choices 11 rfl
theorem dX12_choices_73 : decode cX12_choices 73 = .ok (.istore 4, 2) := kDec_at dA361_cX12_choices 12 rfl
theorem dX12_choices_75 : decode cX12_choices 75 = .ok (.iconst 0, 1) := kDec_at dA361_cX12_choices 13 rfl
theorem dX12_choices_76 : decode cX12_choices 76 = .ok (.istore 5, 2) := kDec_at dA361_cX12_choices 14 rfl
theorem dX12_choices_78 : decode cX12_choices 78 = .ok (.iload 5, 2) := kDec_at dA361_cX12_choices 15 rfl
theorem dX12_choices_80 : decode cX12_choices 80 = .ok (.sipush 256, 3) := kDec_at dA361_cX12_choices 16 rfl
theorem dX12_choices_83 : decode cX12_choices 83 = .ok (.if_icmp .ge 285, 3) := kDec_at dA361_cX12_choices 17 rfl
theorem dX12_choices_368 : decode cX12_choices 368 = .ok (.aload_n 0, 1) := kDec_at dA361_cX12_choices 18 rfl
theorem dX12_choices_369 : decode cX12_choices 369 = .ok (.iload 4, 2) := kDec_at dA361_cX12_choices 19 rfl
theorem dX12_choices_371 : decode cX12_choices 371 = .ok (.putfield 213, 3) := kDec_at dA361_cX12_choices 20 rfl
theorem dX12_choices_374 : decode cX12_choices 374 = .ok (.aload_n 0, 1) := kDec_at dA361_cX12_choices 21 rfl
theorem dX12_choices_375 : decode cX12_choices 375 = .ok (.iload_n 1, 1) := kDec_at dA361_cX12_choices 22 rfl
theorem dX12_choices_376 : decode cX12_choices 376 = .ok (.putfield 216, 3) := kDec_at dA361_cX12_choices 23 rfl
set_option maxRecDepth 20000 in
theorem ggX12_choices_X12_writeWith : GoodIn wsX12_choices wsX12_writeWith := goodIn_sub (fun _ h => List.mem_cons_of_mem _ (List.mem_append_left _ (List.mem_append_left _ (List.mem_append_left _ (List.mem_append_right _ (h)))))) gX12_writeWith_all
set_option maxRecDepth 20000 in
theorem gX12_choices_X12_writeWith : GoodIn wsX12_choices (wsV RX12 203 RX12 yX12_writeWith wsX12_writeWith) := goodIn_app (goodIn_r _ [19, 20, 21, 16] rfl (by decide +kernel)) ggX12_choices_X12_writeWith
set_option maxRecDepth 100000 in
theorem dA362_cX12_choices : kDec cX12_choices [(379, .aload_n 0, 1), (380, .iload_n 2, 1), (381, .putfield 219, 3), (384, .aload_n 0, 1), (385, .aload_n 0, 1), (386, .getfield 148, 3), (389, .putfield 51, 3), (392, .iload 4, 2), (394, .ireturn, 1), (86, .iconst 0, 1), (87, .istore 6, 2), (89, .iload 6, 2), (91, .iload_n 3, 1), (92, .iconst 1, 1), (93, .if_icmp .ne 7, 3), (96, .iconst 1, 1), (97, .goto 6, 3), (103, .if_icmp .ge 259, 3), (362, .iinc 5 1, 3), (365, .goto (-287), 3), (106, .aload_n 0, 1), (107, .iload_n 2, 1), (108, .iload 5, 2), (110, .invokevirtual 206, 3)] = true := by decide +kernel
theorem dX12_choices_379 : decode cX12_choices 379 = .ok (.aload_n 0, 1) := kDec_at dA362_cX12_choices 0 rfl
theorem dX12_choices_380 : decode cX12_choices 380 = .ok (.iload_n 2, 1) := kDec_at dA362_cX12_choices 1 rfl
theorem dX12_choices_381 : decode cX12_choices 381 = .ok (.putfield 219, 3) := kDec_at dA362_cX12_choices 2 rfl
theorem dX12_choices_384 : decode cX12_choices 384 = .ok (.aload_n 0, 1) := kDec_at dA362_cX12_choices 3 rfl
theorem dX12_choices_385 : decode cX12_choices 385 = .ok (.aload_n 0, 1) := kDec_at dA362_cX12_choices 4 rfl
theorem dX12_choices_386 : decode cX12_choices 386 = .ok (.getfield 148, 3) := kDec_at dA362_cX12_choices 5 rfl
theorem dX12_choices_389 : decode cX12_choices 389 = .ok (.putfield 51, 3) := kDec_at dA362_cX12_choices 6 rfl
theorem dX12_choices_392 : decode cX12_choices 392 = .ok (.iload 4, 2) := kDec_at dA362_cX12_choices 7 rfl
theorem dX12_choices_394 : decode cX12_choices 394 = .ok (.ireturn, 1) := kDec_at dA362_cX12_choices 8 rfl
theorem dX12_choices_86 : decode cX12_choices 86 = .ok (.iconst 0, 1) := kDec_at dA362_cX12_choices 9 rfl
theorem dX12_choices_87 : decode cX12_choices 87 = .ok (.istore 6, 2) := kDec_at dA362_cX12_choices 10 rfl
theorem dX12_choices_89 : decode cX12_choices 89 = .ok (.iload 6, 2) := kDec_at dA362_cX12_choices 11 rfl
theorem dX12_choices_91 : decode cX12_choices 91 = .ok (.iload_n 3, 1) := kDec_at dA362_cX12_choices 12 rfl
theorem dX12_choices_92 : decode cX12_choices 92 = .ok (.iconst 1, 1) := kDec_at dA362_cX12_choices 13 rfl
theorem dX12_choices_93 : decode cX12_choices 93 = .ok (.if_icmp .ne 7, 3) := kDec_at dA362_cX12_choices 14 rfl
theorem dX12_choices_96 : decode cX12_choices 96 = .ok (.iconst 1, 1) := kDec_at dA362_cX12_choices 15 rfl
theorem dX12_choices_97 : decode cX12_choices 97 = .ok (.goto 6, 3) := kDec_at dA362_cX12_choices 16 rfl
theorem dX12_choices_103 : decode cX12_choices 103 = .ok (.if_icmp .ge 259, 3) := kDec_at dA362_cX12_choices 17 rfl
theorem dX12_choices_362 : decode cX12_choices 362 = .ok (.iinc 5 1, 3) := kDec_at dA362_cX12_choices 18 rfl
theorem dX12_choices_365 : decode cX12_choices 365 = .ok (.goto (-287), 3) := kDec_at dA362_cX12_choices 19 rfl
theorem dX12_choices_106 : decode cX12_choices 106 = .ok (.aload_n 0, 1) := kDec_at dA362_cX12_choices 20 rfl
theorem dX12_choices_107 : decode cX12_choices 107 = .ok (.iload_n 2, 1) := kDec_at dA362_cX12_choices 21 rfl
theorem dX12_choices_108 : decode cX12_choices 108 = .ok (.iload 5, 2) := kDec_at dA362_cX12_choices 22 rfl
theorem dX12_choices_110 : decode cX12_choices 110 = .ok (.invokevirtual 206, 3) := kDec_at dA362_cX12_choices 23 rfl
set_option maxRecDepth 20000 in
theorem gX12_isAlone_all : wsX12_isAlone.all goodWord = true := by
  unfold wsX12_isAlone
  exact good_c (by decide +kernel) (good_a (good_a ((by decide +kernel)) gX12_clsall) gX12_readAt_all)
set_option maxRecDepth 20000 in
theorem ggX12_choices_X12_isAlone : GoodIn wsX12_choices wsX12_isAlone := goodIn_sub (fun _ h => List.mem_cons_of_mem _ (List.mem_append_left _ (List.mem_append_left _ (List.mem_append_right _ (h))))) gX12_isAlone_all
set_option maxRecDepth 20000 in
theorem gX12_choices_X12_isAlone : GoodIn wsX12_choices (wsV RX12 206 RX12 yX12_isAlone wsX12_isAlone) := goodIn_app (goodIn_r _ [22, 23, 24, 16] rfl (by decide +kernel)) ggX12_choices_X12_isAlone
set_option maxRecDepth 100000 in
theorem dA363_cX12_choices : kDec cX12_choices [(113, .ifCond .ne 243, 3), (356, .iinc 6 1, 3), (359, .goto (-270), 3), (116, .iload_n 3, 1), (117, .iconst 2, 1), (118, .if_icmp .ne 13, 3), (131, .aload_n 0, 1), (132, .iload_n 1, 1), (133, .iload_n 2, 1), (134, .iload 5, 2), (136, .iload 6, 2), (138, .invokevirtual 209, 3), (141, .ifCond .ne 6, 3), (147, .aload_n 0, 1), (148, .aload_n 0, 1), (149, .getfield 64, 3), (152, .iconst 0, 1), (153, .aload_n 0, 1), (154, .getfield 135, 3), (157, .invokevirtual 189, 3), (160, .istore 7, 2), (207, .iinc 4 1, 3), (210, .iload 8, 2), (212, .sipush 200, 3)] = true := by decide +kernel
theorem dX12_choices_113 : decode cX12_choices 113 = .ok (.ifCond .ne 243, 3) := kDec_at dA363_cX12_choices 0 rfl
theorem dX12_choices_356 : decode cX12_choices 356 = .ok (.iinc 6 1, 3) := kDec_at dA363_cX12_choices 1 rfl
theorem dX12_choices_359 : decode cX12_choices 359 = .ok (.goto (-270), 3) := kDec_at dA363_cX12_choices 2 rfl
theorem dX12_choices_116 : decode cX12_choices 116 = .ok (.iload_n 3, 1) := kDec_at dA363_cX12_choices 3 rfl
theorem dX12_choices_117 : decode cX12_choices 117 = .ok (.iconst 2, 1) := kDec_at dA363_cX12_choices 4 rfl
theorem dX12_choices_118 : decode cX12_choices 118 = .ok (.if_icmp .ne 13, 3) := kDec_at dA363_cX12_choices 5 rfl
theorem dX12_choices_131 : decode cX12_choices 131 = .ok (.aload_n 0, 1) := kDec_at dA363_cX12_choices 6 rfl
theorem dX12_choices_132 : decode cX12_choices 132 = .ok (.iload_n 1, 1) := kDec_at dA363_cX12_choices 7 rfl
theorem dX12_choices_133 : decode cX12_choices 133 = .ok (.iload_n 2, 1) := kDec_at dA363_cX12_choices 8 rfl
theorem dX12_choices_134 : decode cX12_choices 134 = .ok (.iload 5, 2) := kDec_at dA363_cX12_choices 9 rfl
theorem dX12_choices_136 : decode cX12_choices 136 = .ok (.iload 6, 2) := kDec_at dA363_cX12_choices 10 rfl
theorem dX12_choices_138 : decode cX12_choices 138 = .ok (.invokevirtual 209, 3) := kDec_at dA363_cX12_choices 11 rfl
theorem dX12_choices_141 : decode cX12_choices 141 = .ok (.ifCond .ne 6, 3) := kDec_at dA363_cX12_choices 12 rfl
theorem dX12_choices_147 : decode cX12_choices 147 = .ok (.aload_n 0, 1) := kDec_at dA363_cX12_choices 13 rfl
theorem dX12_choices_148 : decode cX12_choices 148 = .ok (.aload_n 0, 1) := kDec_at dA363_cX12_choices 14 rfl
theorem dX12_choices_149 : decode cX12_choices 149 = .ok (.getfield 64, 3) := kDec_at dA363_cX12_choices 15 rfl
theorem dX12_choices_152 : decode cX12_choices 152 = .ok (.iconst 0, 1) := kDec_at dA363_cX12_choices 16 rfl
theorem dX12_choices_153 : decode cX12_choices 153 = .ok (.aload_n 0, 1) := kDec_at dA363_cX12_choices 17 rfl
theorem dX12_choices_154 : decode cX12_choices 154 = .ok (.getfield 135, 3) := kDec_at dA363_cX12_choices 18 rfl
theorem dX12_choices_157 : decode cX12_choices 157 = .ok (.invokevirtual 189, 3) := kDec_at dA363_cX12_choices 19 rfl
theorem dX12_choices_160 : decode cX12_choices 160 = .ok (.istore 7, 2) := kDec_at dA363_cX12_choices 20 rfl
theorem dX12_choices_207 : decode cX12_choices 207 = .ok (.iinc 4 1, 3) := kDec_at dA363_cX12_choices 21 rfl
theorem dX12_choices_210 : decode cX12_choices 210 = .ok (.iload 8, 2) := kDec_at dA363_cX12_choices 22 rfl
theorem dX12_choices_212 : decode cX12_choices 212 = .ok (.sipush 200, 3) := kDec_at dA363_cX12_choices 23 rfl
set_option maxRecDepth 20000 in
theorem gX12_isChoice_all : wsX12_isChoice.all goodWord = true := by
  unfold wsX12_isChoice
  exact good_c (by decide +kernel) (good_a (good_a (good_a (good_a ((by decide +kernel)) gX12_clsall) gX12_writeWith_all) gX12_read_all) gX12_write_all)
set_option maxRecDepth 20000 in
theorem ggX12_choices_X12_isChoice : GoodIn wsX12_choices wsX12_isChoice := goodIn_sub (fun _ h => List.mem_cons_of_mem _ (List.mem_append_left _ (List.mem_append_right _ (h)))) gX12_isChoice_all
set_option maxRecDepth 20000 in
theorem gX12_choices_X12_isChoice : GoodIn wsX12_choices (wsV RX12 209 RX12 yX12_isChoice wsX12_isChoice) := goodIn_app (goodIn_r _ [25, 26, 27, 16] rfl (by decide +kernel)) ggX12_choices_X12_isChoice
set_option maxRecDepth 20000 in
theorem ggX12_choices_X12_costOf_ : GoodIn wsX12_choices wsX12_costOf_ := goodIn_sub (fun _ h => List.mem_cons_of_mem _ (List.mem_append_right _ (h))) gX12_costOf__all
set_option maxRecDepth 20000 in
theorem gX12_choices_X12_costOf_ : GoodIn wsX12_choices (wsV RX12 189 RX12 yX12_costOf_ wsX12_costOf_) := goodIn_app (goodIn_r _ [28, 29, 30, 16] rfl (by decide +kernel)) ggX12_choices_X12_costOf_
set_option maxRecDepth 100000 in
theorem dA364_cX12_choices : kDec cX12_choices [(215, .if_icmp .ne 6, 3), (221, .iload 4, 2), (223, .sipush 200, 3), (226, .if_icmp .ge 8, 3), (234, .sipush 200, 3), (237, .iconst 1, 1), (238, .isub, 1), (239, .istore 9, 2), (241, .iload 9, 2), (243, .iload 8, 2), (245, .if_icmp .le 50, 3), (295, .aload_n 0, 1), (296, .getfield 48, 3), (299, .iconst 4, 1), (300, .iload 8, 2), (302, .imul, 1), (303, .iload 5, 2), (305, .iastore, 1), (306, .aload_n 0, 1), (307, .getfield 48, 3), (310, .iconst 4, 1), (311, .iload 8, 2), (313, .imul, 1), (314, .iconst 1, 1)] = true := by decide +kernel
theorem dX12_choices_215 : decode cX12_choices 215 = .ok (.if_icmp .ne 6, 3) := kDec_at dA364_cX12_choices 0 rfl
theorem dX12_choices_221 : decode cX12_choices 221 = .ok (.iload 4, 2) := kDec_at dA364_cX12_choices 1 rfl
theorem dX12_choices_223 : decode cX12_choices 223 = .ok (.sipush 200, 3) := kDec_at dA364_cX12_choices 2 rfl
theorem dX12_choices_226 : decode cX12_choices 226 = .ok (.if_icmp .ge 8, 3) := kDec_at dA364_cX12_choices 3 rfl
theorem dX12_choices_234 : decode cX12_choices 234 = .ok (.sipush 200, 3) := kDec_at dA364_cX12_choices 4 rfl
theorem dX12_choices_237 : decode cX12_choices 237 = .ok (.iconst 1, 1) := kDec_at dA364_cX12_choices 5 rfl
theorem dX12_choices_238 : decode cX12_choices 238 = .ok (.isub, 1) := kDec_at dA364_cX12_choices 6 rfl
theorem dX12_choices_239 : decode cX12_choices 239 = .ok (.istore 9, 2) := kDec_at dA364_cX12_choices 7 rfl
theorem dX12_choices_241 : decode cX12_choices 241 = .ok (.iload 9, 2) := kDec_at dA364_cX12_choices 8 rfl
theorem dX12_choices_243 : decode cX12_choices 243 = .ok (.iload 8, 2) := kDec_at dA364_cX12_choices 9 rfl
theorem dX12_choices_245 : decode cX12_choices 245 = .ok (.if_icmp .le 50, 3) := kDec_at dA364_cX12_choices 10 rfl
theorem dX12_choices_295 : decode cX12_choices 295 = .ok (.aload_n 0, 1) := kDec_at dA364_cX12_choices 11 rfl
theorem dX12_choices_296 : decode cX12_choices 296 = .ok (.getfield 48, 3) := kDec_at dA364_cX12_choices 12 rfl
theorem dX12_choices_299 : decode cX12_choices 299 = .ok (.iconst 4, 1) := kDec_at dA364_cX12_choices 13 rfl
theorem dX12_choices_300 : decode cX12_choices 300 = .ok (.iload 8, 2) := kDec_at dA364_cX12_choices 14 rfl
theorem dX12_choices_302 : decode cX12_choices 302 = .ok (.imul, 1) := kDec_at dA364_cX12_choices 15 rfl
theorem dX12_choices_303 : decode cX12_choices 303 = .ok (.iload 5, 2) := kDec_at dA364_cX12_choices 16 rfl
theorem dX12_choices_305 : decode cX12_choices 305 = .ok (.iastore, 1) := kDec_at dA364_cX12_choices 17 rfl
theorem dX12_choices_306 : decode cX12_choices 306 = .ok (.aload_n 0, 1) := kDec_at dA364_cX12_choices 18 rfl
theorem dX12_choices_307 : decode cX12_choices 307 = .ok (.getfield 48, 3) := kDec_at dA364_cX12_choices 19 rfl
theorem dX12_choices_310 : decode cX12_choices 310 = .ok (.iconst 4, 1) := kDec_at dA364_cX12_choices 20 rfl
theorem dX12_choices_311 : decode cX12_choices 311 = .ok (.iload 8, 2) := kDec_at dA364_cX12_choices 21 rfl
theorem dX12_choices_313 : decode cX12_choices 313 = .ok (.imul, 1) := kDec_at dA364_cX12_choices 22 rfl
theorem dX12_choices_314 : decode cX12_choices 314 = .ok (.iconst 1, 1) := kDec_at dA364_cX12_choices 23 rfl
set_option maxRecDepth 100000 in
theorem dA365_cX12_choices : kDec cX12_choices [(315, .iadd, 1), (316, .iload_n 3, 1), (317, .iconst 1, 1), (318, .if_icmp .ne 7, 3), (321, .iconst (-1), 1), (322, .goto 5, 3), (327, .iastore, 1), (328, .aload_n 0, 1), (329, .getfield 48, 3), (332, .iconst 4, 1), (333, .iload 8, 2), (335, .imul, 1), (336, .iconst 2, 1), (337, .iadd, 1), (338, .iload 7, 2), (340, .iastore, 1), (341, .aload_n 0, 1), (342, .getfield 48, 3), (345, .iconst 4, 1), (346, .iload 8, 2), (348, .imul, 1), (349, .iconst 3, 1), (350, .iadd, 1), (351, .aload_n 0, 1)] = true := by decide +kernel
theorem dX12_choices_315 : decode cX12_choices 315 = .ok (.iadd, 1) := kDec_at dA365_cX12_choices 0 rfl
theorem dX12_choices_316 : decode cX12_choices 316 = .ok (.iload_n 3, 1) := kDec_at dA365_cX12_choices 1 rfl
theorem dX12_choices_317 : decode cX12_choices 317 = .ok (.iconst 1, 1) := kDec_at dA365_cX12_choices 2 rfl
theorem dX12_choices_318 : decode cX12_choices 318 = .ok (.if_icmp .ne 7, 3) := kDec_at dA365_cX12_choices 3 rfl
theorem dX12_choices_321 : decode cX12_choices 321 = .ok (.iconst (-1), 1) := kDec_at dA365_cX12_choices 4 rfl
theorem dX12_choices_322 : decode cX12_choices 322 = .ok (.goto 5, 3) := kDec_at dA365_cX12_choices 5 rfl
theorem dX12_choices_327 : decode cX12_choices 327 = .ok (.iastore, 1) := kDec_at dA365_cX12_choices 6 rfl
theorem dX12_choices_328 : decode cX12_choices 328 = .ok (.aload_n 0, 1) := kDec_at dA365_cX12_choices 7 rfl
theorem dX12_choices_329 : decode cX12_choices 329 = .ok (.getfield 48, 3) := kDec_at dA365_cX12_choices 8 rfl
theorem dX12_choices_332 : decode cX12_choices 332 = .ok (.iconst 4, 1) := kDec_at dA365_cX12_choices 9 rfl
theorem dX12_choices_333 : decode cX12_choices 333 = .ok (.iload 8, 2) := kDec_at dA365_cX12_choices 10 rfl
theorem dX12_choices_335 : decode cX12_choices 335 = .ok (.imul, 1) := kDec_at dA365_cX12_choices 11 rfl
theorem dX12_choices_336 : decode cX12_choices 336 = .ok (.iconst 2, 1) := kDec_at dA365_cX12_choices 12 rfl
theorem dX12_choices_337 : decode cX12_choices 337 = .ok (.iadd, 1) := kDec_at dA365_cX12_choices 13 rfl
theorem dX12_choices_338 : decode cX12_choices 338 = .ok (.iload 7, 2) := kDec_at dA365_cX12_choices 14 rfl
theorem dX12_choices_340 : decode cX12_choices 340 = .ok (.iastore, 1) := kDec_at dA365_cX12_choices 15 rfl
theorem dX12_choices_341 : decode cX12_choices 341 = .ok (.aload_n 0, 1) := kDec_at dA365_cX12_choices 16 rfl
theorem dX12_choices_342 : decode cX12_choices 342 = .ok (.getfield 48, 3) := kDec_at dA365_cX12_choices 17 rfl
theorem dX12_choices_345 : decode cX12_choices 345 = .ok (.iconst 4, 1) := kDec_at dA365_cX12_choices 18 rfl
theorem dX12_choices_346 : decode cX12_choices 346 = .ok (.iload 8, 2) := kDec_at dA365_cX12_choices 19 rfl
theorem dX12_choices_348 : decode cX12_choices 348 = .ok (.imul, 1) := kDec_at dA365_cX12_choices 20 rfl
theorem dX12_choices_349 : decode cX12_choices 349 = .ok (.iconst 3, 1) := kDec_at dA365_cX12_choices 21 rfl
theorem dX12_choices_350 : decode cX12_choices 350 = .ok (.iadd, 1) := kDec_at dA365_cX12_choices 22 rfl
theorem dX12_choices_351 : decode cX12_choices 351 = .ok (.aload_n 0, 1) := kDec_at dA365_cX12_choices 23 rfl
set_option maxRecDepth 100000 in
theorem dA366_cX12_choices : kDec cX12_choices [(352, .getfield 135, 3), (355, .iastore, 1), (248, .iconst 0, 1), (249, .istore 10, 2), (251, .iload 10, 2), (253, .iconst 4, 1), (254, .if_icmp .ge 35, 3), (289, .iinc 9 (-1), 3), (292, .goto (-51), 3), (257, .aload_n 0, 1), (258, .getfield 48, 3), (261, .iconst 4, 1), (262, .iload 9, 2), (264, .imul, 1), (265, .iload 10, 2), (267, .iadd, 1), (268, .aload_n 0, 1), (269, .getfield 48, 3), (272, .iconst 4, 1), (273, .iload 9, 2), (275, .imul, 1), (276, .iconst 4, 1), (277, .isub, 1), (278, .iload 10, 2)] = true := by decide +kernel
theorem dX12_choices_352 : decode cX12_choices 352 = .ok (.getfield 135, 3) := kDec_at dA366_cX12_choices 0 rfl
theorem dX12_choices_355 : decode cX12_choices 355 = .ok (.iastore, 1) := kDec_at dA366_cX12_choices 1 rfl
theorem dX12_choices_248 : decode cX12_choices 248 = .ok (.iconst 0, 1) := kDec_at dA366_cX12_choices 2 rfl
theorem dX12_choices_249 : decode cX12_choices 249 = .ok (.istore 10, 2) := kDec_at dA366_cX12_choices 3 rfl
theorem dX12_choices_251 : decode cX12_choices 251 = .ok (.iload 10, 2) := kDec_at dA366_cX12_choices 4 rfl
theorem dX12_choices_253 : decode cX12_choices 253 = .ok (.iconst 4, 1) := kDec_at dA366_cX12_choices 5 rfl
theorem dX12_choices_254 : decode cX12_choices 254 = .ok (.if_icmp .ge 35, 3) := kDec_at dA366_cX12_choices 6 rfl
theorem dX12_choices_289 : decode cX12_choices 289 = .ok (.iinc 9 (-1), 3) := kDec_at dA366_cX12_choices 7 rfl
theorem dX12_choices_292 : decode cX12_choices 292 = .ok (.goto (-51), 3) := kDec_at dA366_cX12_choices 8 rfl
theorem dX12_choices_257 : decode cX12_choices 257 = .ok (.aload_n 0, 1) := kDec_at dA366_cX12_choices 9 rfl
theorem dX12_choices_258 : decode cX12_choices 258 = .ok (.getfield 48, 3) := kDec_at dA366_cX12_choices 10 rfl
theorem dX12_choices_261 : decode cX12_choices 261 = .ok (.iconst 4, 1) := kDec_at dA366_cX12_choices 11 rfl
theorem dX12_choices_262 : decode cX12_choices 262 = .ok (.iload 9, 2) := kDec_at dA366_cX12_choices 12 rfl
theorem dX12_choices_264 : decode cX12_choices 264 = .ok (.imul, 1) := kDec_at dA366_cX12_choices 13 rfl
theorem dX12_choices_265 : decode cX12_choices 265 = .ok (.iload 10, 2) := kDec_at dA366_cX12_choices 14 rfl
theorem dX12_choices_267 : decode cX12_choices 267 = .ok (.iadd, 1) := kDec_at dA366_cX12_choices 15 rfl
theorem dX12_choices_268 : decode cX12_choices 268 = .ok (.aload_n 0, 1) := kDec_at dA366_cX12_choices 16 rfl
theorem dX12_choices_269 : decode cX12_choices 269 = .ok (.getfield 48, 3) := kDec_at dA366_cX12_choices 17 rfl
theorem dX12_choices_272 : decode cX12_choices 272 = .ok (.iconst 4, 1) := kDec_at dA366_cX12_choices 18 rfl
theorem dX12_choices_273 : decode cX12_choices 273 = .ok (.iload 9, 2) := kDec_at dA366_cX12_choices 19 rfl
theorem dX12_choices_275 : decode cX12_choices 275 = .ok (.imul, 1) := kDec_at dA366_cX12_choices 20 rfl
theorem dX12_choices_276 : decode cX12_choices 276 = .ok (.iconst 4, 1) := kDec_at dA366_cX12_choices 21 rfl
theorem dX12_choices_277 : decode cX12_choices 277 = .ok (.isub, 1) := kDec_at dA366_cX12_choices 22 rfl
theorem dX12_choices_278 : decode cX12_choices 278 = .ok (.iload 10, 2) := kDec_at dA366_cX12_choices 23 rfl
set_option maxRecDepth 100000 in
theorem dA367_cX12_choices : kDec cX12_choices [(280, .iadd, 1), (281, .iaload, 1), (282, .iastore, 1), (283, .iinc 10 1, 3), (286, .goto (-35), 3), (229, .iload 4, 2), (231, .goto 6, 3), (218, .goto 138, 3), (162, .iload 4, 2), (164, .sipush 200, 3), (167, .if_icmp .ge 8, 3), (175, .sipush 200, 3), (178, .istore 8, 2), (180, .iload 8, 2), (182, .ifCond .le 25, 3), (185, .aload_n 0, 1), (186, .getfield 48, 3), (189, .iconst 4, 1), (190, .iload 8, 2), (192, .imul, 1), (193, .iconst 2, 1), (194, .isub, 1), (195, .iaload, 1), (196, .iload 7, 2)] = true := by decide +kernel
theorem dX12_choices_280 : decode cX12_choices 280 = .ok (.iadd, 1) := kDec_at dA367_cX12_choices 0 rfl
theorem dX12_choices_281 : decode cX12_choices 281 = .ok (.iaload, 1) := kDec_at dA367_cX12_choices 1 rfl
theorem dX12_choices_282 : decode cX12_choices 282 = .ok (.iastore, 1) := kDec_at dA367_cX12_choices 2 rfl
theorem dX12_choices_283 : decode cX12_choices 283 = .ok (.iinc 10 1, 3) := kDec_at dA367_cX12_choices 3 rfl
theorem dX12_choices_286 : decode cX12_choices 286 = .ok (.goto (-35), 3) := kDec_at dA367_cX12_choices 4 rfl
theorem dX12_choices_229 : decode cX12_choices 229 = .ok (.iload 4, 2) := kDec_at dA367_cX12_choices 5 rfl
theorem dX12_choices_231 : decode cX12_choices 231 = .ok (.goto 6, 3) := kDec_at dA367_cX12_choices 6 rfl
theorem dX12_choices_218 : decode cX12_choices 218 = .ok (.goto 138, 3) := kDec_at dA367_cX12_choices 7 rfl
theorem dX12_choices_162 : decode cX12_choices 162 = .ok (.iload 4, 2) := kDec_at dA367_cX12_choices 8 rfl
theorem dX12_choices_164 : decode cX12_choices 164 = .ok (.sipush 200, 3) := kDec_at dA367_cX12_choices 9 rfl
theorem dX12_choices_167 : decode cX12_choices 167 = .ok (.if_icmp .ge 8, 3) := kDec_at dA367_cX12_choices 10 rfl
theorem dX12_choices_175 : decode cX12_choices 175 = .ok (.sipush 200, 3) := kDec_at dA367_cX12_choices 11 rfl
theorem dX12_choices_178 : decode cX12_choices 178 = .ok (.istore 8, 2) := kDec_at dA367_cX12_choices 12 rfl
theorem dX12_choices_180 : decode cX12_choices 180 = .ok (.iload 8, 2) := kDec_at dA367_cX12_choices 13 rfl
theorem dX12_choices_182 : decode cX12_choices 182 = .ok (.ifCond .le 25, 3) := kDec_at dA367_cX12_choices 14 rfl
theorem dX12_choices_185 : decode cX12_choices 185 = .ok (.aload_n 0, 1) := kDec_at dA367_cX12_choices 15 rfl
theorem dX12_choices_186 : decode cX12_choices 186 = .ok (.getfield 48, 3) := kDec_at dA367_cX12_choices 16 rfl
theorem dX12_choices_189 : decode cX12_choices 189 = .ok (.iconst 4, 1) := kDec_at dA367_cX12_choices 17 rfl
theorem dX12_choices_190 : decode cX12_choices 190 = .ok (.iload 8, 2) := kDec_at dA367_cX12_choices 18 rfl
theorem dX12_choices_192 : decode cX12_choices 192 = .ok (.imul, 1) := kDec_at dA367_cX12_choices 19 rfl
theorem dX12_choices_193 : decode cX12_choices 193 = .ok (.iconst 2, 1) := kDec_at dA367_cX12_choices 20 rfl
theorem dX12_choices_194 : decode cX12_choices 194 = .ok (.isub, 1) := kDec_at dA367_cX12_choices 21 rfl
theorem dX12_choices_195 : decode cX12_choices 195 = .ok (.iaload, 1) := kDec_at dA367_cX12_choices 22 rfl
theorem dX12_choices_196 : decode cX12_choices 196 = .ok (.iload 7, 2) := kDec_at dA367_cX12_choices 23 rfl
set_option maxRecDepth 100000 in
theorem dA368_cX12_choices : kDec cX12_choices [(198, .if_icmp .le 9, 3), (201, .iinc 8 (-1), 3), (204, .goto (-24), 3), (170, .iload 4, 2), (172, .goto 6, 3), (144, .goto 212, 3), (100, .sipush 256, 3), (121, .aload_n 0, 1), (122, .iload_n 2, 1), (123, .iload 6, 2), (125, .invokevirtual 206, 3), (128, .ifCond .ne 228, 3), (325, .iload 6, 2), (62, .aload_n 0, 1), (63, .aload_n 0, 1), (64, .getfield 102, 3), (67, .putfield 55, 3), (70, .iconst (-1), 1), (71, .ireturn, 1)] = true := by decide +kernel
theorem dX12_choices_198 : decode cX12_choices 198 = .ok (.if_icmp .le 9, 3) := kDec_at dA368_cX12_choices 0 rfl
theorem dX12_choices_201 : decode cX12_choices 201 = .ok (.iinc 8 (-1), 3) := kDec_at dA368_cX12_choices 1 rfl
theorem dX12_choices_204 : decode cX12_choices 204 = .ok (.goto (-24), 3) := kDec_at dA368_cX12_choices 2 rfl
theorem dX12_choices_170 : decode cX12_choices 170 = .ok (.iload 4, 2) := kDec_at dA368_cX12_choices 3 rfl
theorem dX12_choices_172 : decode cX12_choices 172 = .ok (.goto 6, 3) := kDec_at dA368_cX12_choices 4 rfl
theorem dX12_choices_144 : decode cX12_choices 144 = .ok (.goto 212, 3) := kDec_at dA368_cX12_choices 5 rfl
theorem dX12_choices_100 : decode cX12_choices 100 = .ok (.sipush 256, 3) := kDec_at dA368_cX12_choices 6 rfl
theorem dX12_choices_121 : decode cX12_choices 121 = .ok (.aload_n 0, 1) := kDec_at dA368_cX12_choices 7 rfl
theorem dX12_choices_122 : decode cX12_choices 122 = .ok (.iload_n 2, 1) := kDec_at dA368_cX12_choices 8 rfl
theorem dX12_choices_123 : decode cX12_choices 123 = .ok (.iload 6, 2) := kDec_at dA368_cX12_choices 9 rfl
theorem dX12_choices_125 : decode cX12_choices 125 = .ok (.invokevirtual 206, 3) := kDec_at dA368_cX12_choices 10 rfl
theorem dX12_choices_128 : decode cX12_choices 128 = .ok (.ifCond .ne 228, 3) := kDec_at dA368_cX12_choices 11 rfl
theorem dX12_choices_325 : decode cX12_choices 325 = .ok (.iload 6, 2) := kDec_at dA368_cX12_choices 12 rfl
theorem dX12_choices_62 : decode cX12_choices 62 = .ok (.aload_n 0, 1) := kDec_at dA368_cX12_choices 13 rfl
theorem dX12_choices_63 : decode cX12_choices 63 = .ok (.aload_n 0, 1) := kDec_at dA368_cX12_choices 14 rfl
theorem dX12_choices_64 : decode cX12_choices 64 = .ok (.getfield 102, 3) := kDec_at dA368_cX12_choices 15 rfl
theorem dX12_choices_67 : decode cX12_choices 67 = .ok (.putfield 55, 3) := kDec_at dA368_cX12_choices 16 rfl
theorem dX12_choices_70 : decode cX12_choices 70 = .ok (.iconst (-1), 1) := kDec_at dA368_cX12_choices 17 rfl
theorem dX12_choices_71 : decode cX12_choices 71 = .ok (.ireturn, 1) := kDec_at dA368_cX12_choices 18 rfl

end
