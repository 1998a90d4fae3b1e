/-! 5u.rest -/
section
def txP (l : Int) (f : Nat → Int32) (c : Nat) (fm : Nat → Int32) (v : Int) : Prop := v = c ∧ (c : Int) = l ∧ c ≤ 300 ∧ allLt l f ∧ ∀ i, i < c → fm i = f i
theorem tx_iff {l z : Int} {f g : Nat → Int32} (hl : l = z) (he : eqT l f g) : ∀ c fm v, txP l f c fm v ↔ txP z g c fm v := by
  subst hl
  intro c fm v
  constructor
  · rintro ⟨a1, a2, a3, a4, a5⟩
    exact ⟨a1, a2, a3, eqT_all he a4, fun i hi => (a5 i hi).trans (he i (by omega))⟩
  · rintro ⟨a1, a2, a3, a4, a5⟩
    exact ⟨a1, a2, a3, eqT_all (fun j hj => (he j hj).symm) a4, fun i hi => (a5 i hi).trans (he i (by omega)).symm⟩
theorem tx_ok {l : Int} {f : Nat → Int32} : okQ (txP l f) := by
  rintro c fm v ⟨a1, a2, a3, a4, a5⟩
  refine ⟨⟨a3, fun i hi => by rw [a5 i hi]; exact a4 i (by omega)⟩, ?_⟩
  rintro c' fm' v' ⟨b1, b2, b3, b4, b5⟩
  exact ⟨by omega, by omega, fun i hi => (a5 i hi).trans (b5 i (by omega)).symm⟩
def rdP (cd : Int32) (L4 L5 : Nat → Int32) (n : Int) (f : Nat → Int32) (c : Nat) (fm : Nat → Int32) (v : Int) : Prop := okd cd ∧ prg n 0 255 f ∧ v = c ∧ c ≤ 300 ∧ rdOk (dl cd L4 L5 f n) n c ∧ ∀ i, i < c → fm i = dx cd L4 L5 f n (psn (dl cd L4 L5 f n) i)
theorem rd_cg {cd : Int32} {L4 L5 M4 M5 f g fm : Nat → Int32} {n : Int} {c : Nat} {v : Int} (he : ∀ j : Nat, (j : Int) < n → f j = g j) (h4 : ∀ k, k < 256 → L4 k = M4 k) (h5 : ∀ k, k < 256 → L5 k = M5 k) (h : rdP cd L4 L5 n f c fm v) : rdP cd M4 M5 n g c fm v := by
  obtain ⟨a1, a2, a3, a4, a5, a6⟩ := h
  rw [dl_congr he h4 h5 a2] at a5 a6
  rw [dx_congr he h4 h5 a2] at a6
  exact ⟨a1, fun j hj => by rw [← he j hj]; exact a2 j hj, a3, a4, a5, a6⟩
theorem rd_iff {cd : Int32} {L4 L5 M4 M5 f g : Nat → Int32} {l z : Int} (hl : l = z) (he : eqT l f g) (h4 : ∀ k, k < 256 → L4 k = M4 k) (h5 : ∀ k, k < 256 → L5 k = M5 k) : ∀ c fm v, rdP cd L4 L5 l f c fm v ↔ rdP cd M4 M5 z g c fm v := by
  subst hl
  exact fun c fm v => ⟨rd_cg he h4 h5, rd_cg (fun j hj => (he j hj).symm) (fun k hk => (h4 k hk).symm) (fun k hk => (h5 k hk).symm)⟩
theorem rd_ok {cd : Int32} {eL f : Nat → Int32} {n : Int} (hz : LZ eL) : okQ (rdP cd (fun k => eL k) (fun k => eL (256 + k)) n f) := by
  rintro c fm v ⟨a1, a2, a3, a4, a5, a6⟩
  refine ⟨⟨a4, fun i hi => by rw [a6 i hi]; exact dx_lz hz a2 (a5.2 i hi)⟩, ?_⟩
  rintro c' fm' v' ⟨b1, b2, b3, b4, b5, b6⟩
  have q := rd_uniq a5 b5
  subst q
  exact ⟨rfl, by omega, fun i hi => (a6 i hi).trans (b6 i hi).symm⟩
theorem rx_y {cd r ft l : Int32} {L4 L5 f fm : Nat → Int32} {n : Int} (h : F_rx r ft l fm (dl cd L4 L5 f n) (dx cd L4 L5 f n) n) (hr : ¬ r.toInt = 0) (ho : okd cd) (hp : prg n 0 255 f) : ∃ c : Nat, l.toInt = c ∧ ∀ v : Int, v = l.toInt → rdP cd L4 L5 n f c fm v := by
  rcases h with ⟨r1, r2, c, r3, r4, r5, r6⟩ | ⟨r1, _⟩ | ⟨r1, _⟩
  · exact ⟨c, r5, fun v hv => ⟨ho, hp, by omega, r4, r3, r6⟩⟩
  · exact absurd (by rw [r1]; rfl) hr
  · exact absurd (by rw [r1]; rfl) hr
theorem rx_n {cd r ft l : Int32} {L4 L5 f fm : Nat → Int32} {n : Int} (h : F_rx r ft l fm (dl cd L4 L5 f n) (dx cd L4 L5 f n) n) (hr : r.toInt = 0) : ∀ c fm v, ¬ rdP cd L4 L5 n f c fm v := by
  rintro c fm' v ⟨a1, a2, a3, a4, a5, a6⟩
  rcases h with ⟨r1, _⟩ | ⟨r1, r2, c', r3, r4⟩ | ⟨r1, c', r2, r3, r4, _⟩
  · rw [r1] at hr; exact absurd hr (by decide)
  · have q := rd_uniq a5 r3
    omega
  · exact rd_stop r2 r3 r4 c a5
theorem rr_y {cd r m ft : Int32} {L4 L5 f g fm : Nat → Int32} {n : Int} (h : F_rr r m ft fm (dl cd L4 L5 f n) (dx cd L4 L5 f n) n) (hr : ¬ r.toInt = 0) (h3 : m.toInt ≤ 300) (ho : okd cd) (hp : prg n 0 255 f) (he : ∀ j : Nat, (j : Int) < n → f j = g j) : ∃ c : Nat, m.toInt = c ∧ ∀ v : Int, v = m.toInt → rdP cd L4 L5 n g c fm v := by
  rcases h with ⟨r1, c, r3, r5, r6⟩ | ⟨r1, _⟩
  · exact ⟨c, r5, fun v hv => rd_cg he (fun _ _ => rfl) (fun _ _ => rfl) ⟨ho, hp, by omega, by omega, r3, r6⟩⟩
  · exact absurd (by rw [r1]; rfl) hr
theorem rr_n {cd r m ft : Int32} {L4 L5 f g fm : Nat → Int32} {n : Int} (h : F_rr r m ft fm (dl cd L4 L5 f n) (dx cd L4 L5 f n) n) (hr : r.toInt = 0 ∨ 300 < m.toInt) (he : ∀ j : Nat, (j : Int) < n → f j = g j) : ∀ c fm v, ¬ rdP cd L4 L5 n g c fm v := by
  rintro c fm' v w
  obtain ⟨a1, a2, a3, a4, a5, a6⟩ := rd_cg (fun j hj => (he j hj).symm) (fun _ _ => rfl) (fun _ _ => rfl) w
  rcases h with ⟨r1, c', r3, r5, _⟩ | ⟨r1, c', r2, r3, r4, _⟩
  · have q := rd_uniq a5 r3
    rcases hr with hr | hr
    · rw [r1] at hr; exact absurd hr (by decide)
    · omega
  · exact rd_stop r2 r3 r4 c a5

set_option maxHeartbeats 40000000 in
set_option maxRecDepth 100000 in
theorem f_X11_textE (l : Launch) (dC : Nat → ClassId) (dI : Nat → Nat → Nat) (cI cS : ClassId) (sz : Nat) (oX : Nat) (nT : Nat) (nL : Nat) (nM : Nat) (oC : Nat) (oP : Nat) (oH : Nat) (oK : Nat) (oG : Nat) (oR : Nat) (oQ : Nat) (oW : Nat) (aT : Nat) (aL : Nat) (aM : Nat) (g1 : Nat) (g2 : Nat) (nw : Nat) (w1 : Nat) (w2 : Nat) (w3 : Nat) (o7 : Nat) (o8 : Nat) (o9 : Nat) (w4 : Nat) (w5 : Nat) (w6 : Nat) (w7 : Nat) (fa : Int32) (lT : Int32) (fT : Nat → Int32) (lL : Int32) (fL : Nat → Int32) (lM : Int32) (fM : Nat → Int32) (gn : Int32) (lG : Int32) (fG1 : Nat → Int32) (fG2 : Nat → Int32) (ke : Int32) (tl : Int32) (fsh : Int32) (wi : Int32) (ri : Int32) (fm : Int32) (lm : Int32) (g_lT : 0 ≤ lT.toInt ∧ lT.toInt ≤ 900) (g_lL : 0 ≤ lL.toInt ∧ lL.toInt ≤ 300) (g_lM : 0 ≤ lM.toInt ∧ lM.toInt ≤ 300) (g_gn : 0 ≤ gn.toInt ∧ gn.toInt ≤ 19) (g_lG : 0 ≤ lG.toInt ∧ lG.toInt ≤ 20) (g_fG2 : rg 0 300 fG2) (g_ke : 0 ≤ ke.toInt ∧ ke.toInt ≤ 200) (g_fsh : 0 ≤ fsh.toInt ∧ fsh.toInt ≤ 1) (g_fm : -1 ≤ fm.toInt ∧ fm.toInt ≤ 800) (g_lm : -1 ≤ lm.toInt ∧ lm.toInt ≤ 800) : kMi l yX11_text wsX11_text ({ frames := 4, cells := 0, slots := 0, locals := 111 } : Room) [.ref oX] sz (dC, dI) vwCl [(cI, .int), (cS, .short)] [(oX, .inr (11, [.ref nT, .ref nL, .ref nM, .ref oC, .ref oP, .ref oH, .ref oK, .ref oG, .ref oR, .ref oQ, .ref oW, .int fa])), (nT, .inr (5, [.ref aT, .int lT])), (aT, .inl (cI, 900, .inl fT)), (nL, .inr (5, [.ref aL, .int lL])), (aL, .inl (cI, 300, .inl fL)), (nM, .inr (5, [.ref aM, .int lM])), (aM, .inl (cI, 300, .inl fM)), (oG, .inr (0, [.ref g1, .ref g2, .int gn, .int lG])), (g1, .inl (cI, 6000, .inl fG1)), (g2, .inl (cI, 20, .inl fG2)), (oW, .inr (1, [.ref oC, .ref oK, .ref nw, .ref w1, .ref w2, .ref w3, .ref o7, .ref o8, .ref o9, .ref w4, .ref w5, .ref w6, .ref w7, .int ke, .int tl, .int fsh, .int wi, .int ri, .int fm, .int lm]))] (fun _ => True) 0 0 (fun (A : Nat → Prop) (r : Int32) (hh9 : Heap) => ∀ PZ9 : Prop, (∀ (fa' : Int32) (lT' : Int32) (lM' : Int32) (fM' : Nat → Int32) (lL' : Int32) (fL' : Nat → Int32) (fsh' : Int32) (gn' : Int32) (lG' : Int32) (fG1' : Nat → Int32) (fG2' : Nat → Int32), kPD (dC, dI) vwCl A [(oX, .inr (11, [.ref nT, .ref nL, .ref nM, .ref oC, .ref oP, .ref oH, .ref oK, .ref oG, .ref oR, .ref oQ, .ref oW, .int fa'])), (nT, .inr (5, [.ref aT, .int lT'])), (aT, .inl (cI, 900, .inl fT)), (nL, .inr (5, [.ref aL, .int lL'])), (aL, .inl (cI, 300, .inl fL')), (nM, .inr (5, [.ref aM, .int lM'])), (aM, .inl (cI, 300, .inl fM')), (oG, .inr (0, [.ref g1, .ref g2, .int gn', .int lG'])), (g1, .inl (cI, 6000, .inl fG1')), (g2, .inl (cI, 20, .inl fG2')), (oW, .inr (1, [.ref oC, .ref oK, .ref nw, .ref w1, .ref w2, .ref w3, .ref o7, .ref o8, .ref o9, .ref w4, .ref w5, .ref w6, .ref w7, .int ke, .int tl, .int fsh', .int wi, .int ri, .int fm, .int lm]))] hh9 → (0 ≤ lT'.toInt ∧ lT'.toInt ≤ 900) → (0 ≤ lM'.toInt ∧ lM'.toInt ≤ 300) → (0 ≤ lL'.toInt ∧ lL'.toInt ≤ 300) → (0 ≤ fsh'.toInt ∧ fsh'.toInt ≤ 1) → (0 ≤ gn'.toInt ∧ gn'.toInt ≤ 19) → (0 ≤ lG'.toInt ∧ lG'.toInt ≤ 20) → (rg 0 300 fG2') → (lT'.toInt = 0) → (OC (-1) r fsh fsh' gn gn' lG lG' lL lL' fG1 fG1' fG2 fG2' fL fL' (txP lT.toInt fT)) → PZ9) → PZ9) := by
  refine kMi_of (cc := cX11_text) (maxL := 2) (ret := (some .int)) (lv := [(0, .ref oX)]) (by decide +kernel) rfl rfl (Nat.le_of_ble_eq_true rfl) ?_
  intro p e s m below meth c A QQ ls hx hb hr hts hml hown hlocks hA hQQ hK hX hP hD hS hl
  have hown : s.vm.findClass RX11 = some m.cls := hown
  have hcf := k_cf hx hb hml hown hts
  have in_X11 : ∀ w ∈ wsX110, w ∈ wsX11_text := fun _ h => List.mem_cons_of_mem _ (List.mem_append_left _ (List.mem_append_left _ (List.mem_append_left _ (List.mem_append_left _ (List.mem_append_left _ (List.mem_append_left _ (List.mem_append_left _ (List.mem_append_left _ (List.mem_append_right _ (h))))))))))
  replace g_ke := hid g_ke
  replace g_lm := hid g_lm
  refine lv_aload_n hx hb dX11_text_0 rfl (lv_at hl 0 rfl) ?_
  refine lv_iconst (v := (-1)) hx hb dX11_text_1 (by decide) ?_
  refine va_put (D := (dC, dI)) (ci := 11) (v := .int (-1)) (ty := .int) (C := RX11) (T := TX11) (N := 12) hx hb hts in_X11 tyX11 tyX11_ok nmX11 hown hK hP hD hS 0 rfl rfl 11 (Nat.le_of_ble_eq_true rfl) (hts (.fieldLink RX11 90 "TextMender" "fault" "I") (List.mem_of_getElem? (i := 1) rfl)) (fun _ h9 => h9) rfl (tyX11_ok 11 (Nat.le_of_ble_eq_true rfl)) rfl rfl (Nat.le_of_ble_eq_true rfl) dX11_text_2 (kW (wn := [(oX, .inr (11, [.ref nT, .ref nL, .ref nM, .ref oC, .ref oP, .ref oH, .ref oK, .ref oG, .ref oR, .ref oQ, .ref oW, .int (-1)])), (nT, .inr (5, [.ref aT, .int lT])), (aT, .inl (cI, 900, .inl fT)), (nL, .inr (5, [.ref aL, .int lL])), (aL, .inl (cI, 300, .inl fL)), (nM, .inr (5, [.ref aM, .int lM])), (aM, .inl (cI, 300, .inl fM)), (oG, .inr (0, [.ref g1, .ref g2, .int gn, .int lG])), (g1, .inl (cI, 6000, .inl fG1)), (g2, .inl (cI, 20, .inl fG2)), (oW, .inr (1, [.ref oC, .ref oK, .ref nw, .ref w1, .ref w2, .ref w3, .ref o7, .ref o8, .ref o9, .ref w4, .ref w5, .ref w6, .ref w7, .int ke, .int tl, .int fsh, .int wi, .int ri, .int fm, .int lm]))]) rfl (fun H locs hPn hDn hSn => ?_))
  clear hP hD hS
  have hP := hPn
  have hD := hDn
  have hS := hSn
  clear hPn hDn hSn
  refine lv_aload_n hx hb dX11_text_5 rfl (lv_at hl 0 rfl) ?_
  refine va_get (D := (dC, dI)) (ci := 11) (v := .ref nT) (C := RX11) (T := TX11) (N := 12) hx hb hts in_X11 hown hK hP 0 rfl rfl 0 (Nat.le_of_ble_eq_true rfl) (hts (.fieldLink RX11 30 "TextMender" "tape" "LTextMender$Numbers;") (List.mem_of_getElem? (i := 2) rfl)) (fun _ h9 => h9) rfl dX11_text_6 ?_
  refine kV_i (rest := []) (q0 := 0) (ci := 5) hcf (m_X5_length l dC dI cI cS H.size nT aT lT ) kc_X5_length gX11_text_X5_length rfl rfl rfl ⟨Nat.le_of_ble_eq_true rfl, Nat.le_of_ble_eq_true rfl⟩ kX_t hK hP hD hS hA (posT mk_100 0) (posF mk_100 0) (kC_of mk_100 rfl rfl) (by decide +kernel) rfl rfl rfl hl rfl (Nat.le_of_ble_eq_true rfl) dX11_text_9 ⟨Nat.le_of_ble_eq_true rfl, Nat.le_of_ble_eq_true rfl⟩ (fun r_1 H locs hB hJ hSn => ?_)
  refine hB _ (fun hPD9 hf1_0 => ?_)
  clear hB
  obtain ⟨hPn, hDn⟩ := kJi (m := mk_100) hJ rfl hPD9.1 hPD9.2 (wn := [(oX, .inr (11, [.ref nT, .ref nL, .ref nM, .ref oC, .ref oP, .ref oH, .ref oK, .ref oG, .ref oR, .ref oQ, .ref oW, .int (-1)])), (nT, .inr (5, [.ref aT, .int lT])), (aT, .inl (cI, 900, .inl fT)), (nL, .inr (5, [.ref aL, .int lL])), (aL, .inl (cI, 300, .inl fL)), (nM, .inr (5, [.ref aM, .int lM])), (aM, .inl (cI, 300, .inl fM)), (oG, .inr (0, [.ref g1, .ref g2, .int gn, .int lG])), (g1, .inl (cI, 6000, .inl fG1)), (g2, .inl (cI, 20, .inl fG2)), (oW, .inr (1, [.ref oC, .ref oK, .ref nw, .ref w1, .ref w2, .ref w3, .ref o7, .ref o8, .ref o9, .ref w4, .ref w5, .ref w6, .ref w7, .int ke, .int tl, .int fsh, .int wi, .int ri, .int fm, .int lm]))]) rfl
  clear hP hD hS hJ hPD9
  have hP := hPn
  have hD := hDn
  have hS := hSn
  clear hPn hDn hSn
  rw [hf1_0]
  refine lv_sipush (v := 300) hx hb dX11_text_12 (by decide) ?_
  refine lv_icmp_gt (tgt := 29) hx hb dX11_text_15 (by decide) (fun c_2 => ?_) (fun c_2 => ?_)
  · have tc_2 : 300 < lT.toInt := v_lt c_2
    refine lv_iconst (v := 0) hx hb dX11_text_29 (by decide) ?_
    refine lv_istore_n (lv' := [(1, .int 0), (0, .ref oX)]) hx hb dX11_text_30 rfl hl (by decide) rfl (fun ls hl => ?_)
    refine lv_iload_n hx hb dX11_text_31 rfl (lv_at hl 0 rfl) ?_
    refine lv_if_eq (tgt := 47) hx hb dX11_text_32 (by decide) (fun c_3 => ?_) (fun c_3 => absurd c_3 (by decide))
    refine lv_aload_n hx hb dX11_text_47 rfl (lv_at hl 1 rfl) ?_
    refine va_get (D := (dC, dI)) (ci := 11) (v := .ref nT) (C := RX11) (T := TX11) (N := 12) hx hb hts in_X11 hown hK hP 0 rfl rfl 0 (Nat.le_of_ble_eq_true rfl) (hts (.fieldLink RX11 30 "TextMender" "tape" "LTextMender$Numbers;") (List.mem_of_getElem? (i := 2) rfl)) (fun _ h9 => h9) rfl dX11_text_48 ?_
    refine lv_iconst (v := 0) hx hb dX11_text_51 (by decide) ?_
    refine kV_v (rest := []) (q0 := 0) (ci := 5) hcf (m_X5_cut l dC dI cI cS H.size nT aT lT 0 (v_rr g_lT (by decide) (by decide))) kc_X5_cut gX11_text_X5_cut rfl rfl rfl ⟨Nat.le_of_ble_eq_true rfl, Nat.le_of_ble_eq_true rfl⟩ kX_t hK hP hD hS hA (posT mk_100 0) (posF mk_100 0) (kC_of mk_100 rfl rfl) (by decide +kernel) rfl rfl rfl hl rfl (Nat.le_of_ble_eq_true rfl) dX11_text_52 ⟨Nat.le_of_ble_eq_true rfl, Nat.le_of_ble_eq_true rfl⟩ (fun H locs hB hJ hSn => ?_)
    refine hB _ (fun lu_4 hPD9 hf4_0 hf4_1 hf4_2 => ?_)
    clear hB
    obtain ⟨hPn, hDn⟩ := kJi (m := mk_100) hJ rfl hPD9.1 hPD9.2 (wn := [(oX, .inr (11, [.ref nT, .ref nL, .ref nM, .ref oC, .ref oP, .ref oH, .ref oK, .ref oG, .ref oR, .ref oQ, .ref oW, .int (-1)])), (nT, .inr (5, [.ref aT, .int lu_4])), (aT, .inl (cI, 900, .inl fT)), (nL, .inr (5, [.ref aL, .int lL])), (aL, .inl (cI, 300, .inl fL)), (nM, .inr (5, [.ref aM, .int lM])), (aM, .inl (cI, 300, .inl fM)), (oG, .inr (0, [.ref g1, .ref g2, .int gn, .int lG])), (g1, .inl (cI, 6000, .inl fG1)), (g2, .inl (cI, 20, .inl fG2)), (oW, .inr (1, [.ref oC, .ref oK, .ref nw, .ref w1, .ref w2, .ref w3, .ref o7, .ref o8, .ref o9, .ref w4, .ref w5, .ref w6, .ref w7, .int ke, .int tl, .int fsh, .int wi, .int ri, .int fm, .int lm]))]) rfl
    clear hP hD hS hJ hPD9
    have hP := hPn
    have hD := hDn
    have hS := hSn
    clear hPn hDn hSn
    have ha4 : lu_4.toInt = 0 := F_cut_l hf4_2 (by first | decide | omega) (by first | omega | (show (0 : Int) ≤ _; omega))
    refine lv_iload_n hx hb dX11_text_55 rfl (lv_at hl 0 rfl) ?_
    refine lv_if_eq (tgt := 70) hx hb dX11_text_56 (by decide) (fun c_5 => ?_) (fun c_5 => absurd c_5 (by decide))
    refine lv_iconst (v := (-1)) hx hb dX11_text_70 (by decide) ?_
    exact kl_i (v := (-1)) hQQ hx hb hr hlocks hS dX11_text_71 (fun PZ9 kZ9 => kZ9 (-1) lu_4 lM fM lL fL fsh gn lG fG1 fG2 (⟨hP, hD⟩) (by omega) (g_lM) (g_lL) (g_fsh) (g_gn) (g_lG) (g_fG2) (by show lu_4.toInt = 0; omega) (OC_n rfl (fun c fm v h9 => by have h8 := h9.2.1; have h7 := h9.2.2.1; omega)))
  · have tc_2 : lT.toInt ≤ 300 := v_nlt c_2
    refine lv_aload_n hx hb dX11_text_18 rfl (lv_at hl 0 rfl) ?_
    refine kV_i (rest := []) (q0 := 0) (ci := 11) hcf (f_X11_tapeHoldsLetters l dC dI cI cS H.size oX nT nL nM oC oP oH oK oG oR oQ oW aT (-1) lT fT (g_lT)) kc_X11_tapeHoldsLetters gX11_text_X11_tapeHoldsLetters rfl rfl rfl ⟨Nat.le_of_ble_eq_true rfl, Nat.le_of_ble_eq_true rfl⟩ kX_t hK hP hD hS hA (posT mk_101 0) (posF mk_101 0) (kC_of mk_101 rfl rfl) (by decide +kernel) rfl rfl rfl hl rfl (Nat.le_of_ble_eq_true rfl) dX11_text_19 ⟨Nat.le_of_ble_eq_true rfl, Nat.le_of_ble_eq_true rfl⟩ (fun r_6 H locs hB hJ hSn => ?_)
    refine hB _ (fun fa_6 hPD9 hf6_0 hf6_1 => ?_)
    clear hB
    obtain ⟨hPn, hDn⟩ := kJi (m := mk_101) hJ rfl hPD9.1 hPD9.2 (wn := [(oX, .inr (11, [.ref nT, .ref nL, .ref nM, .ref oC, .ref oP, .ref oH, .ref oK, .ref oG, .ref oR, .ref oQ, .ref oW, .int fa_6])), (nT, .inr (5, [.ref aT, .int lT])), (aT, .inl (cI, 900, .inl fT)), (nL, .inr (5, [.ref aL, .int lL])), (aL, .inl (cI, 300, .inl fL)), (nM, .inr (5, [.ref aM, .int lM])), (aM, .inl (cI, 300, .inl fM)), (oG, .inr (0, [.ref g1, .ref g2, .int gn, .int lG])), (g1, .inl (cI, 6000, .inl fG1)), (g2, .inl (cI, 20, .inl fG2)), (oW, .inr (1, [.ref oC, .ref oK, .ref nw, .ref w1, .ref w2, .ref w3, .ref o7, .ref o8, .ref o9, .ref w4, .ref w5, .ref w6, .ref w7, .int ke, .int tl, .int fsh, .int wi, .int ri, .int fm, .int lm]))]) rfl
    clear hP hD hS hJ hPD9
    have hP := hPn
    have hD := hDn
    have hS := hSn
    clear hPn hDn hSn
    refine lv_if_eq (tgt := 29) hx hb dX11_text_22 (by decide) (fun c_7 => ?_) (fun c_7 => ?_)
    · have tc_7 : r_6.toInt = 0 := v_eq c_7
      refine lv_iconst (v := 0) hx hb dX11_text_29 (by decide) ?_
      refine lv_istore_n (lv' := [(1, .int 0), (0, .ref oX)]) hx hb dX11_text_30 rfl hl (by decide) rfl (fun ls hl => ?_)
      refine lv_iload_n hx hb dX11_text_31 rfl (lv_at hl 0 rfl) ?_
      refine lv_if_eq (tgt := 47) hx hb dX11_text_32 (by decide) (fun c_8 => ?_) (fun c_8 => absurd c_8 (by decide))
      refine lv_aload_n hx hb dX11_text_47 rfl (lv_at hl 1 rfl) ?_
      refine va_get (D := (dC, dI)) (ci := 11) (v := .ref nT) (C := RX11) (T := TX11) (N := 12) hx hb hts in_X11 hown hK hP 0 rfl rfl 0 (Nat.le_of_ble_eq_true rfl) (hts (.fieldLink RX11 30 "TextMender" "tape" "LTextMender$Numbers;") (List.mem_of_getElem? (i := 2) rfl)) (fun _ h9 => h9) rfl dX11_text_48 ?_
      refine lv_iconst (v := 0) hx hb dX11_text_51 (by decide) ?_
      refine kV_v (rest := []) (q0 := 0) (ci := 5) hcf (m_X5_cut l dC dI cI cS H.size nT aT lT 0 (v_rr g_lT (by decide) (by decide))) kc_X5_cut gX11_text_X5_cut rfl rfl rfl ⟨Nat.le_of_ble_eq_true rfl, Nat.le_of_ble_eq_true rfl⟩ kX_t hK hP hD hS hA (posT mk_100 0) (posF mk_100 0) (kC_of mk_100 rfl rfl) (by decide +kernel) rfl rfl rfl hl rfl (Nat.le_of_ble_eq_true rfl) dX11_text_52 ⟨Nat.le_of_ble_eq_true rfl, Nat.le_of_ble_eq_true rfl⟩ (fun H locs hB hJ hSn => ?_)
      refine hB _ (fun lu_9 hPD9 hf9_0 hf9_1 hf9_2 => ?_)
      clear hB
      obtain ⟨hPn, hDn⟩ := kJi (m := mk_100) hJ rfl hPD9.1 hPD9.2 (wn := [(oX, .inr (11, [.ref nT, .ref nL, .ref nM, .ref oC, .ref oP, .ref oH, .ref oK, .ref oG, .ref oR, .ref oQ, .ref oW, .int fa_6])), (nT, .inr (5, [.ref aT, .int lu_9])), (aT, .inl (cI, 900, .inl fT)), (nL, .inr (5, [.ref aL, .int lL])), (aL, .inl (cI, 300, .inl fL)), (nM, .inr (5, [.ref aM, .int lM])), (aM, .inl (cI, 300, .inl fM)), (oG, .inr (0, [.ref g1, .ref g2, .int gn, .int lG])), (g1, .inl (cI, 6000, .inl fG1)), (g2, .inl (cI, 20, .inl fG2)), (oW, .inr (1, [.ref oC, .ref oK, .ref nw, .ref w1, .ref w2, .ref w3, .ref o7, .ref o8, .ref o9, .ref w4, .ref w5, .ref w6, .ref w7, .int ke, .int tl, .int fsh, .int wi, .int ri, .int fm, .int lm]))]) rfl
      clear hP hD hS hJ hPD9
      have hP := hPn
      have hD := hDn
      have hS := hSn
      clear hPn hDn hSn
      have ha9 : lu_9.toInt = 0 := F_cut_l hf9_2 (by first | decide | omega) (by first | omega | (show (0 : Int) ≤ _; omega))
      refine lv_iload_n hx hb dX11_text_55 rfl (lv_at hl 0 rfl) ?_
      refine lv_if_eq (tgt := 70) hx hb dX11_text_56 (by decide) (fun c_10 => ?_) (fun c_10 => absurd c_10 (by decide))
      refine lv_iconst (v := (-1)) hx hb dX11_text_70 (by decide) ?_
      exact kl_i (v := (-1)) hQQ hx hb hr hlocks hS dX11_text_71 (fun PZ9 kZ9 => kZ9 fa_6 lu_9 lM fM lL fL fsh gn lG fG1 fG2 (⟨hP, hD⟩) (by omega) (g_lM) (g_lL) (g_fsh) (g_gn) (g_lG) (g_fG2) (by show lu_9.toInt = 0; omega) (OC_n rfl (fun c fm v h9 => (hf6_1.elim (fun z => by exfalso; have z9 := v_eq z.1; have e9 : (1 : Int32).toInt = 1 := rfl; omega) (fun z => z.2 h9.2.2.2.1)))))
    · have tc_7 : ¬ r_6.toInt = 0 := v_ne c_7
      refine lv_iconst (v := 1) hx hb dX11_text_25 (by decide) ?_
      refine lv_goto (tgt := 30) hx hb dX11_text_26 (by decide) ?_
      refine lv_istore_n (lv' := [(1, .int 1), (0, .ref oX)]) hx hb dX11_text_30 rfl hl (by decide) rfl (fun ls hl => ?_)
      refine lv_iload_n hx hb dX11_text_31 rfl (lv_at hl 0 rfl) ?_
      refine lv_if_eq (tgt := 47) hx hb dX11_text_32 (by decide) (fun c_11 => absurd c_11 (by decide)) (fun c_11 => ?_)
      refine lv_aload_n hx hb dX11_text_35 rfl (lv_at hl 1 rfl) ?_
      refine va_get (D := (dC, dI)) (ci := 11) (v := .ref nM) (C := RX11) (T := TX11) (N := 12) hx hb hts in_X11 hown hK hP 0 rfl rfl 2 (Nat.le_of_ble_eq_true rfl) (hts (.fieldLink RX11 37 "TextMender" "made" "LTextMender$Numbers;") (List.mem_of_getElem? (i := 3) rfl)) (fun _ h9 => h9) rfl dX11_text_36 ?_
      refine lv_aload_n hx hb dX11_text_39 rfl (lv_at hl 1 rfl) ?_
      refine va_get (D := (dC, dI)) (ci := 11) (v := .ref nT) (C := RX11) (T := TX11) (N := 12) hx hb hts in_X11 hown hK hP 0 rfl rfl 0 (Nat.le_of_ble_eq_true rfl) (hts (.fieldLink RX11 30 "TextMender" "tape" "LTextMender$Numbers;") (List.mem_of_getElem? (i := 2) rfl)) (fun _ h9 => h9) rfl dX11_text_40 ?_
      refine kV_i (rest := []) (q0 := 0) (ci := 5) hcf (m_X5_takeAll l dC dI cI cS H.size nM nT aM aT 300 900 lM fM lT fT (by omega) (by omega) (by omega) (by omega)) kc_X5_takeAll gX11_text_X5_takeAll rfl rfl rfl ⟨Nat.le_of_ble_eq_true rfl, Nat.le_of_ble_eq_true rfl⟩ kX_t hK hP hD hS hA ([2, 3, 0, 1].filterMap (fun j => (posT mk_102 0)[j]?)) (posF mk_102 0) (kCp (ws := [(nT, .inr (5, [.ref aT, .int lT])), (aT, .inl (cI, 900, .inl fT)), (nM, .inr (5, [.ref aM, .int lM])), (aM, .inl (cI, 300, .inl fM))]) (kC_of mk_102 rfl rfl) rfl) (by decide +kernel) rfl rfl rfl hl rfl (Nat.le_of_ble_eq_true rfl) dX11_text_43 ⟨Nat.le_of_ble_eq_true rfl, Nat.le_of_ble_eq_true rfl⟩ (fun r_12 H locs hB hJ hSn => ?_)
      refine hB _ (fun lu_12 fu_12 hPD9 hf12_0 hf12_1 hf12_2 => ?_)
      clear hB
      obtain ⟨hPn, hDn⟩ := kJm (m := mk_102) hJ rfl hPD9.1 hPD9.2 [2, 3, 0, 1] (by decide +kernel) (ws := [(nT, .inr (5, [.ref aT, .int lT])), (aT, .inl (cI, 900, .inl fT)), (nM, .inr (5, [.ref aM, .int lu_12])), (aM, .inl (cI, 300, .inl fu_12))]) rfl (wn := [(oX, .inr (11, [.ref nT, .ref nL, .ref nM, .ref oC, .ref oP, .ref oH, .ref oK, .ref oG, .ref oR, .ref oQ, .ref oW, .int fa_6])), (nT, .inr (5, [.ref aT, .int lT])), (aT, .inl (cI, 900, .inl fT)), (nL, .inr (5, [.ref aL, .int lL])), (aL, .inl (cI, 300, .inl fL)), (nM, .inr (5, [.ref aM, .int lu_12])), (aM, .inl (cI, 300, .inl fu_12)), (oG, .inr (0, [.ref g1, .ref g2, .int gn, .int lG])), (g1, .inl (cI, 6000, .inl fG1)), (g2, .inl (cI, 20, .inl fG2)), (oW, .inr (1, [.ref oC, .ref oK, .ref nw, .ref w1, .ref w2, .ref w3, .ref o7, .ref o8, .ref o9, .ref w4, .ref w5, .ref w6, .ref w7, .int ke, .int tl, .int fsh, .int wi, .int ri, .int fm, .int lm]))]) rfl
      clear hP hD hS hJ hPD9
      have hP := hPn
      have hD := hDn
      have hS := hSn
      clear hPn hDn hSn
      have ha12 : lu_12.toInt = lT.toInt := (addAll_cp hf12_2 (by omega) (by omega)).1
      refine lv_pop hx hb dX11_text_46 rfl ?_
      refine lv_aload_n hx hb dX11_text_47 rfl (lv_at hl 1 rfl) ?_
      refine va_get (D := (dC, dI)) (ci := 11) (v := .ref nT) (C := RX11) (T := TX11) (N := 12) hx hb hts in_X11 hown hK hP 0 rfl rfl 0 (Nat.le_of_ble_eq_true rfl) (hts (.fieldLink RX11 30 "TextMender" "tape" "LTextMender$Numbers;") (List.mem_of_getElem? (i := 2) rfl)) (fun _ h9 => h9) rfl dX11_text_48 ?_
      refine lv_iconst (v := 0) hx hb dX11_text_51 (by decide) ?_
      refine kV_v (rest := []) (q0 := 0) (ci := 5) hcf (m_X5_cut l dC dI cI cS H.size nT aT lT 0 (v_rr g_lT (by decide) (by decide))) kc_X5_cut gX11_text_X5_cut rfl rfl rfl ⟨Nat.le_of_ble_eq_true rfl, Nat.le_of_ble_eq_true rfl⟩ kX_t hK hP hD hS hA (posT mk_100 0) (posF mk_100 0) (kC_of mk_100 rfl rfl) (by decide +kernel) rfl rfl rfl hl rfl (Nat.le_of_ble_eq_true rfl) dX11_text_52 ⟨Nat.le_of_ble_eq_true rfl, Nat.le_of_ble_eq_true rfl⟩ (fun H locs hB hJ hSn => ?_)
      refine hB _ (fun lu_13 hPD9 hf13_0 hf13_1 hf13_2 => ?_)
      clear hB
      obtain ⟨hPn, hDn⟩ := kJi (m := mk_100) hJ rfl hPD9.1 hPD9.2 (wn := [(oX, .inr (11, [.ref nT, .ref nL, .ref nM, .ref oC, .ref oP, .ref oH, .ref oK, .ref oG, .ref oR, .ref oQ, .ref oW, .int fa_6])), (nT, .inr (5, [.ref aT, .int lu_13])), (aT, .inl (cI, 900, .inl fT)), (nL, .inr (5, [.ref aL, .int lL])), (aL, .inl (cI, 300, .inl fL)), (nM, .inr (5, [.ref aM, .int lu_12])), (aM, .inl (cI, 300, .inl fu_12)), (oG, .inr (0, [.ref g1, .ref g2, .int gn, .int lG])), (g1, .inl (cI, 6000, .inl fG1)), (g2, .inl (cI, 20, .inl fG2)), (oW, .inr (1, [.ref oC, .ref oK, .ref nw, .ref w1, .ref w2, .ref w3, .ref o7, .ref o8, .ref o9, .ref w4, .ref w5, .ref w6, .ref w7, .int ke, .int tl, .int fsh, .int wi, .int ri, .int fm, .int lm]))]) rfl
      clear hP hD hS hJ hPD9
      have hP := hPn
      have hD := hDn
      have hS := hSn
      clear hPn hDn hSn
      have ha13 : lu_13.toInt = 0 := F_cut_l hf13_2 (by first | decide | omega) (by first | omega | (show (0 : Int) ≤ _; omega))
      refine lv_iload_n hx hb dX11_text_55 rfl (lv_at hl 0 rfl) ?_
      refine lv_if_eq (tgt := 70) hx hb dX11_text_56 (by decide) (fun c_14 => absurd c_14 (by decide)) (fun c_14 => ?_)
      refine lv_aload_n hx hb dX11_text_59 rfl (lv_at hl 1 rfl) ?_
      refine lv_aload_n hx hb dX11_text_60 rfl (lv_at hl 1 rfl) ?_
      refine va_get (D := (dC, dI)) (ci := 11) (v := .ref nM) (C := RX11) (T := TX11) (N := 12) hx hb hts in_X11 hown hK hP 0 rfl rfl 2 (Nat.le_of_ble_eq_true rfl) (hts (.fieldLink RX11 37 "TextMender" "made" "LTextMender$Numbers;") (List.mem_of_getElem? (i := 3) rfl)) (fun _ h9 => h9) rfl dX11_text_61 ?_
      refine kV_i (rest := []) (q0 := 0) (ci := 11) hcf (f_X11_bec l dC dI cI cS H.size oX nM nT nL oC oP oH oK oG oR oQ oW aL aM g1 g2 nw w1 w2 w3 o7 o8 o9 w4 w5 w6 w7 fa_6 lL fL lu_12 fu_12 gn lG fG1 fG2 ke tl fsh wi ri fm lm (g_lL) (by omega) (g_gn) (g_lG) (g_fG2) (g_ke) (g_fsh) (g_fm) (g_lm)) kc_X11_become gX11_text_X11_become rfl rfl rfl ⟨Nat.le_of_ble_eq_true rfl, Nat.le_of_ble_eq_true rfl⟩ kX_t hK hP hD hS hA (posT mk_103 0) (posF mk_103 0) (kC_of mk_103 rfl rfl) (by decide +kernel) rfl rfl rfl hl rfl (Nat.le_of_ble_eq_true rfl) dX11_text_64 ⟨Nat.le_of_ble_eq_true rfl, Nat.le_of_ble_eq_true rfl⟩ (fun r_15 H locs hB hJ hSn => ?_)
      refine hB _ (fun lL_15 fL_15 fsh_15 gn_15 lG_15 fG1_15 fG2_15 hPD9 hf15_0 hf15_1 hf15_2 hf15_3 hf15_4 hf15_5 hf15_6 hf15_7 => ?_)
      clear hB
      obtain ⟨hPn, hDn⟩ := kJi (m := mk_103) hJ rfl hPD9.1 hPD9.2 (wn := [(oX, .inr (11, [.ref nT, .ref nL, .ref nM, .ref oC, .ref oP, .ref oH, .ref oK, .ref oG, .ref oR, .ref oQ, .ref oW, .int fa_6])), (nT, .inr (5, [.ref aT, .int lu_13])), (aT, .inl (cI, 900, .inl fT)), (nL, .inr (5, [.ref aL, .int lL_15])), (aL, .inl (cI, 300, .inl fL_15)), (nM, .inr (5, [.ref aM, .int lu_12])), (aM, .inl (cI, 300, .inl fu_12)), (oG, .inr (0, [.ref g1, .ref g2, .int gn_15, .int lG_15])), (g1, .inl (cI, 6000, .inl fG1_15)), (g2, .inl (cI, 20, .inl fG2_15)), (oW, .inr (1, [.ref oC, .ref oK, .ref nw, .ref w1, .ref w2, .ref w3, .ref o7, .ref o8, .ref o9, .ref w4, .ref w5, .ref w6, .ref w7, .int ke, .int tl, .int fsh_15, .int wi, .int ri, .int fm, .int lm]))]) rfl
      clear hP hD hS hJ hPD9
      have hP := hPn
      have hD := hDn
      have hS := hSn
      clear hPn hDn hSn
      refine lv_goto (tgt := 71) hx hb dX11_text_67 (by decide) ?_
      exact kl_i (v := r_15) hQQ hx hb hr hlocks hS dX11_text_71 (fun PZ9 kZ9 => kZ9 fa_6 lu_13 lu_12 fu_12 lL_15 fL_15 fsh_15 gn_15 lG_15 fG1_15 fG2_15 (⟨hP, hD⟩) (by omega) (by omega) (hf15_0) (hf15_1) (hf15_2) (hf15_3) (hf15_4) (by show lu_13.toInt = 0; omega) (OC_y ⟨lT.toInt.toNat, by have q9 := (addAll_cp hf12_2 (by omega) (by omega)).1; omega, by have q9 := (addAll_cp hf12_2 (by omega) (by omega)).1; omega, by omega, by omega, (hf6_1.elim (fun z => z.2) (fun z => by exfalso; have z9 := v_eq z.1; have e9 : (0 : Int32).toInt = 0 := rfl; omega)), fun i hi => (addAll_cp hf12_2 (by omega) (by omega)).2 i (by omega)⟩ hf15_6 hf15_7))

set_option maxHeartbeats 40000000 in
set_option maxRecDepth 100000 in
theorem f_X12_textE (l : Launch) (dC : Nat → ClassId) (dI : Nat → Nat → Nat) (cI cS : ClassId) (sz : Nat) (oM : Nat) (mT : Nat) (mS : Nat) (mX : Nat) (mL : Nat) (mB : Nat) (mD : Nat) (m1 : Nat) (m2 : Nat) (mR : Nat) (x1 : Nat) (x2 : Nat) (x3 : Nat) (mH : Nat) (mY : Nat) (mE : Nat) (mW : Nat) (mO : Nat) (y1 : Nat) (y2 : Nat) (y3 : Nat) (y4 : Nat) (mZ : Nat) (zt : Int32) (zp : Int32) (zf : Int32) (zh : Int32) (zr : Int32) (zc : Int32) (zy : Int32) (za : Int32) (zb : Int32) (zs : Int32) (zq : Int32) (zw : Int32) (ze : Int32) (zn : Int32) (zm : Int32) (zl : Int32) (zk : Int32) (zd : Int32) (eT : Nat → Int32) (eS : Nat → Int32) (eX : Nat → Int32) (g_zt : 0 ≤ zt.toInt ∧ zt.toInt ≤ 900) (g_zp : 0 ≤ zp.toInt ∧ zp.toInt ≤ 20) (g_zf : 0 ≤ zf.toInt ∧ zf.toInt ≤ 19) (g_zh : 0 ≤ zh.toInt ∧ zh.toInt ≤ 6) (g_zr : 0 ≤ zr.toInt ∧ zr.toInt ≤ 258) (g_zc : 0 ≤ zc.toInt ∧ zc.toInt ≤ 300) (g_zy : 0 ≤ zy.toInt ∧ zy.toInt ≤ 65536) (g_za : 0 ≤ za.toInt ∧ za.toInt ≤ 5) (g_zb : 0 ≤ zb.toInt ∧ zb.toInt ≤ 5) (g_zs : 0 ≤ zs.toInt ∧ zs.toInt ≤ 2000000) (g_zq : -1 ≤ zq.toInt ∧ zq.toInt ≤ 2000000) (g_zn : 0 ≤ zn.toInt ∧ zn.toInt ≤ 2600) (g_zm : 0 ≤ zm.toInt ∧ zm.toInt ≤ 2600) (g_zk : 0 ≤ zk.toInt ∧ zk.toInt ≤ 300) (g_eS : rg 0 300 eS) (g_eX : rg 0 65535 eX) (hzs : zs.toInt ≤ 1000000) : kMi l yX12_text wsX12_text ({ frames := 1, cells := 0, slots := 0, locals := 24 } : Room) [.ref oM] sz (dC, dI) vwCl [(cI, .int), (cS, .short)] [(oM, .inr (12, [.ref mT, .int zt, .ref mS, .ref mX, .int zp, .int zf, .ref mL, .ref mB, .ref mD, .ref m1, .ref m2, .int zh, .ref mR, .int zr, .ref x1, .ref x2, .ref x3, .int zc, .ref mH, .int zy, .int za, .int zb, .int zs, .int zq, .int zw, .int ze, .ref mY, .int zn, .ref mE, .int zm, .int zl, .ref mW, .int zk, .ref mO, .int zd, .ref y1, .ref y2, .ref y3, .ref y4, .ref mZ])), (mT, .inl (cI, 900, .inl eT)), (mS, .inl (cI, 21, .inl eS)), (mX, .inl (cI, 6300, .inl eX))] (fun _ => True) 0 0 (fun (A : Nat → Prop) (r : Int32) (hh9 : Heap) => ∀ PZ9 : Prop, (∀ (ze' : Int32) (zw' : Int32) (zt' : Int32) (zp' : Int32) (zf' : Int32) (zs' : Int32) (eS' : Nat → Int32) (eX' : Nat → Int32), kPD (dC, dI) vwCl A [(oM, .inr (12, [.ref mT, .int zt', .ref mS, .ref mX, .int zp', .int zf', .ref mL, .ref mB, .ref mD, .ref m1, .ref m2, .int zh, .ref mR, .int zr, .ref x1, .ref x2, .ref x3, .int zc, .ref mH, .int zy, .int za, .int zb, .int zs', .int zq, .int zw', .int ze', .ref mY, .int zn, .ref mE, .int zm, .int zl, .ref mW, .int zk, .ref mO, .int zd, .ref y1, .ref y2, .ref y3, .ref y4, .ref mZ])), (mT, .inl (cI, 900, .inl eT)), (mS, .inl (cI, 21, .inl eS')), (mX, .inl (cI, 6300, .inl eX'))] hh9 → (0 ≤ zt'.toInt ∧ zt'.toInt ≤ 900) → (0 ≤ zp'.toInt ∧ zp'.toInt ≤ 20) → (0 ≤ zf'.toInt ∧ zf'.toInt ≤ 19) → (0 ≤ zs'.toInt ∧ zs'.toInt ≤ 2000000) → (rg 0 300 eS') → (rg 0 65535 eX') → (zt'.toInt = 0) → (zs'.toInt ≤ zs.toInt + 1 ∧ zs.toInt ≤ zs'.toInt) → (F_st zs zs' eX eX' eS eS') → (OR (-1) r zs zs' zp zp' zf zf' eS eS' eX eX' (txP zt.toInt eT)) → PZ9) → PZ9) := by
  refine kMi_of (cc := cX12_text) (maxL := 3) (ret := (some .int)) (lv := [(0, .ref oM)]) (by decide +kernel) rfl rfl (Nat.le_of_ble_eq_true rfl) ?_
  intro p e s m below meth c A QQ ls hx hb hr hts hml hown hlocks hA hQQ hK hX hP hD hS hl
  have hown : s.vm.findClass RX12 = some m.cls := hown
  have hcf := k_cf hx hb hml hown hts
  have in_X12 : ∀ w ∈ wsX120, w ∈ wsX12_text := fun _ h => List.mem_cons_of_mem _ (List.mem_append_left _ (List.mem_append_left _ (List.mem_append_right _ (h))))
  replace g_zh := hid g_zh
  replace g_zr := hid g_zr
  replace g_zc := hid g_zc
  replace g_zy := hid g_zy
  replace g_za := hid g_za
  replace g_zb := hid g_zb
  replace g_zq := hid g_zq
  replace g_zn := hid g_zn
  replace g_zm := hid g_zm
  replace g_zk := hid g_zk
  refine lv_aload_n hx hb dX12_text_0 rfl (lv_at hl 0 rfl) ?_
  refine lv_iconst (v := 0) hx hb dX12_text_1 (by decide) ?_
  refine va_put (D := (dC, dI)) (ci := 12) (v := .int 0) (ty := .int) (C := RX12) (T := TX12) (N := 40) hx hb hts in_X12 tyX12 tyX12_ok nmX12 hown hK hP hD hS 0 rfl rfl 25 (Nat.le_of_ble_eq_true rfl) (hts (.fieldLink RX12 85 "TextMenderModel" "thrown" "I") (List.mem_of_getElem? (i := 1) rfl)) (fun _ h9 => h9) rfl (tyX12_ok 25 (Nat.le_of_ble_eq_true rfl)) rfl rfl (Nat.le_of_ble_eq_true rfl) dX12_text_2 (kW (wn := [(oM, .inr (12, [.ref mT, .int zt, .ref mS, .ref mX, .int zp, .int zf, .ref mL, .ref mB, .ref mD, .ref m1, .ref m2, .int zh, .ref mR, .int zr, .ref x1, .ref x2, .ref x3, .int zc, .ref mH, .int zy, .int za, .int zb, .int zs, .int zq, .int zw, .int 0, .ref mY, .int zn, .ref mE, .int zm, .int zl, .ref mW, .int zk, .ref mO, .int zd, .ref y1, .ref y2, .ref y3, .ref y4, .ref mZ])), (mT, .inl (cI, 900, .inl eT)), (mS, .inl (cI, 21, .inl eS)), (mX, .inl (cI, 6300, .inl eX))]) rfl (fun H locs hPn hDn hSn => ?_))
  clear hP hD hS
  have hP := hPn
  have hD := hDn
  have hS := hSn
  clear hPn hDn hSn
  refine lv_aload_n hx hb dX12_text_5 rfl (lv_at hl 0 rfl) ?_
  refine lv_iconst (v := (-1)) hx hb dX12_text_6 (by decide) ?_
  refine va_put (D := (dC, dI)) (ci := 12) (v := .int (-1)) (ty := .int) (C := RX12) (T := TX12) (N := 40) hx hb hts in_X12 tyX12 tyX12_ok nmX12 hown hK hP hD hS 0 rfl rfl 24 (Nat.le_of_ble_eq_true rfl) (hts (.fieldLink RX12 55 "TextMenderModel" "where" "I") (List.mem_of_getElem? (i := 2) rfl)) (fun _ h9 => h9) rfl (tyX12_ok 24 (Nat.le_of_ble_eq_true rfl)) rfl rfl (Nat.le_of_ble_eq_true rfl) dX12_text_7 (kW (wn := [(oM, .inr (12, [.ref mT, .int zt, .ref mS, .ref mX, .int zp, .int zf, .ref mL, .ref mB, .ref mD, .ref m1, .ref m2, .int zh, .ref mR, .int zr, .ref x1, .ref x2, .ref x3, .int zc, .ref mH, .int zy, .int za, .int zb, .int zs, .int zq, .int (-1), .int 0, .ref mY, .int zn, .ref mE, .int zm, .int zl, .ref mW, .int zk, .ref mO, .int zd, .ref y1, .ref y2, .ref y3, .ref y4, .ref mZ])), (mT, .inl (cI, 900, .inl eT)), (mS, .inl (cI, 21, .inl eS)), (mX, .inl (cI, 6300, .inl eX))]) rfl (fun H locs hPn hDn hSn => ?_))
  clear hP hD hS
  have hP := hPn
  have hD := hDn
  have hS := hSn
  clear hPn hDn hSn
  refine lv_aload_n hx hb dX12_text_10 rfl (lv_at hl 0 rfl) ?_
  refine va_get (D := (dC, dI)) (ci := 12) (v := .int zt) (C := RX12) (T := TX12) (N := 40) hx hb hts in_X12 hown hK hP 0 rfl rfl 1 (Nat.le_of_ble_eq_true rfl) (hts (.fieldLink RX12 151 "TextMenderModel" "taped" "I") (List.mem_of_getElem? (i := 3) rfl)) (fun _ h9 => h9) rfl dX12_text_11 ?_
  refine lv_istore_n (lv' := [(1, .int zt), (0, .ref oM)]) hx hb dX12_text_14 rfl hl (by decide) rfl (fun ls hl => ?_)
  refine lv_aload_n hx hb dX12_text_15 rfl (lv_at hl 1 rfl) ?_
  refine lv_iconst (v := 0) hx hb dX12_text_16 (by decide) ?_
  refine va_put (D := (dC, dI)) (ci := 12) (v := .int 0) (ty := .int) (C := RX12) (T := TX12) (N := 40) hx hb hts in_X12 tyX12 tyX12_ok nmX12 hown hK hP hD hS 0 rfl rfl 1 (Nat.le_of_ble_eq_true rfl) (hts (.fieldLink RX12 151 "TextMenderModel" "taped" "I") (List.mem_of_getElem? (i := 3) rfl)) (fun _ h9 => h9) rfl (tyX12_ok 1 (Nat.le_of_ble_eq_true rfl)) rfl rfl (Nat.le_of_ble_eq_true rfl) dX12_text_17 (kW (wn := [(oM, .inr (12, [.ref mT, .int 0, .ref mS, .ref mX, .int zp, .int zf, .ref mL, .ref mB, .ref mD, .ref m1, .ref m2, .int zh, .ref mR, .int zr, .ref x1, .ref x2, .ref x3, .int zc, .ref mH, .int zy, .int za, .int zb, .int zs, .int zq, .int (-1), .int 0, .ref mY, .int zn, .ref mE, .int zm, .int zl, .ref mW, .int zk, .ref mO, .int zd, .ref y1, .ref y2, .ref y3, .ref y4, .ref mZ])), (mT, .inl (cI, 900, .inl eT)), (mS, .inl (cI, 21, .inl eS)), (mX, .inl (cI, 6300, .inl eX))]) rfl (fun H locs hPn hDn hSn => ?_))
  clear hP hD hS
  have hP := hPn
  have hD := hDn
  have hS := hSn
  clear hPn hDn hSn
  refine lv_iload_n hx hb dX12_text_20 rfl (lv_at hl 0 rfl) ?_
  refine lv_sipush (v := 300) hx hb dX12_text_21 (by decide) ?_
  refine lv_icmp_le (tgt := 29) hx hb dX12_text_24 (by decide) (fun c_1 => ?_) (fun c_1 => ?_)
  · have tc_1 : zt.toInt ≤ 300 := v_le c_1
    refine lv_iconst (v := 0) hx hb dX12_text_29 (by decide) ?_
    refine lv_istore_n (lv' := [(2, .int 0), (1, .int zt), (0, .ref oM)]) hx hb dX12_text_30 rfl hl (by decide) rfl (fun ls hl => ?_)
    have LOOP_31 : ∀ (k_31 : Nat) (k : Int32) (H : Heap) (locs : List Loc) (ls : Array Slot), MSd (300 - k.toInt : Int) k_31 → (0 ≤ k.toInt ∧ k.toInt ≤ 300) → (prg k.toInt 0 65535 eT) → (allLt k.toInt eT) → va_P (dC, dI) vwCl [(oM, .inr (12, [.ref mT, .int 0, .ref mS, .ref mX, .int zp, .int zf, .ref mL, .ref mB, .ref mD, .ref m1, .ref m2, .int zh, .ref mR, .int zr, .ref x1, .ref x2, .ref x3, .int zc, .ref mH, .int zy, .int za, .int zb, .int zs, .int zq, .int (-1), .int 0, .ref mY, .int zn, .ref mE, .int zm, .int zl, .ref mW, .int zk, .ref mO, .int zd, .ref y1, .ref y2, .ref y3, .ref y4, .ref mZ])), (mT, .inl (cI, 900, .inl eT)), (mS, .inl (cI, 21, .inl eS)), (mX, .inl (cI, 6300, .inl eX))] H → va_D A [(oM, .inr (12, [.ref mT, .int 0, .ref mS, .ref mX, .int zp, .int zf, .ref mL, .ref mB, .ref mD, .ref m1, .ref m2, .int zh, .ref mR, .int zr, .ref x1, .ref x2, .ref x3, .int zc, .ref mH, .int zy, .int za, .int zb, .int zs, .int zq, .int (-1), .int 0, .ref mY, .int zn, .ref mE, .int zm, .int zl, .ref mW, .int zk, .ref mO, .int zd, .ref y1, .ref y2, .ref y3, .ref y4, .ref mZ])), (mT, .inl (cI, 900, .inl eT)), (mS, .inl (cI, 21, .inl eS)), (mX, .inl (cI, 6300, .inl eX))] → va_S A s.heap H locs → lv_has ls 3 [(2, .int k), (1, .int zt), (0, .ref oM)] → W p l e (headSpec wsX12_text ({ frames := 1, cells := 0, slots := 0, locals := 24 } : Room)).room s m ([.ref oM] : List Value).toArray below meth c H locs 0 0 (MQ below QQ ([.ref oM] : List Value).toArray s 0 0 A) (F0 m 31 ls []) := by
      clear hP hD hS hl
      intro k_31
      induction k_31 with
      | zero =>
        intro k H locs ls hm_31 g_k hpr hal hP hD hS hl
        exact ms_0 hm_31
      | succ k_31 ih_31 =>
        intro k H locs ls hm_31 g_k hpr hal hP hD hS hl
        refine lv_iload_n hx hb dX12_text_31 rfl (lv_at hl 0 rfl) ?_
        refine lv_iload_n hx hb dX12_text_32 rfl (lv_at hl 1 rfl) ?_
        refine lv_icmp_ge (tgt := 61) hx hb dX12_text_33 (by decide) (fun c_2 => ?_) (fun c_2 => ?_)
        · have tc_2 : zt.toInt ≤ k.toInt := v_le c_2
          refine lv_aload_n hx hb dX12_text_61 rfl (lv_at hl 2 rfl) ?_
          refine lv_aload_n hx hb dX12_text_62 rfl (lv_at hl 2 rfl) ?_
          refine va_get (D := (dC, dI)) (ci := 12) (v := .ref mT) (C := RX12) (T := TX12) (N := 40) hx hb hts in_X12 hown hK hP 0 rfl rfl 0 (Nat.le_of_ble_eq_true rfl) (hts (.fieldLink RX12 9 "TextMenderModel" "tape" "[I") (List.mem_of_getElem? (i := 4) rfl)) (fun _ h9 => h9) rfl dX12_text_63 ?_
          refine lv_iload_n hx hb dX12_text_66 rfl (lv_at hl 1 rfl) ?_
          refine kV_v (rest := []) (q0 := 0) (ci := 12) hcf (f_X12_bec l dC dI cI cS H.size oM mT mT mS mX mL mB mD m1 m2 mR x1 x2 x3 mH mY mE mW mO y1 y2 y3 y4 mZ 900 0 zp zf zh zr zc zy za zb zs zq (-1) 0 zn zm zl zk zd eS eX eT zt (by decide) (g_zp) (g_zf) (g_zh) (g_zr) (g_zc) (g_zy) (g_za) (g_zb) (g_zs) (g_zq) (g_zn) (g_zm) (g_zk) (g_eS) (g_eX) (by omega) (by omega) (by omega) (fun j hj => hpr j (by omega)) (by omega)) kc_X12_become gX12_text_X12_become rfl rfl rfl ⟨Nat.le_of_ble_eq_true rfl, Nat.le_of_ble_eq_true rfl⟩ kX_t hK hP hD hS hA [0, 2, 3, 1] [] rfl (by decide +kernel) rfl rfl rfl hl rfl (Nat.le_of_ble_eq_true rfl) dX12_text_67 ⟨Nat.le_of_ble_eq_true rfl, Nat.le_of_ble_eq_true rfl⟩ (fun H locs hB hJ hSn => ?_)
          refine hB _ (fun zp_3 zf_3 zs_3 eS_3 eX_3 hPD9 hf3_0 hf3_1 hf3_2 hf3_3 hf3_4 hf3_5 hf3_6 => ?_)
          clear hB
          obtain ⟨hPn, hDn⟩ := hJ _ hPD9.1 hPD9.2 [(oM, .inr (12, [.ref mT, .int 0, .ref mS, .ref mX, .int zp_3, .int zf_3, .ref mL, .ref mB, .ref mD, .ref m1, .ref m2, .int zh, .ref mR, .int zr, .ref x1, .ref x2, .ref x3, .int zc, .ref mH, .int zy, .int za, .int zb, .int zs_3, .int zq, .int (-1), .int 0, .ref mY, .int zn, .ref mE, .int zm, .int zl, .ref mW, .int zk, .ref mO, .int zd, .ref y1, .ref y2, .ref y3, .ref y4, .ref mZ])), (mS, .inl (cI, 21, .inl eS_3)), (mX, .inl (cI, 6300, .inl eX_3)), (mT, .inl (cI, 900, .inl eT))] rfl
          clear hP hD hS hJ hPD9
          have hP := hPn
          have hD := hDn
          have hS := hSn
          clear hPn hDn hSn
          refine lv_iload_n hx hb dX12_text_70 rfl (lv_at hl 1 rfl) ?_
          exact kl_i (v := zt) hQQ hx hb hr hlocks hS dX12_text_71 (fun PZ9 kZ9 => kZ9 0 (-1) 0 zp_3 zf_3 zs_3 eS_3 eX_3 (kPD_sub hP hD [0, 3, 1, 2] (by decide +kernel) rfl) (by decide) (hf3_0) (hf3_1) (hf3_2) (hf3_3) (hf3_4) (by show 0 = 0; omega) (by show zs_3.toInt ≤ zs.toInt + 1 ∧ zs.toInt ≤ zs_3.toInt; omega) (by first | exact Or.inl (by omega) | exact Or.inr ⟨rfl, rfl, rfl⟩) (OR_y ⟨zt.toInt.toNat, by omega, by first | rfl | omega, by omega, by omega, fun j hj => hal j (by omega), fun _ _ => rfl⟩ hf3_6 (by omega)))
        · have tc_2 : k.toInt < zt.toInt := v_nle c_2
          refine lv_aload_n hx hb dX12_text_36 rfl (lv_at hl 2 rfl) ?_
          refine va_get (D := (dC, dI)) (ci := 12) (v := .ref mT) (C := RX12) (T := TX12) (N := 40) hx hb hts in_X12 hown hK hP 0 rfl rfl 0 (Nat.le_of_ble_eq_true rfl) (hts (.fieldLink RX12 9 "TextMenderModel" "tape" "[I") (List.mem_of_getElem? (i := 4) rfl)) (fun _ h9 => h9) rfl dX12_text_37 ?_
          refine lv_iload_n hx hb dX12_text_40 rfl (lv_at hl 0 rfl) ?_
          refine va_iald hx hb hK hP 1 0 rfl rfl (v_inR g_k (by decide) (by decide)) dX12_text_41 ?_
          refine lv_topi (fun x_4 ex_4 => ?_)
          refine kS_i (rest := []) hcf (m_X12_isLetter l dC dI cI cS H.size x_4 ) kc_X12_isLetter gX12_text_X12_isLetter rfl rfl ⟨Nat.le_of_ble_eq_true rfl, Nat.le_of_ble_eq_true rfl⟩ kX_t hK hP hD hS hA [] [0, 1, 2, 3] rfl (by decide +kernel) rfl hl rfl (Nat.le_of_ble_eq_true rfl) dX12_text_42 ⟨Nat.le_of_ble_eq_true rfl, Nat.le_of_ble_eq_true rfl⟩ (fun r_5 H locs hB hJ hSn => ?_)
          refine hB _ (fun hPD9 hf5_0 hf5_1 => ?_)
          clear hB
          obtain ⟨hPn, hDn⟩ := hJ _ hPD9.1 hPD9.2 [(oM, .inr (12, [.ref mT, .int 0, .ref mS, .ref mX, .int zp, .int zf, .ref mL, .ref mB, .ref mD, .ref m1, .ref m2, .int zh, .ref mR, .int zr, .ref x1, .ref x2, .ref x3, .int zc, .ref mH, .int zy, .int za, .int zb, .int zs, .int zq, .int (-1), .int 0, .ref mY, .int zn, .ref mE, .int zm, .int zl, .ref mW, .int zk, .ref mO, .int zd, .ref y1, .ref y2, .ref y3, .ref y4, .ref mZ])), (mT, .inl (cI, 900, .inl eT)), (mS, .inl (cI, 21, .inl eS)), (mX, .inl (cI, 6300, .inl eX))] rfl
          clear hP hD hS hJ hPD9
          have hP := hPn
          have hD := hDn
          have hS := hSn
          clear hPn hDn hSn
          refine lv_if_ne (tgt := 55) hx hb dX12_text_45 (by decide) (fun c_6 => ?_) (fun c_6 => ?_)
          · have tc_6 : ¬ r_5.toInt = 0 := v_ne c_6
            obtain ⟨x_7, ex_7⟩ : ∃ y : Int32, y = k + 1 := ⟨_, rfl⟩
            have tx_7 : x_7.toInt = k.toInt + 1 := v_addR (l2 := 1) (h2 := 1) ex_7 g_k (by decide) (by decide) (by decide)
            refine lv_iinc (v := x_7) (lv' := [(2, .int x_7), (1, .int zt), (0, .ref oM)]) hx hb dX12_text_55 hl (k := 0) rfl (by rw [ex_7]; rfl) (by decide) rfl (fun ls hl => ?_)
            refine lv_goto (tgt := 31) hx hb dX12_text_58 (by decide) ?_
            exact ih_31 x_7 _ _ _ (ms_lt hm_31 (by show ((300 - x_7.toInt : Int)) < 300 - k.toInt; omega) (by show (0 : Int) < 300 - k.toInt; omega)) (by show 0 ≤ x_7.toInt ∧ x_7.toInt ≤ 300; omega) (prg_step hpr ex_4 (by omega) (by omega) (by omega)) (allLt_s hal ex_4 (by omega) (by omega) (by unfold isLt; omega)) hP hD hS (lv_sub hl [0, 1, 2] rfl)
          · have tc_6 : r_5.toInt = 0 := v_eq c_6
            refine lv_aload_n hx hb dX12_text_48 rfl (lv_at hl 2 rfl) ?_
            refine lv_iload_n hx hb dX12_text_49 rfl (lv_at hl 0 rfl) ?_
            refine va_put (D := (dC, dI)) (ci := 12) (v := .int k) (ty := .int) (C := RX12) (T := TX12) (N := 40) hx hb hts in_X12 tyX12 tyX12_ok nmX12 hown hK hP hD hS 0 rfl rfl 24 (Nat.le_of_ble_eq_true rfl) (hts (.fieldLink RX12 55 "TextMenderModel" "where" "I") (List.mem_of_getElem? (i := 2) rfl)) (fun _ h9 => h9) rfl (tyX12_ok 24 (Nat.le_of_ble_eq_true rfl)) rfl rfl (Nat.le_of_ble_eq_true rfl) dX12_text_50 (kW (wn := [(oM, .inr (12, [.ref mT, .int 0, .ref mS, .ref mX, .int zp, .int zf, .ref mL, .ref mB, .ref mD, .ref m1, .ref m2, .int zh, .ref mR, .int zr, .ref x1, .ref x2, .ref x3, .int zc, .ref mH, .int zy, .int za, .int zb, .int zs, .int zq, .int k, .int 0, .ref mY, .int zn, .ref mE, .int zm, .int zl, .ref mW, .int zk, .ref mO, .int zd, .ref y1, .ref y2, .ref y3, .ref y4, .ref mZ])), (mT, .inl (cI, 900, .inl eT)), (mS, .inl (cI, 21, .inl eS)), (mX, .inl (cI, 6300, .inl eX))]) rfl (fun H locs hPn hDn hSn => ?_))
            clear hP hD hS
            have hP := hPn
            have hD := hDn
            have hS := hSn
            clear hPn hDn hSn
            refine lv_iconst (v := (-1)) hx hb dX12_text_53 (by decide) ?_
            exact kl_i (v := (-1)) hQQ hx hb hr hlocks hS dX12_text_54 (fun PZ9 kZ9 => kZ9 0 k 0 zp zf zs eS eX (⟨hP, hD⟩) (by decide) (g_zp) (g_zf) (g_zs) (g_eS) (g_eX) (by show 0 = 0; omega) (by show zs.toInt ≤ zs.toInt + 1 ∧ zs.toInt ≤ zs.toInt; omega) (by first | exact Or.inl (by omega) | exact Or.inr ⟨rfl, rfl, rfl⟩) (OR_n rfl (fun c fm v h9 => allLt_no ex_4 (by omega) (by omega) (by unfold isLt; omega) h9.2.2.2.1)))
    exact LOOP_31 _ 0 _ _ _ (ms_s _) (by decide) (prg_0 (by decide)) (allLt_0 (by decide)) hP hD hS (lv_sub hl [0, 1, 2] rfl)
  · have tc_1 : 300 < zt.toInt := v_nle c_1
    refine lv_iconst (v := (-1)) hx hb dX12_text_27 (by decide) ?_
    exact kl_i (v := (-1)) hQQ hx hb hr hlocks hS dX12_text_28 (fun PZ9 kZ9 => kZ9 0 (-1) 0 zp zf zs eS eX (⟨hP, hD⟩) (by decide) (g_zp) (g_zf) (g_zs) (g_eS) (g_eX) (by show 0 = 0; omega) (by show zs.toInt ≤ zs.toInt + 1 ∧ zs.toInt ≤ zs.toInt; omega) (by first | exact Or.inl (by omega) | exact Or.inr ⟨rfl, rfl, rfl⟩) (OR_n rfl (fun c fm v h9 => by have h8 := h9.2.1; have h7 := h9.2.2.1; omega)))

set_option maxHeartbeats 40000000 in
set_option maxRecDepth 100000 in
theorem f_X11_readE (l : Launch) (dC : Nat → ClassId) (dI : Nat → Nat → Nat) (cI cS : ClassId) (sz : Nat) (oX : Nat) (nT : Nat) (nL : Nat) (nM : Nat) (oC : Nat) (oP : Nat) (oH : Nat) (oK : Nat) (oG : Nat) (oR : Nat) (oQ : Nat) (oW : Nat) (aT : Nat) (aL : Nat) (aM : Nat) (g1 : Nat) (g2 : Nat) (nw : Nat) (w1 : Nat) (w2 : Nat) (w3 : Nat) (o7 : Nat) (o8 : Nat) (o9 : Nat) (w4 : Nat) (w5 : Nat) (w6 : Nat) (w7 : Nat) (nB : Nat) (o4 : Nat) (o5 : Nat) (a41 : Nat) (a42 : Nat) (a43 : Nat) (a51 : Nat) (a52 : Nat) (a53 : Nat) (fa : Int32) (lT : Int32) (fT : Nat → Int32) (lL : Int32) (fL : Nat → Int32) (lM : Int32) (fM : Nat → Int32) (gn : Int32) (lG : Int32) (fG1 : Nat → Int32) (fG2 : Nat → Int32) (ke : Int32) (tl : Int32) (fsh : Int32) (wi : Int32) (ri : Int32) (fm : Int32) (lm : Int32) (ft : Int32) (l4 : Int32) (f41 : Nat → Int32) (l5 : Int32) (f51 : Nat → Int32) (cd : Int32) (g_lT : 0 ≤ lT.toInt ∧ lT.toInt ≤ 900) (g_lL : 0 ≤ lL.toInt ∧ lL.toInt ≤ 300) (g_lM : 0 ≤ lM.toInt ∧ lM.toInt ≤ 300) (g_gn : 0 ≤ gn.toInt ∧ gn.toInt ≤ 19) (g_lG : 0 ≤ lG.toInt ∧ lG.toInt ≤ 20) (g_fG2 : rg 0 300 fG2) (g_ke : 0 ≤ ke.toInt ∧ ke.toInt ≤ 200) (g_fsh : 0 ≤ fsh.toInt ∧ fsh.toInt ≤ 1) (g_fm : -1 ≤ fm.toInt ∧ fm.toInt ≤ 800) (g_lm : -1 ≤ lm.toInt ∧ lm.toInt ≤ 800) (hL4 : prg 256 (-1) 65535 f41) (hL5 : prg 256 (-1) 65535 f51) : kMi l yX11_read wsX11_read ({ frames := 4, cells := 0, slots := 0, locals := 111 } : Room) [.ref oX, .int cd] sz (dC, dI) vwCl [(cI, .int), (cS, .short)] [(oX, .inr (11, [.ref nT, .ref nL, .ref nM, .ref oC, .ref oP, .ref oH, .ref oK, .ref oG, .ref oR, .ref oQ, .ref oW, .int fa])), (nT, .inr (5, [.ref aT, .int lT])), (aT, .inl (cI, 900, .inl fT)), (nL, .inr (5, [.ref aL, .int lL])), (aL, .inl (cI, 300, .inl fL)), (nM, .inr (5, [.ref aM, .int lM])), (aM, .inl (cI, 300, .inl fM)), (oG, .inr (0, [.ref g1, .ref g2, .int gn, .int lG])), (g1, .inl (cI, 6000, .inl fG1)), (g2, .inl (cI, 20, .inl fG2)), (oW, .inr (1, [.ref oC, .ref oK, .ref nw, .ref w1, .ref w2, .ref w3, .ref o7, .ref o8, .ref o9, .ref w4, .ref w5, .ref w6, .ref w7, .int ke, .int tl, .int fsh, .int wi, .int ri, .int fm, .int lm])), (oP, .inr (7, [.ref oC, .ref nB, .int ft])), (oC, .inr (2, [.ref o4, .ref o5])), (o4, .inr (10, [.ref a41, .ref a42, .ref a43, .int l4])), (a41, .inl (cI, 256, .inl f41)), (o5, .inr (10, [.ref a51, .ref a52, .ref a53, .int l5])), (a51, .inl (cI, 256, .inl f51))] (va_Nw (.methodLinkNest RX2 52 yX11_isLetter "TextMender")) 0 0 (fun (A : Nat → Prop) (r : Int32) (hh9 : Heap) => ∀ PZ9 : Prop, (∀ (fa' : Int32) (lT' : Int32) (ft' : Int32) (lM' : Int32) (fM' : Nat → Int32) (lL' : Int32) (fL' : Nat → Int32) (fsh' : Int32) (gn' : Int32) (lG' : Int32) (fG1' : Nat → Int32) (fG2' : Nat → Int32), kPD (dC, dI) vwCl A [(oX, .inr (11, [.ref nT, .ref nL, .ref nM, .ref oC, .ref oP, .ref oH, .ref oK, .ref oG, .ref oR, .ref oQ, .ref oW, .int fa'])), (nT, .inr (5, [.ref aT, .int lT'])), (aT, .inl (cI, 900, .inl fT)), (nL, .inr (5, [.ref aL, .int lL'])), (aL, .inl (cI, 300, .inl fL')), (nM, .inr (5, [.ref aM, .int lM'])), (aM, .inl (cI, 300, .inl fM')), (oG, .inr (0, [.ref g1, .ref g2, .int gn', .int lG'])), (g1, .inl (cI, 6000, .inl fG1')), (g2, .inl (cI, 20, .inl fG2')), (oW, .inr (1, [.ref oC, .ref oK, .ref nw, .ref w1, .ref w2, .ref w3, .ref o7, .ref o8, .ref o9, .ref w4, .ref w5, .ref w6, .ref w7, .int ke, .int tl, .int fsh', .int wi, .int ri, .int fm, .int lm])), (oP, .inr (7, [.ref oC, .ref nB, .int ft'])), (oC, .inr (2, [.ref o4, .ref o5])), (o4, .inr (10, [.ref a41, .ref a42, .ref a43, .int l4])), (a41, .inl (cI, 256, .inl f41)), (o5, .inr (10, [.ref a51, .ref a52, .ref a53, .int l5])), (a51, .inl (cI, 256, .inl f51))] hh9 → (0 ≤ lT'.toInt ∧ lT'.toInt ≤ 900) → (0 ≤ lM'.toInt ∧ lM'.toInt ≤ 300) → (0 ≤ lL'.toInt ∧ lL'.toInt ≤ 300) → (0 ≤ fsh'.toInt ∧ fsh'.toInt ≤ 1) → (0 ≤ gn'.toInt ∧ gn'.toInt ≤ 19) → (0 ≤ lG'.toInt ∧ lG'.toInt ≤ 20) → (rg 0 300 fG2') → (lT'.toInt = 0) → (OC (-1) r fsh fsh' gn gn' lG lG' lL lL' fG1 fG1' fG2 fG2' fL fL' (rdP cd f41 f51 lT.toInt fT)) → PZ9) → PZ9) := by
  refine kMi_of (cc := cX11_read) (maxL := 3) (ret := (some .int)) (lv := [(0, .ref oX), (1, .int cd)]) (by decide +kernel) rfl rfl (Nat.le_of_ble_eq_true rfl) ?_
  intro p e s m below meth c A QQ ls hx hb hr hts hml hown hlocks hA hQQ hK hX hP hD hS hl
  have hown : s.vm.findClass RX11 = some m.cls := hown
  have hcf := k_cf hx hb hml hown hts
  have hN52 := hX
  have in_X11 : ∀ w ∈ wsX110, w ∈ wsX11_read := fun _ h => List.mem_cons_of_mem _ (List.mem_append_left _ (List.mem_append_left _ (List.mem_append_left _ (List.mem_append_left _ (List.mem_append_left _ (List.mem_append_left _ (List.mem_append_left _ (List.mem_append_left _ (List.mem_append_left _ (List.mem_append_left _ (List.mem_append_left _ (List.mem_append_left _ (List.mem_append_right _ (h))))))))))))))
  replace g_lM := hid g_lM
  replace g_ke := hid g_ke
  replace g_lm := hid g_lm
  refine lv_aload_n hx hb dX11_read_0 rfl (lv_at hl 0 rfl) ?_
  refine lv_iconst (v := (-1)) hx hb dX11_read_1 (by decide) ?_
  refine va_put (D := (dC, dI)) (ci := 11) (v := .int (-1)) (ty := .int) (C := RX11) (T := TX11) (N := 12) hx hb hts in_X11 tyX11 tyX11_ok nmX11 hown hK hP hD hS 0 rfl rfl 11 (Nat.le_of_ble_eq_true rfl) (hts (.fieldLink RX11 90 "TextMender" "fault" "I") (List.mem_of_getElem? (i := 1) rfl)) (fun _ h9 => h9) rfl (tyX11_ok 11 (Nat.le_of_ble_eq_true rfl)) rfl rfl (Nat.le_of_ble_eq_true rfl) dX11_read_2 (kW (wn := [(oX, .inr (11, [.ref nT, .ref nL, .ref nM, .ref oC, .ref oP, .ref oH, .ref oK, .ref oG, .ref oR, .ref oQ, .ref oW, .int (-1)])), (nT, .inr (5, [.ref aT, .int lT])), (aT, .inl (cI, 900, .inl fT)), (nL, .inr (5, [.ref aL, .int lL])), (aL, .inl (cI, 300, .inl fL)), (nM, .inr (5, [.ref aM, .int lM])), (aM, .inl (cI, 300, .inl fM)), (oG, .inr (0, [.ref g1, .ref g2, .int gn, .int lG])), (g1, .inl (cI, 6000, .inl fG1)), (g2, .inl (cI, 20, .inl fG2)), (oW, .inr (1, [.ref oC, .ref oK, .ref nw, .ref w1, .ref w2, .ref w3, .ref o7, .ref o8, .ref o9, .ref w4, .ref w5, .ref w6, .ref w7, .int ke, .int tl, .int fsh, .int wi, .int ri, .int fm, .int lm])), (oP, .inr (7, [.ref oC, .ref nB, .int ft])), (oC, .inr (2, [.ref o4, .ref o5])), (o4, .inr (10, [.ref a41, .ref a42, .ref a43, .int l4])), (a41, .inl (cI, 256, .inl f41)), (o5, .inr (10, [.ref a51, .ref a52, .ref a53, .int l5])), (a51, .inl (cI, 256, .inl f51))]) rfl (fun H locs hPn hDn hSn => ?_))
  clear hP hD hS
  have hP := hPn
  have hD := hDn
  have hS := hSn
  clear hPn hDn hSn
  refine lv_iload_n hx hb dX11_read_5 rfl (lv_at hl 1 rfl) ?_
  refine kS_i (rest := []) hcf (m_X2_known l dC dI cI cS H.size cd ) kc_X2_known gX11_read_X2_known rfl rfl ⟨Nat.le_of_ble_eq_true rfl, Nat.le_of_ble_eq_true rfl⟩ kX_t hK hP hD hS hA (posT mk_104 0) (posF mk_104 0) (kC_of mk_104 rfl rfl) (by decide +kernel) rfl hl rfl (Nat.le_of_ble_eq_true rfl) dX11_read_6 ⟨Nat.le_of_ble_eq_true rfl, Nat.le_of_ble_eq_true rfl⟩ (fun r_1 H locs hB hJ hSn => ?_)
  refine hB _ (fun hPD9 hf1_0 hf1_1 => ?_)
  clear hB
  obtain ⟨hPn, hDn⟩ := kJi (m := mk_104) hJ rfl hPD9.1 hPD9.2 (wn := [(oX, .inr (11, [.ref nT, .ref nL, .ref nM, .ref oC, .ref oP, .ref oH, .ref oK, .ref oG, .ref oR, .ref oQ, .ref oW, .int (-1)])), (nT, .inr (5, [.ref aT, .int lT])), (aT, .inl (cI, 900, .inl fT)), (nL, .inr (5, [.ref aL, .int lL])), (aL, .inl (cI, 300, .inl fL)), (nM, .inr (5, [.ref aM, .int lM])), (aM, .inl (cI, 300, .inl fM)), (oG, .inr (0, [.ref g1, .ref g2, .int gn, .int lG])), (g1, .inl (cI, 6000, .inl fG1)), (g2, .inl (cI, 20, .inl fG2)), (oW, .inr (1, [.ref oC, .ref oK, .ref nw, .ref w1, .ref w2, .ref w3, .ref o7, .ref o8, .ref o9, .ref w4, .ref w5, .ref w6, .ref w7, .int ke, .int tl, .int fsh, .int wi, .int ri, .int fm, .int lm])), (oP, .inr (7, [.ref oC, .ref nB, .int ft])), (oC, .inr (2, [.ref o4, .ref o5])), (o4, .inr (10, [.ref a41, .ref a42, .ref a43, .int l4])), (a41, .inl (cI, 256, .inl f41)), (o5, .inr (10, [.ref a51, .ref a52, .ref a53, .int l5])), (a51, .inl (cI, 256, .inl f51))]) rfl
  clear hP hD hS hJ hPD9
  have hP := hPn
  have hD := hDn
  have hS := hSn
  clear hPn hDn hSn
  refine lv_if_eq (tgt := 23) hx hb dX11_read_9 (by decide) (fun c_2 => ?_) (fun c_2 => ?_)
  · have tc_2 : r_1.toInt = 0 := v_eq c_2
    refine lv_iconst (v := 0) hx hb dX11_read_23 (by decide) ?_
    refine lv_istore_n (lv' := [(2, .int 0), (0, .ref oX), (1, .int cd)]) hx hb dX11_read_24 rfl hl (by decide) rfl (fun ls hl => ?_)
    refine lv_iload_n hx hb dX11_read_25 rfl (lv_at hl 0 rfl) ?_
    refine lv_if_eq (tgt := 57) hx hb dX11_read_26 (by decide) (fun c_3 => ?_) (fun c_3 => absurd c_3 (by decide))
    refine lv_aload_n hx hb dX11_read_57 rfl (lv_at hl 1 rfl) ?_
    refine va_get (D := (dC, dI)) (ci := 11) (v := .ref nT) (C := RX11) (T := TX11) (N := 12) hx hb hts in_X11 hown hK hP 0 rfl rfl 0 (Nat.le_of_ble_eq_true rfl) (hts (.fieldLink RX11 30 "TextMender" "tape" "LTextMender$Numbers;") (List.mem_of_getElem? (i := 3) rfl)) (fun _ h9 => h9) rfl dX11_read_58 ?_
    refine lv_iconst (v := 0) hx hb dX11_read_61 (by decide) ?_
    refine kV_v (rest := []) (q0 := 0) (ci := 5) hcf (m_X5_cut l dC dI cI cS H.size nT aT lT 0 (v_rr g_lT (by decide) (by decide))) kc_X5_cut gX11_read_X5_cut rfl rfl rfl ⟨Nat.le_of_ble_eq_true rfl, Nat.le_of_ble_eq_true rfl⟩ kX_t hK hP hD hS hA (posT mk_105 0) (posF mk_105 0) (kC_of mk_105 rfl rfl) (by decide +kernel) rfl rfl rfl hl rfl (Nat.le_of_ble_eq_true rfl) dX11_read_62 ⟨Nat.le_of_ble_eq_true rfl, Nat.le_of_ble_eq_true rfl⟩ (fun H locs hB hJ hSn => ?_)
    refine hB _ (fun lu_4 hPD9 hf4_0 hf4_1 hf4_2 => ?_)
    clear hB
    obtain ⟨hPn, hDn⟩ := kJi (m := mk_105) hJ rfl hPD9.1 hPD9.2 (wn := [(oX, .inr (11, [.ref nT, .ref nL, .ref nM, .ref oC, .ref oP, .ref oH, .ref oK, .ref oG, .ref oR, .ref oQ, .ref oW, .int (-1)])), (nT, .inr (5, [.ref aT, .int lu_4])), (aT, .inl (cI, 900, .inl fT)), (nL, .inr (5, [.ref aL, .int lL])), (aL, .inl (cI, 300, .inl fL)), (nM, .inr (5, [.ref aM, .int lM])), (aM, .inl (cI, 300, .inl fM)), (oG, .inr (0, [.ref g1, .ref g2, .int gn, .int lG])), (g1, .inl (cI, 6000, .inl fG1)), (g2, .inl (cI, 20, .inl fG2)), (oW, .inr (1, [.ref oC, .ref oK, .ref nw, .ref w1, .ref w2, .ref w3, .ref o7, .ref o8, .ref o9, .ref w4, .ref w5, .ref w6, .ref w7, .int ke, .int tl, .int fsh, .int wi, .int ri, .int fm, .int lm])), (oP, .inr (7, [.ref oC, .ref nB, .int ft])), (oC, .inr (2, [.ref o4, .ref o5])), (o4, .inr (10, [.ref a41, .ref a42, .ref a43, .int l4])), (a41, .inl (cI, 256, .inl f41)), (o5, .inr (10, [.ref a51, .ref a52, .ref a53, .int l5])), (a51, .inl (cI, 256, .inl f51))]) rfl
    clear hP hD hS hJ hPD9
    have hP := hPn
    have hD := hDn
    have hS := hSn
    clear hPn hDn hSn
    have ha4 : lu_4.toInt = 0 := F_cut_l hf4_2 (by first | decide | omega) (by first | omega | (show (0 : Int) ≤ _; omega))
    refine lv_iload_n hx hb dX11_read_65 rfl (lv_at hl 0 rfl) ?_
    refine lv_if_eq (tgt := 80) hx hb dX11_read_66 (by decide) (fun c_5 => ?_) (fun c_5 => absurd c_5 (by decide))
    refine lv_iconst (v := (-1)) hx hb dX11_read_80 (by decide) ?_
    exact kl_i (v := (-1)) hQQ hx hb hr hlocks hS dX11_read_81 (fun PZ9 kZ9 => kZ9 (-1) lu_4 ft lM fM lL fL fsh gn lG fG1 fG2 (⟨hP, hD⟩) (by omega) (g_lM) (g_lL) (g_fsh) (g_gn) (g_lG) (g_fG2) (by show lu_4.toInt = 0; omega) (OC_n rfl (fun c fm v h9 => by have h8 := h9.1; unfold okd at h8; omega)))
  · have tc_2 : ¬ r_1.toInt = 0 := v_ne c_2
    refine lv_aload_n hx hb dX11_read_12 rfl (lv_at hl 0 rfl) ?_
    refine kV_i (rest := []) (q0 := 0) (ci := 11) hcf (f_X11_tapeHoldsBytes l dC dI cI cS H.size oX nT nL nM oC oP oH oK oG oR oQ oW aT (-1) lT fT (g_lT)) kc_X11_tapeHoldsBytes gX11_read_X11_tapeHoldsBytes rfl rfl rfl ⟨Nat.le_of_ble_eq_true rfl, Nat.le_of_ble_eq_true rfl⟩ kX_t hK hP hD hS hA (posT mk_106 0) (posF mk_106 0) (kC_of mk_106 rfl rfl) (by decide +kernel) rfl rfl rfl hl rfl (Nat.le_of_ble_eq_true rfl) dX11_read_13 ⟨Nat.le_of_ble_eq_true rfl, Nat.le_of_ble_eq_true rfl⟩ (fun r_6 H locs hB hJ hSn => ?_)
    refine hB _ (fun fa_6 hPD9 hf6_0 hf6_1 => ?_)
    clear hB
    obtain ⟨hPn, hDn⟩ := kJi (m := mk_106) hJ rfl hPD9.1 hPD9.2 (wn := [(oX, .inr (11, [.ref nT, .ref nL, .ref nM, .ref oC, .ref oP, .ref oH, .ref oK, .ref oG, .ref oR, .ref oQ, .ref oW, .int fa_6])), (nT, .inr (5, [.ref aT, .int lT])), (aT, .inl (cI, 900, .inl fT)), (nL, .inr (5, [.ref aL, .int lL])), (aL, .inl (cI, 300, .inl fL)), (nM, .inr (5, [.ref aM, .int lM])), (aM, .inl (cI, 300, .inl fM)), (oG, .inr (0, [.ref g1, .ref g2, .int gn, .int lG])), (g1, .inl (cI, 6000, .inl fG1)), (g2, .inl (cI, 20, .inl fG2)), (oW, .inr (1, [.ref oC, .ref oK, .ref nw, .ref w1, .ref w2, .ref w3, .ref o7, .ref o8, .ref o9, .ref w4, .ref w5, .ref w6, .ref w7, .int ke, .int tl, .int fsh, .int wi, .int ri, .int fm, .int lm])), (oP, .inr (7, [.ref oC, .ref nB, .int ft])), (oC, .inr (2, [.ref o4, .ref o5])), (o4, .inr (10, [.ref a41, .ref a42, .ref a43, .int l4])), (a41, .inl (cI, 256, .inl f41)), (o5, .inr (10, [.ref a51, .ref a52, .ref a53, .int l5])), (a51, .inl (cI, 256, .inl f51))]) rfl
    clear hP hD hS hJ hPD9
    have hP := hPn
    have hD := hDn
    have hS := hSn
    clear hPn hDn hSn
    refine lv_if_eq (tgt := 23) hx hb dX11_read_16 (by decide) (fun c_7 => ?_) (fun c_7 => ?_)
    · have tc_7 : r_6.toInt = 0 := v_eq c_7
      refine lv_iconst (v := 0) hx hb dX11_read_23 (by decide) ?_
      refine lv_istore_n (lv' := [(2, .int 0), (0, .ref oX), (1, .int cd)]) hx hb dX11_read_24 rfl hl (by decide) rfl (fun ls hl => ?_)
      refine lv_iload_n hx hb dX11_read_25 rfl (lv_at hl 0 rfl) ?_
      refine lv_if_eq (tgt := 57) hx hb dX11_read_26 (by decide) (fun c_8 => ?_) (fun c_8 => absurd c_8 (by decide))
      refine lv_aload_n hx hb dX11_read_57 rfl (lv_at hl 1 rfl) ?_
      refine va_get (D := (dC, dI)) (ci := 11) (v := .ref nT) (C := RX11) (T := TX11) (N := 12) hx hb hts in_X11 hown hK hP 0 rfl rfl 0 (Nat.le_of_ble_eq_true rfl) (hts (.fieldLink RX11 30 "TextMender" "tape" "LTextMender$Numbers;") (List.mem_of_getElem? (i := 3) rfl)) (fun _ h9 => h9) rfl dX11_read_58 ?_
      refine lv_iconst (v := 0) hx hb dX11_read_61 (by decide) ?_
      refine kV_v (rest := []) (q0 := 0) (ci := 5) hcf (m_X5_cut l dC dI cI cS H.size nT aT lT 0 (v_rr g_lT (by decide) (by decide))) kc_X5_cut gX11_read_X5_cut rfl rfl rfl ⟨Nat.le_of_ble_eq_true rfl, Nat.le_of_ble_eq_true rfl⟩ kX_t hK hP hD hS hA (posT mk_105 0) (posF mk_105 0) (kC_of mk_105 rfl rfl) (by decide +kernel) rfl rfl rfl hl rfl (Nat.le_of_ble_eq_true rfl) dX11_read_62 ⟨Nat.le_of_ble_eq_true rfl, Nat.le_of_ble_eq_true rfl⟩ (fun H locs hB hJ hSn => ?_)
      refine hB _ (fun lu_9 hPD9 hf9_0 hf9_1 hf9_2 => ?_)
      clear hB
      obtain ⟨hPn, hDn⟩ := kJi (m := mk_105) hJ rfl hPD9.1 hPD9.2 (wn := [(oX, .inr (11, [.ref nT, .ref nL, .ref nM, .ref oC, .ref oP, .ref oH, .ref oK, .ref oG, .ref oR, .ref oQ, .ref oW, .int fa_6])), (nT, .inr (5, [.ref aT, .int lu_9])), (aT, .inl (cI, 900, .inl fT)), (nL, .inr (5, [.ref aL, .int lL])), (aL, .inl (cI, 300, .inl fL)), (nM, .inr (5, [.ref aM, .int lM])), (aM, .inl (cI, 300, .inl fM)), (oG, .inr (0, [.ref g1, .ref g2, .int gn, .int lG])), (g1, .inl (cI, 6000, .inl fG1)), (g2, .inl (cI, 20, .inl fG2)), (oW, .inr (1, [.ref oC, .ref oK, .ref nw, .ref w1, .ref w2, .ref w3, .ref o7, .ref o8, .ref o9, .ref w4, .ref w5, .ref w6, .ref w7, .int ke, .int tl, .int fsh, .int wi, .int ri, .int fm, .int lm])), (oP, .inr (7, [.ref oC, .ref nB, .int ft])), (oC, .inr (2, [.ref o4, .ref o5])), (o4, .inr (10, [.ref a41, .ref a42, .ref a43, .int l4])), (a41, .inl (cI, 256, .inl f41)), (o5, .inr (10, [.ref a51, .ref a52, .ref a53, .int l5])), (a51, .inl (cI, 256, .inl f51))]) rfl
      clear hP hD hS hJ hPD9
      have hP := hPn
      have hD := hDn
      have hS := hSn
      clear hPn hDn hSn
      have ha9 : lu_9.toInt = 0 := F_cut_l hf9_2 (by first | decide | omega) (by first | omega | (show (0 : Int) ≤ _; omega))
      refine lv_iload_n hx hb dX11_read_65 rfl (lv_at hl 0 rfl) ?_
      refine lv_if_eq (tgt := 80) hx hb dX11_read_66 (by decide) (fun c_10 => ?_) (fun c_10 => absurd c_10 (by decide))
      refine lv_iconst (v := (-1)) hx hb dX11_read_80 (by decide) ?_
      exact kl_i (v := (-1)) hQQ hx hb hr hlocks hS dX11_read_81 (fun PZ9 kZ9 => kZ9 fa_6 lu_9 ft lM fM lL fL fsh gn lG fG1 fG2 (⟨hP, hD⟩) (by omega) (g_lM) (g_lL) (g_fsh) (g_gn) (g_lG) (g_fG2) (by show lu_9.toInt = 0; omega) (OC_n rfl (fun c fm v h9 => F_allB_0 hf6_1 (by omega) h9.2.1)))
    · have tc_7 : ¬ r_6.toInt = 0 := v_ne c_7
      refine lv_iconst (v := 1) hx hb dX11_read_19 (by decide) ?_
      refine lv_goto (tgt := 24) hx hb dX11_read_20 (by decide) ?_
      refine lv_istore_n (lv' := [(2, .int 1), (0, .ref oX), (1, .int cd)]) hx hb dX11_read_24 rfl hl (by decide) rfl (fun ls hl => ?_)
      refine lv_iload_n hx hb dX11_read_25 rfl (lv_at hl 0 rfl) ?_
      refine lv_if_eq (tgt := 57) hx hb dX11_read_26 (by decide) (fun c_11 => absurd c_11 (by decide)) (fun c_11 => ?_)
      refine lv_aload_n hx hb dX11_read_29 rfl (lv_at hl 1 rfl) ?_
      refine va_get (D := (dC, dI)) (ci := 11) (v := .ref oP) (C := RX11) (T := TX11) (N := 12) hx hb hts in_X11 hown hK hP 0 rfl rfl 4 (Nat.le_of_ble_eq_true rfl) (hts (.fieldLink RX11 44 "TextMender" "passage" "LTextMender$Passage;") (List.mem_of_getElem? (i := 2) rfl)) (fun _ h9 => h9) rfl dX11_read_30 ?_
      refine lv_iload_n hx hb dX11_read_33 rfl (lv_at hl 2 rfl) ?_
      refine lv_aload_n hx hb dX11_read_34 rfl (lv_at hl 1 rfl) ?_
      refine va_get (D := (dC, dI)) (ci := 11) (v := .ref nT) (C := RX11) (T := TX11) (N := 12) hx hb hts in_X11 hown hK hP 0 rfl rfl 0 (Nat.le_of_ble_eq_true rfl) (hts (.fieldLink RX11 30 "TextMender" "tape" "LTextMender$Numbers;") (List.mem_of_getElem? (i := 3) rfl)) (fun _ h9 => h9) rfl dX11_read_35 ?_
      refine lv_aload_n hx hb dX11_read_38 rfl (lv_at hl 1 rfl) ?_
      refine va_get (D := (dC, dI)) (ci := 11) (v := .ref nM) (C := RX11) (T := TX11) (N := 12) hx hb hts in_X11 hown hK hP 0 rfl rfl 2 (Nat.le_of_ble_eq_true rfl) (hts (.fieldLink RX11 37 "TextMender" "made" "LTextMender$Numbers;") (List.mem_of_getElem? (i := 4) rfl)) (fun _ h9 => h9) rfl dX11_read_39 ?_
      refine kV_i (rest := []) (q0 := 0) (ci := 7) hcf (f_X7_readExactly l dC dI cI cS H.size oP nT nM oC nB aT aM o4 o5 a41 a42 a43 a51 a52 a53 900 ft lT fT lM fM l4 f41 l5 f51 cd (by omega) (g_lM) (by omega) (F_allB_1 hf6_1 (by omega)) (hL4) (hL5)) kc_X7_readExactly gX11_read_X7_readExactly rfl rfl rfl ⟨Nat.le_of_ble_eq_true rfl, Nat.le_of_ble_eq_true rfl⟩ (kX_1 hN52) hK hP hD hS hA ([4, 0, 1, 2, 3, 5, 6, 7, 8, 9].filterMap (fun j => (posT mk_107 0)[j]?)) (posF mk_107 0) (kCp (ws := [(nT, .inr (5, [.ref aT, .int lT])), (aT, .inl (cI, 900, .inl fT)), (nM, .inr (5, [.ref aM, .int lM])), (aM, .inl (cI, 300, .inl fM)), (oP, .inr (7, [.ref oC, .ref nB, .int ft])), (oC, .inr (2, [.ref o4, .ref o5])), (o4, .inr (10, [.ref a41, .ref a42, .ref a43, .int l4])), (a41, .inl (cI, 256, .inl f41)), (o5, .inr (10, [.ref a51, .ref a52, .ref a53, .int l5])), (a51, .inl (cI, 256, .inl f51))]) (kC_of mk_107 rfl rfl) rfl) (by decide +kernel) rfl rfl rfl hl rfl (Nat.le_of_ble_eq_true rfl) dX11_read_42 ⟨Nat.le_of_ble_eq_true rfl, Nat.le_of_ble_eq_true rfl⟩ (fun r_12 H locs hB hJ hSn => ?_)
      refine hB _ (fun ft_12 ld_12 fd_12 hPD9 hf12_0 hf12_1 hf12_2 => ?_)
      clear hB
      obtain ⟨hPn, hDn⟩ := kJm (m := mk_107) hJ rfl hPD9.1 hPD9.2 [1, 2, 3, 4, 0, 5, 6, 7, 8, 9] (by decide +kernel) (ws := [(nT, .inr (5, [.ref aT, .int lT])), (aT, .inl (cI, 900, .inl fT)), (nM, .inr (5, [.ref aM, .int ld_12])), (aM, .inl (cI, 300, .inl fd_12)), (oP, .inr (7, [.ref oC, .ref nB, .int ft_12])), (oC, .inr (2, [.ref o4, .ref o5])), (o4, .inr (10, [.ref a41, .ref a42, .ref a43, .int l4])), (a41, .inl (cI, 256, .inl f41)), (o5, .inr (10, [.ref a51, .ref a52, .ref a53, .int l5])), (a51, .inl (cI, 256, .inl f51))]) rfl (wn := [(oX, .inr (11, [.ref nT, .ref nL, .ref nM, .ref oC, .ref oP, .ref oH, .ref oK, .ref oG, .ref oR, .ref oQ, .ref oW, .int fa_6])), (nT, .inr (5, [.ref aT, .int lT])), (aT, .inl (cI, 900, .inl fT)), (nL, .inr (5, [.ref aL, .int lL])), (aL, .inl (cI, 300, .inl fL)), (nM, .inr (5, [.ref aM, .int ld_12])), (aM, .inl (cI, 300, .inl fd_12)), (oG, .inr (0, [.ref g1, .ref g2, .int gn, .int lG])), (g1, .inl (cI, 6000, .inl fG1)), (g2, .inl (cI, 20, .inl fG2)), (oW, .inr (1, [.ref oC, .ref oK, .ref nw, .ref w1, .ref w2, .ref w3, .ref o7, .ref o8, .ref o9, .ref w4, .ref w5, .ref w6, .ref w7, .int ke, .int tl, .int fsh, .int wi, .int ri, .int fm, .int lm])), (oP, .inr (7, [.ref oC, .ref nB, .int ft_12])), (oC, .inr (2, [.ref o4, .ref o5])), (o4, .inr (10, [.ref a41, .ref a42, .ref a43, .int l4])), (a41, .inl (cI, 256, .inl f41)), (o5, .inr (10, [.ref a51, .ref a52, .ref a53, .int l5])), (a51, .inl (cI, 256, .inl f51))]) rfl
      clear hP hD hS hJ hPD9
      have hP := hPn
      have hD := hDn
      have hS := hSn
      clear hPn hDn hSn
      refine lv_istore_n (lv' := [(2, .int r_12), (0, .ref oX), (1, .int cd)]) hx hb dX11_read_45 rfl hl (by decide) rfl (fun ls hl => ?_)
      refine lv_aload_n hx hb dX11_read_46 rfl (lv_at hl 1 rfl) ?_
      refine lv_aload_n hx hb dX11_read_47 rfl (lv_at hl 1 rfl) ?_
      refine va_get (D := (dC, dI)) (ci := 11) (v := .ref oP) (C := RX11) (T := TX11) (N := 12) hx hb hts in_X11 hown hK hP 0 rfl rfl 4 (Nat.le_of_ble_eq_true rfl) (hts (.fieldLink RX11 44 "TextMender" "passage" "LTextMender$Passage;") (List.mem_of_getElem? (i := 2) rfl)) (fun _ h9 => h9) rfl dX11_read_48 ?_
      refine kV_i (rest := [.ref oX]) (q0 := 0) (ci := 7) hcf (m_X7_fault l dC dI cI cS H.size oP oC nB ft_12 ) kc_X7_fault gX11_read_X7_fault rfl rfl rfl ⟨Nat.le_of_ble_eq_true rfl, Nat.le_of_ble_eq_true rfl⟩ kX_t hK hP hD hS hA (posT mk_108 0) (posF mk_108 0) (kC_of mk_108 rfl rfl) (by decide +kernel) rfl rfl rfl hl rfl (Nat.le_of_ble_eq_true rfl) dX11_read_51 ⟨Nat.le_of_ble_eq_true rfl, Nat.le_of_ble_eq_true rfl⟩ (fun r_13 H locs hB hJ hSn => ?_)
      refine hB _ (fun hPD9 hf13_0 => ?_)
      clear hB
      obtain ⟨hPn, hDn⟩ := kJi (m := mk_108) hJ rfl hPD9.1 hPD9.2 (wn := [(oX, .inr (11, [.ref nT, .ref nL, .ref nM, .ref oC, .ref oP, .ref oH, .ref oK, .ref oG, .ref oR, .ref oQ, .ref oW, .int fa_6])), (nT, .inr (5, [.ref aT, .int lT])), (aT, .inl (cI, 900, .inl fT)), (nL, .inr (5, [.ref aL, .int lL])), (aL, .inl (cI, 300, .inl fL)), (nM, .inr (5, [.ref aM, .int ld_12])), (aM, .inl (cI, 300, .inl fd_12)), (oG, .inr (0, [.ref g1, .ref g2, .int gn, .int lG])), (g1, .inl (cI, 6000, .inl fG1)), (g2, .inl (cI, 20, .inl fG2)), (oW, .inr (1, [.ref oC, .ref oK, .ref nw, .ref w1, .ref w2, .ref w3, .ref o7, .ref o8, .ref o9, .ref w4, .ref w5, .ref w6, .ref w7, .int ke, .int tl, .int fsh, .int wi, .int ri, .int fm, .int lm])), (oP, .inr (7, [.ref oC, .ref nB, .int ft_12])), (oC, .inr (2, [.ref o4, .ref o5])), (o4, .inr (10, [.ref a41, .ref a42, .ref a43, .int l4])), (a41, .inl (cI, 256, .inl f41)), (o5, .inr (10, [.ref a51, .ref a52, .ref a53, .int l5])), (a51, .inl (cI, 256, .inl f51))]) rfl
      clear hP hD hS hJ hPD9
      have hP := hPn
      have hD := hDn
      have hS := hSn
      clear hPn hDn hSn
      rw [hf13_0]
      refine va_put (D := (dC, dI)) (ci := 11) (v := .int ft_12) (ty := .int) (C := RX11) (T := TX11) (N := 12) hx hb hts in_X11 tyX11 tyX11_ok nmX11 hown hK hP hD hS 0 rfl rfl 11 (Nat.le_of_ble_eq_true rfl) (hts (.fieldLink RX11 90 "TextMender" "fault" "I") (List.mem_of_getElem? (i := 1) rfl)) (fun _ h9 => h9) rfl (tyX11_ok 11 (Nat.le_of_ble_eq_true rfl)) rfl rfl (Nat.le_of_ble_eq_true rfl) dX11_read_54 (kW (wn := [(oX, .inr (11, [.ref nT, .ref nL, .ref nM, .ref oC, .ref oP, .ref oH, .ref oK, .ref oG, .ref oR, .ref oQ, .ref oW, .int ft_12])), (nT, .inr (5, [.ref aT, .int lT])), (aT, .inl (cI, 900, .inl fT)), (nL, .inr (5, [.ref aL, .int lL])), (aL, .inl (cI, 300, .inl fL)), (nM, .inr (5, [.ref aM, .int ld_12])), (aM, .inl (cI, 300, .inl fd_12)), (oG, .inr (0, [.ref g1, .ref g2, .int gn, .int lG])), (g1, .inl (cI, 6000, .inl fG1)), (g2, .inl (cI, 20, .inl fG2)), (oW, .inr (1, [.ref oC, .ref oK, .ref nw, .ref w1, .ref w2, .ref w3, .ref o7, .ref o8, .ref o9, .ref w4, .ref w5, .ref w6, .ref w7, .int ke, .int tl, .int fsh, .int wi, .int ri, .int fm, .int lm])), (oP, .inr (7, [.ref oC, .ref nB, .int ft_12])), (oC, .inr (2, [.ref o4, .ref o5])), (o4, .inr (10, [.ref a41, .ref a42, .ref a43, .int l4])), (a41, .inl (cI, 256, .inl f41)), (o5, .inr (10, [.ref a51, .ref a52, .ref a53, .int l5])), (a51, .inl (cI, 256, .inl f51))]) rfl (fun H locs hPn hDn hSn => ?_))
      clear hP hD hS
      have hP := hPn
      have hD := hDn
      have hS := hSn
      clear hPn hDn hSn
      refine lv_aload_n hx hb dX11_read_57 rfl (lv_at hl 1 rfl) ?_
      refine va_get (D := (dC, dI)) (ci := 11) (v := .ref nT) (C := RX11) (T := TX11) (N := 12) hx hb hts in_X11 hown hK hP 0 rfl rfl 0 (Nat.le_of_ble_eq_true rfl) (hts (.fieldLink RX11 30 "TextMender" "tape" "LTextMender$Numbers;") (List.mem_of_getElem? (i := 3) rfl)) (fun _ h9 => h9) rfl dX11_read_58 ?_
      refine lv_iconst (v := 0) hx hb dX11_read_61 (by decide) ?_
      refine kV_v (rest := []) (q0 := 0) (ci := 5) hcf (m_X5_cut l dC dI cI cS H.size nT aT lT 0 (v_rr g_lT (by decide) (by decide))) kc_X5_cut gX11_read_X5_cut rfl rfl rfl ⟨Nat.le_of_ble_eq_true rfl, Nat.le_of_ble_eq_true rfl⟩ kX_t hK hP hD hS hA (posT mk_105 0) (posF mk_105 0) (kC_of mk_105 rfl rfl) (by decide +kernel) rfl rfl rfl hl rfl (Nat.le_of_ble_eq_true rfl) dX11_read_62 ⟨Nat.le_of_ble_eq_true rfl, Nat.le_of_ble_eq_true rfl⟩ (fun H locs hB hJ hSn => ?_)
      refine hB _ (fun lu_14 hPD9 hf14_0 hf14_1 hf14_2 => ?_)
      clear hB
      obtain ⟨hPn, hDn⟩ := kJi (m := mk_105) hJ rfl hPD9.1 hPD9.2 (wn := [(oX, .inr (11, [.ref nT, .ref nL, .ref nM, .ref oC, .ref oP, .ref oH, .ref oK, .ref oG, .ref oR, .ref oQ, .ref oW, .int ft_12])), (nT, .inr (5, [.ref aT, .int lu_14])), (aT, .inl (cI, 900, .inl fT)), (nL, .inr (5, [.ref aL, .int lL])), (aL, .inl (cI, 300, .inl fL)), (nM, .inr (5, [.ref aM, .int ld_12])), (aM, .inl (cI, 300, .inl fd_12)), (oG, .inr (0, [.ref g1, .ref g2, .int gn, .int lG])), (g1, .inl (cI, 6000, .inl fG1)), (g2, .inl (cI, 20, .inl fG2)), (oW, .inr (1, [.ref oC, .ref oK, .ref nw, .ref w1, .ref w2, .ref w3, .ref o7, .ref o8, .ref o9, .ref w4, .ref w5, .ref w6, .ref w7, .int ke, .int tl, .int fsh, .int wi, .int ri, .int fm, .int lm])), (oP, .inr (7, [.ref oC, .ref nB, .int ft_12])), (oC, .inr (2, [.ref o4, .ref o5])), (o4, .inr (10, [.ref a41, .ref a42, .ref a43, .int l4])), (a41, .inl (cI, 256, .inl f41)), (o5, .inr (10, [.ref a51, .ref a52, .ref a53, .int l5])), (a51, .inl (cI, 256, .inl f51))]) rfl
      clear hP hD hS hJ hPD9
      have hP := hPn
      have hD := hDn
      have hS := hSn
      clear hPn hDn hSn
      have ha14 : lu_14.toInt = 0 := F_cut_l hf14_2 (by first | decide | omega) (by first | omega | (show (0 : Int) ≤ _; omega))
      refine lv_iload_n hx hb dX11_read_65 rfl (lv_at hl 0 rfl) ?_
      refine lv_if_eq (tgt := 80) hx hb dX11_read_66 (by decide) (fun c_15 => ?_) (fun c_15 => ?_)
      · have tc_15 : r_12.toInt = 0 := v_eq c_15
        refine lv_iconst (v := (-1)) hx hb dX11_read_80 (by decide) ?_
        exact kl_i (v := (-1)) hQQ hx hb hr hlocks hS dX11_read_81 (fun PZ9 kZ9 => kZ9 ft_12 lu_14 ft_12 ld_12 fd_12 lL fL fsh gn lG fG1 fG2 (⟨hP, hD⟩) (by omega) (hf12_0) (g_lL) (g_fsh) (g_gn) (g_lG) (g_fG2) (by show lu_14.toInt = 0; omega) (OC_n rfl (rx_n hf12_2 (by omega))))
      · have tc_15 : ¬ r_12.toInt = 0 := v_ne c_15
        refine lv_aload_n hx hb dX11_read_69 rfl (lv_at hl 1 rfl) ?_
        refine lv_aload_n hx hb dX11_read_70 rfl (lv_at hl 1 rfl) ?_
        refine va_get (D := (dC, dI)) (ci := 11) (v := .ref nM) (C := RX11) (T := TX11) (N := 12) hx hb hts in_X11 hown hK hP 0 rfl rfl 2 (Nat.le_of_ble_eq_true rfl) (hts (.fieldLink RX11 37 "TextMender" "made" "LTextMender$Numbers;") (List.mem_of_getElem? (i := 4) rfl)) (fun _ h9 => h9) rfl dX11_read_71 ?_
        refine kV_i (rest := []) (q0 := 0) (ci := 11) hcf (f_X11_bec l dC dI cI cS H.size oX nM nT nL oC oP oH oK oG oR oQ oW aL aM g1 g2 nw w1 w2 w3 o7 o8 o9 w4 w5 w6 w7 ft_12 lL fL ld_12 fd_12 gn lG fG1 fG2 ke tl fsh wi ri fm lm (g_lL) (hf12_0) (g_gn) (g_lG) (g_fG2) (g_ke) (g_fsh) (g_fm) (g_lm)) kc_X11_become gX11_read_X11_become rfl rfl rfl ⟨Nat.le_of_ble_eq_true rfl, Nat.le_of_ble_eq_true rfl⟩ kX_t hK hP hD hS hA (posT mk_109 0) (posF mk_109 0) (kC_of mk_109 rfl rfl) (by decide +kernel) rfl rfl rfl hl rfl (Nat.le_of_ble_eq_true rfl) dX11_read_74 ⟨Nat.le_of_ble_eq_true rfl, Nat.le_of_ble_eq_true rfl⟩ (fun r_16 H locs hB hJ hSn => ?_)
        refine hB _ (fun lL_16 fL_16 fsh_16 gn_16 lG_16 fG1_16 fG2_16 hPD9 hf16_0 hf16_1 hf16_2 hf16_3 hf16_4 hf16_5 hf16_6 hf16_7 => ?_)
        clear hB
        obtain ⟨hPn, hDn⟩ := kJi (m := mk_109) hJ rfl hPD9.1 hPD9.2 (wn := [(oX, .inr (11, [.ref nT, .ref nL, .ref nM, .ref oC, .ref oP, .ref oH, .ref oK, .ref oG, .ref oR, .ref oQ, .ref oW, .int ft_12])), (nT, .inr (5, [.ref aT, .int lu_14])), (aT, .inl (cI, 900, .inl fT)), (nL, .inr (5, [.ref aL, .int lL_16])), (aL, .inl (cI, 300, .inl fL_16)), (nM, .inr (5, [.ref aM, .int ld_12])), (aM, .inl (cI, 300, .inl fd_12)), (oG, .inr (0, [.ref g1, .ref g2, .int gn_16, .int lG_16])), (g1, .inl (cI, 6000, .inl fG1_16)), (g2, .inl (cI, 20, .inl fG2_16)), (oW, .inr (1, [.ref oC, .ref oK, .ref nw, .ref w1, .ref w2, .ref w3, .ref o7, .ref o8, .ref o9, .ref w4, .ref w5, .ref w6, .ref w7, .int ke, .int tl, .int fsh_16, .int wi, .int ri, .int fm, .int lm])), (oP, .inr (7, [.ref oC, .ref nB, .int ft_12])), (oC, .inr (2, [.ref o4, .ref o5])), (o4, .inr (10, [.ref a41, .ref a42, .ref a43, .int l4])), (a41, .inl (cI, 256, .inl f41)), (o5, .inr (10, [.ref a51, .ref a52, .ref a53, .int l5])), (a51, .inl (cI, 256, .inl f51))]) rfl
        clear hP hD hS hJ hPD9
        have hP := hPn
        have hD := hDn
        have hS := hSn
        clear hPn hDn hSn
        refine lv_goto (tgt := 81) hx hb dX11_read_77 (by decide) ?_
        exact kl_i (v := r_16) hQQ hx hb hr hlocks hS dX11_read_81 (fun PZ9 kZ9 => kZ9 ft_12 lu_14 ft_12 ld_12 fd_12 lL_16 fL_16 fsh_16 gn_16 lG_16 fG1_16 fG2_16 (⟨hP, hD⟩) (by omega) (hf12_0) (hf16_0) (hf16_1) (hf16_2) (hf16_3) (hf16_4) (by show lu_14.toInt = 0; omega) (OC_y ((rx_y hf12_2 (by omega) (by unfold okd; omega) (F_allB_1 hf6_1 (by omega))).imp (fun c hc => ⟨hc.1, hc.2 _ (by omega)⟩)) hf16_6 hf16_7))

theorem rr_zt {cd : Int32} {L4 L5 g : Nat → Int32} {n z : Int} (h : ∀ c fm v, ¬ rdP cd L4 L5 n g c fm v) (e : n = z) : ∀ c fm v, ¬ rdP cd L4 L5 z g c fm v := by rw [← e]; exact h
theorem rr_zy {cd m : Int32} {L4 L5 g fm : Nat → Int32} {n z : Int} (h : ∃ c : Nat, m.toInt = c ∧ ∀ v : Int, v = m.toInt → rdP cd L4 L5 n g c fm v) (e : n = z) : ∃ c : Nat, m.toInt = c ∧ ∀ v : Int, v = m.toInt → rdP cd L4 L5 z g c fm v := by rw [← e]; exact h

set_option maxHeartbeats 40000000 in
set_option maxRecDepth 100000 in
theorem f_X12_readE (l : Launch) (dC : Nat → ClassId) (dI : Nat → Nat → Nat) (cI cS : ClassId) (sz : Nat) (oM : Nat) (mT : Nat) (mS : Nat) (mX : Nat) (mL : Nat) (mB : Nat) (mD : Nat) (m1 : Nat) (m2 : Nat) (mR : Nat) (x1 : Nat) (x2 : Nat) (x3 : Nat) (mH : Nat) (mY : Nat) (mE : Nat) (mW : Nat) (mO : Nat) (y1 : Nat) (y2 : Nat) (y3 : Nat) (y4 : Nat) (mZ : Nat) (zt : Int32) (zp : Int32) (zf : Int32) (zh : Int32) (zr : Int32) (zc : Int32) (zy : Int32) (za : Int32) (zb : Int32) (zs : Int32) (zq : Int32) (zw : Int32) (ze : Int32) (zn : Int32) (zm : Int32) (zl : Int32) (zk : Int32) (zd : Int32) (eT : Nat → Int32) (eY : Nat → Int32) (eL : Nat → Int32) (eE : Nat → Int32) (eS : Nat → Int32) (eX : Nat → Int32) (cd : Int32) (g_zt : 0 ≤ zt.toInt ∧ zt.toInt ≤ 900) (g_zp : 0 ≤ zp.toInt ∧ zp.toInt ≤ 20) (g_zf : 0 ≤ zf.toInt ∧ zf.toInt ≤ 19) (g_zh : 0 ≤ zh.toInt ∧ zh.toInt ≤ 6) (g_zr : 0 ≤ zr.toInt ∧ zr.toInt ≤ 258) (g_zc : 0 ≤ zc.toInt ∧ zc.toInt ≤ 300) (g_zy : 0 ≤ zy.toInt ∧ zy.toInt ≤ 65536) (g_za : 0 ≤ za.toInt ∧ za.toInt ≤ 5) (g_zb : 0 ≤ zb.toInt ∧ zb.toInt ≤ 5) (g_zs : 0 ≤ zs.toInt ∧ zs.toInt ≤ 2000000) (g_zq : -1 ≤ zq.toInt ∧ zq.toInt ≤ 2000000) (g_zn : 0 ≤ zn.toInt ∧ zn.toInt ≤ 2600) (g_zm : 0 ≤ zm.toInt ∧ zm.toInt ≤ 2600) (g_zk : 0 ≤ zk.toInt ∧ zk.toInt ≤ 300) (g_eY : rg 0 255 eY) (g_eL : rg (-1) 65535 eL) (g_eE : rg 0 65535 eE) (g_eS : rg 0 300 eS) (g_eX : rg 0 65535 eX) (hzs : zs.toInt ≤ 1000000) : kMi l yX12_read_ wsX12_read_ ({ frames := 3, cells := 0, slots := 0, locals := 71 } : Room) [.ref oM, .int cd] sz (dC, dI) vwCl [(cI, .int), (cS, .short)] [(oM, .inr (12, [.ref mT, .int zt, .ref mS, .ref mX, .int zp, .int zf, .ref mL, .ref mB, .ref mD, .ref m1, .ref m2, .int zh, .ref mR, .int zr, .ref x1, .ref x2, .ref x3, .int zc, .ref mH, .int zy, .int za, .int zb, .int zs, .int zq, .int zw, .int ze, .ref mY, .int zn, .ref mE, .int zm, .int zl, .ref mW, .int zk, .ref mO, .int zd, .ref y1, .ref y2, .ref y3, .ref y4, .ref mZ])), (mT, .inl (cI, 900, .inl eT)), (mY, .inl (cI, 2600, .inl eY)), (mL, .inl (cI, 512, .inl eL)), (mE, .inl (cI, 2600, .inl eE)), (mS, .inl (cI, 21, .inl eS)), (mX, .inl (cI, 6300, .inl eX))] (fun _ => True) 0 0 (fun (A : Nat → Prop) (r : Int32) (hh9 : Heap) => ∀ PZ9 : Prop, (∀ (ze' : Int32) (zw' : Int32) (zt' : Int32) (eY' : Nat → Int32) (zn' : Int32) (zd' : Int32) (zm' : Int32) (zl' : Int32) (eE' : Nat → Int32) (zp' : Int32) (zf' : Int32) (zs' : Int32) (eS' : Nat → Int32) (eX' : Nat → Int32), kPD (dC, dI) vwCl A [(oM, .inr (12, [.ref mT, .int zt', .ref mS, .ref mX, .int zp', .int zf', .ref mL, .ref mB, .ref mD, .ref m1, .ref m2, .int zh, .ref mR, .int zr, .ref x1, .ref x2, .ref x3, .int zc, .ref mH, .int zy, .int za, .int zb, .int zs', .int zq, .int zw', .int ze', .ref mY, .int zn', .ref mE, .int zm', .int zl', .ref mW, .int zk, .ref mO, .int zd', .ref y1, .ref y2, .ref y3, .ref y4, .ref mZ])), (mT, .inl (cI, 900, .inl eT)), (mY, .inl (cI, 2600, .inl eY')), (mL, .inl (cI, 512, .inl eL)), (mE, .inl (cI, 2600, .inl eE')), (mS, .inl (cI, 21, .inl eS')), (mX, .inl (cI, 6300, .inl eX'))] hh9 → (0 ≤ zt'.toInt ∧ zt'.toInt ≤ 900) → (rg 0 255 eY') → (0 ≤ zn'.toInt ∧ zn'.toInt ≤ 2600) → (0 ≤ zm'.toInt ∧ zm'.toInt ≤ 2600) → (rg 0 65535 eE') → (0 ≤ zp'.toInt ∧ zp'.toInt ≤ 20) → (0 ≤ zf'.toInt ∧ zf'.toInt ≤ 19) → (0 ≤ zs'.toInt ∧ zs'.toInt ≤ 2000000) → (rg 0 300 eS') → (rg 0 65535 eX') → (zt'.toInt = 0) → (zs'.toInt ≤ zs.toInt + 1 ∧ zs.toInt ≤ zs'.toInt) → (F_st zs zs' eX eX' eS eS') → (OR (-1) r zs zs' zp zp' zf zf' eS eS' eX eX' (rdP cd (fun k => eL k) (fun k => eL (256 + k)) zt.toInt eT)) → PZ9) → PZ9) := by
  refine kMi_of (cc := cX12_read_) (maxL := 4) (ret := (some .int)) (lv := [(0, .ref oM), (1, .int cd)]) (by decide +kernel) rfl rfl (Nat.le_of_ble_eq_true rfl) ?_
  intro p e s m below meth c A QQ ls hx hb hr hts hml hown hlocks hA hQQ hK hX hP hD hS hl
  have hown : s.vm.findClass RX12 = some m.cls := hown
  have hcf := k_cf hx hb hml hown hts
  have in_X12 : ∀ w ∈ wsX120, w ∈ wsX12_read_ := fun _ h => List.mem_cons_of_mem _ (List.mem_append_left _ (List.mem_append_left _ (List.mem_append_left _ (List.mem_append_right _ (h)))))
  replace g_zh := hid g_zh
  replace g_zr := hid g_zr
  replace g_zc := hid g_zc
  replace g_zy := hid g_zy
  replace g_za := hid g_za
  replace g_zb := hid g_zb
  replace g_zq := hid g_zq
  replace g_zn := hid g_zn
  replace g_zm := hid g_zm
  replace g_zk := hid g_zk
  refine lv_aload_n hx hb dX12_read__0 rfl (lv_at hl 0 rfl) ?_
  refine lv_iconst (v := 0) hx hb dX12_read__1 (by decide) ?_
  refine va_put (D := (dC, dI)) (ci := 12) (v := .int 0) (ty := .int) (C := RX12) (T := TX12) (N := 40) hx hb hts in_X12 tyX12 tyX12_ok nmX12 hown hK hP hD hS 0 rfl rfl 25 (Nat.le_of_ble_eq_true rfl) (hts (.fieldLink RX12 85 "TextMenderModel" "thrown" "I") (List.mem_of_getElem? (i := 1) rfl)) (fun _ h9 => h9) rfl (tyX12_ok 25 (Nat.le_of_ble_eq_true rfl)) rfl rfl (Nat.le_of_ble_eq_true rfl) dX12_read__2 (kW (wn := [(oM, .inr (12, [.ref mT, .int zt, .ref mS, .ref mX, .int zp, .int zf, .ref mL, .ref mB, .ref mD, .ref m1, .ref m2, .int zh, .ref mR, .int zr, .ref x1, .ref x2, .ref x3, .int zc, .ref mH, .int zy, .int za, .int zb, .int zs, .int zq, .int zw, .int 0, .ref mY, .int zn, .ref mE, .int zm, .int zl, .ref mW, .int zk, .ref mO, .int zd, .ref y1, .ref y2, .ref y3, .ref y4, .ref mZ])), (mT, .inl (cI, 900, .inl eT)), (mY, .inl (cI, 2600, .inl eY)), (mL, .inl (cI, 512, .inl eL)), (mE, .inl (cI, 2600, .inl eE)), (mS, .inl (cI, 21, .inl eS)), (mX, .inl (cI, 6300, .inl eX))]) rfl (fun H locs hPn hDn hSn => ?_))
  clear hP hD hS
  have hP := hPn
  have hD := hDn
  have hS := hSn
  clear hPn hDn hSn
  refine lv_aload_n hx hb dX12_read__5 rfl (lv_at hl 0 rfl) ?_
  refine lv_iconst (v := (-1)) hx hb dX12_read__6 (by decide) ?_
  refine va_put (D := (dC, dI)) (ci := 12) (v := .int (-1)) (ty := .int) (C := RX12) (T := TX12) (N := 40) hx hb hts in_X12 tyX12 tyX12_ok nmX12 hown hK hP hD hS 0 rfl rfl 24 (Nat.le_of_ble_eq_true rfl) (hts (.fieldLink RX12 55 "TextMenderModel" "where" "I") (List.mem_of_getElem? (i := 2) rfl)) (fun _ h9 => h9) rfl (tyX12_ok 24 (Nat.le_of_ble_eq_true rfl)) rfl rfl (Nat.le_of_ble_eq_true rfl) dX12_read__7 (kW (wn := [(oM, .inr (12, [.ref mT, .int zt, .ref mS, .ref mX, .int zp, .int zf, .ref mL, .ref mB, .ref mD, .ref m1, .ref m2, .int zh, .ref mR, .int zr, .ref x1, .ref x2, .ref x3, .int zc, .ref mH, .int zy, .int za, .int zb, .int zs, .int zq, .int (-1), .int 0, .ref mY, .int zn, .ref mE, .int zm, .int zl, .ref mW, .int zk, .ref mO, .int zd, .ref y1, .ref y2, .ref y3, .ref y4, .ref mZ])), (mT, .inl (cI, 900, .inl eT)), (mY, .inl (cI, 2600, .inl eY)), (mL, .inl (cI, 512, .inl eL)), (mE, .inl (cI, 2600, .inl eE)), (mS, .inl (cI, 21, .inl eS)), (mX, .inl (cI, 6300, .inl eX))]) rfl (fun H locs hPn hDn hSn => ?_))
  clear hP hD hS
  have hP := hPn
  have hD := hDn
  have hS := hSn
  clear hPn hDn hSn
  refine lv_aload_n hx hb dX12_read__10 rfl (lv_at hl 0 rfl) ?_
  refine va_get (D := (dC, dI)) (ci := 12) (v := .int zt) (C := RX12) (T := TX12) (N := 40) hx hb hts in_X12 hown hK hP 0 rfl rfl 1 (Nat.le_of_ble_eq_true rfl) (hts (.fieldLink RX12 151 "TextMenderModel" "taped" "I") (List.mem_of_getElem? (i := 3) rfl)) (fun _ h9 => h9) rfl dX12_read__11 ?_
  refine lv_istore_n (lv' := [(2, .int zt), (0, .ref oM), (1, .int cd)]) hx hb dX12_read__14 rfl hl (by decide) rfl (fun ls hl => ?_)
  refine lv_aload_n hx hb dX12_read__15 rfl (lv_at hl 1 rfl) ?_
  refine lv_iconst (v := 0) hx hb dX12_read__16 (by decide) ?_
  refine va_put (D := (dC, dI)) (ci := 12) (v := .int 0) (ty := .int) (C := RX12) (T := TX12) (N := 40) hx hb hts in_X12 tyX12 tyX12_ok nmX12 hown hK hP hD hS 0 rfl rfl 1 (Nat.le_of_ble_eq_true rfl) (hts (.fieldLink RX12 151 "TextMenderModel" "taped" "I") (List.mem_of_getElem? (i := 3) rfl)) (fun _ h9 => h9) rfl (tyX12_ok 1 (Nat.le_of_ble_eq_true rfl)) rfl rfl (Nat.le_of_ble_eq_true rfl) dX12_read__17 (kW (wn := [(oM, .inr (12, [.ref mT, .int 0, .ref mS, .ref mX, .int zp, .int zf, .ref mL, .ref mB, .ref mD, .ref m1, .ref m2, .int zh, .ref mR, .int zr, .ref x1, .ref x2, .ref x3, .int zc, .ref mH, .int zy, .int za, .int zb, .int zs, .int zq, .int (-1), .int 0, .ref mY, .int zn, .ref mE, .int zm, .int zl, .ref mW, .int zk, .ref mO, .int zd, .ref y1, .ref y2, .ref y3, .ref y4, .ref mZ])), (mT, .inl (cI, 900, .inl eT)), (mY, .inl (cI, 2600, .inl eY)), (mL, .inl (cI, 512, .inl eL)), (mE, .inl (cI, 2600, .inl eE)), (mS, .inl (cI, 21, .inl eS)), (mX, .inl (cI, 6300, .inl eX))]) rfl (fun H locs hPn hDn hSn => ?_))
  clear hP hD hS
  have hP := hPn
  have hD := hDn
  have hS := hSn
  clear hPn hDn hSn
  refine lv_iload_n hx hb dX12_read__20 rfl (lv_at hl 2 rfl) ?_
  refine kS_i (rest := []) hcf (m_X12_isCode l dC dI cI cS H.size cd ) kc_X12_isCode gX12_read__X12_isCode rfl rfl ⟨Nat.le_of_ble_eq_true rfl, Nat.le_of_ble_eq_true rfl⟩ kX_t hK hP hD hS hA (posT mk_2 0) (posF mk_2 0) (kC_of mk_2 rfl rfl) (by decide +kernel) rfl hl rfl (Nat.le_of_ble_eq_true rfl) dX12_read__21 ⟨Nat.le_of_ble_eq_true rfl, Nat.le_of_ble_eq_true rfl⟩ (fun r_1 H locs hB hJ hSn => ?_)
  refine hB _ (fun hPD9 hf1_0 hf1_1 => ?_)
  clear hB
  obtain ⟨hPn, hDn⟩ := kJi (m := mk_2) hJ rfl hPD9.1 hPD9.2 (wn := [(oM, .inr (12, [.ref mT, .int 0, .ref mS, .ref mX, .int zp, .int zf, .ref mL, .ref mB, .ref mD, .ref m1, .ref m2, .int zh, .ref mR, .int zr, .ref x1, .ref x2, .ref x3, .int zc, .ref mH, .int zy, .int za, .int zb, .int zs, .int zq, .int (-1), .int 0, .ref mY, .int zn, .ref mE, .int zm, .int zl, .ref mW, .int zk, .ref mO, .int zd, .ref y1, .ref y2, .ref y3, .ref y4, .ref mZ])), (mT, .inl (cI, 900, .inl eT)), (mY, .inl (cI, 2600, .inl eY)), (mL, .inl (cI, 512, .inl eL)), (mE, .inl (cI, 2600, .inl eE)), (mS, .inl (cI, 21, .inl eS)), (mX, .inl (cI, 6300, .inl eX))]) rfl
  clear hP hD hS hJ hPD9
  have hP := hPn
  have hD := hDn
  have hS := hSn
  clear hPn hDn hSn
  refine lv_if_ne (tgt := 29) hx hb dX12_read__24 (by decide) (fun c_2 => ?_) (fun c_2 => ?_)
  · have tc_2 : ¬ r_1.toInt = 0 := v_ne c_2
    refine lv_iconst (v := 0) hx hb dX12_read__29 (by decide) ?_
    refine lv_istore_n (lv' := [(3, .int 0), (2, .int zt), (0, .ref oM), (1, .int cd)]) hx hb dX12_read__30 rfl hl (by decide) rfl (fun ls hl => ?_)
    have LOOP_31 : ∀ (k_31 : Nat) (k : Int32) (eYa : Nat → Int32) (H : Heap) (locs : List Loc) (ls : Array Slot), MSd (900 - k.toInt : Int) k_31 → (0 ≤ k.toInt ∧ k.toInt ≤ 900) → (rg 0 255 eYa) → (k.toInt ≤ zt.toInt) → (cpT k.toInt eYa eT) → va_P (dC, dI) vwCl [(oM, .inr (12, [.ref mT, .int 0, .ref mS, .ref mX, .int zp, .int zf, .ref mL, .ref mB, .ref mD, .ref m1, .ref m2, .int zh, .ref mR, .int zr, .ref x1, .ref x2, .ref x3, .int zc, .ref mH, .int zy, .int za, .int zb, .int zs, .int zq, .int (-1), .int 0, .ref mY, .int zn, .ref mE, .int zm, .int zl, .ref mW, .int zk, .ref mO, .int zd, .ref y1, .ref y2, .ref y3, .ref y4, .ref mZ])), (mT, .inl (cI, 900, .inl eT)), (mY, .inl (cI, 2600, .inl eYa)), (mL, .inl (cI, 512, .inl eL)), (mE, .inl (cI, 2600, .inl eE)), (mS, .inl (cI, 21, .inl eS)), (mX, .inl (cI, 6300, .inl eX))] H → va_D A [(oM, .inr (12, [.ref mT, .int 0, .ref mS, .ref mX, .int zp, .int zf, .ref mL, .ref mB, .ref mD, .ref m1, .ref m2, .int zh, .ref mR, .int zr, .ref x1, .ref x2, .ref x3, .int zc, .ref mH, .int zy, .int za, .int zb, .int zs, .int zq, .int (-1), .int 0, .ref mY, .int zn, .ref mE, .int zm, .int zl, .ref mW, .int zk, .ref mO, .int zd, .ref y1, .ref y2, .ref y3, .ref y4, .ref mZ])), (mT, .inl (cI, 900, .inl eT)), (mY, .inl (cI, 2600, .inl eYa)), (mL, .inl (cI, 512, .inl eL)), (mE, .inl (cI, 2600, .inl eE)), (mS, .inl (cI, 21, .inl eS)), (mX, .inl (cI, 6300, .inl eX))] → va_S A s.heap H locs → lv_has ls 4 [(3, .int k), (2, .int zt), (0, .ref oM), (1, .int cd)] → W p l e (headSpec wsX12_read_ ({ frames := 3, cells := 0, slots := 0, locals := 71 } : Room)).room s m ([.ref oM, .int cd] : List Value).toArray below meth c H locs 0 0 (MQ below QQ ([.ref oM, .int cd] : List Value).toArray s 0 0 A) (F0 m 31 ls []) := by
      clear hP hD hS hl
      intro k_31
      induction k_31 with
      | zero =>
        intro k eYa H locs ls hm_31 g_k g_eYa hkt hcp hP hD hS hl
        exact ms_0 hm_31
      | succ k_31 ih_31 =>
        intro k eYa H locs ls hm_31 g_k g_eYa hkt hcp hP hD hS hl
        refine lv_iload_n hx hb dX12_read__31 rfl (lv_at hl 0 rfl) ?_
        refine lv_iload_n hx hb dX12_read__32 rfl (lv_at hl 1 rfl) ?_
        refine lv_icmp_ge (tgt := 82) hx hb dX12_read__33 (by decide) (fun c_3 => ?_) (fun c_3 => ?_)
        · have tc_3 : zt.toInt ≤ k.toInt := v_le c_3
          refine lv_aload_n hx hb dX12_read__82 rfl (lv_at hl 2 rfl) ?_
          refine lv_iload_n hx hb dX12_read__83 rfl (lv_at hl 1 rfl) ?_
          refine va_put (D := (dC, dI)) (ci := 12) (v := .int zt) (ty := .int) (C := RX12) (T := TX12) (N := 40) hx hb hts in_X12 tyX12 tyX12_ok nmX12 hown hK hP hD hS 0 rfl rfl 27 (Nat.le_of_ble_eq_true rfl) (hts (.fieldLink RX12 91 "TextMenderModel" "byteMany" "I") (List.mem_of_getElem? (i := 6) rfl)) (fun _ h9 => h9) rfl (tyX12_ok 27 (Nat.le_of_ble_eq_true rfl)) rfl rfl (Nat.le_of_ble_eq_true rfl) dX12_read__84 (kW (wn := [(oM, .inr (12, [.ref mT, .int 0, .ref mS, .ref mX, .int zp, .int zf, .ref mL, .ref mB, .ref mD, .ref m1, .ref m2, .int zh, .ref mR, .int zr, .ref x1, .ref x2, .ref x3, .int zc, .ref mH, .int zy, .int za, .int zb, .int zs, .int zq, .int (-1), .int 0, .ref mY, .int zt, .ref mE, .int zm, .int zl, .ref mW, .int zk, .ref mO, .int zd, .ref y1, .ref y2, .ref y3, .ref y4, .ref mZ])), (mT, .inl (cI, 900, .inl eT)), (mY, .inl (cI, 2600, .inl eYa)), (mL, .inl (cI, 512, .inl eL)), (mE, .inl (cI, 2600, .inl eE)), (mS, .inl (cI, 21, .inl eS)), (mX, .inl (cI, 6300, .inl eX))]) rfl (fun H locs hPn hDn hSn => ?_))
          clear hP hD hS
          have hP := hPn
          have hD := hDn
          have hS := hSn
          clear hPn hDn hSn
          refine lv_aload_n hx hb dX12_read__87 rfl (lv_at hl 2 rfl) ?_
          refine lv_iload_n hx hb dX12_read__88 rfl (lv_at hl 3 rfl) ?_
          refine lv_iconst (v := 0) hx hb dX12_read__89 (by decide) ?_
          refine kV_i (rest := []) (q0 := 0) (ci := 12) hcf (f_X12_read l dC dI cI cS H.size oM mT mS mX mL mB mD m1 m2 mR x1 x2 x3 mH mY mE mW mO y1 y2 y3 y4 mZ 0 zp zf zh zr zc zy za zb zs zq (-1) 0 zt zm zl zk zd eYa eL eE cd 0 (by decide) (g_zp) (g_zf) (g_zh) (g_zr) (g_zc) (g_zy) (g_za) (g_zb) (g_zs) (g_zq) (v_rr g_zt (by decide) (by decide)) (g_zm) (g_zk) (g_eYa) (g_eL) (g_eE) (by omega) (rfl)) kc_X12_read gX12_read__X12_read rfl rfl rfl ⟨Nat.le_of_ble_eq_true rfl, Nat.le_of_ble_eq_true rfl⟩ kX_t hK hP hD hS hA (posT mk_163 0) (posF mk_163 0) (kC_of mk_163 rfl rfl) (by decide +kernel) rfl rfl rfl hl rfl (Nat.le_of_ble_eq_true rfl) dX12_read__90 ⟨Nat.le_of_ble_eq_true rfl, Nat.le_of_ble_eq_true rfl⟩ (fun r_4 H locs hB hJ hSn => ?_)
          refine hB _ (fun zd_4 zm_4 zl_4 eE_4 hPD9 hf4_0 hf4_1 hf4_2 hf4_3 hf4_4 => ?_)
          clear hB
          obtain ⟨hPn, hDn⟩ := kJi (m := mk_163) hJ rfl hPD9.1 hPD9.2 (wn := [(oM, .inr (12, [.ref mT, .int 0, .ref mS, .ref mX, .int zp, .int zf, .ref mL, .ref mB, .ref mD, .ref m1, .ref m2, .int zh, .ref mR, .int zr, .ref x1, .ref x2, .ref x3, .int zc, .ref mH, .int zy, .int za, .int zb, .int zs, .int zq, .int (-1), .int 0, .ref mY, .int zt, .ref mE, .int zm_4, .int zl_4, .ref mW, .int zk, .ref mO, .int zd_4, .ref y1, .ref y2, .ref y3, .ref y4, .ref mZ])), (mT, .inl (cI, 900, .inl eT)), (mY, .inl (cI, 2600, .inl eYa)), (mL, .inl (cI, 512, .inl eL)), (mE, .inl (cI, 2600, .inl eE_4)), (mS, .inl (cI, 21, .inl eS)), (mX, .inl (cI, 6300, .inl eX))]) rfl
          clear hP hD hS hJ hPD9
          have hP := hPn
          have hD := hDn
          have hS := hSn
          clear hPn hDn hSn
          refine lv_if_ne (tgt := 106) hx hb dX12_read__93 (by decide) (fun c_5 => ?_) (fun c_5 => ?_)
          · have tc_5 : ¬ r_4.toInt = 0 := v_ne c_5
            refine lv_aload_n hx hb dX12_read__106 rfl (lv_at hl 2 rfl) ?_
            refine va_get (D := (dC, dI)) (ci := 12) (v := .int zm_4) (C := RX12) (T := TX12) (N := 40) hx hb hts in_X12 hown hK hP 0 rfl rfl 29 (Nat.le_of_ble_eq_true rfl) (hts (.fieldLink RX12 119 "TextMenderModel" "cameMany" "I") (List.mem_of_getElem? (i := 8) rfl)) (fun _ h9 => h9) rfl dX12_read__107 ?_
            refine lv_sipush (v := 300) hx hb dX12_read__110 (by decide) ?_
            refine lv_icmp_le (tgt := 118) hx hb dX12_read__113 (by decide) (fun c_6 => ?_) (fun c_6 => ?_)
            · have tc_6 : zm_4.toInt ≤ 300 := v_le c_6
              refine lv_aload_n hx hb dX12_read__118 rfl (lv_at hl 2 rfl) ?_
              refine lv_aload_n hx hb dX12_read__119 rfl (lv_at hl 2 rfl) ?_
              refine va_get (D := (dC, dI)) (ci := 12) (v := .ref mE) (C := RX12) (T := TX12) (N := 40) hx hb hts in_X12 hown hK hP 0 rfl rfl 28 (Nat.le_of_ble_eq_true rfl) (hts (.fieldLink RX12 61 "TextMenderModel" "came" "[I") (List.mem_of_getElem? (i := 9) rfl)) (fun _ h9 => h9) rfl dX12_read__120 ?_
              refine lv_aload_n hx hb dX12_read__123 rfl (lv_at hl 2 rfl) ?_
              refine va_get (D := (dC, dI)) (ci := 12) (v := .int zm_4) (C := RX12) (T := TX12) (N := 40) hx hb hts in_X12 hown hK hP 0 rfl rfl 29 (Nat.le_of_ble_eq_true rfl) (hts (.fieldLink RX12 119 "TextMenderModel" "cameMany" "I") (List.mem_of_getElem? (i := 8) rfl)) (fun _ h9 => h9) rfl dX12_read__124 ?_
              refine kV_v (rest := []) (q0 := 0) (ci := 12) hcf (f_X12_bec l dC dI cI cS H.size oM mE mT mS mX mL mB mD m1 m2 mR x1 x2 x3 mH mY mE mW mO y1 y2 y3 y4 mZ 2600 0 zp zf zh zr zc zy za zb zs zq (-1) 0 zt zm_4 zl_4 zk zd_4 eS eX eE_4 zm_4 (by decide) (g_zp) (g_zf) (g_zh) (g_zr) (g_zc) (g_zy) (g_za) (g_zb) (g_zs) (g_zq) (v_rr g_zt (by decide) (by decide)) (hf4_0) (g_zk) (g_eS) (g_eX) (by omega) (by omega) (by omega) (prg_of hf4_1) (by omega)) kc_X12_become gX12_read__X12_become rfl rfl rfl ⟨Nat.le_of_ble_eq_true rfl, Nat.le_of_ble_eq_true rfl⟩ kX_t hK hP hD hS hA ([0, 2, 3, 1].filterMap (fun j => (posT mk_164 0)[j]?)) (posF mk_164 0) (kCp (ws := [(oM, .inr (12, [.ref mT, .int 0, .ref mS, .ref mX, .int zp, .int zf, .ref mL, .ref mB, .ref mD, .ref m1, .ref m2, .int zh, .ref mR, .int zr, .ref x1, .ref x2, .ref x3, .int zc, .ref mH, .int zy, .int za, .int zb, .int zs, .int zq, .int (-1), .int 0, .ref mY, .int zt, .ref mE, .int zm_4, .int zl_4, .ref mW, .int zk, .ref mO, .int zd_4, .ref y1, .ref y2, .ref y3, .ref y4, .ref mZ])), (mE, .inl (cI, 2600, .inl eE_4)), (mS, .inl (cI, 21, .inl eS)), (mX, .inl (cI, 6300, .inl eX))]) (kC_of mk_164 rfl rfl) rfl) (by decide +kernel) rfl rfl rfl hl rfl (Nat.le_of_ble_eq_true rfl) dX12_read__127 ⟨Nat.le_of_ble_eq_true rfl, Nat.le_of_ble_eq_true rfl⟩ (fun H locs hB hJ hSn => ?_)
              refine hB _ (fun zp_7 zf_7 zs_7 eS_7 eX_7 hPD9 hf7_0 hf7_1 hf7_2 hf7_3 hf7_4 hf7_5 hf7_6 => ?_)
              clear hB
              obtain ⟨hPn, hDn⟩ := kJm (m := mk_164) hJ rfl hPD9.1 hPD9.2 [0, 3, 1, 2] (by decide +kernel) (ws := [(oM, .inr (12, [.ref mT, .int 0, .ref mS, .ref mX, .int zp_7, .int zf_7, .ref mL, .ref mB, .ref mD, .ref m1, .ref m2, .int zh, .ref mR, .int zr, .ref x1, .ref x2, .ref x3, .int zc, .ref mH, .int zy, .int za, .int zb, .int zs_7, .int zq, .int (-1), .int 0, .ref mY, .int zt, .ref mE, .int zm_4, .int zl_4, .ref mW, .int zk, .ref mO, .int zd_4, .ref y1, .ref y2, .ref y3, .ref y4, .ref mZ])), (mE, .inl (cI, 2600, .inl eE_4)), (mS, .inl (cI, 21, .inl eS_7)), (mX, .inl (cI, 6300, .inl eX_7))]) rfl (wn := [(oM, .inr (12, [.ref mT, .int 0, .ref mS, .ref mX, .int zp_7, .int zf_7, .ref mL, .ref mB, .ref mD, .ref m1, .ref m2, .int zh, .ref mR, .int zr, .ref x1, .ref x2, .ref x3, .int zc, .ref mH, .int zy, .int za, .int zb, .int zs_7, .int zq, .int (-1), .int 0, .ref mY, .int zt, .ref mE, .int zm_4, .int zl_4, .ref mW, .int zk, .ref mO, .int zd_4, .ref y1, .ref y2, .ref y3, .ref y4, .ref mZ])), (mT, .inl (cI, 900, .inl eT)), (mY, .inl (cI, 2600, .inl eYa)), (mL, .inl (cI, 512, .inl eL)), (mE, .inl (cI, 2600, .inl eE_4)), (mS, .inl (cI, 21, .inl eS_7)), (mX, .inl (cI, 6300, .inl eX_7))]) rfl
              clear hP hD hS hJ hPD9
              have hP := hPn
              have hD := hDn
              have hS := hSn
              clear hPn hDn hSn
              refine lv_aload_n hx hb dX12_read__130 rfl (lv_at hl 2 rfl) ?_
              refine va_get (D := (dC, dI)) (ci := 12) (v := .int zm_4) (C := RX12) (T := TX12) (N := 40) hx hb hts in_X12 hown hK hP 0 rfl rfl 29 (Nat.le_of_ble_eq_true rfl) (hts (.fieldLink RX12 119 "TextMenderModel" "cameMany" "I") (List.mem_of_getElem? (i := 8) rfl)) (fun _ h9 => h9) rfl dX12_read__131 ?_
              exact kl_i (v := zm_4) hQQ hx hb hr hlocks hS dX12_read__134 (fun PZ9 kZ9 => kZ9 0 (-1) 0 eYa zt zd_4 zm_4 zl_4 eE_4 zp_7 zf_7 zs_7 eS_7 eX_7 (⟨hP, hD⟩) (by decide) (g_eYa) (v_rr g_zt (by decide) (by decide)) (hf4_0) (hf4_1) (hf7_0) (hf7_1) (hf7_2) (hf7_3) (hf7_4) (by show 0 = 0; omega) (by show zs_7.toInt ≤ zs.toInt + 1 ∧ zs.toInt ≤ zs_7.toInt; omega) (by first | exact Or.inl (by omega) | exact Or.inr ⟨rfl, rfl, rfl⟩) (OR_y ((rr_zy (rr_y hf4_4 (by omega) (by omega) (by unfold okd; omega) (fun j hj => by rw [(hcp j (by omega)).1]; exact (hcp j (by omega)).2) (fun j hj => (hcp j (by omega)).1)) (by omega)).imp (fun c hc => ⟨hc.1, hc.2 _ (by first | rfl | omega)⟩)) hf7_6 (by omega)))
            · have tc_6 : 300 < zm_4.toInt := v_nle c_6
              refine lv_iconst (v := (-1)) hx hb dX12_read__116 (by decide) ?_
              exact kl_i (v := (-1)) hQQ hx hb hr hlocks hS dX12_read__117 (fun PZ9 kZ9 => kZ9 0 (-1) 0 eYa zt zd_4 zm_4 zl_4 eE_4 zp zf zs eS eX (⟨hP, hD⟩) (by decide) (g_eYa) (v_rr g_zt (by decide) (by decide)) (hf4_0) (hf4_1) (g_zp) (g_zf) (g_zs) (g_eS) (g_eX) (by show 0 = 0; omega) (by show zs.toInt ≤ zs.toInt + 1 ∧ zs.toInt ≤ zs.toInt; omega) (by first | exact Or.inl (by omega) | exact Or.inr ⟨rfl, rfl, rfl⟩) (OR_n rfl (rr_zt (rr_n hf4_4 (by omega) (fun j hj => (hcp j (by omega)).1)) (by omega))))
          · have tc_5 : r_4.toInt = 0 := v_eq c_5
            refine lv_aload_n hx hb dX12_read__96 rfl (lv_at hl 2 rfl) ?_
            refine lv_aload_n hx hb dX12_read__97 rfl (lv_at hl 2 rfl) ?_
            refine va_get (D := (dC, dI)) (ci := 12) (v := .int zl_4) (C := RX12) (T := TX12) (N := 40) hx hb hts in_X12 hown hK hP 0 rfl rfl 30 (Nat.le_of_ble_eq_true rfl) (hts (.fieldLink RX12 102 "TextMenderModel" "faultAt" "I") (List.mem_of_getElem? (i := 7) rfl)) (fun _ h9 => h9) rfl dX12_read__98 ?_
            refine va_put (D := (dC, dI)) (ci := 12) (v := .int zl_4) (ty := .int) (C := RX12) (T := TX12) (N := 40) hx hb hts in_X12 tyX12 tyX12_ok nmX12 hown hK hP hD hS 0 rfl rfl 24 (Nat.le_of_ble_eq_true rfl) (hts (.fieldLink RX12 55 "TextMenderModel" "where" "I") (List.mem_of_getElem? (i := 2) rfl)) (fun _ h9 => h9) rfl (tyX12_ok 24 (Nat.le_of_ble_eq_true rfl)) rfl rfl (Nat.le_of_ble_eq_true rfl) dX12_read__101 (kW (wn := [(oM, .inr (12, [.ref mT, .int 0, .ref mS, .ref mX, .int zp, .int zf, .ref mL, .ref mB, .ref mD, .ref m1, .ref m2, .int zh, .ref mR, .int zr, .ref x1, .ref x2, .ref x3, .int zc, .ref mH, .int zy, .int za, .int zb, .int zs, .int zq, .int zl_4, .int 0, .ref mY, .int zt, .ref mE, .int zm_4, .int zl_4, .ref mW, .int zk, .ref mO, .int zd_4, .ref y1, .ref y2, .ref y3, .ref y4, .ref mZ])), (mT, .inl (cI, 900, .inl eT)), (mY, .inl (cI, 2600, .inl eYa)), (mL, .inl (cI, 512, .inl eL)), (mE, .inl (cI, 2600, .inl eE_4)), (mS, .inl (cI, 21, .inl eS)), (mX, .inl (cI, 6300, .inl eX))]) rfl (fun H locs hPn hDn hSn => ?_))
            clear hP hD hS
            have hP := hPn
            have hD := hDn
            have hS := hSn
            clear hPn hDn hSn
            refine lv_iconst (v := (-1)) hx hb dX12_read__104 (by decide) ?_
            exact kl_i (v := (-1)) hQQ hx hb hr hlocks hS dX12_read__105 (fun PZ9 kZ9 => kZ9 0 zl_4 0 eYa zt zd_4 zm_4 zl_4 eE_4 zp zf zs eS eX (⟨hP, hD⟩) (by decide) (g_eYa) (v_rr g_zt (by decide) (by decide)) (hf4_0) (hf4_1) (g_zp) (g_zf) (g_zs) (g_eS) (g_eX) (by show 0 = 0; omega) (by show zs.toInt ≤ zs.toInt + 1 ∧ zs.toInt ≤ zs.toInt; omega) (by first | exact Or.inl (by omega) | exact Or.inr ⟨rfl, rfl, rfl⟩) (OR_n rfl (rr_zt (rr_n hf4_4 (by omega) (fun j hj => (hcp j (by omega)).1)) (by omega))))
        · have tc_3 : k.toInt < zt.toInt := v_nle c_3
          refine lv_aload_n hx hb dX12_read__36 rfl (lv_at hl 2 rfl) ?_
          refine va_get (D := (dC, dI)) (ci := 12) (v := .ref mT) (C := RX12) (T := TX12) (N := 40) hx hb hts in_X12 hown hK hP 0 rfl rfl 0 (Nat.le_of_ble_eq_true rfl) (hts (.fieldLink RX12 9 "TextMenderModel" "tape" "[I") (List.mem_of_getElem? (i := 4) rfl)) (fun _ h9 => h9) rfl dX12_read__37 ?_
          refine lv_iload_n hx hb dX12_read__40 rfl (lv_at hl 0 rfl) ?_
          refine va_iald hx hb hK hP 1 0 rfl rfl (v_in (by omega)) dX12_read__41 ?_
          refine lv_topi (fun x_8 ex_8 => ?_)
          refine lv_if_lt (tgt := 57) hx hb dX12_read__42 (by decide) (fun c_9 => ?_) (fun c_9 => ?_)
          · have tc_9 : x_8.toInt < 0 := v_lt c_9
            refine lv_aload_n hx hb dX12_read__57 rfl (lv_at hl 2 rfl) ?_
            refine lv_iload_n hx hb dX12_read__58 rfl (lv_at hl 0 rfl) ?_
            refine va_put (D := (dC, dI)) (ci := 12) (v := .int k) (ty := .int) (C := RX12) (T := TX12) (N := 40) hx hb hts in_X12 tyX12 tyX12_ok nmX12 hown hK hP hD hS 0 rfl rfl 24 (Nat.le_of_ble_eq_true rfl) (hts (.fieldLink RX12 55 "TextMenderModel" "where" "I") (List.mem_of_getElem? (i := 2) rfl)) (fun _ h9 => h9) rfl (tyX12_ok 24 (Nat.le_of_ble_eq_true rfl)) rfl rfl (Nat.le_of_ble_eq_true rfl) dX12_read__59 (kW (wn := [(oM, .inr (12, [.ref mT, .int 0, .ref mS, .ref mX, .int zp, .int zf, .ref mL, .ref mB, .ref mD, .ref m1, .ref m2, .int zh, .ref mR, .int zr, .ref x1, .ref x2, .ref x3, .int zc, .ref mH, .int zy, .int za, .int zb, .int zs, .int zq, .int k, .int 0, .ref mY, .int zn, .ref mE, .int zm, .int zl, .ref mW, .int zk, .ref mO, .int zd, .ref y1, .ref y2, .ref y3, .ref y4, .ref mZ])), (mT, .inl (cI, 900, .inl eT)), (mY, .inl (cI, 2600, .inl eYa)), (mL, .inl (cI, 512, .inl eL)), (mE, .inl (cI, 2600, .inl eE)), (mS, .inl (cI, 21, .inl eS)), (mX, .inl (cI, 6300, .inl eX))]) rfl (fun H locs hPn hDn hSn => ?_))
            clear hP hD hS
            have hP := hPn
            have hD := hDn
            have hS := hSn
            clear hPn hDn hSn
            refine lv_iconst (v := (-1)) hx hb dX12_read__62 (by decide) ?_
            exact kl_i (v := (-1)) hQQ hx hb hr hlocks hS dX12_read__63 (fun PZ9 kZ9 => kZ9 0 k 0 eYa zn zd zm zl eE zp zf zs eS eX (⟨hP, hD⟩) (by decide) (g_eYa) (g_zn) (g_zm) (g_eE) (g_zp) (g_zf) (g_zs) (g_eS) (g_eX) (by show 0 = 0; omega) (by show zs.toInt ≤ zs.toInt + 1 ∧ zs.toInt ≤ zs.toInt; omega) (by first | exact Or.inl (by omega) | exact Or.inr ⟨rfl, rfl, rfl⟩) (OR_n rfl (fun c fm v h9 => prg_no ex_8 (by omega) (by omega) (by omega) h9.2.1)))
          · have tc_9 : 0 ≤ x_8.toInt := v_nlt c_9
            refine lv_aload_n hx hb dX12_read__45 rfl (lv_at hl 2 rfl) ?_
            refine va_get (D := (dC, dI)) (ci := 12) (v := .ref mT) (C := RX12) (T := TX12) (N := 40) hx hb hts in_X12 hown hK hP 0 rfl rfl 0 (Nat.le_of_ble_eq_true rfl) (hts (.fieldLink RX12 9 "TextMenderModel" "tape" "[I") (List.mem_of_getElem? (i := 4) rfl)) (fun _ h9 => h9) rfl dX12_read__46 ?_
            refine lv_iload_n hx hb dX12_read__49 rfl (lv_at hl 0 rfl) ?_
            refine va_iald hx hb hK hP 1 0 rfl rfl (v_in (by omega)) dX12_read__50 ?_
            refine k_i (y := x_8) ex_8.symm ?_
            refine lv_sipush (v := 255) hx hb dX12_read__51 (by decide) ?_
            refine lv_icmp_le (tgt := 64) hx hb dX12_read__54 (by decide) (fun c_10 => ?_) (fun c_10 => ?_)
            · have tc_10 : x_8.toInt ≤ 255 := v_le c_10
              refine lv_aload_n hx hb dX12_read__64 rfl (lv_at hl 2 rfl) ?_
              refine va_get (D := (dC, dI)) (ci := 12) (v := .ref mY) (C := RX12) (T := TX12) (N := 40) hx hb hts in_X12 hown hK hP 0 rfl rfl 26 (Nat.le_of_ble_eq_true rfl) (hts (.fieldLink RX12 58 "TextMenderModel" "bytes" "[I") (List.mem_of_getElem? (i := 5) rfl)) (fun _ h9 => h9) rfl dX12_read__65 ?_
              refine lv_iload_n hx hb dX12_read__68 rfl (lv_at hl 0 rfl) ?_
              refine lv_aload_n hx hb dX12_read__69 rfl (lv_at hl 2 rfl) ?_
              refine va_get (D := (dC, dI)) (ci := 12) (v := .ref mT) (C := RX12) (T := TX12) (N := 40) hx hb hts in_X12 hown hK hP 0 rfl rfl 0 (Nat.le_of_ble_eq_true rfl) (hts (.fieldLink RX12 9 "TextMenderModel" "tape" "[I") (List.mem_of_getElem? (i := 4) rfl)) (fun _ h9 => h9) rfl dX12_read__70 ?_
              refine lv_iload_n hx hb dX12_read__73 rfl (lv_at hl 0 rfl) ?_
              refine va_iald hx hb hK hP 1 0 rfl rfl (v_in (by omega)) dX12_read__74 ?_
              refine k_i (y := x_8) ex_8.symm ?_
              obtain ⟨f_11, ef_11⟩ : ∃ g : Nat → Int32, g = upd eYa (k : Int32).toNatClampNeg x_8 := ⟨_, rfl⟩
              refine va_iast hx hb hK hP hD hS 2 0 rfl rfl (v_inR g_k (by decide) (by decide)) dX12_read__75 (kWf (g := f_11) (F := fun f_11 => [(oM, .inr (12, [.ref mT, .int 0, .ref mS, .ref mX, .int zp, .int zf, .ref mL, .ref mB, .ref mD, .ref m1, .ref m2, .int zh, .ref mR, .int zr, .ref x1, .ref x2, .ref x3, .int zc, .ref mH, .int zy, .int za, .int zb, .int zs, .int zq, .int (-1), .int 0, .ref mY, .int zn, .ref mE, .int zm, .int zl, .ref mW, .int zk, .ref mO, .int zd, .ref y1, .ref y2, .ref y3, .ref y4, .ref mZ])), (mT, .inl (cI, 900, .inl eT)), (mY, .inl (cI, 2600, .inl f_11)), (mL, .inl (cI, 512, .inl eL)), (mE, .inl (cI, 2600, .inl eE)), (mS, .inl (cI, 21, .inl eS)), (mX, .inl (cI, 6300, .inl eX))]) ef_11 rfl (fun H locs hPn hDn hSn => ?_))
              clear hP hD hS
              have hP := hPn
              have hD := hDn
              have hS := hSn
              clear hPn hDn hSn
              have g_f11 : rg 0 255 f_11 := rg_upd ef_11 g_eYa (by omega)
              obtain ⟨x_12, ex_12⟩ : ∃ y : Int32, y = k + 1 := ⟨_, rfl⟩
              have tx_12 : x_12.toInt = k.toInt + 1 := v_addR (l2 := 1) (h2 := 1) ex_12 g_k (by decide) (by decide) (by decide)
              refine lv_iinc (v := x_12) (lv' := [(3, .int x_12), (2, .int zt), (0, .ref oM), (1, .int cd)]) hx hb dX12_read__76 hl (k := 0) rfl (by rw [ex_12]; rfl) (by decide) rfl (fun ls hl => ?_)
              refine lv_goto (tgt := 31) hx hb dX12_read__79 (by decide) ?_
              exact ih_31 x_12 f_11 _ _ _ (ms_lt hm_31 (by show ((900 - x_12.toInt : Int)) < 900 - k.toInt; omega) (by show (0 : Int) < 900 - k.toInt; omega)) (by show 0 ≤ x_12.toInt ∧ x_12.toInt ≤ 900; omega) (g_f11) (by show x_12.toInt ≤ zt.toInt; omega) (cpT_s hcp ex_8 ef_11 (by omega) (by omega) (by omega)) hP hD hS (lv_sub hl [0, 1, 2, 3] rfl)
            · have tc_10 : 255 < x_8.toInt := v_nle c_10
              refine lv_aload_n hx hb dX12_read__57 rfl (lv_at hl 2 rfl) ?_
              refine lv_iload_n hx hb dX12_read__58 rfl (lv_at hl 0 rfl) ?_
              refine va_put (D := (dC, dI)) (ci := 12) (v := .int k) (ty := .int) (C := RX12) (T := TX12) (N := 40) hx hb hts in_X12 tyX12 tyX12_ok nmX12 hown hK hP hD hS 0 rfl rfl 24 (Nat.le_of_ble_eq_true rfl) (hts (.fieldLink RX12 55 "TextMenderModel" "where" "I") (List.mem_of_getElem? (i := 2) rfl)) (fun _ h9 => h9) rfl (tyX12_ok 24 (Nat.le_of_ble_eq_true rfl)) rfl rfl (Nat.le_of_ble_eq_true rfl) dX12_read__59 (kW (wn := [(oM, .inr (12, [.ref mT, .int 0, .ref mS, .ref mX, .int zp, .int zf, .ref mL, .ref mB, .ref mD, .ref m1, .ref m2, .int zh, .ref mR, .int zr, .ref x1, .ref x2, .ref x3, .int zc, .ref mH, .int zy, .int za, .int zb, .int zs, .int zq, .int k, .int 0, .ref mY, .int zn, .ref mE, .int zm, .int zl, .ref mW, .int zk, .ref mO, .int zd, .ref y1, .ref y2, .ref y3, .ref y4, .ref mZ])), (mT, .inl (cI, 900, .inl eT)), (mY, .inl (cI, 2600, .inl eYa)), (mL, .inl (cI, 512, .inl eL)), (mE, .inl (cI, 2600, .inl eE)), (mS, .inl (cI, 21, .inl eS)), (mX, .inl (cI, 6300, .inl eX))]) rfl (fun H locs hPn hDn hSn => ?_))
              clear hP hD hS
              have hP := hPn
              have hD := hDn
              have hS := hSn
              clear hPn hDn hSn
              refine lv_iconst (v := (-1)) hx hb dX12_read__62 (by decide) ?_
              exact kl_i (v := (-1)) hQQ hx hb hr hlocks hS dX12_read__63 (fun PZ9 kZ9 => kZ9 0 k 0 eYa zn zd zm zl eE zp zf zs eS eX (⟨hP, hD⟩) (by decide) (g_eYa) (g_zn) (g_zm) (g_eE) (g_zp) (g_zf) (g_zs) (g_eS) (g_eX) (by show 0 = 0; omega) (by show zs.toInt ≤ zs.toInt + 1 ∧ zs.toInt ≤ zs.toInt; omega) (by first | exact Or.inl (by omega) | exact Or.inr ⟨rfl, rfl, rfl⟩) (OR_n rfl (fun c fm v h9 => prg_no ex_8 (by omega) (by omega) (by omega) h9.2.1)))
    exact LOOP_31 _ 0 eY _ _ _ (ms_s _) (by decide) (g_eY) (by show 0 ≤ zt.toInt; omega) (fun j hj => absurd hj (by show ¬ (j : Int) < 0; omega)) hP hD hS (lv_sub hl [0, 1, 2, 3] rfl)
  · have tc_2 : r_1.toInt = 0 := v_eq c_2
    refine lv_iconst (v := (-1)) hx hb dX12_read__27 (by decide) ?_
    exact kl_i (v := (-1)) hQQ hx hb hr hlocks hS dX12_read__28 (fun PZ9 kZ9 => kZ9 0 (-1) 0 eY zn zd zm zl eE zp zf zs eS eX (⟨hP, hD⟩) (by decide) (g_eY) (g_zn) (g_zm) (g_eE) (g_zp) (g_zf) (g_zs) (g_eS) (g_eX) (by show 0 = 0; omega) (by show zs.toInt ≤ zs.toInt + 1 ∧ zs.toInt ≤ zs.toInt; omega) (by first | exact Or.inl (by omega) | exact Or.inr ⟨rfl, rfl, rfl⟩) (OR_n rfl (fun c fm v h9 => by have h8 := h9.1; unfold okd at h8; omega)))

end

/-! 5v.a.rows -/
section
set_option maxRecDepth 100000 in
theorem dA381_cX11_writes : kDec cX11_writes [(0, .aload_n 0, 1), (1, .iconst (-1), 1), (2, .putfield 90, 3), (5, .iload_n 1, 1), (6, .invokestatic 117, 3), (9, .ifCond .ne 5, 3), (14, .aload_n 0, 1), (15, .getfield 44, 3), (18, .iload_n 1, 1), (19, .aload_n 0, 1), (20, .getfield 34, 3), (23, .invokevirtual 249, 3), (26, .istore_n 2, 1), (27, .aload_n 0, 1), (28, .aload_n 0, 1), (29, .getfield 44, 3), (32, .invokevirtual 127, 3), (35, .putfield 90, 3), (38, .iload_n 2, 1), (39, .ireturn, 1), (12, .iconst 0, 1), (13, .ireturn, 1)] = true := by decide +kernel
theorem dX11_writes_0 : decode cX11_writes 0 = .ok (.aload_n 0, 1) := kDec_at dA381_cX11_writes 0 rfl
theorem dX11_writes_1 : decode cX11_writes 1 = .ok (.iconst (-1), 1) := kDec_at dA381_cX11_writes 1 rfl
theorem dX11_writes_2 : decode cX11_writes 2 = .ok (.putfield 90, 3) := kDec_at dA381_cX11_writes 2 rfl
theorem dX11_writes_5 : decode cX11_writes 5 = .ok (.iload_n 1, 1) := kDec_at dA381_cX11_writes 3 rfl
theorem dX11_writes_6 : decode cX11_writes 6 = .ok (.invokestatic 117, 3) := kDec_at dA381_cX11_writes 4 rfl
theorem dX11_writes_9 : decode cX11_writes 9 = .ok (.ifCond .ne 5, 3) := kDec_at dA381_cX11_writes 5 rfl
theorem dX11_writes_14 : decode cX11_writes 14 = .ok (.aload_n 0, 1) := kDec_at dA381_cX11_writes 6 rfl
theorem dX11_writes_15 : decode cX11_writes 15 = .ok (.getfield 44, 3) := kDec_at dA381_cX11_writes 7 rfl
theorem dX11_writes_18 : decode cX11_writes 18 = .ok (.iload_n 1, 1) := kDec_at dA381_cX11_writes 8 rfl
theorem dX11_writes_19 : decode cX11_writes 19 = .ok (.aload_n 0, 1) := kDec_at dA381_cX11_writes 9 rfl
theorem dX11_writes_20 : decode cX11_writes 20 = .ok (.getfield 34, 3) := kDec_at dA381_cX11_writes 10 rfl
theorem dX11_writes_23 : decode cX11_writes 23 = .ok (.invokevirtual 249, 3) := kDec_at dA381_cX11_writes 11 rfl
theorem dX11_writes_26 : decode cX11_writes 26 = .ok (.istore_n 2, 1) := kDec_at dA381_cX11_writes 12 rfl
theorem dX11_writes_27 : decode cX11_writes 27 = .ok (.aload_n 0, 1) := kDec_at dA381_cX11_writes 13 rfl
theorem dX11_writes_28 : decode cX11_writes 28 = .ok (.aload_n 0, 1) := kDec_at dA381_cX11_writes 14 rfl
theorem dX11_writes_29 : decode cX11_writes 29 = .ok (.getfield 44, 3) := kDec_at dA381_cX11_writes 15 rfl
theorem dX11_writes_32 : decode cX11_writes 32 = .ok (.invokevirtual 127, 3) := kDec_at dA381_cX11_writes 16 rfl
theorem dX11_writes_35 : decode cX11_writes 35 = .ok (.putfield 90, 3) := kDec_at dA381_cX11_writes 17 rfl
theorem dX11_writes_38 : decode cX11_writes 38 = .ok (.iload_n 2, 1) := kDec_at dA381_cX11_writes 18 rfl
theorem dX11_writes_39 : decode cX11_writes 39 = .ok (.ireturn, 1) := kDec_at dA381_cX11_writes 19 rfl
theorem dX11_writes_12 : decode cX11_writes 12 = .ok (.iconst 0, 1) := kDec_at dA381_cX11_writes 20 rfl
theorem dX11_writes_13 : decode cX11_writes 13 = .ok (.ireturn, 1) := kDec_at dA381_cX11_writes 21 rfl
set_option maxRecDepth 20000 in
theorem ggX11_writes_X2_known : GoodIn wsX11_writes wsX2_known := goodIn_sub (fun _ h => List.mem_cons_of_mem _ (List.mem_append_left _ (List.mem_append_left _ (List.mem_append_right _ (h))))) gX2_known_all
set_option maxRecDepth 20000 in
theorem gX11_writes_X2_known : GoodIn wsX11_writes (va_wsS RX11 117 yX2_known wsX2_known) := goodIn_app (goodIn_r _ [4, 5, 6] rfl (by decide +kernel)) ggX11_writes_X2_known
set_option maxRecDepth 20000 in
theorem ggX11_writes_X7_write : GoodIn wsX11_writes wsX7_write := goodIn_sub (fun _ h => List.mem_cons_of_mem _ (List.mem_append_left _ (List.mem_append_right _ (h)))) gX7_write_all
set_option maxRecDepth 20000 in
theorem gX11_writes_X7_write : GoodIn wsX11_writes (wsV RX11 249 RX7 yX7_write wsX7_write) := goodIn_app (goodIn_r _ [7, 8, 9, 10] rfl (by decide +kernel)) ggX11_writes_X7_write
set_option maxRecDepth 20000 in
theorem ggX11_writes_X7_fault : GoodIn wsX11_writes wsX7_fault := goodIn_sub (fun _ h => List.mem_cons_of_mem _ (List.mem_append_right _ (h))) gX7_fault_all
set_option maxRecDepth 20000 in
theorem gX11_writes_X7_fault : GoodIn wsX11_writes (wsV RX11 127 RX7 yX7_fault wsX7_fault) := goodIn_app (goodIn_r _ [11, 12, 13, 10] rfl (by decide +kernel)) ggX11_writes_X7_fault
set_option maxRecDepth 100000 in
theorem dA382_cX11_size : kDec cX11_size [(0, .aload_n 0, 1), (1, .iload_n 1, 1), (2, .invokevirtual 170, 3), (5, .ifCond .eq 16, 3), (21, .iconst (-1), 1), (22, .ireturn, 1), (8, .aload_n 0, 1), (9, .getfield 44, 3), (12, .invokevirtual 173, 3), (15, .invokevirtual 94, 3), (18, .goto 4, 3)] = true := by decide +kernel
theorem dX11_size_0 : decode cX11_size 0 = .ok (.aload_n 0, 1) := kDec_at dA382_cX11_size 0 rfl
theorem dX11_size_1 : decode cX11_size 1 = .ok (.iload_n 1, 1) := kDec_at dA382_cX11_size 1 rfl
theorem dX11_size_2 : decode cX11_size 2 = .ok (.invokevirtual 170, 3) := kDec_at dA382_cX11_size 2 rfl
theorem dX11_size_5 : decode cX11_size 5 = .ok (.ifCond .eq 16, 3) := kDec_at dA382_cX11_size 3 rfl
theorem dX11_size_21 : decode cX11_size 21 = .ok (.iconst (-1), 1) := kDec_at dA382_cX11_size 4 rfl
theorem dX11_size_22 : decode cX11_size 22 = .ok (.ireturn, 1) := kDec_at dA382_cX11_size 5 rfl
theorem dX11_size_8 : decode cX11_size 8 = .ok (.aload_n 0, 1) := kDec_at dA382_cX11_size 6 rfl
theorem dX11_size_9 : decode cX11_size 9 = .ok (.getfield 44, 3) := kDec_at dA382_cX11_size 7 rfl
theorem dX11_size_12 : decode cX11_size 12 = .ok (.invokevirtual 173, 3) := kDec_at dA382_cX11_size 8 rfl
theorem dX11_size_15 : decode cX11_size 15 = .ok (.invokevirtual 94, 3) := kDec_at dA382_cX11_size 9 rfl
theorem dX11_size_18 : decode cX11_size 18 = .ok (.goto 4, 3) := kDec_at dA382_cX11_size 10 rfl
set_option maxRecDepth 20000 in
theorem gX11_writes_all : wsX11_writes.all goodWord = true := by
  unfold wsX11_writes
  exact good_c (by decide +kernel) (good_a (good_a (good_a (good_a (good_a (good_a (good_a (good_a ((by decide +kernel)) gX11_clsall) gX7_clsall) gX5_clsall) gX2_clsall) gX10_clsall) gX2_known_all) gX7_write_all) gX7_fault_all)
set_option maxRecDepth 20000 in
theorem ggX11_size_X11_writes : GoodIn wsX11_size wsX11_writes := goodIn_sub (fun _ h => List.mem_cons_of_mem _ (List.mem_append_left _ (List.mem_append_left _ (List.mem_append_right _ (h))))) gX11_writes_all
set_option maxRecDepth 20000 in
theorem gX11_size_X11_writes : GoodIn wsX11_size (wsV RX11 170 RX11 yX11_writes wsX11_writes) := goodIn_app (goodIn_r _ [2, 3, 4, 5] rfl (by decide +kernel)) ggX11_size_X11_writes
set_option maxRecDepth 20000 in
theorem gX7_bytes_all : wsX7_bytes.all goodWord = true := by
  unfold wsX7_bytes
  exact good_c (by decide +kernel) (good_a ((by decide +kernel)) gX7_clsall)
set_option maxRecDepth 20000 in
theorem ggX11_size_X7_bytes : GoodIn wsX11_size wsX7_bytes := goodIn_sub (fun _ h => List.mem_cons_of_mem _ (List.mem_append_left _ (List.mem_append_right _ (h)))) gX7_bytes_all
set_option maxRecDepth 20000 in
theorem gX11_size_X7_bytes : GoodIn wsX11_size (wsV RX11 173 RX7 yX7_bytes wsX7_bytes) := goodIn_app (goodIn_r _ [10, 11, 12, 6] rfl (by decide +kernel)) ggX11_size_X7_bytes
set_option maxRecDepth 20000 in
theorem ggX11_size_X5_length : GoodIn wsX11_size wsX5_length := goodIn_sub (fun _ h => List.mem_cons_of_mem _ (List.mem_append_right _ (h))) gX5_length_all
set_option maxRecDepth 20000 in
theorem gX11_size_X5_length : GoodIn wsX11_size (wsV RX11 94 RX5 yX5_length wsX5_length) := goodIn_app (goodIn_r _ [13, 8, 9, 7] rfl (by decide +kernel)) ggX11_size_X5_length
set_option maxRecDepth 100000 in
theorem dA383_cX11_byteOf : kDec cX11_byteOf [(0, .aload_n 0, 1), (1, .iload_n 1, 1), (2, .invokevirtual 170, 3), (5, .ifCond .eq 17, 3), (22, .iconst (-1), 1), (23, .ireturn, 1), (8, .aload_n 0, 1), (9, .getfield 44, 3), (12, .invokevirtual 173, 3), (15, .iload_n 2, 1), (16, .invokevirtual 167, 3), (19, .goto 4, 3)] = true := by decide +kernel
theorem dX11_byteOf_0 : decode cX11_byteOf 0 = .ok (.aload_n 0, 1) := kDec_at dA383_cX11_byteOf 0 rfl
theorem dX11_byteOf_1 : decode cX11_byteOf 1 = .ok (.iload_n 1, 1) := kDec_at dA383_cX11_byteOf 1 rfl
theorem dX11_byteOf_2 : decode cX11_byteOf 2 = .ok (.invokevirtual 170, 3) := kDec_at dA383_cX11_byteOf 2 rfl
theorem dX11_byteOf_5 : decode cX11_byteOf 5 = .ok (.ifCond .eq 17, 3) := kDec_at dA383_cX11_byteOf 3 rfl
theorem dX11_byteOf_22 : decode cX11_byteOf 22 = .ok (.iconst (-1), 1) := kDec_at dA383_cX11_byteOf 4 rfl
theorem dX11_byteOf_23 : decode cX11_byteOf 23 = .ok (.ireturn, 1) := kDec_at dA383_cX11_byteOf 5 rfl
theorem dX11_byteOf_8 : decode cX11_byteOf 8 = .ok (.aload_n 0, 1) := kDec_at dA383_cX11_byteOf 6 rfl
theorem dX11_byteOf_9 : decode cX11_byteOf 9 = .ok (.getfield 44, 3) := kDec_at dA383_cX11_byteOf 7 rfl
theorem dX11_byteOf_12 : decode cX11_byteOf 12 = .ok (.invokevirtual 173, 3) := kDec_at dA383_cX11_byteOf 8 rfl
theorem dX11_byteOf_15 : decode cX11_byteOf 15 = .ok (.iload_n 2, 1) := kDec_at dA383_cX11_byteOf 9 rfl
theorem dX11_byteOf_16 : decode cX11_byteOf 16 = .ok (.invokevirtual 167, 3) := kDec_at dA383_cX11_byteOf 10 rfl
theorem dX11_byteOf_19 : decode cX11_byteOf 19 = .ok (.goto 4, 3) := kDec_at dA383_cX11_byteOf 11 rfl
set_option maxRecDepth 20000 in
theorem ggX11_byteOf_X11_writes : GoodIn wsX11_byteOf wsX11_writes := goodIn_sub (fun _ h => List.mem_cons_of_mem _ (List.mem_append_left _ (List.mem_append_left _ (List.mem_append_right _ (h))))) gX11_writes_all
set_option maxRecDepth 20000 in
theorem gX11_byteOf_X11_writes : GoodIn wsX11_byteOf (wsV RX11 170 RX11 yX11_writes wsX11_writes) := goodIn_app (goodIn_r _ [2, 3, 4, 5] rfl (by decide +kernel)) ggX11_byteOf_X11_writes
set_option maxRecDepth 20000 in
theorem ggX11_byteOf_X7_bytes : GoodIn wsX11_byteOf wsX7_bytes := goodIn_sub (fun _ h => List.mem_cons_of_mem _ (List.mem_append_left _ (List.mem_append_right _ (h)))) gX7_bytes_all
set_option maxRecDepth 20000 in
theorem gX11_byteOf_X7_bytes : GoodIn wsX11_byteOf (wsV RX11 173 RX7 yX7_bytes wsX7_bytes) := goodIn_app (goodIn_r _ [10, 11, 12, 6] rfl (by decide +kernel)) ggX11_byteOf_X7_bytes
set_option maxRecDepth 20000 in
theorem ggX11_byteOf_X5_get : GoodIn wsX11_byteOf wsX5_get := goodIn_sub (fun _ h => List.mem_cons_of_mem _ (List.mem_append_right _ (h))) gX5_get_all
set_option maxRecDepth 20000 in
theorem gX11_byteOf_X5_get : GoodIn wsX11_byteOf (wsV RX11 167 RX5 yX5_get wsX5_get) := goodIn_app (goodIn_r _ [13, 8, 9, 7] rfl (by decide +kernel)) ggX11_byteOf_X5_get
set_option maxRecDepth 100000 in
theorem dA384_cX11_worth : kDec cX11_worth [(0, .aload_n 0, 1), (1, .getfield 52, 3), (4, .aload_n 0, 1), (5, .getfield 34, 3), (8, .invokevirtual 211, 3), (11, .ireturn, 1)] = true := by decide +kernel
theorem dX11_worth_0 : decode cX11_worth 0 = .ok (.aload_n 0, 1) := kDec_at dA384_cX11_worth 0 rfl
theorem dX11_worth_1 : decode cX11_worth 1 = .ok (.getfield 52, 3) := kDec_at dA384_cX11_worth 1 rfl
theorem dX11_worth_4 : decode cX11_worth 4 = .ok (.aload_n 0, 1) := kDec_at dA384_cX11_worth 2 rfl
theorem dX11_worth_5 : decode cX11_worth 5 = .ok (.getfield 34, 3) := kDec_at dA384_cX11_worth 3 rfl
theorem dX11_worth_8 : decode cX11_worth 8 = .ok (.invokevirtual 211, 3) := kDec_at dA384_cX11_worth 4 rfl
theorem dX11_worth_11 : decode cX11_worth 11 = .ok (.ireturn, 1) := kDec_at dA384_cX11_worth 5 rfl
set_option maxRecDepth 20000 in
theorem ggX11_worth_X3_ofText : GoodIn wsX11_worth wsX3_ofText := goodIn_sub (fun _ h => List.mem_cons_of_mem _ (List.mem_append_right _ (h))) gX3_ofText_all
set_option maxRecDepth 20000 in
theorem gX11_worth_X3_ofText : GoodIn wsX11_worth (wsV RX11 211 RX3 yX3_ofText wsX3_ofText) := goodIn_app (goodIn_r _ [3, 4, 5, 6] rfl (by decide +kernel)) ggX11_worth_X3_ofText
set_option maxRecDepth 100000 in
theorem dA385_cX12_size : kDec cX12_size [(0, .aload_n 0, 1), (1, .iconst 0, 1), (2, .putfield 85, 3), (5, .aload_n 0, 1), (6, .iconst (-1), 1), (7, .putfield 55, 3), (10, .iload_n 1, 1), (11, .invokestatic 158, 3), (14, .ifCond .ne 5, 3), (19, .aload_n 0, 1), (20, .iload_n 1, 1), (21, .aload_n 0, 1), (22, .getfield 16, 3), (25, .aload_n 0, 1), (26, .getfield 13, 3), (29, .iconst 0, 1), (30, .iaload, 1), (31, .invokevirtual 127, 3), (34, .ifCond .ne 13, 3), (47, .aload_n 0, 1), (48, .getfield 91, 3), (51, .ireturn, 1), (37, .aload_n 0, 1), (38, .aload_n 0, 1)] = true := by decide +kernel
theorem dX12_size_0 : decode cX12_size 0 = .ok (.aload_n 0, 1) := kDec_at dA385_cX12_size 0 rfl
theorem dX12_size_1 : decode cX12_size 1 = .ok (.iconst 0, 1) := kDec_at dA385_cX12_size 1 rfl
theorem dX12_size_2 : decode cX12_size 2 = .ok (.putfield 85, 3) := kDec_at dA385_cX12_size 2 rfl
theorem dX12_size_5 : decode cX12_size 5 = .ok (.aload_n 0, 1) := kDec_at dA385_cX12_size 3 rfl
theorem dX12_size_6 : decode cX12_size 6 = .ok (.iconst (-1), 1) := kDec_at dA385_cX12_size 4 rfl
theorem dX12_size_7 : decode cX12_size 7 = .ok (.putfield 55, 3) := kDec_at dA385_cX12_size 5 rfl
theorem dX12_size_10 : decode cX12_size 10 = .ok (.iload_n 1, 1) := kDec_at dA385_cX12_size 6 rfl
theorem dX12_size_11 : decode cX12_size 11 = .ok (.invokestatic 158, 3) := kDec_at dA385_cX12_size 7 rfl
theorem dX12_size_14 : decode cX12_size 14 = .ok (.ifCond .ne 5, 3) := kDec_at dA385_cX12_size 8 rfl
theorem dX12_size_19 : decode cX12_size 19 = .ok (.aload_n 0, 1) := kDec_at dA385_cX12_size 9 rfl
theorem dX12_size_20 : decode cX12_size 20 = .ok (.iload_n 1, 1) := kDec_at dA385_cX12_size 10 rfl
theorem dX12_size_21 : decode cX12_size 21 = .ok (.aload_n 0, 1) := kDec_at dA385_cX12_size 11 rfl
theorem dX12_size_22 : decode cX12_size 22 = .ok (.getfield 16, 3) := kDec_at dA385_cX12_size 12 rfl
theorem dX12_size_25 : decode cX12_size 25 = .ok (.aload_n 0, 1) := kDec_at dA385_cX12_size 13 rfl
theorem dX12_size_26 : decode cX12_size 26 = .ok (.getfield 13, 3) := kDec_at dA385_cX12_size 14 rfl
theorem dX12_size_29 : decode cX12_size 29 = .ok (.iconst 0, 1) := kDec_at dA385_cX12_size 15 rfl
theorem dX12_size_30 : decode cX12_size 30 = .ok (.iaload, 1) := kDec_at dA385_cX12_size 16 rfl
theorem dX12_size_31 : decode cX12_size 31 = .ok (.invokevirtual 127, 3) := kDec_at dA385_cX12_size 17 rfl
theorem dX12_size_34 : decode cX12_size 34 = .ok (.ifCond .ne 13, 3) := kDec_at dA385_cX12_size 18 rfl
theorem dX12_size_47 : decode cX12_size 47 = .ok (.aload_n 0, 1) := kDec_at dA385_cX12_size 19 rfl
theorem dX12_size_48 : decode cX12_size 48 = .ok (.getfield 91, 3) := kDec_at dA385_cX12_size 20 rfl
theorem dX12_size_51 : decode cX12_size 51 = .ok (.ireturn, 1) := kDec_at dA385_cX12_size 21 rfl
theorem dX12_size_37 : decode cX12_size 37 = .ok (.aload_n 0, 1) := kDec_at dA385_cX12_size 22 rfl
theorem dX12_size_38 : decode cX12_size 38 = .ok (.aload_n 0, 1) := kDec_at dA385_cX12_size 23 rfl
set_option maxRecDepth 20000 in
theorem ggX12_size_X12_isCode : GoodIn wsX12_size wsX12_isCode := goodIn_sub (fun _ h => List.mem_cons_of_mem _ (List.mem_append_left _ (List.mem_append_right _ (h)))) gX12_isCode_all
set_option maxRecDepth 20000 in
theorem gX12_size_X12_isCode : GoodIn wsX12_size (va_wsS RX12 158 yX12_isCode wsX12_isCode) := goodIn_app (goodIn_r _ [7, 8, 9] rfl (by decide +kernel)) ggX12_size_X12_isCode
set_option maxRecDepth 20000 in
theorem ggX12_size_X12_write : GoodIn wsX12_size wsX12_write := goodIn_sub (fun _ h => List.mem_cons_of_mem _ (List.mem_append_right _ (h))) gX12_write_all
set_option maxRecDepth 20000 in
theorem gX12_size_X12_write : GoodIn wsX12_size (wsV RX12 127 RX12 yX12_write wsX12_write) := goodIn_app (goodIn_r _ [10, 11, 12, 9] rfl (by decide +kernel)) ggX12_size_X12_write
set_option maxRecDepth 100000 in
theorem dA386_cX12_size : kDec cX12_size [(39, .getfield 102, 3), (42, .putfield 55, 3), (45, .iconst (-1), 1), (46, .ireturn, 1), (17, .iconst (-1), 1), (18, .ireturn, 1)] = true := by decide +kernel
theorem dX12_size_39 : decode cX12_size 39 = .ok (.getfield 102, 3) := kDec_at dA386_cX12_size 0 rfl
theorem dX12_size_42 : decode cX12_size 42 = .ok (.putfield 55, 3) := kDec_at dA386_cX12_size 1 rfl
theorem dX12_size_45 : decode cX12_size 45 = .ok (.iconst (-1), 1) := kDec_at dA386_cX12_size 2 rfl
theorem dX12_size_46 : decode cX12_size 46 = .ok (.ireturn, 1) := kDec_at dA386_cX12_size 3 rfl
theorem dX12_size_17 : decode cX12_size 17 = .ok (.iconst (-1), 1) := kDec_at dA386_cX12_size 4 rfl
theorem dX12_size_18 : decode cX12_size 18 = .ok (.ireturn, 1) := kDec_at dA386_cX12_size 5 rfl
set_option maxRecDepth 100000 in
theorem dA387_cX12_byteOf : kDec cX12_byteOf [(0, .aload_n 0, 1), (1, .iconst 0, 1), (2, .putfield 85, 3), (5, .aload_n 0, 1), (6, .iconst (-1), 1), (7, .putfield 55, 3), (10, .iload_n 1, 1), (11, .invokestatic 158, 3), (14, .ifCond .ne 5, 3), (19, .aload_n 0, 1), (20, .iload_n 1, 1), (21, .aload_n 0, 1), (22, .getfield 16, 3), (25, .aload_n 0, 1), (26, .getfield 13, 3), (29, .iconst 0, 1), (30, .iaload, 1), (31, .invokevirtual 127, 3), (34, .ifCond .ne 13, 3), (47, .iload_n 2, 1), (48, .ifCond .lt 20, 3), (68, .iconst (-1), 1), (69, .ireturn, 1), (51, .iload_n 2, 1)] = true := by decide +kernel
theorem dX12_byteOf_0 : decode cX12_byteOf 0 = .ok (.aload_n 0, 1) := kDec_at dA387_cX12_byteOf 0 rfl
theorem dX12_byteOf_1 : decode cX12_byteOf 1 = .ok (.iconst 0, 1) := kDec_at dA387_cX12_byteOf 1 rfl
theorem dX12_byteOf_2 : decode cX12_byteOf 2 = .ok (.putfield 85, 3) := kDec_at dA387_cX12_byteOf 2 rfl
theorem dX12_byteOf_5 : decode cX12_byteOf 5 = .ok (.aload_n 0, 1) := kDec_at dA387_cX12_byteOf 3 rfl
theorem dX12_byteOf_6 : decode cX12_byteOf 6 = .ok (.iconst (-1), 1) := kDec_at dA387_cX12_byteOf 4 rfl
theorem dX12_byteOf_7 : decode cX12_byteOf 7 = .ok (.putfield 55, 3) := kDec_at dA387_cX12_byteOf 5 rfl
theorem dX12_byteOf_10 : decode cX12_byteOf 10 = .ok (.iload_n 1, 1) := kDec_at dA387_cX12_byteOf 6 rfl
theorem dX12_byteOf_11 : decode cX12_byteOf 11 = .ok (.invokestatic 158, 3) := kDec_at dA387_cX12_byteOf 7 rfl
theorem dX12_byteOf_14 : decode cX12_byteOf 14 = .ok (.ifCond .ne 5, 3) := kDec_at dA387_cX12_byteOf 8 rfl
theorem dX12_byteOf_19 : decode cX12_byteOf 19 = .ok (.aload_n 0, 1) := kDec_at dA387_cX12_byteOf 9 rfl
theorem dX12_byteOf_20 : decode cX12_byteOf 20 = .ok (.iload_n 1, 1) := kDec_at dA387_cX12_byteOf 10 rfl
theorem dX12_byteOf_21 : decode cX12_byteOf 21 = .ok (.aload_n 0, 1) := kDec_at dA387_cX12_byteOf 11 rfl
theorem dX12_byteOf_22 : decode cX12_byteOf 22 = .ok (.getfield 16, 3) := kDec_at dA387_cX12_byteOf 12 rfl
theorem dX12_byteOf_25 : decode cX12_byteOf 25 = .ok (.aload_n 0, 1) := kDec_at dA387_cX12_byteOf 13 rfl
theorem dX12_byteOf_26 : decode cX12_byteOf 26 = .ok (.getfield 13, 3) := kDec_at dA387_cX12_byteOf 14 rfl
theorem dX12_byteOf_29 : decode cX12_byteOf 29 = .ok (.iconst 0, 1) := kDec_at dA387_cX12_byteOf 15 rfl
theorem dX12_byteOf_30 : decode cX12_byteOf 30 = .ok (.iaload, 1) := kDec_at dA387_cX12_byteOf 16 rfl
theorem dX12_byteOf_31 : decode cX12_byteOf 31 = .ok (.invokevirtual 127, 3) := kDec_at dA387_cX12_byteOf 17 rfl
theorem dX12_byteOf_34 : decode cX12_byteOf 34 = .ok (.ifCond .ne 13, 3) := kDec_at dA387_cX12_byteOf 18 rfl
theorem dX12_byteOf_47 : decode cX12_byteOf 47 = .ok (.iload_n 2, 1) := kDec_at dA387_cX12_byteOf 19 rfl
theorem dX12_byteOf_48 : decode cX12_byteOf 48 = .ok (.ifCond .lt 20, 3) := kDec_at dA387_cX12_byteOf 20 rfl
theorem dX12_byteOf_68 : decode cX12_byteOf 68 = .ok (.iconst (-1), 1) := kDec_at dA387_cX12_byteOf 21 rfl
theorem dX12_byteOf_69 : decode cX12_byteOf 69 = .ok (.ireturn, 1) := kDec_at dA387_cX12_byteOf 22 rfl
theorem dX12_byteOf_51 : decode cX12_byteOf 51 = .ok (.iload_n 2, 1) := kDec_at dA387_cX12_byteOf 23 rfl
set_option maxRecDepth 20000 in
theorem ggX12_byteOf_X12_isCode : GoodIn wsX12_byteOf wsX12_isCode := goodIn_sub (fun _ h => List.mem_cons_of_mem _ (List.mem_append_left _ (List.mem_append_right _ (h)))) gX12_isCode_all
set_option maxRecDepth 20000 in
theorem gX12_byteOf_X12_isCode : GoodIn wsX12_byteOf (va_wsS RX12 158 yX12_isCode wsX12_isCode) := goodIn_app (goodIn_r _ [8, 9, 10] rfl (by decide +kernel)) ggX12_byteOf_X12_isCode
set_option maxRecDepth 20000 in
theorem ggX12_byteOf_X12_write : GoodIn wsX12_byteOf wsX12_write := goodIn_sub (fun _ h => List.mem_cons_of_mem _ (List.mem_append_right _ (h))) gX12_write_all
set_option maxRecDepth 20000 in
theorem gX12_byteOf_X12_write : GoodIn wsX12_byteOf (wsV RX12 127 RX12 yX12_write wsX12_write) := goodIn_app (goodIn_r _ [11, 12, 13, 10] rfl (by decide +kernel)) ggX12_byteOf_X12_write
set_option maxRecDepth 100000 in
theorem dA388_cX12_byteOf : kDec cX12_byteOf [(52, .aload_n 0, 1), (53, .getfield 91, 3), (56, .if_icmp .ge 12, 3), (59, .aload_n 0, 1), (60, .getfield 58, 3), (63, .iload_n 2, 1), (64, .iaload, 1), (65, .goto 4, 3), (37, .aload_n 0, 1), (38, .aload_n 0, 1), (39, .getfield 102, 3), (42, .putfield 55, 3), (45, .iconst (-1), 1), (46, .ireturn, 1), (17, .iconst (-1), 1), (18, .ireturn, 1)] = true := by decide +kernel
theorem dX12_byteOf_52 : decode cX12_byteOf 52 = .ok (.aload_n 0, 1) := kDec_at dA388_cX12_byteOf 0 rfl
theorem dX12_byteOf_53 : decode cX12_byteOf 53 = .ok (.getfield 91, 3) := kDec_at dA388_cX12_byteOf 1 rfl
theorem dX12_byteOf_56 : decode cX12_byteOf 56 = .ok (.if_icmp .ge 12, 3) := kDec_at dA388_cX12_byteOf 2 rfl
theorem dX12_byteOf_59 : decode cX12_byteOf 59 = .ok (.aload_n 0, 1) := kDec_at dA388_cX12_byteOf 3 rfl
theorem dX12_byteOf_60 : decode cX12_byteOf 60 = .ok (.getfield 58, 3) := kDec_at dA388_cX12_byteOf 4 rfl
theorem dX12_byteOf_63 : decode cX12_byteOf 63 = .ok (.iload_n 2, 1) := kDec_at dA388_cX12_byteOf 5 rfl
theorem dX12_byteOf_64 : decode cX12_byteOf 64 = .ok (.iaload, 1) := kDec_at dA388_cX12_byteOf 6 rfl
theorem dX12_byteOf_65 : decode cX12_byteOf 65 = .ok (.goto 4, 3) := kDec_at dA388_cX12_byteOf 7 rfl
theorem dX12_byteOf_37 : decode cX12_byteOf 37 = .ok (.aload_n 0, 1) := kDec_at dA388_cX12_byteOf 8 rfl
theorem dX12_byteOf_38 : decode cX12_byteOf 38 = .ok (.aload_n 0, 1) := kDec_at dA388_cX12_byteOf 9 rfl
theorem dX12_byteOf_39 : decode cX12_byteOf 39 = .ok (.getfield 102, 3) := kDec_at dA388_cX12_byteOf 10 rfl
theorem dX12_byteOf_42 : decode cX12_byteOf 42 = .ok (.putfield 55, 3) := kDec_at dA388_cX12_byteOf 11 rfl
theorem dX12_byteOf_45 : decode cX12_byteOf 45 = .ok (.iconst (-1), 1) := kDec_at dA388_cX12_byteOf 12 rfl
theorem dX12_byteOf_46 : decode cX12_byteOf 46 = .ok (.ireturn, 1) := kDec_at dA388_cX12_byteOf 13 rfl
theorem dX12_byteOf_17 : decode cX12_byteOf 17 = .ok (.iconst (-1), 1) := kDec_at dA388_cX12_byteOf 14 rfl
theorem dX12_byteOf_18 : decode cX12_byteOf 18 = .ok (.ireturn, 1) := kDec_at dA388_cX12_byteOf 15 rfl
set_option maxRecDepth 100000 in
theorem dA389_cX12_worth : kDec cX12_worth [(0, .aload_n 0, 1), (1, .iconst 0, 1), (2, .putfield 85, 3), (5, .aload_n 0, 1), (6, .aload_n 0, 1), (7, .getfield 16, 3), (10, .iconst 0, 1), (11, .aload_n 0, 1), (12, .getfield 13, 3), (15, .iconst 0, 1), (16, .iaload, 1), (17, .invokevirtual 189, 3), (20, .ireturn, 1)] = true := by decide +kernel
theorem dX12_worth_0 : decode cX12_worth 0 = .ok (.aload_n 0, 1) := kDec_at dA389_cX12_worth 0 rfl
theorem dX12_worth_1 : decode cX12_worth 1 = .ok (.iconst 0, 1) := kDec_at dA389_cX12_worth 1 rfl
theorem dX12_worth_2 : decode cX12_worth 2 = .ok (.putfield 85, 3) := kDec_at dA389_cX12_worth 2 rfl
theorem dX12_worth_5 : decode cX12_worth 5 = .ok (.aload_n 0, 1) := kDec_at dA389_cX12_worth 3 rfl
theorem dX12_worth_6 : decode cX12_worth 6 = .ok (.aload_n 0, 1) := kDec_at dA389_cX12_worth 4 rfl
theorem dX12_worth_7 : decode cX12_worth 7 = .ok (.getfield 16, 3) := kDec_at dA389_cX12_worth 5 rfl
theorem dX12_worth_10 : decode cX12_worth 10 = .ok (.iconst 0, 1) := kDec_at dA389_cX12_worth 6 rfl
theorem dX12_worth_11 : decode cX12_worth 11 = .ok (.aload_n 0, 1) := kDec_at dA389_cX12_worth 7 rfl
theorem dX12_worth_12 : decode cX12_worth 12 = .ok (.getfield 13, 3) := kDec_at dA389_cX12_worth 8 rfl
theorem dX12_worth_15 : decode cX12_worth 15 = .ok (.iconst 0, 1) := kDec_at dA389_cX12_worth 9 rfl
theorem dX12_worth_16 : decode cX12_worth 16 = .ok (.iaload, 1) := kDec_at dA389_cX12_worth 10 rfl
theorem dX12_worth_17 : decode cX12_worth 17 = .ok (.invokevirtual 189, 3) := kDec_at dA389_cX12_worth 11 rfl
theorem dX12_worth_20 : decode cX12_worth 20 = .ok (.ireturn, 1) := kDec_at dA389_cX12_worth 12 rfl
set_option maxRecDepth 20000 in
theorem ggX12_worth_X12_costOf_ : GoodIn wsX12_worth wsX12_costOf_ := goodIn_sub (fun _ h => List.mem_cons_of_mem _ (List.mem_append_right _ (h))) gX12_costOf__all
set_option maxRecDepth 20000 in
theorem gX12_worth_X12_costOf_ : GoodIn wsX12_worth (wsV RX12 189 RX12 yX12_costOf_ wsX12_costOf_) := goodIn_app (goodIn_r _ [4, 5, 6, 7] rfl (by decide +kernel)) ggX12_worth_X12_costOf_

end

/-! 5v.rest -/
section
/-! size, byteOf, worth, count -/
def F_sz (r cd : Int32) (Bf : Int32 → Int32) (n : Nat) (f : Nat → Int32) : Prop := (okd cd ∧ ∃ (m : Int32) (g : Nat → Int32), WR (fun j => enc cd (f j) (Bf (f j))) n m g ∧ r.toInt = m.toInt) ∨ ((∀ (m : Int32) (g : Nat → Int32), ¬ (okd cd ∧ WR (fun j => enc cd (f j) (Bf (f j))) n m g)) ∧ r.toInt = -1)
def F_by (r cd i : Int32) (Bf : Int32 → Int32) (n : Nat) (f : Nat → Int32) : Prop := (okd cd ∧ ∃ (m : Int32) (g : Nat → Int32), WR (fun j => enc cd (f j) (Bf (f j))) n m g ∧ ((0 ≤ i.toInt ∧ i.toInt < m.toInt ∧ r = g i.toNatClampNeg) ∨ (¬ (0 ≤ i.toInt ∧ i.toInt < m.toInt) ∧ r = -1))) ∨ ((∀ (m : Int32) (g : Nat → Int32), ¬ (okd cd ∧ WR (fun j => enc cd (f j) (Bf (f j))) n m g)) ∧ r = -1)
theorem wr_eE {cd : Int32} {Bf Cf : Int32 → Int32} {n : Nat} {f e : Nat → Int32} (hf : prg n 0 65535 f) (he : ∀ j, j < n → f j = e j) (hE : ∀ x : Int32, 0 ≤ x.toInt → x.toInt ≤ 65535 → enc cd x (Bf x) = enc cd x (Cf x)) : ∀ j, j < n → (fun j => enc cd (f j) (Bf (f j))) j = (fun j => enc cd (e j) (Cf (e j))) j := fun j hj => by
  have r := hf j (by omega)
  show enc cd (f j) (Bf (f j)) = enc cd (e j) (Cf (e j))
  rw [← he j hj]; exact hE _ r.1 r.2
theorem sz_eq {r q cd : Int32} {Bf Cf : Int32 → Int32} {n : Nat} {f e : Nat → Int32} (hf : prg n 0 65535 f) (he : ∀ j, j < n → f j = e j) (hE : ∀ x : Int32, 0 ≤ x.toInt → x.toInt ≤ 65535 → enc cd x (Bf x) = enc cd x (Cf x)) (h : F_sz r cd Bf n f) (h' : F_sz q cd Cf n e) : r = q := by
  have ee := wr_eE hf he hE
  rcases h with ⟨a1, m, g, a2, a3⟩ | ⟨a1, a2⟩ <;> rcases h' with ⟨b1, m', g', b2, b3⟩ | ⟨b1, b2⟩
  · have q1 := (WR_eq (WR_congr a2 ee) b2).1
    exact v_inj (by rw [a3, b3, q1])
  · exact absurd ⟨a1, WR_congr a2 ee⟩ (b1 _ _)
  · exact absurd ⟨b1, WR_congr b2 (fun j hj => (ee j hj).symm)⟩ (a1 _ _)
  · exact v_inj (by rw [a2, b2])
theorem by_eq {r q cd i : Int32} {Bf Cf : Int32 → Int32} {n : Nat} {f e : Nat → Int32} (hf : prg n 0 65535 f) (he : ∀ j, j < n → f j = e j) (hE : ∀ x : Int32, 0 ≤ x.toInt → x.toInt ≤ 65535 → enc cd x (Bf x) = enc cd x (Cf x)) (h : F_by r cd i Bf n f) (h' : F_by q cd i Cf n e) : r = q := by
  have ee := wr_eE hf he hE
  rcases h with ⟨a1, m, g, a2, a3⟩ | ⟨a1, a2⟩ <;> rcases h' with ⟨b1, m', g', b2, b3⟩ | ⟨b1, b2⟩
  · obtain ⟨q1, q2⟩ := WR_eq (WR_congr a2 ee) b2
    subst q1
    rcases a3 with ⟨a3, a4, a5⟩ | ⟨a3, a4⟩ <;> rcases b3 with ⟨b3, b4, b5⟩ | ⟨b3, b4⟩
    · have c := v_clamp a3
      rw [a5, b5]; exact q2 _ (by omega)
    · exact absurd ⟨a3, a4⟩ b3
    · exact absurd ⟨b3, b4⟩ a3
    · rw [a4, b4]
  · exact absurd ⟨a1, WR_congr a2 ee⟩ (b1 _ _)
  · exact absurd ⟨b1, WR_congr b2 (fun j hj => (ee j hj).symm)⟩ (a1 _ _)
  · rw [a2, b2]
theorem wr_nn {cd r ft l : Int32} {g f : Nat → Int32} {Bf : Int32 → Int32} {n : Int} (h : F_wr r ft l g (fun j => enc cd (f j) (Bf (f j))) n) (hr : r.toInt = 0) : ∀ (m : Int32) (g : Nat → Int32), ¬ (okd cd ∧ WR (fun j => enc cd (f j) (Bf (f j))) n.toNat m g) := by
  rintro m g' ⟨_, w⟩
  rcases h with ⟨r1, _⟩ | ⟨r1, i, h1, _, h3, _⟩
  · rw [r1] at hr; exact absurd hr (by decide)
  · exact (w.2 i (by omega)).1 h3
def F_cnt (r wh a0 a1 a2 a3 a4 a5 a6 a7 : Int) : Prop := (wh = 0 ∧ r = a0) ∨ (wh = 1 ∧ r = a1) ∨ (wh = 2 ∧ r = a2) ∨ (wh = 3 ∧ r = a3) ∨ (wh = 4 ∧ r = a4) ∨ (wh = 5 ∧ r = a5) ∨ (wh = 6 ∧ r = a6) ∨ (wh = 7 ∧ r = a7) ∨ ((wh < 0 ∨ 7 < wh) ∧ r = -1)
theorem cnt_eq {r q : Int32} {wh a0 a1 a2 a3 a4 a5 a6 a7 : Int} (h : F_cnt r.toInt wh a0 a1 a2 a3 a4 a5 a6 a7) (h' : F_cnt q.toInt wh a0 a1 a2 a3 a4 a5 a6 a7) : r = q := v_inj (by unfold F_cnt at h h'; omega)

set_option maxHeartbeats 40000000 in
set_option maxRecDepth 100000 in
theorem f_X11_writes (l : Launch) (dC : Nat → ClassId) (dI : Nat → Nat → Nat) (cI cS : ClassId) (sz : Nat) (oX : Nat) (nT : Nat) (nL : Nat) (nM : Nat) (oC : Nat) (oP : Nat) (oH : Nat) (oK : Nat) (oG : Nat) (oR : Nat) (oQ : Nat) (oW : Nat) (aL : Nat) (nB : Nat) (aB : Nat) (o4 : Nat) (o5 : Nat) (a41 : Nat) (a42 : Nat) (a43 : Nat) (a51 : Nat) (a52 : Nat) (a53 : Nat) (fa : Int32) (lL : Int32) (fL : Nat → Int32) (ft : Int32) (lB : Int32) (fB : Nat → Int32) (l4 : Int32) (f42 : Nat → Int32) (f43 : Nat → Int32) (l5 : Int32) (f52 : Nat → Int32) (f53 : Nat → Int32) (cd : Int32) (g_lL : 0 ≤ lL.toInt ∧ lL.toInt ≤ 300) (g_lB : 0 ≤ lB.toInt ∧ lB.toInt ≤ 2400) (hlt : prg lL.toInt 0 65535 fL) (hT4 : HT 512 511 hsT f42 f43) (ho4 : (occ f43 512 : Int) ≤ 511) (hT5 : HT 512 511 hsT f52 f53) (ho5 : (occ f53 512 : Int) ≤ 511) : kMi l yX11_writes wsX11_writes ({ frames := 4, cells := 0, slots := 0, locals := 94 } : Room) [.ref oX, .int cd] sz (dC, dI) vwCl [(cI, .int), (cS, .short)] [(oX, .inr (11, [.ref nT, .ref nL, .ref nM, .ref oC, .ref oP, .ref oH, .ref oK, .ref oG, .ref oR, .ref oQ, .ref oW, .int fa])), (nL, .inr (5, [.ref aL, .int lL])), (aL, .inl (cI, 300, .inl fL)), (oP, .inr (7, [.ref oC, .ref nB, .int ft])), (nB, .inr (5, [.ref aB, .int lB])), (aB, .inl (cI, 2400, .inl fB)), (oC, .inr (2, [.ref o4, .ref o5])), (o4, .inr (10, [.ref a41, .ref a42, .ref a43, .int l4])), (a42, .inl (cI, 512, .inl f42)), (a43, .inl (cI, 512, .inl f43)), (o5, .inr (10, [.ref a51, .ref a52, .ref a53, .int l5])), (a52, .inl (cI, 512, .inl f52)), (a53, .inl (cI, 512, .inl f53))] (fun _ => True) 0 0 (fun (A : Nat → Prop) (r : Int32) (hh9 : Heap) => ∀ PZ9 : Prop, (∀ (fa' : Int32) (ft' : Int32) (lB' : Int32) (fB' : Nat → Int32), kPD (dC, dI) vwCl A [(oX, .inr (11, [.ref nT, .ref nL, .ref nM, .ref oC, .ref oP, .ref oH, .ref oK, .ref oG, .ref oR, .ref oQ, .ref oW, .int fa'])), (nL, .inr (5, [.ref aL, .int lL])), (aL, .inl (cI, 300, .inl fL)), (oP, .inr (7, [.ref oC, .ref nB, .int ft'])), (nB, .inr (5, [.ref aB, .int lB'])), (aB, .inl (cI, 2400, .inl fB')), (oC, .inr (2, [.ref o4, .ref o5])), (o4, .inr (10, [.ref a41, .ref a42, .ref a43, .int l4])), (a42, .inl (cI, 512, .inl f42)), (a43, .inl (cI, 512, .inl f43)), (o5, .inr (10, [.ref a51, .ref a52, .ref a53, .int l5])), (a52, .inl (cI, 512, .inl f52)), (a53, .inl (cI, 512, .inl f53))] hh9 → (0 ≤ lB'.toInt ∧ lB'.toInt ≤ 2400) → (0 ≤ r.toInt ∧ r.toInt ≤ 1) → ((okd cd ∧ F_wr r ft' lB' fB' (fun j => enc cd (fL j) (Bc cd f42 f43 f52 f53 (fL j))) lL.toInt) ∨ (r.toInt = 0 ∧ ¬ okd cd)) → PZ9) → PZ9) := by
  refine kMi_of (cc := cX11_writes) (maxL := 3) (ret := (some .boolean)) (lv := [(0, .ref oX), (1, .int cd)]) (by decide +kernel) rfl rfl (Nat.le_of_ble_eq_true rfl) ?_
  intro p e s m below meth c A QQ ls hx hb hr hts hml hown hlocks hA hQQ hK hX hP hD hS hl
  have hown : s.vm.findClass RX11 = some m.cls := hown
  have hcf := k_cf hx hb hml hown hts
  have in_X11 : ∀ w ∈ wsX110, w ∈ wsX11_writes := fun _ h => List.mem_cons_of_mem _ (List.mem_append_left _ (List.mem_append_left _ (List.mem_append_left _ (List.mem_append_left _ (List.mem_append_left _ (List.mem_append_left _ (List.mem_append_left _ (List.mem_append_right _ (h)))))))))
  refine lv_aload_n hx hb dX11_writes_0 rfl (lv_at hl 0 rfl) ?_
  refine lv_iconst (v := (-1)) hx hb dX11_writes_1 (by decide) ?_
  refine va_put (D := (dC, dI)) (ci := 11) (v := .int (-1)) (ty := .int) (C := RX11) (T := TX11) (N := 12) hx hb hts in_X11 tyX11 tyX11_ok nmX11 hown hK hP hD hS 0 rfl rfl 11 (Nat.le_of_ble_eq_true rfl) (hts (.fieldLink RX11 90 "TextMender" "fault" "I") (List.mem_of_getElem? (i := 1) rfl)) (fun _ h9 => h9) rfl (tyX11_ok 11 (Nat.le_of_ble_eq_true rfl)) rfl rfl (Nat.le_of_ble_eq_true rfl) dX11_writes_2 (kW (wn := [(oX, .inr (11, [.ref nT, .ref nL, .ref nM, .ref oC, .ref oP, .ref oH, .ref oK, .ref oG, .ref oR, .ref oQ, .ref oW, .int (-1)])), (nL, .inr (5, [.ref aL, .int lL])), (aL, .inl (cI, 300, .inl fL)), (oP, .inr (7, [.ref oC, .ref nB, .int ft])), (nB, .inr (5, [.ref aB, .int lB])), (aB, .inl (cI, 2400, .inl fB)), (oC, .inr (2, [.ref o4, .ref o5])), (o4, .inr (10, [.ref a41, .ref a42, .ref a43, .int l4])), (a42, .inl (cI, 512, .inl f42)), (a43, .inl (cI, 512, .inl f43)), (o5, .inr (10, [.ref a51, .ref a52, .ref a53, .int l5])), (a52, .inl (cI, 512, .inl f52)), (a53, .inl (cI, 512, .inl f53))]) rfl (fun H locs hPn hDn hSn => ?_))
  clear hP hD hS
  have hP := hPn
  have hD := hDn
  have hS := hSn
  clear hPn hDn hSn
  refine lv_iload_n hx hb dX11_writes_5 rfl (lv_at hl 1 rfl) ?_
  refine kS_i (rest := []) hcf (m_X2_known l dC dI cI cS H.size cd ) kc_X2_known gX11_writes_X2_known rfl rfl ⟨Nat.le_of_ble_eq_true rfl, Nat.le_of_ble_eq_true rfl⟩ kX_t hK hP hD hS hA (posT mk_122 0) (posF mk_122 0) (kC_of mk_122 rfl rfl) (by decide +kernel) rfl hl rfl (Nat.le_of_ble_eq_true rfl) dX11_writes_6 ⟨Nat.le_of_ble_eq_true rfl, Nat.le_of_ble_eq_true rfl⟩ (fun r_1 H locs hB hJ hSn => ?_)
  refine hB _ (fun hPD9 hf1_0 hf1_1 => ?_)
  clear hB
  obtain ⟨hPn, hDn⟩ := kJi (m := mk_122) hJ rfl hPD9.1 hPD9.2 (wn := [(oX, .inr (11, [.ref nT, .ref nL, .ref nM, .ref oC, .ref oP, .ref oH, .ref oK, .ref oG, .ref oR, .ref oQ, .ref oW, .int (-1)])), (nL, .inr (5, [.ref aL, .int lL])), (aL, .inl (cI, 300, .inl fL)), (oP, .inr (7, [.ref oC, .ref nB, .int ft])), (nB, .inr (5, [.ref aB, .int lB])), (aB, .inl (cI, 2400, .inl fB)), (oC, .inr (2, [.ref o4, .ref o5])), (o4, .inr (10, [.ref a41, .ref a42, .ref a43, .int l4])), (a42, .inl (cI, 512, .inl f42)), (a43, .inl (cI, 512, .inl f43)), (o5, .inr (10, [.ref a51, .ref a52, .ref a53, .int l5])), (a52, .inl (cI, 512, .inl f52)), (a53, .inl (cI, 512, .inl f53))]) rfl
  clear hP hD hS hJ hPD9
  have hP := hPn
  have hD := hDn
  have hS := hSn
  clear hPn hDn hSn
  refine lv_if_ne (tgt := 14) hx hb dX11_writes_9 (by decide) (fun c_2 => ?_) (fun c_2 => ?_)
  · have tc_2 : ¬ r_1.toInt = 0 := v_ne c_2
    refine lv_aload_n hx hb dX11_writes_14 rfl (lv_at hl 0 rfl) ?_
    refine va_get (D := (dC, dI)) (ci := 11) (v := .ref oP) (C := RX11) (T := TX11) (N := 12) hx hb hts in_X11 hown hK hP 0 rfl rfl 4 (Nat.le_of_ble_eq_true rfl) (hts (.fieldLink RX11 44 "TextMender" "passage" "LTextMender$Passage;") (List.mem_of_getElem? (i := 2) rfl)) (fun _ h9 => h9) rfl dX11_writes_15 ?_
    refine lv_iload_n hx hb dX11_writes_18 rfl (lv_at hl 1 rfl) ?_
    refine lv_aload_n hx hb dX11_writes_19 rfl (lv_at hl 0 rfl) ?_
    refine va_get (D := (dC, dI)) (ci := 11) (v := .ref nL) (C := RX11) (T := TX11) (N := 12) hx hb hts in_X11 hown hK hP 0 rfl rfl 1 (Nat.le_of_ble_eq_true rfl) (hts (.fieldLink RX11 34 "TextMender" "letters" "LTextMender$Numbers;") (List.mem_of_getElem? (i := 3) rfl)) (fun _ h9 => h9) rfl dX11_writes_20 ?_
    refine kV_i (rest := []) (q0 := 0) (ci := 7) hcf (f_X7_write l dC dI cI cS H.size oP nL oC nB aB o4 o5 a41 a42 a43 a51 a52 a53 aL ft lB fB l4 f42 f43 l5 f52 f53 lL fL cd (g_lB) (g_lL) (hlt) (hT4) (ho4) (hT5) (ho5)) kc_X7_write gX11_writes_X7_write rfl rfl rfl ⟨Nat.le_of_ble_eq_true rfl, Nat.le_of_ble_eq_true rfl⟩ kX_t hK hP hD hS hA ([2, 3, 4, 5, 6, 7, 8, 9, 10, 11, 0, 1].filterMap (fun j => (posT mk_123 0)[j]?)) (posF mk_123 0) (kCp (ws := [(nL, .inr (5, [.ref aL, .int lL])), (aL, .inl (cI, 300, .inl fL)), (oP, .inr (7, [.ref oC, .ref nB, .int ft])), (nB, .inr (5, [.ref aB, .int lB])), (aB, .inl (cI, 2400, .inl fB)), (oC, .inr (2, [.ref o4, .ref o5])), (o4, .inr (10, [.ref a41, .ref a42, .ref a43, .int l4])), (a42, .inl (cI, 512, .inl f42)), (a43, .inl (cI, 512, .inl f43)), (o5, .inr (10, [.ref a51, .ref a52, .ref a53, .int l5])), (a52, .inl (cI, 512, .inl f52)), (a53, .inl (cI, 512, .inl f53))]) (kC_of mk_123 rfl rfl) rfl) (by decide +kernel) rfl rfl rfl hl rfl (Nat.le_of_ble_eq_true rfl) dX11_writes_23 ⟨Nat.le_of_ble_eq_true rfl, Nat.le_of_ble_eq_true rfl⟩ (fun r_3 H locs hB hJ hSn => ?_)
    refine hB _ (fun ft_3 lB_3 fB_3 hPD9 hf3_0 hf3_1 hf3_2 => ?_)
    clear hB
    obtain ⟨hPn, hDn⟩ := kJm (m := mk_123) hJ rfl hPD9.1 hPD9.2 [10, 11, 0, 1, 2, 3, 4, 5, 6, 7, 8, 9] (by decide +kernel) (ws := [(nL, .inr (5, [.ref aL, .int lL])), (aL, .inl (cI, 300, .inl fL)), (oP, .inr (7, [.ref oC, .ref nB, .int ft_3])), (nB, .inr (5, [.ref aB, .int lB_3])), (aB, .inl (cI, 2400, .inl fB_3)), (oC, .inr (2, [.ref o4, .ref o5])), (o4, .inr (10, [.ref a41, .ref a42, .ref a43, .int l4])), (a42, .inl (cI, 512, .inl f42)), (a43, .inl (cI, 512, .inl f43)), (o5, .inr (10, [.ref a51, .ref a52, .ref a53, .int l5])), (a52, .inl (cI, 512, .inl f52)), (a53, .inl (cI, 512, .inl f53))]) rfl (wn := [(oX, .inr (11, [.ref nT, .ref nL, .ref nM, .ref oC, .ref oP, .ref oH, .ref oK, .ref oG, .ref oR, .ref oQ, .ref oW, .int (-1)])), (nL, .inr (5, [.ref aL, .int lL])), (aL, .inl (cI, 300, .inl fL)), (oP, .inr (7, [.ref oC, .ref nB, .int ft_3])), (nB, .inr (5, [.ref aB, .int lB_3])), (aB, .inl (cI, 2400, .inl fB_3)), (oC, .inr (2, [.ref o4, .ref o5])), (o4, .inr (10, [.ref a41, .ref a42, .ref a43, .int l4])), (a42, .inl (cI, 512, .inl f42)), (a43, .inl (cI, 512, .inl f43)), (o5, .inr (10, [.ref a51, .ref a52, .ref a53, .int l5])), (a52, .inl (cI, 512, .inl f52)), (a53, .inl (cI, 512, .inl f53))]) rfl
    clear hP hD hS hJ hPD9
    have hP := hPn
    have hD := hDn
    have hS := hSn
    clear hPn hDn hSn
    refine lv_istore_n (lv' := [(2, .int r_3), (0, .ref oX), (1, .int cd)]) hx hb dX11_writes_26 rfl hl (by decide) rfl (fun ls hl => ?_)
    refine lv_aload_n hx hb dX11_writes_27 rfl (lv_at hl 1 rfl) ?_
    refine lv_aload_n hx hb dX11_writes_28 rfl (lv_at hl 1 rfl) ?_
    refine va_get (D := (dC, dI)) (ci := 11) (v := .ref oP) (C := RX11) (T := TX11) (N := 12) hx hb hts in_X11 hown hK hP 0 rfl rfl 4 (Nat.le_of_ble_eq_true rfl) (hts (.fieldLink RX11 44 "TextMender" "passage" "LTextMender$Passage;") (List.mem_of_getElem? (i := 2) rfl)) (fun _ h9 => h9) rfl dX11_writes_29 ?_
    refine kV_i (rest := [.ref oX]) (q0 := 0) (ci := 7) hcf (m_X7_fault l dC dI cI cS H.size oP oC nB ft_3 ) kc_X7_fault gX11_writes_X7_fault rfl rfl rfl ⟨Nat.le_of_ble_eq_true rfl, Nat.le_of_ble_eq_true rfl⟩ kX_t hK hP hD hS hA (posT mk_124 0) (posF mk_124 0) (kC_of mk_124 rfl rfl) (by decide +kernel) rfl rfl rfl hl rfl (Nat.le_of_ble_eq_true rfl) dX11_writes_32 ⟨Nat.le_of_ble_eq_true rfl, Nat.le_of_ble_eq_true rfl⟩ (fun r_4 H locs hB hJ hSn => ?_)
    refine hB _ (fun hPD9 hf4_0 => ?_)
    clear hB
    obtain ⟨hPn, hDn⟩ := kJi (m := mk_124) hJ rfl hPD9.1 hPD9.2 (wn := [(oX, .inr (11, [.ref nT, .ref nL, .ref nM, .ref oC, .ref oP, .ref oH, .ref oK, .ref oG, .ref oR, .ref oQ, .ref oW, .int (-1)])), (nL, .inr (5, [.ref aL, .int lL])), (aL, .inl (cI, 300, .inl fL)), (oP, .inr (7, [.ref oC, .ref nB, .int ft_3])), (nB, .inr (5, [.ref aB, .int lB_3])), (aB, .inl (cI, 2400, .inl fB_3)), (oC, .inr (2, [.ref o4, .ref o5])), (o4, .inr (10, [.ref a41, .ref a42, .ref a43, .int l4])), (a42, .inl (cI, 512, .inl f42)), (a43, .inl (cI, 512, .inl f43)), (o5, .inr (10, [.ref a51, .ref a52, .ref a53, .int l5])), (a52, .inl (cI, 512, .inl f52)), (a53, .inl (cI, 512, .inl f53))]) rfl
    clear hP hD hS hJ hPD9
    have hP := hPn
    have hD := hDn
    have hS := hSn
    clear hPn hDn hSn
    rw [hf4_0]
    refine va_put (D := (dC, dI)) (ci := 11) (v := .int ft_3) (ty := .int) (C := RX11) (T := TX11) (N := 12) hx hb hts in_X11 tyX11 tyX11_ok nmX11 hown hK hP hD hS 0 rfl rfl 11 (Nat.le_of_ble_eq_true rfl) (hts (.fieldLink RX11 90 "TextMender" "fault" "I") (List.mem_of_getElem? (i := 1) rfl)) (fun _ h9 => h9) rfl (tyX11_ok 11 (Nat.le_of_ble_eq_true rfl)) rfl rfl (Nat.le_of_ble_eq_true rfl) dX11_writes_35 (kW (wn := [(oX, .inr (11, [.ref nT, .ref nL, .ref nM, .ref oC, .ref oP, .ref oH, .ref oK, .ref oG, .ref oR, .ref oQ, .ref oW, .int ft_3])), (nL, .inr (5, [.ref aL, .int lL])), (aL, .inl (cI, 300, .inl fL)), (oP, .inr (7, [.ref oC, .ref nB, .int ft_3])), (nB, .inr (5, [.ref aB, .int lB_3])), (aB, .inl (cI, 2400, .inl fB_3)), (oC, .inr (2, [.ref o4, .ref o5])), (o4, .inr (10, [.ref a41, .ref a42, .ref a43, .int l4])), (a42, .inl (cI, 512, .inl f42)), (a43, .inl (cI, 512, .inl f43)), (o5, .inr (10, [.ref a51, .ref a52, .ref a53, .int l5])), (a52, .inl (cI, 512, .inl f52)), (a53, .inl (cI, 512, .inl f53))]) rfl (fun H locs hPn hDn hSn => ?_))
    clear hP hD hS
    have hP := hPn
    have hD := hDn
    have hS := hSn
    clear hPn hDn hSn
    refine lv_iload_n hx hb dX11_writes_38 rfl (lv_at hl 0 rfl) ?_
    exact kl_z (v := r_3) hQQ hx hb hr hlocks hS dX11_writes_39 (v_bool (by omega)) (fun PZ9 kZ9 => kZ9 ft_3 ft_3 lB_3 fB_3 (⟨hP, hD⟩) (hf3_0) (hf3_1) (Or.inl ⟨by unfold okd; omega, hf3_2⟩))
  · have tc_2 : r_1.toInt = 0 := v_eq c_2
    refine lv_iconst (v := 0) hx hb dX11_writes_12 (by decide) ?_
    exact kl_z (v := 0) hQQ hx hb hr hlocks hS dX11_writes_13 (rfl) (fun PZ9 kZ9 => kZ9 (-1) ft lB fB (⟨hP, hD⟩) (g_lB) (by decide) (Or.inr ⟨rfl, by unfold okd; omega⟩))

theorem wz_y {cd r ft l : Int32} {g f : Nat → Int32} {Bf : Int32 → Int32} {n : Int} (h : (okd cd ∧ F_wr r ft l g (fun j => enc cd (f j) (Bf (f j))) n) ∨ (r.toInt = 0 ∧ ¬ okd cd)) (hr : ¬ r.toInt = 0) : okd cd ∧ WR (fun j => enc cd (f j) (Bf (f j))) n.toNat l g := by
  rcases h with ⟨h1, h2⟩ | ⟨h1, _⟩
  · exact ⟨h1, wr_WR h2 hr⟩
  · exact absurd h1 hr
theorem wz_n {cd r ft l : Int32} {g f : Nat → Int32} {Bf : Int32 → Int32} {n : Int} (h : (okd cd ∧ F_wr r ft l g (fun j => enc cd (f j) (Bf (f j))) n) ∨ (r.toInt = 0 ∧ ¬ okd cd)) (hr : r.toInt = 0) : ∀ (m : Int32) (g : Nat → Int32), ¬ (okd cd ∧ WR (fun j => enc cd (f j) (Bf (f j))) n.toNat m g) := by
  rcases h with ⟨h1, h2⟩ | ⟨_, h1⟩
  · exact wr_nn h2 hr
  · exact fun m g w => h1 w.1
theorem by_y {r cd i l : Int32} {Bf : Int32 → Int32} {n : Nat} {f g : Nat → Int32} (h : okd cd ∧ WR (fun j => enc cd (f j) (Bf (f j))) n l g) (hg : F_get l i r g) : F_by r cd i Bf n f := by
  refine Or.inl ⟨h.1, l, g, h.2, ?_⟩
  rcases hg with ⟨g1, g2, g3⟩ | ⟨g1, g2⟩
  · exact Or.inl ⟨g1, g2, g3⟩
  · exact Or.inr ⟨by omega, g2⟩

set_option maxHeartbeats 40000000 in
set_option maxRecDepth 100000 in
theorem f_X11_size (l : Launch) (dC : Nat → ClassId) (dI : Nat → Nat → Nat) (cI cS : ClassId) (sz : Nat) (oX : Nat) (nT : Nat) (nL : Nat) (nM : Nat) (oC : Nat) (oP : Nat) (oH : Nat) (oK : Nat) (oG : Nat) (oR : Nat) (oQ : Nat) (oW : Nat) (aL : Nat) (nB : Nat) (aB : Nat) (o4 : Nat) (o5 : Nat) (a41 : Nat) (a42 : Nat) (a43 : Nat) (a51 : Nat) (a52 : Nat) (a53 : Nat) (fa : Int32) (lL : Int32) (fL : Nat → Int32) (ft : Int32) (lB : Int32) (fB : Nat → Int32) (l4 : Int32) (f42 : Nat → Int32) (f43 : Nat → Int32) (l5 : Int32) (f52 : Nat → Int32) (f53 : Nat → Int32) (cd : Int32) (g_lL : 0 ≤ lL.toInt ∧ lL.toInt ≤ 300) (g_lB : 0 ≤ lB.toInt ∧ lB.toInt ≤ 2400) (hlt : prg lL.toInt 0 65535 fL) (hT4 : HT 512 511 hsT f42 f43) (ho4 : (occ f43 512 : Int) ≤ 511) (hT5 : HT 512 511 hsT f52 f53) (ho5 : (occ f53 512 : Int) ≤ 511) : kMi l yX11_size wsX11_size ({ frames := 5, cells := 0, slots := 0, locals := 116 } : Room) [.ref oX, .int cd] sz (dC, dI) vwCl [(cI, .int), (cS, .short)] [(oX, .inr (11, [.ref nT, .ref nL, .ref nM, .ref oC, .ref oP, .ref oH, .ref oK, .ref oG, .ref oR, .ref oQ, .ref oW, .int fa])), (nL, .inr (5, [.ref aL, .int lL])), (aL, .inl (cI, 300, .inl fL)), (oP, .inr (7, [.ref oC, .ref nB, .int ft])), (nB, .inr (5, [.ref aB, .int lB])), (aB, .inl (cI, 2400, .inl fB)), (oC, .inr (2, [.ref o4, .ref o5])), (o4, .inr (10, [.ref a41, .ref a42, .ref a43, .int l4])), (a42, .inl (cI, 512, .inl f42)), (a43, .inl (cI, 512, .inl f43)), (o5, .inr (10, [.ref a51, .ref a52, .ref a53, .int l5])), (a52, .inl (cI, 512, .inl f52)), (a53, .inl (cI, 512, .inl f53))] (fun _ => True) 0 0 (fun (A : Nat → Prop) (r : Int32) (hh9 : Heap) => ∀ PZ9 : Prop, (∀ (fa' : Int32) (ft' : Int32) (lB' : Int32) (fB' : Nat → Int32), kPD (dC, dI) vwCl A [(oX, .inr (11, [.ref nT, .ref nL, .ref nM, .ref oC, .ref oP, .ref oH, .ref oK, .ref oG, .ref oR, .ref oQ, .ref oW, .int fa'])), (nL, .inr (5, [.ref aL, .int lL])), (aL, .inl (cI, 300, .inl fL)), (oP, .inr (7, [.ref oC, .ref nB, .int ft'])), (nB, .inr (5, [.ref aB, .int lB'])), (aB, .inl (cI, 2400, .inl fB')), (oC, .inr (2, [.ref o4, .ref o5])), (o4, .inr (10, [.ref a41, .ref a42, .ref a43, .int l4])), (a42, .inl (cI, 512, .inl f42)), (a43, .inl (cI, 512, .inl f43)), (o5, .inr (10, [.ref a51, .ref a52, .ref a53, .int l5])), (a52, .inl (cI, 512, .inl f52)), (a53, .inl (cI, 512, .inl f53))] hh9 → (0 ≤ lB'.toInt ∧ lB'.toInt ≤ 2400) → (F_sz r cd (Bc cd f42 f43 f52 f53) lL.toInt.toNat fL) → PZ9) → PZ9) := by
  refine kMi_of (cc := cX11_size) (maxL := 2) (ret := (some .int)) (lv := [(0, .ref oX), (1, .int cd)]) (by decide +kernel) rfl rfl (Nat.le_of_ble_eq_true rfl) ?_
  intro p e s m below meth c A QQ ls hx hb hr hts hml hown hlocks hA hQQ hK hX hP hD hS hl
  have hown : s.vm.findClass RX11 = some m.cls := hown
  have hcf := k_cf hx hb hml hown hts
  have in_X11 : ∀ w ∈ wsX110, w ∈ wsX11_size := fun _ h => List.mem_cons_of_mem _ (List.mem_append_left _ (List.mem_append_left _ (List.mem_append_left _ (List.mem_append_left _ (List.mem_append_left _ (List.mem_append_left _ (List.mem_append_left _ (List.mem_append_right _ (h)))))))))
  replace g_lB := hid g_lB
  refine lv_aload_n hx hb dX11_size_0 rfl (lv_at hl 0 rfl) ?_
  refine lv_iload_n hx hb dX11_size_1 rfl (lv_at hl 1 rfl) ?_
  refine kV_i (rest := []) (q0 := 0) (ci := 11) hcf (f_X11_writes l dC dI cI cS s.heap.size oX nT nL nM oC oP oH oK oG oR oQ oW aL nB aB o4 o5 a41 a42 a43 a51 a52 a53 fa lL fL ft lB fB l4 f42 f43 l5 f52 f53 cd (g_lL) (g_lB) (hlt) (hT4) (ho4) (hT5) (ho5)) kc_X11_writes gX11_size_X11_writes rfl rfl rfl ⟨Nat.le_of_ble_eq_true rfl, Nat.le_of_ble_eq_true rfl⟩ kX_t hK hP hD hS hA (posT mk_127 0) (posF mk_127 0) (kC_of mk_127 rfl rfl) (by decide +kernel) rfl rfl rfl hl rfl (Nat.le_of_ble_eq_true rfl) dX11_size_2 ⟨Nat.le_of_ble_eq_true rfl, Nat.le_of_ble_eq_true rfl⟩ (fun r_1 H locs hB hJ hSn => ?_)
  refine hB _ (fun fa_1 ft_1 lB_1 fB_1 hPD9 hf1_0 hf1_1 hf1_2 => ?_)
  clear hB
  obtain ⟨hPn, hDn⟩ := kJi (m := mk_127) hJ rfl hPD9.1 hPD9.2 (wn := [(oX, .inr (11, [.ref nT, .ref nL, .ref nM, .ref oC, .ref oP, .ref oH, .ref oK, .ref oG, .ref oR, .ref oQ, .ref oW, .int fa_1])), (nL, .inr (5, [.ref aL, .int lL])), (aL, .inl (cI, 300, .inl fL)), (oP, .inr (7, [.ref oC, .ref nB, .int ft_1])), (nB, .inr (5, [.ref aB, .int lB_1])), (aB, .inl (cI, 2400, .inl fB_1)), (oC, .inr (2, [.ref o4, .ref o5])), (o4, .inr (10, [.ref a41, .ref a42, .ref a43, .int l4])), (a42, .inl (cI, 512, .inl f42)), (a43, .inl (cI, 512, .inl f43)), (o5, .inr (10, [.ref a51, .ref a52, .ref a53, .int l5])), (a52, .inl (cI, 512, .inl f52)), (a53, .inl (cI, 512, .inl f53))]) rfl
  clear hP hD hS hJ hPD9
  have hP := hPn
  have hD := hDn
  have hS := hSn
  clear hPn hDn hSn
  refine lv_if_eq (tgt := 21) hx hb dX11_size_5 (by decide) (fun c_2 => ?_) (fun c_2 => ?_)
  · have tc_2 : r_1.toInt = 0 := v_eq c_2
    refine lv_iconst (v := (-1)) hx hb dX11_size_21 (by decide) ?_
    exact kl_i (v := (-1)) hQQ hx hb hr hlocks hS dX11_size_22 (fun PZ9 kZ9 => kZ9 fa_1 ft_1 lB_1 fB_1 (⟨hP, hD⟩) (hf1_0) (Or.inr ⟨wz_n hf1_2 (by omega), rfl⟩))
  · have tc_2 : ¬ r_1.toInt = 0 := v_ne c_2
    refine lv_aload_n hx hb dX11_size_8 rfl (lv_at hl 0 rfl) ?_
    refine va_get (D := (dC, dI)) (ci := 11) (v := .ref oP) (C := RX11) (T := TX11) (N := 12) hx hb hts in_X11 hown hK hP 0 rfl rfl 4 (Nat.le_of_ble_eq_true rfl) (hts (.fieldLink RX11 44 "TextMender" "passage" "LTextMender$Passage;") (List.mem_of_getElem? (i := 1) rfl)) (fun _ h9 => h9) rfl dX11_size_9 ?_
    refine kV_r (rest := []) (q0 := 0) (ci := 7) hcf (m_X7_bytes l dC dI cI cS H.size oP oC nB ft_1 ) kc_X7_bytes gX11_size_X7_bytes rfl rfl rfl ⟨Nat.le_of_ble_eq_true rfl, Nat.le_of_ble_eq_true rfl⟩ kX_t hK hP hD hS hA (posT mk_124 0) (posF mk_124 0) (kC_of mk_124 rfl rfl) (by decide +kernel) rfl rfl rfl hl rfl (Nat.le_of_ble_eq_true rfl) dX11_size_12 ⟨Nat.le_of_ble_eq_true rfl, Nat.le_of_ble_eq_true rfl⟩ (fun r_3 H locs hB hJ hSn => ?_)
    refine And.elim (fun hra hBr => ?_) hB
    clear hB
    refine hBr _ (fun hPD9 => ?_)
    clear hBr
    rw [hra]
    obtain ⟨hPn, hDn⟩ := kJi (m := mk_124) hJ rfl hPD9.1 hPD9.2 (wn := [(oX, .inr (11, [.ref nT, .ref nL, .ref nM, .ref oC, .ref oP, .ref oH, .ref oK, .ref oG, .ref oR, .ref oQ, .ref oW, .int fa_1])), (nL, .inr (5, [.ref aL, .int lL])), (aL, .inl (cI, 300, .inl fL)), (oP, .inr (7, [.ref oC, .ref nB, .int ft_1])), (nB, .inr (5, [.ref aB, .int lB_1])), (aB, .inl (cI, 2400, .inl fB_1)), (oC, .inr (2, [.ref o4, .ref o5])), (o4, .inr (10, [.ref a41, .ref a42, .ref a43, .int l4])), (a42, .inl (cI, 512, .inl f42)), (a43, .inl (cI, 512, .inl f43)), (o5, .inr (10, [.ref a51, .ref a52, .ref a53, .int l5])), (a52, .inl (cI, 512, .inl f52)), (a53, .inl (cI, 512, .inl f53))]) rfl
    clear hP hD hS hJ hPD9
    have hP := hPn
    have hD := hDn
    have hS := hSn
    clear hPn hDn hSn
    refine kV_i (rest := []) (q0 := 0) (ci := 5) hcf (m_X5_length l dC dI cI cS H.size nB aB lB_1 ) kc_X5_length gX11_size_X5_length rfl rfl rfl ⟨Nat.le_of_ble_eq_true rfl, Nat.le_of_ble_eq_true rfl⟩ kX_t hK hP hD hS hA (posT mk_128 0) (posF mk_128 0) (kC_of mk_128 rfl rfl) (by decide +kernel) rfl rfl rfl hl rfl (Nat.le_of_ble_eq_true rfl) dX11_size_15 ⟨Nat.le_of_ble_eq_true rfl, Nat.le_of_ble_eq_true rfl⟩ (fun r_4 H locs hB hJ hSn => ?_)
    refine hB _ (fun hPD9 hf4_0 => ?_)
    clear hB
    obtain ⟨hPn, hDn⟩ := kJi (m := mk_128) hJ rfl hPD9.1 hPD9.2 (wn := [(oX, .inr (11, [.ref nT, .ref nL, .ref nM, .ref oC, .ref oP, .ref oH, .ref oK, .ref oG, .ref oR, .ref oQ, .ref oW, .int fa_1])), (nL, .inr (5, [.ref aL, .int lL])), (aL, .inl (cI, 300, .inl fL)), (oP, .inr (7, [.ref oC, .ref nB, .int ft_1])), (nB, .inr (5, [.ref aB, .int lB_1])), (aB, .inl (cI, 2400, .inl fB_1)), (oC, .inr (2, [.ref o4, .ref o5])), (o4, .inr (10, [.ref a41, .ref a42, .ref a43, .int l4])), (a42, .inl (cI, 512, .inl f42)), (a43, .inl (cI, 512, .inl f43)), (o5, .inr (10, [.ref a51, .ref a52, .ref a53, .int l5])), (a52, .inl (cI, 512, .inl f52)), (a53, .inl (cI, 512, .inl f53))]) rfl
    clear hP hD hS hJ hPD9
    have hP := hPn
    have hD := hDn
    have hS := hSn
    clear hPn hDn hSn
    rw [hf4_0]
    refine lv_goto (tgt := 22) hx hb dX11_size_18 (by decide) ?_
    exact kl_i (v := lB_1) hQQ hx hb hr hlocks hS dX11_size_22 (fun PZ9 kZ9 => kZ9 fa_1 ft_1 lB_1 fB_1 (⟨hP, hD⟩) (hf1_0) (Or.inl ⟨(wz_y hf1_2 (by omega)).1, _, _, (wz_y hf1_2 (by omega)).2, rfl⟩))

set_option maxHeartbeats 40000000 in
set_option maxRecDepth 100000 in
theorem f_X11_byteOf (l : Launch) (dC : Nat → ClassId) (dI : Nat → Nat → Nat) (cI cS : ClassId) (sz : Nat) (oX : Nat) (nT : Nat) (nL : Nat) (nM : Nat) (oC : Nat) (oP : Nat) (oH : Nat) (oK : Nat) (oG : Nat) (oR : Nat) (oQ : Nat) (oW : Nat) (aL : Nat) (nB : Nat) (aB : Nat) (o4 : Nat) (o5 : Nat) (a41 : Nat) (a42 : Nat) (a43 : Nat) (a51 : Nat) (a52 : Nat) (a53 : Nat) (fa : Int32) (lL : Int32) (fL : Nat → Int32) (ft : Int32) (lB : Int32) (fB : Nat → Int32) (l4 : Int32) (f42 : Nat → Int32) (f43 : Nat → Int32) (l5 : Int32) (f52 : Nat → Int32) (f53 : Nat → Int32) (cd : Int32) (i : Int32) (g_lL : 0 ≤ lL.toInt ∧ lL.toInt ≤ 300) (g_lB : 0 ≤ lB.toInt ∧ lB.toInt ≤ 2400) (hlt : prg lL.toInt 0 65535 fL) (hT4 : HT 512 511 hsT f42 f43) (ho4 : (occ f43 512 : Int) ≤ 511) (hT5 : HT 512 511 hsT f52 f53) (ho5 : (occ f53 512 : Int) ≤ 511) : kMi l yX11_byteOf wsX11_byteOf ({ frames := 5, cells := 0, slots := 0, locals := 116 } : Room) [.ref oX, .int cd, .int i] sz (dC, dI) vwCl [(cI, .int), (cS, .short)] [(oX, .inr (11, [.ref nT, .ref nL, .ref nM, .ref oC, .ref oP, .ref oH, .ref oK, .ref oG, .ref oR, .ref oQ, .ref oW, .int fa])), (nL, .inr (5, [.ref aL, .int lL])), (aL, .inl (cI, 300, .inl fL)), (oP, .inr (7, [.ref oC, .ref nB, .int ft])), (nB, .inr (5, [.ref aB, .int lB])), (aB, .inl (cI, 2400, .inl fB)), (oC, .inr (2, [.ref o4, .ref o5])), (o4, .inr (10, [.ref a41, .ref a42, .ref a43, .int l4])), (a42, .inl (cI, 512, .inl f42)), (a43, .inl (cI, 512, .inl f43)), (o5, .inr (10, [.ref a51, .ref a52, .ref a53, .int l5])), (a52, .inl (cI, 512, .inl f52)), (a53, .inl (cI, 512, .inl f53))] (fun _ => True) 0 0 (fun (A : Nat → Prop) (r : Int32) (hh9 : Heap) => ∀ PZ9 : Prop, (∀ (fa' : Int32) (ft' : Int32) (lB' : Int32) (fB' : Nat → Int32), kPD (dC, dI) vwCl A [(oX, .inr (11, [.ref nT, .ref nL, .ref nM, .ref oC, .ref oP, .ref oH, .ref oK, .ref oG, .ref oR, .ref oQ, .ref oW, .int fa'])), (nL, .inr (5, [.ref aL, .int lL])), (aL, .inl (cI, 300, .inl fL)), (oP, .inr (7, [.ref oC, .ref nB, .int ft'])), (nB, .inr (5, [.ref aB, .int lB'])), (aB, .inl (cI, 2400, .inl fB')), (oC, .inr (2, [.ref o4, .ref o5])), (o4, .inr (10, [.ref a41, .ref a42, .ref a43, .int l4])), (a42, .inl (cI, 512, .inl f42)), (a43, .inl (cI, 512, .inl f43)), (o5, .inr (10, [.ref a51, .ref a52, .ref a53, .int l5])), (a52, .inl (cI, 512, .inl f52)), (a53, .inl (cI, 512, .inl f53))] hh9 → (0 ≤ lB'.toInt ∧ lB'.toInt ≤ 2400) → (F_by r cd i (Bc cd f42 f43 f52 f53) lL.toInt.toNat fL) → PZ9) → PZ9) := by
  refine kMi_of (cc := cX11_byteOf) (maxL := 3) (ret := (some .int)) (lv := [(0, .ref oX), (1, .int cd), (2, .int i)]) (by decide +kernel) rfl rfl (Nat.le_of_ble_eq_true rfl) ?_
  intro p e s m below meth c A QQ ls hx hb hr hts hml hown hlocks hA hQQ hK hX hP hD hS hl
  have hown : s.vm.findClass RX11 = some m.cls := hown
  have hcf := k_cf hx hb hml hown hts
  have in_X11 : ∀ w ∈ wsX110, w ∈ wsX11_byteOf := fun _ h => List.mem_cons_of_mem _ (List.mem_append_left _ (List.mem_append_left _ (List.mem_append_left _ (List.mem_append_left _ (List.mem_append_left _ (List.mem_append_left _ (List.mem_append_left _ (List.mem_append_right _ (h)))))))))
  replace g_lB := hid g_lB
  refine lv_aload_n hx hb dX11_byteOf_0 rfl (lv_at hl 0 rfl) ?_
  refine lv_iload_n hx hb dX11_byteOf_1 rfl (lv_at hl 1 rfl) ?_
  refine kV_i (rest := []) (q0 := 0) (ci := 11) hcf (f_X11_writes l dC dI cI cS s.heap.size oX nT nL nM oC oP oH oK oG oR oQ oW aL nB aB o4 o5 a41 a42 a43 a51 a52 a53 fa lL fL ft lB fB l4 f42 f43 l5 f52 f53 cd (g_lL) (g_lB) (hlt) (hT4) (ho4) (hT5) (ho5)) kc_X11_writes gX11_byteOf_X11_writes rfl rfl rfl ⟨Nat.le_of_ble_eq_true rfl, Nat.le_of_ble_eq_true rfl⟩ kX_t hK hP hD hS hA (posT mk_127 0) (posF mk_127 0) (kC_of mk_127 rfl rfl) (by decide +kernel) rfl rfl rfl hl rfl (Nat.le_of_ble_eq_true rfl) dX11_byteOf_2 ⟨Nat.le_of_ble_eq_true rfl, Nat.le_of_ble_eq_true rfl⟩ (fun r_1 H locs hB hJ hSn => ?_)
  refine hB _ (fun fa_1 ft_1 lB_1 fB_1 hPD9 hf1_0 hf1_1 hf1_2 => ?_)
  clear hB
  obtain ⟨hPn, hDn⟩ := kJi (m := mk_127) hJ rfl hPD9.1 hPD9.2 (wn := [(oX, .inr (11, [.ref nT, .ref nL, .ref nM, .ref oC, .ref oP, .ref oH, .ref oK, .ref oG, .ref oR, .ref oQ, .ref oW, .int fa_1])), (nL, .inr (5, [.ref aL, .int lL])), (aL, .inl (cI, 300, .inl fL)), (oP, .inr (7, [.ref oC, .ref nB, .int ft_1])), (nB, .inr (5, [.ref aB, .int lB_1])), (aB, .inl (cI, 2400, .inl fB_1)), (oC, .inr (2, [.ref o4, .ref o5])), (o4, .inr (10, [.ref a41, .ref a42, .ref a43, .int l4])), (a42, .inl (cI, 512, .inl f42)), (a43, .inl (cI, 512, .inl f43)), (o5, .inr (10, [.ref a51, .ref a52, .ref a53, .int l5])), (a52, .inl (cI, 512, .inl f52)), (a53, .inl (cI, 512, .inl f53))]) rfl
  clear hP hD hS hJ hPD9
  have hP := hPn
  have hD := hDn
  have hS := hSn
  clear hPn hDn hSn
  refine lv_if_eq (tgt := 22) hx hb dX11_byteOf_5 (by decide) (fun c_2 => ?_) (fun c_2 => ?_)
  · have tc_2 : r_1.toInt = 0 := v_eq c_2
    refine lv_iconst (v := (-1)) hx hb dX11_byteOf_22 (by decide) ?_
    exact kl_i (v := (-1)) hQQ hx hb hr hlocks hS dX11_byteOf_23 (fun PZ9 kZ9 => kZ9 fa_1 ft_1 lB_1 fB_1 (⟨hP, hD⟩) (hf1_0) (Or.inr ⟨wz_n hf1_2 (by omega), rfl⟩))
  · have tc_2 : ¬ r_1.toInt = 0 := v_ne c_2
    refine lv_aload_n hx hb dX11_byteOf_8 rfl (lv_at hl 0 rfl) ?_
    refine va_get (D := (dC, dI)) (ci := 11) (v := .ref oP) (C := RX11) (T := TX11) (N := 12) hx hb hts in_X11 hown hK hP 0 rfl rfl 4 (Nat.le_of_ble_eq_true rfl) (hts (.fieldLink RX11 44 "TextMender" "passage" "LTextMender$Passage;") (List.mem_of_getElem? (i := 1) rfl)) (fun _ h9 => h9) rfl dX11_byteOf_9 ?_
    refine kV_r (rest := []) (q0 := 0) (ci := 7) hcf (m_X7_bytes l dC dI cI cS H.size oP oC nB ft_1 ) kc_X7_bytes gX11_byteOf_X7_bytes rfl rfl rfl ⟨Nat.le_of_ble_eq_true rfl, Nat.le_of_ble_eq_true rfl⟩ kX_t hK hP hD hS hA (posT mk_124 0) (posF mk_124 0) (kC_of mk_124 rfl rfl) (by decide +kernel) rfl rfl rfl hl rfl (Nat.le_of_ble_eq_true rfl) dX11_byteOf_12 ⟨Nat.le_of_ble_eq_true rfl, Nat.le_of_ble_eq_true rfl⟩ (fun r_3 H locs hB hJ hSn => ?_)
    refine And.elim (fun hra hBr => ?_) hB
    clear hB
    refine hBr _ (fun hPD9 => ?_)
    clear hBr
    rw [hra]
    obtain ⟨hPn, hDn⟩ := kJi (m := mk_124) hJ rfl hPD9.1 hPD9.2 (wn := [(oX, .inr (11, [.ref nT, .ref nL, .ref nM, .ref oC, .ref oP, .ref oH, .ref oK, .ref oG, .ref oR, .ref oQ, .ref oW, .int fa_1])), (nL, .inr (5, [.ref aL, .int lL])), (aL, .inl (cI, 300, .inl fL)), (oP, .inr (7, [.ref oC, .ref nB, .int ft_1])), (nB, .inr (5, [.ref aB, .int lB_1])), (aB, .inl (cI, 2400, .inl fB_1)), (oC, .inr (2, [.ref o4, .ref o5])), (o4, .inr (10, [.ref a41, .ref a42, .ref a43, .int l4])), (a42, .inl (cI, 512, .inl f42)), (a43, .inl (cI, 512, .inl f43)), (o5, .inr (10, [.ref a51, .ref a52, .ref a53, .int l5])), (a52, .inl (cI, 512, .inl f52)), (a53, .inl (cI, 512, .inl f53))]) rfl
    clear hP hD hS hJ hPD9
    have hP := hPn
    have hD := hDn
    have hS := hSn
    clear hPn hDn hSn
    refine lv_iload_n hx hb dX11_byteOf_15 rfl (lv_at hl 2 rfl) ?_
    refine kV_i (rest := []) (q0 := 0) (ci := 5) hcf (m_X5_get l dC dI cI cS H.size nB aB 2400 lB_1 fB_1 i (by omega) (by omega)) kc_X5_get gX11_byteOf_X5_get rfl rfl rfl ⟨Nat.le_of_ble_eq_true rfl, Nat.le_of_ble_eq_true rfl⟩ kX_t hK hP hD hS hA (posT mk_129 0) (posF mk_129 0) (kC_of mk_129 rfl rfl) (by decide +kernel) rfl rfl rfl hl rfl (Nat.le_of_ble_eq_true rfl) dX11_byteOf_16 ⟨Nat.le_of_ble_eq_true rfl, Nat.le_of_ble_eq_true rfl⟩ (fun r_4 H locs hB hJ hSn => ?_)
    refine hB _ (fun hPD9 hf4_0 => ?_)
    clear hB
    obtain ⟨hPn, hDn⟩ := kJi (m := mk_129) hJ rfl hPD9.1 hPD9.2 (wn := [(oX, .inr (11, [.ref nT, .ref nL, .ref nM, .ref oC, .ref oP, .ref oH, .ref oK, .ref oG, .ref oR, .ref oQ, .ref oW, .int fa_1])), (nL, .inr (5, [.ref aL, .int lL])), (aL, .inl (cI, 300, .inl fL)), (oP, .inr (7, [.ref oC, .ref nB, .int ft_1])), (nB, .inr (5, [.ref aB, .int lB_1])), (aB, .inl (cI, 2400, .inl fB_1)), (oC, .inr (2, [.ref o4, .ref o5])), (o4, .inr (10, [.ref a41, .ref a42, .ref a43, .int l4])), (a42, .inl (cI, 512, .inl f42)), (a43, .inl (cI, 512, .inl f43)), (o5, .inr (10, [.ref a51, .ref a52, .ref a53, .int l5])), (a52, .inl (cI, 512, .inl f52)), (a53, .inl (cI, 512, .inl f53))]) rfl
    clear hP hD hS hJ hPD9
    have hP := hPn
    have hD := hDn
    have hS := hSn
    clear hPn hDn hSn
    refine lv_goto (tgt := 23) hx hb dX11_byteOf_19 (by decide) ?_
    exact kl_i (v := r_4) hQQ hx hb hr hlocks hS dX11_byteOf_23 (fun PZ9 kZ9 => kZ9 fa_1 ft_1 lB_1 fB_1 (⟨hP, hD⟩) (hf1_0) (by_y (wz_y hf1_2 (by omega)) hf4_0))

set_option maxHeartbeats 40000000 in
set_option maxRecDepth 100000 in
theorem f_X11_worth (l : Launch) (dC : Nat → ClassId) (dI : Nat → Nat → Nat) (cI cS : ClassId) (sz : Nat) (oX : Nat) (nT : Nat) (nL : Nat) (nM : Nat) (oC : Nat) (oP : Nat) (oH : Nat) (oK : Nat) (oG : Nat) (oR : Nat) (oQ : Nat) (oW : Nat) (k1 : Nat) (k2 : Nat) (aL : Nat) (fa : Int32) (lK : Int32) (fK1 : Nat → Int32) (fK2 : Nat → Int32) (lL : Int32) (fL : Nat → Int32) (g_lK : 0 ≤ lK.toInt ∧ lK.toInt ≤ 300) (g_lL : 0 ≤ lL.toInt ∧ lL.toInt ≤ 300) (hT : HT 1024 1023 hsK fK1 fK2) (ho : (occ fK2 1024 : Int) ≤ lK.toInt) (hV : prg 1024 (-1) 200 fK2) (hlt : prg lL.toInt 0 65535 fL) : kMi l yX11_worth wsX11_worth ({ frames := 4, cells := 0, slots := 0, locals := 98 } : Room) [.ref oX] sz (dC, dI) vwCl [(cI, .int), (cS, .short)] [(oX, .inr (11, [.ref nT, .ref nL, .ref nM, .ref oC, .ref oP, .ref oH, .ref oK, .ref oG, .ref oR, .ref oQ, .ref oW, .int fa])), (oK, .inr (3, [.ref k1, .ref k2, .int lK])), (k1, .inl (cI, 1024, .inl fK1)), (k2, .inl (cI, 1024, .inl fK2)), (nL, .inr (5, [.ref aL, .int lL])), (aL, .inl (cI, 300, .inl fL))] (fun _ => True) 0 0 (fun (A : Nat → Prop) (r : Int32) (hh9 : Heap) => ∀ PZ9 : Prop, (kPD (dC, dI) vwCl A [(oX, .inr (11, [.ref nT, .ref nL, .ref nM, .ref oC, .ref oP, .ref oH, .ref oK, .ref oG, .ref oR, .ref oQ, .ref oW, .int fa])), (oK, .inr (3, [.ref k1, .ref k2, .int lK])), (k1, .inl (cI, 1024, .inl fK1)), (k2, .inl (cI, 1024, .inl fK2)), (nL, .inr (5, [.ref aL, .int lL])), (aL, .inl (cI, 300, .inl fL))] hh9 → (r.toInt = cT (tcC fK1 fK2) lL.toInt fL) → PZ9) → PZ9) := by
  refine kMi_of (cc := cX11_worth) (maxL := 1) (ret := (some .int)) (lv := [(0, .ref oX)]) (by decide +kernel) rfl rfl (Nat.le_of_ble_eq_true rfl) ?_
  intro p e s m below meth c A QQ ls hx hb hr hts hml hown hlocks hA hQQ hK hX hP hD hS hl
  have hown : s.vm.findClass RX11 = some m.cls := hown
  have hcf := k_cf hx hb hml hown hts
  have in_X11 : ∀ w ∈ wsX110, w ∈ wsX11_worth := fun _ h => List.mem_cons_of_mem _ (List.mem_append_left _ (List.mem_append_left _ (List.mem_append_left _ (List.mem_append_right _ (h)))))
  replace g_lK := hid g_lK
  replace g_lL := hid g_lL
  refine lv_aload_n hx hb dX11_worth_0 rfl (lv_at hl 0 rfl) ?_
  refine va_get (D := (dC, dI)) (ci := 11) (v := .ref oK) (C := RX11) (T := TX11) (N := 12) hx hb hts in_X11 hown hK hP 0 rfl rfl 6 (Nat.le_of_ble_eq_true rfl) (hts (.fieldLink RX11 52 "TextMender" "costs" "LTextMender$Costs;") (List.mem_of_getElem? (i := 1) rfl)) (fun _ h9 => h9) rfl dX11_worth_1 ?_
  refine lv_aload_n hx hb dX11_worth_4 rfl (lv_at hl 0 rfl) ?_
  refine va_get (D := (dC, dI)) (ci := 11) (v := .ref nL) (C := RX11) (T := TX11) (N := 12) hx hb hts in_X11 hown hK hP 0 rfl rfl 1 (Nat.le_of_ble_eq_true rfl) (hts (.fieldLink RX11 34 "TextMender" "letters" "LTextMender$Numbers;") (List.mem_of_getElem? (i := 2) rfl)) (fun _ h9 => h9) rfl dX11_worth_5 ?_
  refine kV_i (rest := []) (q0 := 0) (ci := 3) hcf (f_X3_ofText l dC dI cI cS s.heap.size oK nL k1 k2 aL lK fK1 fK2 lL fL (g_lK) (g_lL) (hT) (ho) (hV) (hlt)) kc_X3_ofText gX11_worth_X3_ofText rfl rfl rfl ⟨Nat.le_of_ble_eq_true rfl, Nat.le_of_ble_eq_true rfl⟩ kX_t hK hP hD hS hA (posT mk_136 0) (posF mk_136 0) (kC_of mk_136 rfl rfl) (by decide +kernel) rfl rfl rfl hl rfl (Nat.le_of_ble_eq_true rfl) dX11_worth_8 ⟨Nat.le_of_ble_eq_true rfl, Nat.le_of_ble_eq_true rfl⟩ (fun r_1 H locs hB hJ hSn => ?_)
  refine hB _ (fun hPD9 hf1_0 hf1_1 => ?_)
  clear hB
  obtain ⟨hPn, hDn⟩ := kJi (m := mk_136) hJ rfl hPD9.1 hPD9.2 (wn := [(oX, .inr (11, [.ref nT, .ref nL, .ref nM, .ref oC, .ref oP, .ref oH, .ref oK, .ref oG, .ref oR, .ref oQ, .ref oW, .int fa])), (oK, .inr (3, [.ref k1, .ref k2, .int lK])), (k1, .inl (cI, 1024, .inl fK1)), (k2, .inl (cI, 1024, .inl fK2)), (nL, .inr (5, [.ref aL, .int lL])), (aL, .inl (cI, 300, .inl fL))]) rfl
  clear hP hD hS hJ hPD9
  have hP := hPn
  have hD := hDn
  have hS := hSn
  clear hPn hDn hSn
  exact kl_i (v := r_1) hQQ hx hb hr hlocks hS dX11_worth_11 (fun PZ9 kZ9 => kZ9 (⟨hP, hD⟩) (hf1_1))

theorem wr_s0 {cd r ft l : Int32} {g f : Nat → Int32} {Bf : Int32 → Int32} {n z : Int} (h : F_wr r ft l g (fun j => enc cd (f j) (Bf (f j))) n) (e : n = z) : F_wr r ft l g (fun j => enc cd (f j) (Bf (f j))) z := by rw [← e]; exact h

set_option maxHeartbeats 40000000 in
set_option maxRecDepth 100000 in
theorem f_X12_size (l : Launch) (dC : Nat → ClassId) (dI : Nat → Nat → Nat) (cI cS : ClassId) (sz : Nat) (oM : Nat) (mT : Nat) (mS : Nat) (mX : Nat) (mL : Nat) (mB : Nat) (mD : Nat) (m1 : Nat) (m2 : Nat) (mR : Nat) (x1 : Nat) (x2 : Nat) (x3 : Nat) (mH : Nat) (mY : Nat) (mE : Nat) (mW : Nat) (mO : Nat) (y1 : Nat) (y2 : Nat) (y3 : Nat) (y4 : Nat) (mZ : Nat) (zt : Int32) (zp : Int32) (zf : Int32) (zh : Int32) (zr : Int32) (zc : Int32) (zy : Int32) (za : Int32) (zb : Int32) (zs : Int32) (zq : Int32) (zw : Int32) (ze : Int32) (zn : Int32) (zm : Int32) (zl : Int32) (zk : Int32) (zd : Int32) (eY : Nat → Int32) (eB : Nat → Int32) (eS : Nat → Int32) (eX : Nat → Int32) (cd : Int32) (g_zt : 0 ≤ zt.toInt ∧ zt.toInt ≤ 900) (g_zp : 0 ≤ zp.toInt ∧ zp.toInt ≤ 20) (g_zf : 0 ≤ zf.toInt ∧ zf.toInt ≤ 19) (g_zh : 0 ≤ zh.toInt ∧ zh.toInt ≤ 6) (g_zr : 0 ≤ zr.toInt ∧ zr.toInt ≤ 258) (g_zc : 0 ≤ zc.toInt ∧ zc.toInt ≤ 300) (g_zy : 0 ≤ zy.toInt ∧ zy.toInt ≤ 65536) (g_za : 0 ≤ za.toInt ∧ za.toInt ≤ 5) (g_zb : 0 ≤ zb.toInt ∧ zb.toInt ≤ 5) (g_zs : 0 ≤ zs.toInt ∧ zs.toInt ≤ 2000000) (g_zq : -1 ≤ zq.toInt ∧ zq.toInt ≤ 2000000) (g_zn : 0 ≤ zn.toInt ∧ zn.toInt ≤ 2600) (g_zm : 0 ≤ zm.toInt ∧ zm.toInt ≤ 2600) (g_zk : 0 ≤ zk.toInt ∧ zk.toInt ≤ 300) (g_eY : rg 0 255 eY) (g_eB : rg (-1) 255 eB) (g_eS : rg 0 300 eS) (g_eX : rg 0 65535 eX) (hzs : zs.toInt ≤ 1000000) : kMi l yX12_size wsX12_size ({ frames := 3, cells := 0, slots := 0, locals := 68 } : Room) [.ref oM, .int cd] sz (dC, dI) vwCl [(cI, .int), (cS, .short)] [(oM, .inr (12, [.ref mT, .int zt, .ref mS, .ref mX, .int zp, .int zf, .ref mL, .ref mB, .ref mD, .ref m1, .ref m2, .int zh, .ref mR, .int zr, .ref x1, .ref x2, .ref x3, .int zc, .ref mH, .int zy, .int za, .int zb, .int zs, .int zq, .int zw, .int ze, .ref mY, .int zn, .ref mE, .int zm, .int zl, .ref mW, .int zk, .ref mO, .int zd, .ref y1, .ref y2, .ref y3, .ref y4, .ref mZ])), (mY, .inl (cI, 2600, .inl eY)), (mB, .inl (cS, 131072, .inl eB)), (mS, .inl (cI, 21, .inl eS)), (mX, .inl (cI, 6300, .inl eX))] (fun _ => True) 0 0 (fun (A : Nat → Prop) (r : Int32) (hh9 : Heap) => ∀ PZ9 : Prop, (∀ (ze' : Int32) (zw' : Int32) (zn' : Int32) (eY' : Nat → Int32) (zl' : Int32), kPD (dC, dI) vwCl A [(oM, .inr (12, [.ref mT, .int zt, .ref mS, .ref mX, .int zp, .int zf, .ref mL, .ref mB, .ref mD, .ref m1, .ref m2, .int zh, .ref mR, .int zr, .ref x1, .ref x2, .ref x3, .int zc, .ref mH, .int zy, .int za, .int zb, .int zs, .int zq, .int zw', .int ze', .ref mY, .int zn', .ref mE, .int zm, .int zl', .ref mW, .int zk, .ref mO, .int zd, .ref y1, .ref y2, .ref y3, .ref y4, .ref mZ])), (mY, .inl (cI, 2600, .inl eY')), (mB, .inl (cS, 131072, .inl eB)), (mS, .inl (cI, 21, .inl eS)), (mX, .inl (cI, 6300, .inl eX))] hh9 → (0 ≤ zn'.toInt ∧ zn'.toInt ≤ 2600) → (rg 0 255 eY') → (F_sz r cd (Br cd eB) (eS 0).toInt.toNat eX) → PZ9) → PZ9) := by
  refine kMi_of (cc := cX12_size) (maxL := 2) (ret := (some .int)) (lv := [(0, .ref oM), (1, .int cd)]) (by decide +kernel) rfl rfl (Nat.le_of_ble_eq_true rfl) ?_
  intro p e s m below meth c A QQ ls hx hb hr hts hml hown hlocks hA hQQ hK hX hP hD hS hl
  have hown : s.vm.findClass RX12 = some m.cls := hown
  have hcf := k_cf hx hb hml hown hts
  have in_X12 : ∀ w ∈ wsX120, w ∈ wsX12_size := fun _ h => List.mem_cons_of_mem _ (List.mem_append_left _ (List.mem_append_left _ (List.mem_append_right _ (h))))
  replace g_zt := hid g_zt
  replace g_zp := hid g_zp
  replace g_zf := hid g_zf
  replace g_zh := hid g_zh
  replace g_zr := hid g_zr
  replace g_zc := hid g_zc
  replace g_zy := hid g_zy
  replace g_za := hid g_za
  replace g_zb := hid g_zb
  replace g_zs := hid g_zs
  replace g_zq := hid g_zq
  replace g_zn := hid g_zn
  replace g_zm := hid g_zm
  replace g_zk := hid g_zk
  refine lv_aload_n hx hb dX12_size_0 rfl (lv_at hl 0 rfl) ?_
  refine lv_iconst (v := 0) hx hb dX12_size_1 (by decide) ?_
  refine va_put (D := (dC, dI)) (ci := 12) (v := .int 0) (ty := .int) (C := RX12) (T := TX12) (N := 40) hx hb hts in_X12 tyX12 tyX12_ok nmX12 hown hK hP hD hS 0 rfl rfl 25 (Nat.le_of_ble_eq_true rfl) (hts (.fieldLink RX12 85 "TextMenderModel" "thrown" "I") (List.mem_of_getElem? (i := 1) rfl)) (fun _ h9 => h9) rfl (tyX12_ok 25 (Nat.le_of_ble_eq_true rfl)) rfl rfl (Nat.le_of_ble_eq_true rfl) dX12_size_2 (kW (wn := [(oM, .inr (12, [.ref mT, .int zt, .ref mS, .ref mX, .int zp, .int zf, .ref mL, .ref mB, .ref mD, .ref m1, .ref m2, .int zh, .ref mR, .int zr, .ref x1, .ref x2, .ref x3, .int zc, .ref mH, .int zy, .int za, .int zb, .int zs, .int zq, .int zw, .int 0, .ref mY, .int zn, .ref mE, .int zm, .int zl, .ref mW, .int zk, .ref mO, .int zd, .ref y1, .ref y2, .ref y3, .ref y4, .ref mZ])), (mY, .inl (cI, 2600, .inl eY)), (mB, .inl (cS, 131072, .inl eB)), (mS, .inl (cI, 21, .inl eS)), (mX, .inl (cI, 6300, .inl eX))]) rfl (fun H locs hPn hDn hSn => ?_))
  clear hP hD hS
  have hP := hPn
  have hD := hDn
  have hS := hSn
  clear hPn hDn hSn
  refine lv_aload_n hx hb dX12_size_5 rfl (lv_at hl 0 rfl) ?_
  refine lv_iconst (v := (-1)) hx hb dX12_size_6 (by decide) ?_
  refine va_put (D := (dC, dI)) (ci := 12) (v := .int (-1)) (ty := .int) (C := RX12) (T := TX12) (N := 40) hx hb hts in_X12 tyX12 tyX12_ok nmX12 hown hK hP hD hS 0 rfl rfl 24 (Nat.le_of_ble_eq_true rfl) (hts (.fieldLink RX12 55 "TextMenderModel" "where" "I") (List.mem_of_getElem? (i := 2) rfl)) (fun _ h9 => h9) rfl (tyX12_ok 24 (Nat.le_of_ble_eq_true rfl)) rfl rfl (Nat.le_of_ble_eq_true rfl) dX12_size_7 (kW (wn := [(oM, .inr (12, [.ref mT, .int zt, .ref mS, .ref mX, .int zp, .int zf, .ref mL, .ref mB, .ref mD, .ref m1, .ref m2, .int zh, .ref mR, .int zr, .ref x1, .ref x2, .ref x3, .int zc, .ref mH, .int zy, .int za, .int zb, .int zs, .int zq, .int (-1), .int 0, .ref mY, .int zn, .ref mE, .int zm, .int zl, .ref mW, .int zk, .ref mO, .int zd, .ref y1, .ref y2, .ref y3, .ref y4, .ref mZ])), (mY, .inl (cI, 2600, .inl eY)), (mB, .inl (cS, 131072, .inl eB)), (mS, .inl (cI, 21, .inl eS)), (mX, .inl (cI, 6300, .inl eX))]) rfl (fun H locs hPn hDn hSn => ?_))
  clear hP hD hS
  have hP := hPn
  have hD := hDn
  have hS := hSn
  clear hPn hDn hSn
  refine lv_iload_n hx hb dX12_size_10 rfl (lv_at hl 1 rfl) ?_
  refine kS_i (rest := []) hcf (m_X12_isCode l dC dI cI cS H.size cd ) kc_X12_isCode gX12_size_X12_isCode rfl rfl ⟨Nat.le_of_ble_eq_true rfl, Nat.le_of_ble_eq_true rfl⟩ kX_t hK hP hD hS hA [] [0, 1, 2, 3, 4] rfl (by decide +kernel) rfl hl rfl (Nat.le_of_ble_eq_true rfl) dX12_size_11 ⟨Nat.le_of_ble_eq_true rfl, Nat.le_of_ble_eq_true rfl⟩ (fun r_1 H locs hB hJ hSn => ?_)
  refine hB _ (fun hPD9 hf1_0 hf1_1 => ?_)
  clear hB
  obtain ⟨hPn, hDn⟩ := hJ _ hPD9.1 hPD9.2 [(oM, .inr (12, [.ref mT, .int zt, .ref mS, .ref mX, .int zp, .int zf, .ref mL, .ref mB, .ref mD, .ref m1, .ref m2, .int zh, .ref mR, .int zr, .ref x1, .ref x2, .ref x3, .int zc, .ref mH, .int zy, .int za, .int zb, .int zs, .int zq, .int (-1), .int 0, .ref mY, .int zn, .ref mE, .int zm, .int zl, .ref mW, .int zk, .ref mO, .int zd, .ref y1, .ref y2, .ref y3, .ref y4, .ref mZ])), (mY, .inl (cI, 2600, .inl eY)), (mB, .inl (cS, 131072, .inl eB)), (mS, .inl (cI, 21, .inl eS)), (mX, .inl (cI, 6300, .inl eX))] rfl
  clear hP hD hS hJ hPD9
  have hP := hPn
  have hD := hDn
  have hS := hSn
  clear hPn hDn hSn
  refine lv_if_ne (tgt := 19) hx hb dX12_size_14 (by decide) (fun c_2 => ?_) (fun c_2 => ?_)
  · have tc_2 : ¬ r_1.toInt = 0 := v_ne c_2
    refine lv_aload_n hx hb dX12_size_19 rfl (lv_at hl 0 rfl) ?_
    refine lv_iload_n hx hb dX12_size_20 rfl (lv_at hl 1 rfl) ?_
    refine lv_aload_n hx hb dX12_size_21 rfl (lv_at hl 0 rfl) ?_
    refine va_get (D := (dC, dI)) (ci := 12) (v := .ref mX) (C := RX12) (T := TX12) (N := 40) hx hb hts in_X12 hown hK hP 0 rfl rfl 3 (Nat.le_of_ble_eq_true rfl) (hts (.fieldLink RX12 16 "TextMenderModel" "texts" "[I") (List.mem_of_getElem? (i := 3) rfl)) (fun _ h9 => h9) rfl dX12_size_22 ?_
    refine lv_aload_n hx hb dX12_size_25 rfl (lv_at hl 0 rfl) ?_
    refine va_get (D := (dC, dI)) (ci := 12) (v := .ref mS) (C := RX12) (T := TX12) (N := 40) hx hb hts in_X12 hown hK hP 0 rfl rfl 2 (Nat.le_of_ble_eq_true rfl) (hts (.fieldLink RX12 13 "TextMenderModel" "sizes" "[I") (List.mem_of_getElem? (i := 4) rfl)) (fun _ h9 => h9) rfl dX12_size_26 ?_
    refine lv_iconst (v := 0) hx hb dX12_size_29 (by decide) ?_
    refine va_iald hx hb hK hP 3 0 rfl rfl (by unfold vp_in; decide) dX12_size_30 ?_
    refine lv_topi (fun x_3 ex_3 => ?_)
    have tx_3 : 0 ≤ x_3.toInt ∧ x_3.toInt ≤ 300 := rg_at g_eS ex_3
    refine kV_i (rest := []) (q0 := 0) (ci := 12) hcf (f_X12_write l dC dI cI cS H.size oM mX mT mS mX mL mB mD m1 m2 mR x1 x2 x3 mH mY mE mW mO y1 y2 y3 y4 mZ 6300 zt zp zf zh zr zc zy za zb zs zq (-1) 0 zn zm zl zk zd eY eB eX cd x_3 (g_zt) (g_zp) (g_zf) (g_zh) (g_zr) (g_zc) (g_zy) (g_za) (g_zb) (g_zs) (g_zq) (g_zn) (g_zm) (g_zk) (g_eY) (g_eB) (g_eX) (by omega) (v_rr tx_3 (by decide) (by decide)) (by omega) (by omega)) kc_X12_write gX12_size_X12_write rfl rfl rfl ⟨Nat.le_of_ble_eq_true rfl, Nat.le_of_ble_eq_true rfl⟩ kX_t hK hP hD hS hA [0, 1, 2, 4] [3] rfl (by decide +kernel) rfl rfl rfl hl rfl (Nat.le_of_ble_eq_true rfl) dX12_size_31 ⟨Nat.le_of_ble_eq_true rfl, Nat.le_of_ble_eq_true rfl⟩ (fun r_4 H locs hB hJ hSn => ?_)
    refine hB _ (fun zn_4 eY_4 zl_4 hPD9 hf4_0 hf4_1 hf4_2 hf4_3 => ?_)
    clear hB
    obtain ⟨hPn, hDn⟩ := hJ _ hPD9.1 hPD9.2 [(mS, .inl (cI, 21, .inl eS)), (oM, .inr (12, [.ref mT, .int zt, .ref mS, .ref mX, .int zp, .int zf, .ref mL, .ref mB, .ref mD, .ref m1, .ref m2, .int zh, .ref mR, .int zr, .ref x1, .ref x2, .ref x3, .int zc, .ref mH, .int zy, .int za, .int zb, .int zs, .int zq, .int (-1), .int 0, .ref mY, .int zn_4, .ref mE, .int zm, .int zl_4, .ref mW, .int zk, .ref mO, .int zd, .ref y1, .ref y2, .ref y3, .ref y4, .ref mZ])), (mY, .inl (cI, 2600, .inl eY_4)), (mB, .inl (cS, 131072, .inl eB)), (mX, .inl (cI, 6300, .inl eX))] rfl
    clear hP hD hS hJ hPD9
    have hP := hPn
    have hD := hDn
    have hS := hSn
    clear hPn hDn hSn
    refine lv_if_ne (tgt := 47) hx hb dX12_size_34 (by decide) (fun c_5 => ?_) (fun c_5 => ?_)
    · have tc_5 : ¬ r_4.toInt = 0 := v_ne c_5
      refine lv_aload_n hx hb dX12_size_47 rfl (lv_at hl 0 rfl) ?_
      refine va_get (D := (dC, dI)) (ci := 12) (v := .int zn_4) (C := RX12) (T := TX12) (N := 40) hx hb hts in_X12 hown hK hP 1 rfl rfl 27 (Nat.le_of_ble_eq_true rfl) (hts (.fieldLink RX12 91 "TextMenderModel" "byteMany" "I") (List.mem_of_getElem? (i := 6) rfl)) (fun _ h9 => h9) rfl dX12_size_48 ?_
      exact kl_i (v := zn_4) hQQ hx hb hr hlocks hS dX12_size_51 (fun PZ9 kZ9 => kZ9 0 (-1) zn_4 eY_4 zl_4 (kPD_sub hP hD [1, 2, 3, 0, 4] (by decide +kernel) rfl) (hf4_0) (hf4_1) (Or.inl ⟨by unfold okd; omega, _, _, wr_WR (wr_s0 hf4_3 (by rw [ex_3]; rfl)) (by omega), rfl⟩))
    · have tc_5 : r_4.toInt = 0 := v_eq c_5
      refine lv_aload_n hx hb dX12_size_37 rfl (lv_at hl 0 rfl) ?_
      refine lv_aload_n hx hb dX12_size_38 rfl (lv_at hl 0 rfl) ?_
      refine va_get (D := (dC, dI)) (ci := 12) (v := .int zl_4) (C := RX12) (T := TX12) (N := 40) hx hb hts in_X12 hown hK hP 1 rfl rfl 30 (Nat.le_of_ble_eq_true rfl) (hts (.fieldLink RX12 102 "TextMenderModel" "faultAt" "I") (List.mem_of_getElem? (i := 5) rfl)) (fun _ h9 => h9) rfl dX12_size_39 ?_
      refine va_put (D := (dC, dI)) (ci := 12) (v := .int zl_4) (ty := .int) (C := RX12) (T := TX12) (N := 40) hx hb hts in_X12 tyX12 tyX12_ok nmX12 hown hK hP hD hS 1 rfl rfl 24 (Nat.le_of_ble_eq_true rfl) (hts (.fieldLink RX12 55 "TextMenderModel" "where" "I") (List.mem_of_getElem? (i := 2) rfl)) (fun _ h9 => h9) rfl (tyX12_ok 24 (Nat.le_of_ble_eq_true rfl)) rfl rfl (Nat.le_of_ble_eq_true rfl) dX12_size_42 (kW (wn := [(mS, .inl (cI, 21, .inl eS)), (oM, .inr (12, [.ref mT, .int zt, .ref mS, .ref mX, .int zp, .int zf, .ref mL, .ref mB, .ref mD, .ref m1, .ref m2, .int zh, .ref mR, .int zr, .ref x1, .ref x2, .ref x3, .int zc, .ref mH, .int zy, .int za, .int zb, .int zs, .int zq, .int zl_4, .int 0, .ref mY, .int zn_4, .ref mE, .int zm, .int zl_4, .ref mW, .int zk, .ref mO, .int zd, .ref y1, .ref y2, .ref y3, .ref y4, .ref mZ])), (mY, .inl (cI, 2600, .inl eY_4)), (mB, .inl (cS, 131072, .inl eB)), (mX, .inl (cI, 6300, .inl eX))]) rfl (fun H locs hPn hDn hSn => ?_))
      clear hP hD hS
      have hP := hPn
      have hD := hDn
      have hS := hSn
      clear hPn hDn hSn
      refine lv_iconst (v := (-1)) hx hb dX12_size_45 (by decide) ?_
      exact kl_i (v := (-1)) hQQ hx hb hr hlocks hS dX12_size_46 (fun PZ9 kZ9 => kZ9 0 zl_4 zn_4 eY_4 zl_4 (kPD_sub hP hD [1, 2, 3, 0, 4] (by decide +kernel) rfl) (hf4_0) (hf4_1) (Or.inr ⟨wr_nn (wr_s0 hf4_3 (by rw [ex_3]; rfl)) (by omega), rfl⟩))
  · have tc_2 : r_1.toInt = 0 := v_eq c_2
    refine lv_iconst (v := (-1)) hx hb dX12_size_17 (by decide) ?_
    exact kl_i (v := (-1)) hQQ hx hb hr hlocks hS dX12_size_18 (fun PZ9 kZ9 => kZ9 0 (-1) zn eY zl (⟨hP, hD⟩) (g_zn) (g_eY) (Or.inr ⟨fun m g w9 => by have w8 := w9.1; unfold okd at w8; omega, rfl⟩))

set_option maxHeartbeats 40000000 in
set_option maxRecDepth 100000 in
theorem f_X12_byteOf (l : Launch) (dC : Nat → ClassId) (dI : Nat → Nat → Nat) (cI cS : ClassId) (sz : Nat) (oM : Nat) (mT : Nat) (mS : Nat) (mX : Nat) (mL : Nat) (mB : Nat) (mD : Nat) (m1 : Nat) (m2 : Nat) (mR : Nat) (x1 : Nat) (x2 : Nat) (x3 : Nat) (mH : Nat) (mY : Nat) (mE : Nat) (mW : Nat) (mO : Nat) (y1 : Nat) (y2 : Nat) (y3 : Nat) (y4 : Nat) (mZ : Nat) (zt : Int32) (zp : Int32) (zf : Int32) (zh : Int32) (zr : Int32) (zc : Int32) (zy : Int32) (za : Int32) (zb : Int32) (zs : Int32) (zq : Int32) (zw : Int32) (ze : Int32) (zn : Int32) (zm : Int32) (zl : Int32) (zk : Int32) (zd : Int32) (eY : Nat → Int32) (eB : Nat → Int32) (eS : Nat → Int32) (eX : Nat → Int32) (cd : Int32) (i : Int32) (g_zt : 0 ≤ zt.toInt ∧ zt.toInt ≤ 900) (g_zp : 0 ≤ zp.toInt ∧ zp.toInt ≤ 20) (g_zf : 0 ≤ zf.toInt ∧ zf.toInt ≤ 19) (g_zh : 0 ≤ zh.toInt ∧ zh.toInt ≤ 6) (g_zr : 0 ≤ zr.toInt ∧ zr.toInt ≤ 258) (g_zc : 0 ≤ zc.toInt ∧ zc.toInt ≤ 300) (g_zy : 0 ≤ zy.toInt ∧ zy.toInt ≤ 65536) (g_za : 0 ≤ za.toInt ∧ za.toInt ≤ 5) (g_zb : 0 ≤ zb.toInt ∧ zb.toInt ≤ 5) (g_zs : 0 ≤ zs.toInt ∧ zs.toInt ≤ 2000000) (g_zq : -1 ≤ zq.toInt ∧ zq.toInt ≤ 2000000) (g_zn : 0 ≤ zn.toInt ∧ zn.toInt ≤ 2600) (g_zm : 0 ≤ zm.toInt ∧ zm.toInt ≤ 2600) (g_zk : 0 ≤ zk.toInt ∧ zk.toInt ≤ 300) (g_eY : rg 0 255 eY) (g_eB : rg (-1) 255 eB) (g_eS : rg 0 300 eS) (g_eX : rg 0 65535 eX) (hzs : zs.toInt ≤ 1000000) : kMi l yX12_byteOf wsX12_byteOf ({ frames := 3, cells := 0, slots := 0, locals := 68 } : Room) [.ref oM, .int cd, .int i] sz (dC, dI) vwCl [(cI, .int), (cS, .short)] [(oM, .inr (12, [.ref mT, .int zt, .ref mS, .ref mX, .int zp, .int zf, .ref mL, .ref mB, .ref mD, .ref m1, .ref m2, .int zh, .ref mR, .int zr, .ref x1, .ref x2, .ref x3, .int zc, .ref mH, .int zy, .int za, .int zb, .int zs, .int zq, .int zw, .int ze, .ref mY, .int zn, .ref mE, .int zm, .int zl, .ref mW, .int zk, .ref mO, .int zd, .ref y1, .ref y2, .ref y3, .ref y4, .ref mZ])), (mY, .inl (cI, 2600, .inl eY)), (mB, .inl (cS, 131072, .inl eB)), (mS, .inl (cI, 21, .inl eS)), (mX, .inl (cI, 6300, .inl eX))] (fun _ => True) 0 0 (fun (A : Nat → Prop) (r : Int32) (hh9 : Heap) => ∀ PZ9 : Prop, (∀ (ze' : Int32) (zw' : Int32) (zn' : Int32) (eY' : Nat → Int32) (zl' : Int32), kPD (dC, dI) vwCl A [(oM, .inr (12, [.ref mT, .int zt, .ref mS, .ref mX, .int zp, .int zf, .ref mL, .ref mB, .ref mD, .ref m1, .ref m2, .int zh, .ref mR, .int zr, .ref x1, .ref x2, .ref x3, .int zc, .ref mH, .int zy, .int za, .int zb, .int zs, .int zq, .int zw', .int ze', .ref mY, .int zn', .ref mE, .int zm, .int zl', .ref mW, .int zk, .ref mO, .int zd, .ref y1, .ref y2, .ref y3, .ref y4, .ref mZ])), (mY, .inl (cI, 2600, .inl eY')), (mB, .inl (cS, 131072, .inl eB)), (mS, .inl (cI, 21, .inl eS)), (mX, .inl (cI, 6300, .inl eX))] hh9 → (0 ≤ zn'.toInt ∧ zn'.toInt ≤ 2600) → (rg 0 255 eY') → (F_by r cd i (Br cd eB) (eS 0).toInt.toNat eX) → PZ9) → PZ9) := by
  refine kMi_of (cc := cX12_byteOf) (maxL := 3) (ret := (some .int)) (lv := [(0, .ref oM), (1, .int cd), (2, .int i)]) (by decide +kernel) rfl rfl (Nat.le_of_ble_eq_true rfl) ?_
  intro p e s m below meth c A QQ ls hx hb hr hts hml hown hlocks hA hQQ hK hX hP hD hS hl
  have hown : s.vm.findClass RX12 = some m.cls := hown
  have hcf := k_cf hx hb hml hown hts
  have in_X12 : ∀ w ∈ wsX120, w ∈ wsX12_byteOf := fun _ h => List.mem_cons_of_mem _ (List.mem_append_left _ (List.mem_append_left _ (List.mem_append_right _ (h))))
  replace g_zt := hid g_zt
  replace g_zp := hid g_zp
  replace g_zf := hid g_zf
  replace g_zh := hid g_zh
  replace g_zr := hid g_zr
  replace g_zc := hid g_zc
  replace g_zy := hid g_zy
  replace g_za := hid g_za
  replace g_zb := hid g_zb
  replace g_zs := hid g_zs
  replace g_zq := hid g_zq
  replace g_zn := hid g_zn
  replace g_zm := hid g_zm
  replace g_zk := hid g_zk
  refine lv_aload_n hx hb dX12_byteOf_0 rfl (lv_at hl 0 rfl) ?_
  refine lv_iconst (v := 0) hx hb dX12_byteOf_1 (by decide) ?_
  refine va_put (D := (dC, dI)) (ci := 12) (v := .int 0) (ty := .int) (C := RX12) (T := TX12) (N := 40) hx hb hts in_X12 tyX12 tyX12_ok nmX12 hown hK hP hD hS 0 rfl rfl 25 (Nat.le_of_ble_eq_true rfl) (hts (.fieldLink RX12 85 "TextMenderModel" "thrown" "I") (List.mem_of_getElem? (i := 1) rfl)) (fun _ h9 => h9) rfl (tyX12_ok 25 (Nat.le_of_ble_eq_true rfl)) rfl rfl (Nat.le_of_ble_eq_true rfl) dX12_byteOf_2 (kW (wn := [(oM, .inr (12, [.ref mT, .int zt, .ref mS, .ref mX, .int zp, .int zf, .ref mL, .ref mB, .ref mD, .ref m1, .ref m2, .int zh, .ref mR, .int zr, .ref x1, .ref x2, .ref x3, .int zc, .ref mH, .int zy, .int za, .int zb, .int zs, .int zq, .int zw, .int 0, .ref mY, .int zn, .ref mE, .int zm, .int zl, .ref mW, .int zk, .ref mO, .int zd, .ref y1, .ref y2, .ref y3, .ref y4, .ref mZ])), (mY, .inl (cI, 2600, .inl eY)), (mB, .inl (cS, 131072, .inl eB)), (mS, .inl (cI, 21, .inl eS)), (mX, .inl (cI, 6300, .inl eX))]) rfl (fun H locs hPn hDn hSn => ?_))
  clear hP hD hS
  have hP := hPn
  have hD := hDn
  have hS := hSn
  clear hPn hDn hSn
  refine lv_aload_n hx hb dX12_byteOf_5 rfl (lv_at hl 0 rfl) ?_
  refine lv_iconst (v := (-1)) hx hb dX12_byteOf_6 (by decide) ?_
  refine va_put (D := (dC, dI)) (ci := 12) (v := .int (-1)) (ty := .int) (C := RX12) (T := TX12) (N := 40) hx hb hts in_X12 tyX12 tyX12_ok nmX12 hown hK hP hD hS 0 rfl rfl 24 (Nat.le_of_ble_eq_true rfl) (hts (.fieldLink RX12 55 "TextMenderModel" "where" "I") (List.mem_of_getElem? (i := 2) rfl)) (fun _ h9 => h9) rfl (tyX12_ok 24 (Nat.le_of_ble_eq_true rfl)) rfl rfl (Nat.le_of_ble_eq_true rfl) dX12_byteOf_7 (kW (wn := [(oM, .inr (12, [.ref mT, .int zt, .ref mS, .ref mX, .int zp, .int zf, .ref mL, .ref mB, .ref mD, .ref m1, .ref m2, .int zh, .ref mR, .int zr, .ref x1, .ref x2, .ref x3, .int zc, .ref mH, .int zy, .int za, .int zb, .int zs, .int zq, .int (-1), .int 0, .ref mY, .int zn, .ref mE, .int zm, .int zl, .ref mW, .int zk, .ref mO, .int zd, .ref y1, .ref y2, .ref y3, .ref y4, .ref mZ])), (mY, .inl (cI, 2600, .inl eY)), (mB, .inl (cS, 131072, .inl eB)), (mS, .inl (cI, 21, .inl eS)), (mX, .inl (cI, 6300, .inl eX))]) rfl (fun H locs hPn hDn hSn => ?_))
  clear hP hD hS
  have hP := hPn
  have hD := hDn
  have hS := hSn
  clear hPn hDn hSn
  refine lv_iload_n hx hb dX12_byteOf_10 rfl (lv_at hl 1 rfl) ?_
  refine kS_i (rest := []) hcf (m_X12_isCode l dC dI cI cS H.size cd ) kc_X12_isCode gX12_byteOf_X12_isCode rfl rfl ⟨Nat.le_of_ble_eq_true rfl, Nat.le_of_ble_eq_true rfl⟩ kX_t hK hP hD hS hA [] [0, 1, 2, 3, 4] rfl (by decide +kernel) rfl hl rfl (Nat.le_of_ble_eq_true rfl) dX12_byteOf_11 ⟨Nat.le_of_ble_eq_true rfl, Nat.le_of_ble_eq_true rfl⟩ (fun r_1 H locs hB hJ hSn => ?_)
  refine hB _ (fun hPD9 hf1_0 hf1_1 => ?_)
  clear hB
  obtain ⟨hPn, hDn⟩ := hJ _ hPD9.1 hPD9.2 [(oM, .inr (12, [.ref mT, .int zt, .ref mS, .ref mX, .int zp, .int zf, .ref mL, .ref mB, .ref mD, .ref m1, .ref m2, .int zh, .ref mR, .int zr, .ref x1, .ref x2, .ref x3, .int zc, .ref mH, .int zy, .int za, .int zb, .int zs, .int zq, .int (-1), .int 0, .ref mY, .int zn, .ref mE, .int zm, .int zl, .ref mW, .int zk, .ref mO, .int zd, .ref y1, .ref y2, .ref y3, .ref y4, .ref mZ])), (mY, .inl (cI, 2600, .inl eY)), (mB, .inl (cS, 131072, .inl eB)), (mS, .inl (cI, 21, .inl eS)), (mX, .inl (cI, 6300, .inl eX))] rfl
  clear hP hD hS hJ hPD9
  have hP := hPn
  have hD := hDn
  have hS := hSn
  clear hPn hDn hSn
  refine lv_if_ne (tgt := 19) hx hb dX12_byteOf_14 (by decide) (fun c_2 => ?_) (fun c_2 => ?_)
  · have tc_2 : ¬ r_1.toInt = 0 := v_ne c_2
    refine lv_aload_n hx hb dX12_byteOf_19 rfl (lv_at hl 0 rfl) ?_
    refine lv_iload_n hx hb dX12_byteOf_20 rfl (lv_at hl 1 rfl) ?_
    refine lv_aload_n hx hb dX12_byteOf_21 rfl (lv_at hl 0 rfl) ?_
    refine va_get (D := (dC, dI)) (ci := 12) (v := .ref mX) (C := RX12) (T := TX12) (N := 40) hx hb hts in_X12 hown hK hP 0 rfl rfl 3 (Nat.le_of_ble_eq_true rfl) (hts (.fieldLink RX12 16 "TextMenderModel" "texts" "[I") (List.mem_of_getElem? (i := 3) rfl)) (fun _ h9 => h9) rfl dX12_byteOf_22 ?_
    refine lv_aload_n hx hb dX12_byteOf_25 rfl (lv_at hl 0 rfl) ?_
    refine va_get (D := (dC, dI)) (ci := 12) (v := .ref mS) (C := RX12) (T := TX12) (N := 40) hx hb hts in_X12 hown hK hP 0 rfl rfl 2 (Nat.le_of_ble_eq_true rfl) (hts (.fieldLink RX12 13 "TextMenderModel" "sizes" "[I") (List.mem_of_getElem? (i := 4) rfl)) (fun _ h9 => h9) rfl dX12_byteOf_26 ?_
    refine lv_iconst (v := 0) hx hb dX12_byteOf_29 (by decide) ?_
    refine va_iald hx hb hK hP 3 0 rfl rfl (by unfold vp_in; decide) dX12_byteOf_30 ?_
    refine lv_topi (fun x_3 ex_3 => ?_)
    have tx_3 : 0 ≤ x_3.toInt ∧ x_3.toInt ≤ 300 := rg_at g_eS ex_3
    refine kV_i (rest := []) (q0 := 0) (ci := 12) hcf (f_X12_write l dC dI cI cS H.size oM mX mT mS mX mL mB mD m1 m2 mR x1 x2 x3 mH mY mE mW mO y1 y2 y3 y4 mZ 6300 zt zp zf zh zr zc zy za zb zs zq (-1) 0 zn zm zl zk zd eY eB eX cd x_3 (g_zt) (g_zp) (g_zf) (g_zh) (g_zr) (g_zc) (g_zy) (g_za) (g_zb) (g_zs) (g_zq) (g_zn) (g_zm) (g_zk) (g_eY) (g_eB) (g_eX) (by omega) (v_rr tx_3 (by decide) (by decide)) (by omega) (by omega)) kc_X12_write gX12_byteOf_X12_write rfl rfl rfl ⟨Nat.le_of_ble_eq_true rfl, Nat.le_of_ble_eq_true rfl⟩ kX_t hK hP hD hS hA [0, 1, 2, 4] [3] rfl (by decide +kernel) rfl rfl rfl hl rfl (Nat.le_of_ble_eq_true rfl) dX12_byteOf_31 ⟨Nat.le_of_ble_eq_true rfl, Nat.le_of_ble_eq_true rfl⟩ (fun r_4 H locs hB hJ hSn => ?_)
    refine hB _ (fun zn_4 eY_4 zl_4 hPD9 hf4_0 hf4_1 hf4_2 hf4_3 => ?_)
    clear hB
    obtain ⟨hPn, hDn⟩ := hJ _ hPD9.1 hPD9.2 [(mS, .inl (cI, 21, .inl eS)), (oM, .inr (12, [.ref mT, .int zt, .ref mS, .ref mX, .int zp, .int zf, .ref mL, .ref mB, .ref mD, .ref m1, .ref m2, .int zh, .ref mR, .int zr, .ref x1, .ref x2, .ref x3, .int zc, .ref mH, .int zy, .int za, .int zb, .int zs, .int zq, .int (-1), .int 0, .ref mY, .int zn_4, .ref mE, .int zm, .int zl_4, .ref mW, .int zk, .ref mO, .int zd, .ref y1, .ref y2, .ref y3, .ref y4, .ref mZ])), (mY, .inl (cI, 2600, .inl eY_4)), (mB, .inl (cS, 131072, .inl eB)), (mX, .inl (cI, 6300, .inl eX))] rfl
    clear hP hD hS hJ hPD9
    have hP := hPn
    have hD := hDn
    have hS := hSn
    clear hPn hDn hSn
    refine lv_if_ne (tgt := 47) hx hb dX12_byteOf_34 (by decide) (fun c_5 => ?_) (fun c_5 => ?_)
    · have tc_5 : ¬ r_4.toInt = 0 := v_ne c_5
      refine lv_iload_n hx hb dX12_byteOf_47 rfl (lv_at hl 2 rfl) ?_
      refine lv_if_lt (tgt := 68) hx hb dX12_byteOf_48 (by decide) (fun c_6 => ?_) (fun c_6 => ?_)
      · have tc_6 : i.toInt < 0 := v_lt c_6
        refine lv_iconst (v := (-1)) hx hb dX12_byteOf_68 (by decide) ?_
        exact kl_i (v := (-1)) hQQ hx hb hr hlocks hS dX12_byteOf_69 (fun PZ9 kZ9 => kZ9 0 (-1) zn_4 eY_4 zl_4 (kPD_sub hP hD [1, 2, 3, 0, 4] (by decide +kernel) rfl) (hf4_0) (hf4_1) (by first | exact Or.inr ⟨wr_nn (wr_s0 hf4_3 (by rw [ex_3]; rfl)) (by omega), rfl⟩ | exact Or.inl ⟨by unfold okd; omega, _, _, wr_WR (wr_s0 hf4_3 (by rw [ex_3]; rfl)) (by omega), Or.inr ⟨by omega, rfl⟩⟩))
      · have tc_6 : 0 ≤ i.toInt := v_nlt c_6
        refine lv_iload_n hx hb dX12_byteOf_51 rfl (lv_at hl 2 rfl) ?_
        refine lv_aload_n hx hb dX12_byteOf_52 rfl (lv_at hl 0 rfl) ?_
        refine va_get (D := (dC, dI)) (ci := 12) (v := .int zn_4) (C := RX12) (T := TX12) (N := 40) hx hb hts in_X12 hown hK hP 1 rfl rfl 27 (Nat.le_of_ble_eq_true rfl) (hts (.fieldLink RX12 91 "TextMenderModel" "byteMany" "I") (List.mem_of_getElem? (i := 6) rfl)) (fun _ h9 => h9) rfl dX12_byteOf_53 ?_
        refine lv_icmp_ge (tgt := 68) hx hb dX12_byteOf_56 (by decide) (fun c_7 => ?_) (fun c_7 => ?_)
        · have tc_7 : zn_4.toInt ≤ i.toInt := v_le c_7
          have rw7_0 := v_rng i
          refine lv_iconst (v := (-1)) hx hb dX12_byteOf_68 (by decide) ?_
          exact kl_i (v := (-1)) hQQ hx hb hr hlocks hS dX12_byteOf_69 (fun PZ9 kZ9 => kZ9 0 (-1) zn_4 eY_4 zl_4 (kPD_sub hP hD [1, 2, 3, 0, 4] (by decide +kernel) rfl) (hf4_0) (hf4_1) (by first | exact Or.inr ⟨wr_nn (wr_s0 hf4_3 (by rw [ex_3]; rfl)) (by omega), rfl⟩ | exact Or.inl ⟨by unfold okd; omega, _, _, wr_WR (wr_s0 hf4_3 (by rw [ex_3]; rfl)) (by omega), Or.inr ⟨by omega, rfl⟩⟩))
        · have tc_7 : i.toInt < zn_4.toInt := v_nle c_7
          have rw7_0 := v_rng i
          refine lv_aload_n hx hb dX12_byteOf_59 rfl (lv_at hl 0 rfl) ?_
          refine va_get (D := (dC, dI)) (ci := 12) (v := .ref mY) (C := RX12) (T := TX12) (N := 40) hx hb hts in_X12 hown hK hP 1 rfl rfl 26 (Nat.le_of_ble_eq_true rfl) (hts (.fieldLink RX12 58 "TextMenderModel" "bytes" "[I") (List.mem_of_getElem? (i := 7) rfl)) (fun _ h9 => h9) rfl dX12_byteOf_60 ?_
          refine lv_iload_n hx hb dX12_byteOf_63 rfl (lv_at hl 2 rfl) ?_
          refine va_iald hx hb hK hP 2 0 rfl rfl (v_in (by omega)) dX12_byteOf_64 ?_
          refine lv_topi (fun x_8 ex_8 => ?_)
          have tx_8 : 0 ≤ x_8.toInt ∧ x_8.toInt ≤ 255 := rg_at hf4_1 ex_8
          refine lv_goto (tgt := 69) hx hb dX12_byteOf_65 (by decide) ?_
          exact kl_i (v := x_8) hQQ hx hb hr hlocks hS dX12_byteOf_69 (fun PZ9 kZ9 => kZ9 0 (-1) zn_4 eY_4 zl_4 (kPD_sub hP hD [1, 2, 3, 0, 4] (by decide +kernel) rfl) (hf4_0) (hf4_1) (Or.inl ⟨by unfold okd; omega, _, _, wr_WR (wr_s0 hf4_3 (by rw [ex_3]; rfl)) (by omega), Or.inl ⟨by omega, by omega, ex_8⟩⟩))
    · have tc_5 : r_4.toInt = 0 := v_eq c_5
      refine lv_aload_n hx hb dX12_byteOf_37 rfl (lv_at hl 0 rfl) ?_
      refine lv_aload_n hx hb dX12_byteOf_38 rfl (lv_at hl 0 rfl) ?_
      refine va_get (D := (dC, dI)) (ci := 12) (v := .int zl_4) (C := RX12) (T := TX12) (N := 40) hx hb hts in_X12 hown hK hP 1 rfl rfl 30 (Nat.le_of_ble_eq_true rfl) (hts (.fieldLink RX12 102 "TextMenderModel" "faultAt" "I") (List.mem_of_getElem? (i := 5) rfl)) (fun _ h9 => h9) rfl dX12_byteOf_39 ?_
      refine va_put (D := (dC, dI)) (ci := 12) (v := .int zl_4) (ty := .int) (C := RX12) (T := TX12) (N := 40) hx hb hts in_X12 tyX12 tyX12_ok nmX12 hown hK hP hD hS 1 rfl rfl 24 (Nat.le_of_ble_eq_true rfl) (hts (.fieldLink RX12 55 "TextMenderModel" "where" "I") (List.mem_of_getElem? (i := 2) rfl)) (fun _ h9 => h9) rfl (tyX12_ok 24 (Nat.le_of_ble_eq_true rfl)) rfl rfl (Nat.le_of_ble_eq_true rfl) dX12_byteOf_42 (kW (wn := [(mS, .inl (cI, 21, .inl eS)), (oM, .inr (12, [.ref mT, .int zt, .ref mS, .ref mX, .int zp, .int zf, .ref mL, .ref mB, .ref mD, .ref m1, .ref m2, .int zh, .ref mR, .int zr, .ref x1, .ref x2, .ref x3, .int zc, .ref mH, .int zy, .int za, .int zb, .int zs, .int zq, .int zl_4, .int 0, .ref mY, .int zn_4, .ref mE, .int zm, .int zl_4, .ref mW, .int zk, .ref mO, .int zd, .ref y1, .ref y2, .ref y3, .ref y4, .ref mZ])), (mY, .inl (cI, 2600, .inl eY_4)), (mB, .inl (cS, 131072, .inl eB)), (mX, .inl (cI, 6300, .inl eX))]) rfl (fun H locs hPn hDn hSn => ?_))
      clear hP hD hS
      have hP := hPn
      have hD := hDn
      have hS := hSn
      clear hPn hDn hSn
      refine lv_iconst (v := (-1)) hx hb dX12_byteOf_45 (by decide) ?_
      exact kl_i (v := (-1)) hQQ hx hb hr hlocks hS dX12_byteOf_46 (fun PZ9 kZ9 => kZ9 0 zl_4 zn_4 eY_4 zl_4 (kPD_sub hP hD [1, 2, 3, 0, 4] (by decide +kernel) rfl) (hf4_0) (hf4_1) (by first | exact Or.inr ⟨wr_nn (wr_s0 hf4_3 (by rw [ex_3]; rfl)) (by omega), rfl⟩ | exact Or.inl ⟨by unfold okd; omega, _, _, wr_WR (wr_s0 hf4_3 (by rw [ex_3]; rfl)) (by omega), Or.inr ⟨by omega, rfl⟩⟩))
  · have tc_2 : r_1.toInt = 0 := v_eq c_2
    refine lv_iconst (v := (-1)) hx hb dX12_byteOf_17 (by decide) ?_
    exact kl_i (v := (-1)) hQQ hx hb hr hlocks hS dX12_byteOf_18 (fun PZ9 kZ9 => kZ9 0 (-1) zn eY zl (⟨hP, hD⟩) (g_zn) (g_eY) (Or.inr ⟨fun m g w9 => by have w8 := w9.1; unfold okd at w8; omega, rfl⟩))

theorem cT_s1 {T : Int32 → Int32 → Int32} {f : Nat → Int32} {r s x : Int} (h : r = cT T x f) (e : x = s) : r = cT T s f := by rw [← e]; exact h

set_option maxHeartbeats 40000000 in
set_option maxRecDepth 100000 in
theorem f_X12_worth (l : Launch) (dC : Nat → ClassId) (dI : Nat → Nat → Nat) (cI cS : ClassId) (sz : Nat) (oM : Nat) (mT : Nat) (mS : Nat) (mX : Nat) (mL : Nat) (mB : Nat) (mD : Nat) (m1 : Nat) (m2 : Nat) (mR : Nat) (x1 : Nat) (x2 : Nat) (x3 : Nat) (mH : Nat) (mY : Nat) (mE : Nat) (mW : Nat) (mO : Nat) (y1 : Nat) (y2 : Nat) (y3 : Nat) (y4 : Nat) (mZ : Nat) (zt : Int32) (zp : Int32) (zf : Int32) (zh : Int32) (zr : Int32) (zc : Int32) (zy : Int32) (za : Int32) (zb : Int32) (zs : Int32) (zq : Int32) (zw : Int32) (ze : Int32) (zn : Int32) (zm : Int32) (zl : Int32) (zk : Int32) (zd : Int32) (ec1 : Nat → Int32) (ec2 : Nat → Int32) (ec3 : Nat → Int32) (eS : Nat → Int32) (eX : Nat → Int32) (g_zt : 0 ≤ zt.toInt ∧ zt.toInt ≤ 900) (g_zp : 0 ≤ zp.toInt ∧ zp.toInt ≤ 20) (g_zf : 0 ≤ zf.toInt ∧ zf.toInt ≤ 19) (g_zh : 0 ≤ zh.toInt ∧ zh.toInt ≤ 6) (g_zr : 0 ≤ zr.toInt ∧ zr.toInt ≤ 258) (g_zc : 0 ≤ zc.toInt ∧ zc.toInt ≤ 300) (g_zy : 0 ≤ zy.toInt ∧ zy.toInt ≤ 65536) (g_za : 0 ≤ za.toInt ∧ za.toInt ≤ 5) (g_zb : 0 ≤ zb.toInt ∧ zb.toInt ≤ 5) (g_zs : 0 ≤ zs.toInt ∧ zs.toInt ≤ 2000000) (g_zq : -1 ≤ zq.toInt ∧ zq.toInt ≤ 2000000) (g_zn : 0 ≤ zn.toInt ∧ zn.toInt ≤ 2600) (g_zm : 0 ≤ zm.toInt ∧ zm.toInt ≤ 2600) (g_zk : 0 ≤ zk.toInt ∧ zk.toInt ≤ 300) (g_eS : rg 0 300 eS) (g_eX : rg 0 65535 eX) (hV : rg 0 200 ec3) (hzs : zs.toInt ≤ 1000000) : kMi l yX12_worth wsX12_worth ({ frames := 3, cells := 0, slots := 0, locals := 70 } : Room) [.ref oM] sz (dC, dI) vwCl [(cI, .int), (cS, .short)] [(oM, .inr (12, [.ref mT, .int zt, .ref mS, .ref mX, .int zp, .int zf, .ref mL, .ref mB, .ref mD, .ref m1, .ref m2, .int zh, .ref mR, .int zr, .ref x1, .ref x2, .ref x3, .int zc, .ref mH, .int zy, .int za, .int zb, .int zs, .int zq, .int zw, .int ze, .ref mY, .int zn, .ref mE, .int zm, .int zl, .ref mW, .int zk, .ref mO, .int zd, .ref y1, .ref y2, .ref y3, .ref y4, .ref mZ])), (x1, .inl (cI, 300, .inl ec1)), (x2, .inl (cI, 300, .inl ec2)), (x3, .inl (cI, 300, .inl ec3)), (mS, .inl (cI, 21, .inl eS)), (mX, .inl (cI, 6300, .inl eX))] (fun _ => True) 0 0 (fun (A : Nat → Prop) (r : Int32) (hh9 : Heap) => ∀ PZ9 : Prop, (∀ (ze' : Int32), kPD (dC, dI) vwCl A [(oM, .inr (12, [.ref mT, .int zt, .ref mS, .ref mX, .int zp, .int zf, .ref mL, .ref mB, .ref mD, .ref m1, .ref m2, .int zh, .ref mR, .int zr, .ref x1, .ref x2, .ref x3, .int zc, .ref mH, .int zy, .int za, .int zb, .int zs, .int zq, .int zw, .int ze', .ref mY, .int zn, .ref mE, .int zm, .int zl, .ref mW, .int zk, .ref mO, .int zd, .ref y1, .ref y2, .ref y3, .ref y4, .ref mZ])), (x1, .inl (cI, 300, .inl ec1)), (x2, .inl (cI, 300, .inl ec2)), (x3, .inl (cI, 300, .inl ec3)), (mS, .inl (cI, 21, .inl eS)), (mX, .inl (cI, 6300, .inl eX))] hh9 → (r.toInt = cT (tcR zc.toInt ec1 ec2 ec3) (eS 0).toInt eX) → PZ9) → PZ9) := by
  refine kMi_of (cc := cX12_worth) (maxL := 1) (ret := (some .int)) (lv := [(0, .ref oM)]) (by decide +kernel) rfl rfl (Nat.le_of_ble_eq_true rfl) ?_
  intro p e s m below meth c A QQ ls hx hb hr hts hml hown hlocks hA hQQ hK hX hP hD hS hl
  have hown : s.vm.findClass RX12 = some m.cls := hown
  have hcf := k_cf hx hb hml hown hts
  have in_X12 : ∀ w ∈ wsX120, w ∈ wsX12_worth := fun _ h => List.mem_cons_of_mem _ (List.mem_append_left _ (List.mem_append_right _ (h)))
  replace g_zt := hid g_zt
  replace g_zp := hid g_zp
  replace g_zf := hid g_zf
  replace g_zh := hid g_zh
  replace g_zr := hid g_zr
  replace g_zy := hid g_zy
  replace g_za := hid g_za
  replace g_zb := hid g_zb
  replace g_zs := hid g_zs
  replace g_zq := hid g_zq
  replace g_zn := hid g_zn
  replace g_zm := hid g_zm
  replace g_zk := hid g_zk
  have gS0 := g_eS 0
  refine lv_aload_n hx hb dX12_worth_0 rfl (lv_at hl 0 rfl) ?_
  refine lv_iconst (v := 0) hx hb dX12_worth_1 (by decide) ?_
  refine va_put (D := (dC, dI)) (ci := 12) (v := .int 0) (ty := .int) (C := RX12) (T := TX12) (N := 40) hx hb hts in_X12 tyX12 tyX12_ok nmX12 hown hK hP hD hS 0 rfl rfl 25 (Nat.le_of_ble_eq_true rfl) (hts (.fieldLink RX12 85 "TextMenderModel" "thrown" "I") (List.mem_of_getElem? (i := 1) rfl)) (fun _ h9 => h9) rfl (tyX12_ok 25 (Nat.le_of_ble_eq_true rfl)) rfl rfl (Nat.le_of_ble_eq_true rfl) dX12_worth_2 (kW (wn := [(oM, .inr (12, [.ref mT, .int zt, .ref mS, .ref mX, .int zp, .int zf, .ref mL, .ref mB, .ref mD, .ref m1, .ref m2, .int zh, .ref mR, .int zr, .ref x1, .ref x2, .ref x3, .int zc, .ref mH, .int zy, .int za, .int zb, .int zs, .int zq, .int zw, .int 0, .ref mY, .int zn, .ref mE, .int zm, .int zl, .ref mW, .int zk, .ref mO, .int zd, .ref y1, .ref y2, .ref y3, .ref y4, .ref mZ])), (x1, .inl (cI, 300, .inl ec1)), (x2, .inl (cI, 300, .inl ec2)), (x3, .inl (cI, 300, .inl ec3)), (mS, .inl (cI, 21, .inl eS)), (mX, .inl (cI, 6300, .inl eX))]) rfl (fun H locs hPn hDn hSn => ?_))
  clear hP hD hS
  have hP := hPn
  have hD := hDn
  have hS := hSn
  clear hPn hDn hSn
  refine lv_aload_n hx hb dX12_worth_5 rfl (lv_at hl 0 rfl) ?_
  refine lv_aload_n hx hb dX12_worth_6 rfl (lv_at hl 0 rfl) ?_
  refine va_get (D := (dC, dI)) (ci := 12) (v := .ref mX) (C := RX12) (T := TX12) (N := 40) hx hb hts in_X12 hown hK hP 0 rfl rfl 3 (Nat.le_of_ble_eq_true rfl) (hts (.fieldLink RX12 16 "TextMenderModel" "texts" "[I") (List.mem_of_getElem? (i := 2) rfl)) (fun _ h9 => h9) rfl dX12_worth_7 ?_
  refine lv_iconst (v := 0) hx hb dX12_worth_10 (by decide) ?_
  refine lv_aload_n hx hb dX12_worth_11 rfl (lv_at hl 0 rfl) ?_
  refine va_get (D := (dC, dI)) (ci := 12) (v := .ref mS) (C := RX12) (T := TX12) (N := 40) hx hb hts in_X12 hown hK hP 0 rfl rfl 2 (Nat.le_of_ble_eq_true rfl) (hts (.fieldLink RX12 13 "TextMenderModel" "sizes" "[I") (List.mem_of_getElem? (i := 3) rfl)) (fun _ h9 => h9) rfl dX12_worth_12 ?_
  refine lv_iconst (v := 0) hx hb dX12_worth_15 (by decide) ?_
  refine va_iald hx hb hK hP 4 0 rfl rfl (by unfold vp_in; decide) dX12_worth_16 ?_
  refine lv_topi (fun x_1 ex_1 => ?_)
  have tx_1 : 0 ≤ x_1.toInt ∧ x_1.toInt ≤ 300 := rg_at g_eS ex_1
  refine kV_i (rest := []) (q0 := 0) (ci := 12) hcf (f_X12_costOf_ l dC dI cI cS H.size oM mX mT mS mX mL mB mD m1 m2 mR x1 x2 x3 mH mY mE mW mO y1 y2 y3 y4 mZ 6300 zt zp zf zh zr zc zy za zb zs zq zw 0 zn zm zl zk zd ec1 ec2 ec3 eX 0 x_1 (g_zt) (g_zp) (g_zf) (g_zh) (g_zr) (g_zc) (g_zy) (g_za) (g_zb) (g_zs) (g_zq) (g_zn) (g_zm) (g_zk) (by decide) (v_rr tx_1 (by decide) (by decide)) (by omega) (by omega) (hV) (prg_of g_eX)) kc_X12_costOf_ gX12_worth_X12_costOf_ rfl rfl rfl ⟨Nat.le_of_ble_eq_true rfl, Nat.le_of_ble_eq_true rfl⟩ kX_t hK hP hD hS hA (posT mk_171 0) (posF mk_171 0) (kC_of mk_171 rfl rfl) (by decide +kernel) rfl rfl rfl hl rfl (Nat.le_of_ble_eq_true rfl) dX12_worth_17 ⟨Nat.le_of_ble_eq_true rfl, Nat.le_of_ble_eq_true rfl⟩ (fun r_2 H locs hB hJ hSn => ?_)
  refine hB _ (fun hPD9 hf2_0 hf2_1 => ?_)
  clear hB
  obtain ⟨hPn, hDn⟩ := kJi (m := mk_171) hJ rfl hPD9.1 hPD9.2 (wn := [(oM, .inr (12, [.ref mT, .int zt, .ref mS, .ref mX, .int zp, .int zf, .ref mL, .ref mB, .ref mD, .ref m1, .ref m2, .int zh, .ref mR, .int zr, .ref x1, .ref x2, .ref x3, .int zc, .ref mH, .int zy, .int za, .int zb, .int zs, .int zq, .int zw, .int 0, .ref mY, .int zn, .ref mE, .int zm, .int zl, .ref mW, .int zk, .ref mO, .int zd, .ref y1, .ref y2, .ref y3, .ref y4, .ref mZ])), (x1, .inl (cI, 300, .inl ec1)), (x2, .inl (cI, 300, .inl ec2)), (x3, .inl (cI, 300, .inl ec3)), (mS, .inl (cI, 21, .inl eS)), (mX, .inl (cI, 6300, .inl eX))]) rfl
  clear hP hD hS hJ hPD9
  have hP := hPn
  have hD := hDn
  have hS := hSn
  clear hPn hDn hSn
  exact kl_i (v := r_2) hQQ hx hb hr hlocks hS dX12_worth_20 (fun PZ9 kZ9 => kZ9 0 (⟨hP, hD⟩) (cT_s1 hf2_1 (by rw [ex_1]; rfl)))

end

/-! 5w.law -/
section
/-! what the law carries: class and reference alike -/
theorem TX_n {l : Int32} {f eS eX : Nat → Int32} (h : TXR l f eS eX) : l.toInt = (eS 0).toInt := by rw [h.1]
theorem TX_e {l : Int32} {f eS eX : Nat → Int32} (h : TXR l f eS eX) : ∀ j : Nat, (j : Int) < l.toInt → f j = eX j := fun j hj => (h.2 j hj).1
theorem TX_p {l : Int32} {f eS eX : Nat → Int32} (h : TXR l f eS eX) : prg l.toInt 0 65535 f := fun j hj => ⟨(h.2 j hj).2.1, (h.2 j hj).2.2.1⟩
theorem TX_q {l : Int32} {f eS eX : Nat → Int32} (h : TXR l f eS eX) : prg (eS 0).toInt 0 65535 eX := fun j hj => by
  have e : (j : Int) < l.toInt := by rw [h.1]; exact hj
  rw [← TX_e h j e]; exact TX_p h j e
theorem TX_l {l : Int32} {f eS eX : Nat → Int32} (h : TXR l f eS eX) : ∀ j : Nat, (j : Int) < (eS 0).toInt → isLz (eX j) := fun j hj => by
  have e : (j : Int) < l.toInt := by rw [h.1]; exact hj
  rw [← TX_e h j e]; exact (h.2 j e).2
theorem TX_z {l : Int32} {f eS eX : Nat → Int32} (h : TXR l f eS eX) (h0 : 0 ≤ l.toInt) : 0 ≤ (eS 0).toInt := by rw [← h.1]; exact h0
theorem TX_0 {f eS eX : Nat → Int32} (h : eS 0 = 0) : TXR 0 f eS eX := ⟨h.symm, fun j hj => by
  have e : (0 : Int32).toInt = 0 := rfl
  omega⟩
/-- what choice() tells -/
def RVC (ke zy : Int32) (W4 W5 W6 W7 eH : Nat → Int32) : Prop := 0 ≤ zy.toInt ∧ ke.toInt = (m200 zy.toNatClampNeg : Int) ∧ ∀ i : Nat, (i : Int) < ke.toInt → ∀ k, k < 4 → CA W4 W5 W6 W7 i k = RA4 eH i k
def RFr (fsh zq zs : Int32) : Prop := (fsh.toInt = 1 ∧ zq.toInt = zs.toInt) ∨ (fsh.toInt = 0 ∧ zq.toInt < zs.toInt)
def RFx (fsh wi ri za zb : Int32) : Prop := fsh.toInt = 1 → wi = za ∧ ri = zb
def DFr (fsh fsh' zs zs' : Int32) : Prop := (fsh' = fsh ∧ zs' = zs) ∨ (fsh' = 0 ∧ zs'.toInt = zs.toInt + 1)
theorem RV_i {ke zy : Int32} {W4 W5 W6 W7 eH : Nat → Int32} (h : RVC ke zy W4 W5 W6 W7 eH) (x : Int) : x < ke.toInt ↔ (x < zy.toInt ∧ x < 200) := by
  obtain ⟨h0, h1, _⟩ := h
  have c := v_clamp h0
  rw [m2_v] at h1
  by_cases w : (zy.toNatClampNeg : Int) < 200
  · rw [if_pos w] at h1; omega
  · rw [if_neg w] at h1; omega
theorem fr_d {fsh fsh' zq zs zs' : Int32} (h : RFr fsh zq zs) (d : DFr fsh fsh' zs zs') : RFr fsh' zq zs' := by
  rcases d with ⟨e1, e2⟩ | ⟨e1, e2⟩
  · rw [e1, e2]; exact h
  · have z : (0 : Int32).toInt = 0 := rfl
    refine Or.inr ⟨by rw [e1]; rfl, ?_⟩
    rcases h with h | h <;> omega
theorem fx_d {fsh fsh' zs zs' wi ri za zb : Int32} (h : RFx fsh wi ri za zb) (d : DFr fsh fsh' zs zs') : RFx fsh' wi ri za zb := by
  rcases d with ⟨e1, e2⟩ | ⟨e1, e2⟩
  · rw [e1]; exact h
  · intro z
    rw [e1] at z
    exact absurd z (by decide)
theorem d_fs {no : Int} {r q fsh fsh' zs zs' : Int32} (h1 : F_fs no r fsh fsh') (h2 : F_zs no q zs zs') (e : r = q) : DFr fsh fsh' zs zs' := by
  subst e
  rcases h1 with ⟨a, b⟩ | ⟨a, b⟩ <;> rcases h2 with ⟨c, d⟩ | ⟨c, d⟩
  · exact Or.inl ⟨b, d⟩
  · exact absurd a c
  · exact absurd c a
  · exact Or.inr ⟨b, d⟩
theorem d_0 {fsh fsh' zs zs' : Int32} (h1 : fsh' = 0) (h2 : zs'.toInt = zs.toInt + 1) : DFr fsh fsh' zs zs' := Or.inr ⟨h1, h2⟩
theorem zs_1 {no : Int} {q zs zs' : Int32} (h : F_zs no q zs zs') (hq : ¬ q.toInt = no) : zs'.toInt = zs.toInt + 1 := by
  rcases h with ⟨a, _⟩ | ⟨_, b⟩
  · exact absurd a hq
  · exact b
theorem zs_0 {no : Int} {q zs zs' fsh : Int32} (h : F_zs no q zs zs') (hq : q.toInt = no) : DFr fsh fsh zs zs' := by
  rcases h with ⟨_, b⟩ | ⟨a, _⟩
  · exact Or.inl ⟨rfl, b⟩
  · exact absurd hq a
theorem d_sp {P Q : Prop} {fsh fsh' zs zs' : Int32} (h1 : F_fsP P fsh fsh') (h2 : F_zsP Q zs zs') (e : P ↔ Q) : DFr fsh fsh' zs zs' := by
  rcases h1 with ⟨a, b⟩ | ⟨a, b⟩ <;> rcases h2 with ⟨c, d⟩ | ⟨c, d⟩
  · exact Or.inr ⟨b, d⟩
  · exact absurd (e.mp a) c
  · exact absurd (e.mpr c) a
  · exact Or.inl ⟨b, d⟩
theorem sp_iff {t : Nat} {l cd fr n le sp : Int32} {f1 f2 f3 eL eB eD : Nat → Int32} (ht : t ≤ 1) (hcd : cd.toInt = 4 + t) (h : TR t l f1 f2 f3 eL eB eD) : CT fr n le sp (fun k => f1 k = -1) (nT f2 f3) ↔ ∃ t : Nat, cd.toInt = 4 + t ∧ t ≤ 1 ∧ CT fr n le sp (pL t eL) (pB t eB) := by
  constructor
  · exact fun w => ⟨t, hcd, ht, (TR_CT h).mp w⟩
  · rintro ⟨t', a1, a2, a3⟩
    have e : t' = t := by omega
    subst e
    exact (TR_CT h).mpr a3
theorem sp_no {fsh zs zs' cd fr n le sp : Int32} {eL eB : Nat → Int32} (h4 : ¬ cd.toInt = 4) (h5 : ¬ cd.toInt = 5) (h : F_zsP (∃ t : Nat, cd.toInt = 4 + t ∧ t ≤ 1 ∧ CT fr n le sp (pL t eL) (pB t eB)) zs zs') : DFr fsh fsh zs zs' := by
  rcases h with ⟨⟨t, a1, a2, _⟩, _⟩ | ⟨_, b⟩
  · omega
  · exact Or.inl ⟨rfl, b⟩
theorem frs_up {fsh zq zs zs' zy za zb : Int32} {eH eL f : Nat → Int32} {Bf : Int32 → Int32 → Int32} {n : Nat} (h : frsR zq zs zy za zb eH eL f Bf n) (hr : RFr fsh zq zs) (hz : zs.toInt ≤ zs'.toInt) : frsR zq zs' zy za zb eH eL f Bf n := by
  intro e
  refine h ?_
  rcases hr with hr | hr <;> omega
theorem frs_no {fsh zq zs zs' zy za zb : Int32} {eH eL f : Nat → Int32} {Bf : Int32 → Int32 → Int32} {n : Nat} (hr : RFr fsh zq zs) (hz : zs'.toInt = zs.toInt + 1) : frsR zq zs' zy za zb eH eL f Bf n := by
  intro e
  rcases hr with hr | hr <;> omega
theorem frs_st {fsh zq zs zs' zy za zb : Int32} {eH eL eX eX' eS eS' : Nat → Int32} {Bf : Int32 → Int32 → Int32} (h : frsR zq zs zy za zb eH eL eX Bf (eS 0).toInt.toNat) (hr : RFr fsh zq zs) (hs : F_st zs zs' eX eX' eS eS') : frsR zq zs' zy za zb eH eL eX' Bf (eS' 0).toInt.toNat := by
  rcases hs with e | ⟨e1, e2, e3⟩
  · exact frs_no hr e
  · rw [e1, e2, e3]; exact h
theorem frs_sp {fsh zq zs zs' zy za zb q cd fr n le sp : Int32} {eH eL gL eB gB eD gD f : Nat → Int32} {N : Nat} (h : frsR zq zs zy za zb eH eL f (fun c9 => Br c9 eB) N) (hr : RFr fsh zq zs) (hR : F_spanR q cd fr n le sp eL gL eB gB eD gD) (hz : F_zsP (∃ t : Nat, cd.toInt = 4 + t ∧ t ≤ 1 ∧ CT fr n le sp (pL t eL) (pB t eB)) zs zs') : frsR zq zs' zy za zb eH gL f (fun c9 => Br c9 gB) N := by
  rcases hz with ⟨_, e⟩ | ⟨w, e⟩
  · exact frs_no hr e
  · rcases hR with ⟨t, d1, d2, d3, _⟩ | ⟨_, d2, d3, _⟩
    · exact absurd ⟨t, d1, d2, d3⟩ w
    · rw [d2, d3, e]; exact h
theorem frs_bl {fsh zq zs zs' zy za zb q cd : Int32} {eH eL gL eB gB eD gD f : Nat → Int32} {N : Nat} (h : frsR zq zs zy za zb eH eL f (fun c9 => Br c9 eB) N) (hr : RFr fsh zq zs) (hR : F_blankR cd eL gL eB gB eD gD) (hz : F_zs 0 q zs zs') (hq : (q.toInt = 1 ∧ (cd.toInt = 4 ∨ cd.toInt = 5)) ∨ (q.toInt = 0 ∧ ¬ cd.toInt = 4 ∧ ¬ cd.toInt = 5)) : frsR zq zs' zy za zb eH gL f (fun c9 => Br c9 gB) N := by
  rcases hz with ⟨w, e⟩ | ⟨_, e⟩
  · rcases hR with ⟨t, d1, d2, _⟩ | ⟨_, _, d3, d4, _⟩
    · omega
    · rw [d3, d4, e]; exact h
  · exact frs_no hr e
section EREL
variable {l4 l5 : Int32} {f41 f42 f43 f51 f52 f53 eL eB eD : Nat → Int32}
theorem okB_cl (R4 : TR 0 l4 f41 f42 f43 eL eB eD) (R5 : TR 1 l5 f51 f52 f53 eL eB eD) (gB : rg (-1) 255 eB) (cd : Int32) : okB (Bc cd f42 f43 f52 f53) := by
  intro x h1 h2
  unfold Bc
  split
  · rw [TR_bf R4 h1 h2]; exact gB _
  · rw [TR_bf R5 h1 h2]; exact gB _
theorem UR_lz {e1 e2 : Nat → Int32} (hz : LZ eL) (gB : rg (-1) 255 eB) (z : Nat) : ∀ (h n c : Nat) (f f' : Nat → Int32), h < z → prg n 0 65535 f → UR e1 e2 eL eB h n f c f' → ∀ i, i < c → isLz (f' i) := fun h n c f f' _ hf hu => (HM_lz hz hf (okB_r gB) hu).2
theorem e_md {no : Int} {r q fsh fsh' zs zs' gn gn' lG lG' lL lL' zp zp' zf zf' lH zh zc n gi : Int32} {fG1 fG1' fG2 fG2' fL fL' eS eS' eX eX' fH1 fH2 e1 e2 fK1 fK2 ec1 ec2 ec3 R1 R2 R3 : Nat → Int32} (R4 : TR 0 l4 f41 f42 f43 eL eB eD) (R5 : TR 1 l5 f51 f52 f53 eL eB eD) (hz : LZ eL) (gB : rg (-1) 255 eB) (gL : rg (-1) 65535 eL) (hH : lH.toInt = zh.toInt) (h0H : 0 ≤ lH.toInt) (hHe : eqP lH.toInt fH1 e1 fH2 e2) (hCV : CVR zc.toInt fK1 fK2 ec1 ec2 ec3) (hT : TXR lL fL eS eX) (hC : CHR gn lG zp zf fG1 fG2 eS eX)
    (hg : (¬ (1 ≤ n.toInt ∧ n.toInt ≤ 3 ∧ 1 ≤ gi.toInt ∧ gi.toInt ≤ 100000)) ∨ rGE (UC fH1 fH2 f41 f42 f43 f51 f52 f53) (tcC fK1 fK2) lH.toNatClampNeg lL.toInt.toNat fL n.toInt R1 R2 R3)
    (h : OC no r fsh fsh' gn gn' lG lG' lL lL' fG1 fG1' fG2 fG2' fL fL' (mdP (UC fH1 fH2 f41 f42 f43 f51 f52 f53) (tcC fK1 fK2) lH.toNatClampNeg lL.toInt.toNat fL n.toInt gi.toInt R1))
    (h' : ∀ R1 R2 R3 : Nat → Int32, (1 ≤ n.toInt ∧ n.toInt ≤ 3 ∧ 1 ≤ gi.toInt ∧ gi.toInt ≤ 100000 → rGE (UR e1 e2 eL eB) (tcR zc.toInt ec1 ec2 ec3) zh.toNatClampNeg (eS 0).toInt.toNat eX n.toInt R1 R2 R3) → OR no q zs zs' zp zp' zf zf' eS eS' eX eX' (mdP (UR e1 e2 eL eB) (tcR zc.toInt ec1 ec2 ec3) zh.toNatClampNeg (eS 0).toInt.toNat eX n.toInt gi.toInt R1))
    (hl0 : 0 ≤ lL.toInt) (hl3 : lL.toInt ≤ 300) (hgn : 0 ≤ gn.toInt ∧ gn.toInt ≤ 19) (hzp : 0 ≤ zp.toInt ∧ zp.toInt ≤ 20) (hzf : 0 ≤ zf.toInt ∧ zf.toInt ≤ 19) (h2 : rg 0 300 fG2) : r = q ∧ TXR lL' fL' eS' eX' ∧ CHR gn' lG' zp' zf' fG1' fG2' eS' eX' ∧ DFr fsh fsh' zs zs' := by
  have eH : lH = zh := v_inj hH
  subst eH
  have cH := v_clamp h0H
  have eN : (eS 0).toInt.toNat = lL.toInt.toNat := by rw [hT.1]
  have hf : prg (lL.toInt.toNat : Nat) 0 65535 fL := fun j hj => TX_p hT j (by omega)
  have hf2 : prg (lL.toInt.toNat : Nat) 0 65535 eX := fun j hj => TX_q hT j (by rw [← TX_n hT]; omega)
  have hfe : ∀ i, i < lL.toInt.toNat → fL i = eX i := fun i hi => TX_e hT i (by omega)
  have hU := okU_C (H1 := fH1) (H2 := fH2) (okB_cl R4 R5 gB) (TR_r R4 gL) (TR_r R5 gL)
  have hV := okU_R (e1 := e1) (e2 := e2) gB gL
  have he : ∀ h, h < lH.toNatClampNeg → ∀ (n c : Nat) (f f' : Nat → Int32), prg n 0 65535 f → (UC fH1 fH2 f41 f42 f43 f51 f52 f53 h n f c f' ↔ UR e1 e2 eL eB h n f c f') := fun h hh n c f f' hp => UCR R4 R5 gB (hHe h (by omega)).1 (hHe h (by omega)).2 hp
  have w := h' R1 R2 R3 (fun g => by
    rw [eN]
    exact ge_iff hU hV (by omega) hf hfe he hCV (hg.resolve_left (fun z => z g)))
  rw [eN] at w
  exact chg_rel hT hC h w (md_iff hU hV (by omega) hf hfe he hCV) (md_ok hV (by omega) hf2 (UR_lz hz gB _)) hl0 hl3 hgn hzp hzf h2
theorem e_pt {no : Int} {r q fsh fsh' zs zs' gn gn' lG lG' lL lL' zp zp' zf zf' lH zh zc : Int32} {pe : Int} {fG1 fG1' fG2 fG2' fL fL' eS eS' eX eX' fH1 fH2 e1 e2 fK1 fK2 ec1 ec2 ec3 : Nat → Int32} (R4 : TR 0 l4 f41 f42 f43 eL eB eD) (R5 : TR 1 l5 f51 f52 f53 eL eB eD) (hz : LZ eL) (gB : rg (-1) 255 eB) (gL : rg (-1) 65535 eL) (hH : lH.toInt = zh.toInt) (h0H : 0 ≤ lH.toInt) (hHe : eqP lH.toInt fH1 e1 fH2 e2) (hCV : CVR zc.toInt fK1 fK2 ec1 ec2 ec3) (hT : TXR lL fL eS eX) (hC : CHR gn lG zp zf fG1 fG2 eS eX)
    (h : OC no r fsh fsh' gn gn' lG lG' lL lL' fG1 fG1' fG2 fG2' fL fL' (ptP (UC fH1 fH2 f41 f42 f43 f51 f52 f53) (tcC fK1 fK2) lH.toNatClampNeg lL.toNatClampNeg fL pe))
    (h' : OR no q zs zs' zp zp' zf zf' eS eS' eX eX' (ptP (UR e1 e2 eL eB) (tcR zc.toInt ec1 ec2 ec3) zh.toNatClampNeg (eS 0).toInt.toNat eX pe))
    (hl0 : 0 ≤ lL.toInt) (hl3 : lL.toInt ≤ 300) (hgn : 0 ≤ gn.toInt ∧ gn.toInt ≤ 19) (hzp : 0 ≤ zp.toInt ∧ zp.toInt ≤ 20) (hzf : 0 ≤ zf.toInt ∧ zf.toInt ≤ 19) (h2 : rg 0 300 fG2) : r = q ∧ TXR lL' fL' eS' eX' ∧ CHR gn' lG' zp' zf' fG1' fG2' eS' eX' ∧ DFr fsh fsh' zs zs' := by
  have eH : lH = zh := v_inj hH
  subst eH
  have cH := v_clamp h0H
  have cL := v_clamp hl0
  have eN : (eS 0).toInt.toNat = lL.toNatClampNeg := by rw [← hT.1]; omega
  have hf : prg (lL.toNatClampNeg : Nat) 0 65535 fL := fun j hj => TX_p hT j (by omega)
  have hf2 : prg (lL.toNatClampNeg : Nat) 0 65535 eX := fun j hj => TX_q hT j (by rw [← TX_n hT]; omega)
  have hl2 : ∀ i, i < lL.toNatClampNeg → isLz (eX i) := fun i hi => TX_l hT i (by rw [← TX_n hT]; omega)
  have hfe : ∀ i, i < lL.toNatClampNeg → fL i = eX i := fun i hi => TX_e hT i (by omega)
  have hU := okU_C (H1 := fH1) (H2 := fH2) (okB_cl R4 R5 gB) (TR_r R4 gL) (TR_r R5 gL)
  have hV := okU_R (e1 := e1) (e2 := e2) gB gL
  have he : ∀ h, h < lH.toNatClampNeg → ∀ (n c : Nat) (f f' : Nat → Int32), prg n 0 65535 f → (UC fH1 fH2 f41 f42 f43 f51 f52 f53 h n f c f' ↔ UR e1 e2 eL eB h n f c f') := fun h hh n c f f' hp => UCR R4 R5 gB (hHe h (by omega)).1 (hHe h (by omega)).2 hp
  rw [eN] at h'
  exact chg_rel hT hC h h' (pt_iff hU hf hfe hV he hCV) (pt_ok hV hf2 hl2 (UR_lz hz gB _)) hl0 hl3 hgn hzp hzf h2
/-- a fresh choice, on both sides -/
theorem frs_C {fsh ke wi ri zq zs zy za zb lL : Int32} {W4 W5 W6 W7 eH fL eS eX : Nat → Int32} (R4 : TR 0 l4 f41 f42 f43 eL eB eD) (R5 : TR 1 l5 f51 f52 f53 eL eB eD) (gB : rg (-1) 255 eB) (hT : TXR lL fL eS eX) (hv : RVC ke zy W4 W5 W6 W7 eH) (hr : RFr fsh zq zs) (hx : RFx fsh wi ri za zb) (h : frsR zq zs zy za zb eH eL eX (fun c9 => Br c9 eB) (eS 0).toInt.toNat) : frsC fsh ke wi ri W4 W5 f41 f51 fL (fun c9 => Bc c9 f42 f43 f52 f53) lL.toInt.toNat := by
  intro e
  have eq : zq.toInt = zs.toInt := by rcases hr with hr | hr <;> omega
  obtain ⟨x1, x2⟩ := hx e
  subst x1
  subst x2
  obtain ⟨a1, a2, a3⟩ := h eq
  rw [← hT.1] at a1 a2 a3
  have hfe : ∀ j, j < lL.toInt.toNat → eX j = fL j := fun j hj => (TX_e hT j (by omega)).symm
  have hf2 : prg (lL.toInt.toNat : Nat) 0 65535 eX := fun j hj => TX_q hT j (by rw [← TX_n hT]; omega)
  have em := mkB_cg lL.toInt.toNat hfe
  refine ⟨by rw [← em]; exact a1, a2, fun i hi => ?_⟩
  have q := (RV_i hv i).mp hi
  obtain ⟨⟨b1, b2, b3⟩, b4, b5, c, f', b6⟩ := a3 i q.1 (by omega)
  have v0 : (W4 i).toInt = (eH (4 * i)).toInt := hv.2.2 i hi 0 (by omega)
  have v1 : (W5 i).toInt = (eH (4 * i + 1)).toInt := hv.2.2 i hi 1 (by omega)
  have by9 : byV eX lL.toInt.toNat (eH (4 * i)).toInt (eH (4 * i + 1)).toInt := ⟨b1, b3.imp (fun z => z) (fun z => ⟨z, b2.2⟩)⟩
  rw [v0, v1]
  refine ⟨⟨b1, ?_⟩, c, f', VCH_t hf2 (okB_r gB) by9 hfe (fun k hk => (TR_L4 R4 k hk).symm) (fun k hk => (TR_L5 R5 k hk).symm) (fun x h1 h2 => (enc_eq R4 R5 h1 h2).symm) (fun _ _ _ => rfl) b6⟩
  rw [← em]
  exact by9.2
theorem cs_iff {fsh ke wi ri zq zs zy za zb lL i : Int32} {W4 W5 W6 W7 eH fL eS eX : Nat → Int32} (R4 : TR 0 l4 f41 f42 f43 eL eB eD) (R5 : TR 1 l5 f51 f52 f53 eL eB eD) (gB : rg (-1) 255 eB) (hT : TXR lL fL eS eX) (hv : RVC ke zy W4 W5 W6 W7 eH) (hr : RFr fsh zq zs) (hx : RFx fsh wi ri za zb) (h : frsR zq zs zy za zb eH eL eX (fun c9 => Br c9 eB) (eS 0).toInt.toNat) : ∀ c fm v, csP fsh ke wi ri i W4 W5 f41 f51 fL (Bc ri f42 f43 f52 f53) lL.toInt.toNat c fm v ↔ csR zq zs zy za zb i eH eL eX (Br zb eB) (eS 0).toInt.toNat c fm v := by
  intro c fm v
  have hf : prg (lL.toInt.toNat : Nat) 0 65535 fL := fun j hj => TX_p hT j (by omega)
  have hf2 : prg (lL.toInt.toNat : Nat) 0 65535 eX := fun j hj => TX_q hT j (by rw [← TX_n hT]; omega)
  have hfe : ∀ j, j < lL.toInt.toNat → fL j = eX j := fun j hj => TX_e hT j (by omega)
  have fC := frs_C R4 R5 gB hT hv hr hx h
  have eN := hT.1
  constructor
  · rintro ⟨v1, ⟨b1, b2, b3⟩, b4⟩
    have eq : zq.toInt = zs.toInt := by rcases hr with hr | hr <;> omega
    obtain ⟨x1, x2⟩ := hx b1
    have q := (RV_i hv _).mp b3
    have ci := v_clamp b2
    have v0 : (W4 i.toNatClampNeg).toInt = (eH (4 * i.toNatClampNeg)).toInt := hv.2.2 i.toNatClampNeg (by omega) 0 (by omega)
    have v2 : (W5 i.toNatClampNeg).toInt = (eH (4 * i.toNatClampNeg + 1)).toInt := hv.2.2 i.toNatClampNeg (by omega) 1 (by omega)
    have by9 := ((fC b1).2.2 i.toNatClampNeg (by omega)).1
    rw [v0, v2] at b4 by9
    refine ⟨v1, ⟨eq, b2, q.1, q.2⟩, ?_⟩
    rw [← eN, ← x1, ← x2]
    exact VCH_t hf (okB_cl R4 R5 gB ri) by9 hfe (TR_L4 R4) (TR_L5 R5) (fun x h1 h2 => enc_eq R4 R5 h1 h2) (fun _ _ _ => rfl) b4
  · rintro ⟨v1, ⟨b1, b2, b3, b5⟩, b4⟩
    have b0 : fsh.toInt = 1 := by rcases hr with hr | hr <;> omega
    obtain ⟨x1, x2⟩ := hx b0
    have b6 := (RV_i hv _).mpr ⟨b3, b5⟩
    have ci := v_clamp b2
    have v0 : (W4 i.toNatClampNeg).toInt = (eH (4 * i.toNatClampNeg)).toInt := hv.2.2 i.toNatClampNeg (by omega) 0 (by omega)
    have v2 : (W5 i.toNatClampNeg).toInt = (eH (4 * i.toNatClampNeg + 1)).toInt := hv.2.2 i.toNatClampNeg (by omega) 1 (by omega)
    have by9 := ((fC b0).2.2 i.toNatClampNeg (by omega)).1
    rw [v0, v2] at by9
    have em := mkB_cg lL.toInt.toNat hfe
    have by8 : byV eX lL.toInt.toNat (eH (4 * i.toNatClampNeg)).toInt (eH (4 * i.toNatClampNeg + 1)).toInt := ⟨by9.1, by rw [← em]; exact by9.2⟩
    refine ⟨v1, ⟨b0, b2, b6⟩, ?_⟩
    rw [← eN, ← x1, ← x2] at b4
    rw [v0, v2]
    exact VCH_t hf2 (okB_r gB) by8 (fun j hj => (hfe j hj).symm) (fun k hk => (TR_L4 R4 k hk).symm) (fun k hk => (TR_L5 R5 k hk).symm) (fun x h1 h2 => (enc_eq R4 R5 h1 h2).symm) (fun _ _ _ => rfl) b4
theorem cs_ok {zq zs zy za zb i : Int32} {eH eS eX : Nat → Int32} (hz : LZ eL) (gB : rg (-1) 255 eB) (hf : prg (eS 0).toInt 0 65535 eX) (h : frsR zq zs zy za zb eH eL eX (fun c9 => Br c9 eB) (eS 0).toInt.toNat) : okQ (csR zq zs zy za zb i eH eL eX (Br zb eB) (eS 0).toInt.toNat) := by
  have hf2 : prg ((eS 0).toInt.toNat : Nat) 0 65535 eX := fun j hj => hf j (by omega)
  rintro c fm v ⟨v1, ⟨b1, b2, b3, b5⟩, b4⟩
  have ci := v_clamp b2
  obtain ⟨⟨c1, c2, c3⟩, _⟩ := (h b1).2.2 i.toNatClampNeg (by omega) (by omega)
  have by9 : byV eX (eS 0).toInt.toNat (eH (4 * i.toNatClampNeg)).toInt (eH (4 * i.toNatClampNeg + 1)).toInt := ⟨c1, c3.imp (fun z => z) (fun z => ⟨z, c2.2⟩)⟩
  refine ⟨?_, ?_⟩
  · obtain ⟨m, g, a1, a2, a3, a4, a5⟩ := b4
    refine ⟨a4, fun j hj => ?_⟩
    rw [a5 j hj]
    exact dx_lz hz (WRV_b a1 hf2 (okB_r gB) by9) (a3.2 j hj)
  · rintro c' fm' v' ⟨w1, _, w4⟩
    obtain ⟨q1, q2⟩ := VCH_u hf2 (okB_r gB) by9 b4 w4
    exact ⟨q1, by omega, q2⟩
theorem ent_1 {o w s l : Int} : ent (if (1 : Nat) = 1 then -1 else o) (if (1 : Nat) = 1 then o else w) s l 0 = o ∧ ent (if (1 : Nat) = 1 then -1 else o) (if (1 : Nat) = 1 then o else w) s l 1 = -1 := by simp [ent]
theorem ent_2 {o w s l : Int} (h : 0 ≤ o) : ent (if (2 : Nat) = 1 then -1 else o) (if (2 : Nat) = 1 then o else w) s l 0 = o ∧ ent (if (2 : Nat) = 1 then -1 else o) (if (2 : Nat) = 1 then o else w) s l 1 = w := by
  have z : ¬ o = -1 := by omega
  simp [ent, z]
theorem VCH_w {a b : Int32} {L4 L5 f f' : Nat → Int32} {Bf : Int32 → Int32} {n c : Nat} {v1 v2 w1 w2 : Int} (h : VCH a b L4 L5 Bf n f v1 v2 c f') (hw : ∀ j, j < n → f j = 65533 → (if mkB f j = 0 then v1 else v2) = (if mkB f j = 0 then w1 else w2)) : VCH a b L4 L5 Bf n f w1 w2 c f' := by
  obtain ⟨m, g, a1, a2, a3, a4, a5⟩ := h
  have ee : ∀ j, j < n → EV b Bf f v1 v2 j = EV b Bf f w1 w2 j := fun j hj => by
    by_cases z : f j = 65533
    · rw [EV_m z, EV_m z, hw j hj z]
    · rw [EV_n z, EV_n z]
  refine ⟨m, g, WR_congr a1 ee, fun i hi he => ?_, a3, a4, a5⟩
  have q := a2 i hi he
  rw [psE_congr i (fun j hj => ee j (by omega))] at q
  exact q
/-- choices found, on both sides -/
theorem ch_mem {a b zq zs zy : Int32} {T : Int32 → Int32 → Int32} {eH eX : Nat → Int32} {B : Nat → Nat → Int} {n J : Nat} (hmk : mkB eX n = 1 ∨ mkB eX n = 2) (h100 : n ≤ 100) (h : FLD (VX a b (fun k => eL k) (fun k => eL (256 + k)) (Br b eB) T n eX (mkB eX n)) 0 0 B J zy.toNatClampNeg (RA4 eH)) : frsR zq zs zy a b eH eL eX (fun c9 => Br c9 eB) n := by
  intro _
  refine ⟨hmk, h100, fun i hi h2 => ?_⟩
  have him : i < m200 zy.toNatClampNeg := by
    have c := v_clamp (x := zy) (by omega)
    unfold m200
    split <;> omega
  obtain ⟨t, e, _, ⟨o, w, r1, r2, r3, r4, r5, c, f', r6, r7⟩, he⟩ := FLD_mem J _ _ h i him
  have e0 : (eH (4 * i)).toInt = _ := (he 0 (by omega)).trans (r7 0 (by omega))
  have e1 : (eH (4 * i + 1)).toInt = _ := (he 1 (by omega)).trans (r7 1 (by omega))
  rcases hmk with z | z
  · rw [z, ent_1.1] at e0
    rw [z, ent_1.2] at e1
    have x0 : eH (4 * i) = o := v_inj e0
    refine ⟨⟨by rw [x0]; exact r1, by omega, Or.inl (by omega)⟩, by rw [x0]; exact r4, Or.inl (by omega), c, f', ?_⟩
    rw [x0, e1]
    refine VCH_w r6 (fun j hj hm => ?_)
    have q := mkB_m eX (i := j + 1) n (by omega)
    rw [mkB_y hm] at q
    rw [if_pos (by omega), if_pos (by omega)]
  · rw [z, (ent_2 r1.1).1] at e0
    rw [z, (ent_2 r1.1).2] at e1
    have x0 : eH (4 * i) = o := v_inj e0
    have x1 : eH (4 * i + 1) = w := v_inj e1
    refine ⟨⟨by rw [x0]; exact r1, by omega, Or.inr (by omega)⟩, by rw [x0]; exact r4, Or.inr (by rw [x1]; exact r5 z), c, f', ?_⟩
    rw [x0, x1]
    exact r6
theorem VCH_lz {a b : Int32} {f f' : Nat → Int32} {Bf : Int32 → Int32} {n c : Nat} {v1 v2 : Int} (hz : LZ eL) (hf : prg n 0 65535 f) (hB : okB Bf) (hv : byV f n v1 v2) (h : VCH a b (fun k => eL k) (fun k => eL (256 + k)) Bf n f v1 v2 c f') : prg c 0 65535 f' := by
  obtain ⟨m, g, a1, a2, a3, a4, a5⟩ := h
  intro j hj
  have q := dx_lz (cd := a) hz (WRV_b a1 hf hB hv) (a3.2 j (by omega))
  rw [a5 j (by omega)]
  exact ⟨q.1, q.2.1⟩
theorem VX_iff {a b zc : Int32} {fK1 fK2 ec1 ec2 ec3 fL eX : Nat → Int32} {n mk t : Nat} {e : Nat → Int} (R4 : TR 0 l4 f41 f42 f43 eL eB eD) (R5 : TR 1 l5 f51 f52 f53 eL eB eD) (hz : LZ eL) (gB : rg (-1) 255 eB) (hCV : CVR zc.toInt fK1 fK2 ec1 ec2 ec3) (hf : prg n 0 65535 fL) (hfe : ∀ j, j < n → fL j = eX j) : VX a b f41 f51 (Bc b f42 f43 f52 f53) (tcC fK1 fK2) n fL mk t e ↔ VX a b (fun k => eL k) (fun k => eL (256 + k)) (Br b eB) (tcR zc.toInt ec1 ec2 ec3) n eX mk t e := by
  have hf2 : prg n 0 65535 eX := fun j hj => by rw [← hfe j (by omega)]; exact hf j hj
  constructor
  · rintro ⟨o, w, r1, r2, r3, r4, r5, c, f', r6, r7⟩
    have q := VCH_t hf (okB_cl R4 R5 gB b) ⟨r1, Or.inr r2⟩ hfe (TR_L4 R4) (TR_L5 R5) (fun x h1 h2 => enc_eq R4 R5 h1 h2) (fun _ _ _ => rfl) r6
    have pz := VCH_lz hz hf2 (okB_r gB) ⟨r1, Or.inr r2⟩ q
    refine ⟨o, w, r1, r2, r3, by rw [← alF_congr (TR_L4 R4) (TR_L5 R5) r1.1 r1.2]; exact r4, fun z => by rw [← alF_congr (TR_L4 R4) (TR_L5 R5) r2.1 r2.2]; exact r5 z, c, f', q, fun k hk => ?_⟩
    rw [r7 k hk, cT_congr rfl (by omega) hCV pz (fun _ _ => rfl)]
  · rintro ⟨o, w, r1, r2, r3, r4, r5, c, f', r6, r7⟩
    have pz := VCH_lz hz hf2 (okB_r gB) ⟨r1, Or.inr r2⟩ r6
    have q := VCH_t hf2 (okB_r gB) ⟨r1, Or.inr r2⟩ (fun j hj => (hfe j hj).symm) (fun k hk => (TR_L4 R4 k hk).symm) (fun k hk => (TR_L5 R5 k hk).symm) (fun x h1 h2 => (enc_eq R4 R5 h1 h2).symm) (fun _ _ _ => rfl) r6
    refine ⟨o, w, r1, r2, r3, by rw [alF_congr (TR_L4 R4) (TR_L5 R5) r1.1 r1.2]; exact r4, fun z => by rw [alF_congr (TR_L4 R4) (TR_L5 R5) r2.1 r2.2]; exact r5 z, c, f', q, fun k hk => ?_⟩
    rw [r7 k hk, cT_congr rfl (by omega) hCV pz (fun _ _ => rfl)]
theorem e_ch {r q a b lL ke ke' fsh fsh' wi wi' ri ri' zy zy' za za' zb zb' zq zq' zs zc : Int32} {W4 W4' W5 W5' W6 W6' W7 W7' eH eH' fL eS eX fK1 fK2 ec1 ec2 ec3 : Nat → Int32} (R4 : TR 0 l4 f41 f42 f43 eL eB eD) (R5 : TR 1 l5 f51 f52 f53 eL eB eD) (hz : LZ eL) (gB : rg (-1) 255 eB) (hCV : CVR zc.toInt fK1 fK2 ec1 ec2 ec3) (hT : TXR lL fL eS eX) (hl0 : 0 ≤ lL.toInt) (hv : RVC ke zy W4 W5 W6 W7 eH) (hr : RFr fsh zq zs) (hx : RFx fsh wi ri za zb) (hs : frsR zq zs zy za zb eH eL eX (fun c9 => Br c9 eB) (eS 0).toInt.toNat)
    (h : F_chx (okd a ∧ okd b ∧ (mkB fL lL.toInt.toNat = 1 ∨ mkB fL lL.toInt.toNat = 2) ∧ lL.toInt ≤ 100 ∧ ∀ i, i < lL.toInt.toNat → ¬ EV b (Bc b f42 f43 f52 f53) fL 0 0 i = []) r (FLD (VX a b f41 f51 (Bc b f42 f43 f52 f53) (tcC fK1 fK2) lL.toInt.toNat fL (mkB fL lL.toInt.toNat)) 0 0 (fun _ _ => (0 : Int)) (if mkB fL lL.toInt.toNat = 1 then 256 else 65536) r.toNatClampNeg (CA W4' W5' W6' W7') ∧ 0 ≤ r.toInt ∧ r.toInt ≤ 65536 ∧ ke'.toInt = (m200 r.toNatClampNeg : Int) ∧ fsh' = 1 ∧ wi' = a ∧ ri' = b) (ke' = ke ∧ fsh' = fsh ∧ wi' = wi ∧ ri' = ri ∧ W4' = W4 ∧ W5' = W5 ∧ W6' = W6 ∧ W7' = W7))
    (h' : F_chx (okd a ∧ okd b ∧ (mkB eX (eS 0).toInt.toNat = 1 ∨ mkB eX (eS 0).toInt.toNat = 2) ∧ (eS 0).toInt ≤ 100 ∧ ∀ i, i < (eS 0).toInt.toNat → ¬ EV b (Br b eB) eX 0 0 i = []) q (FLD (VX a b (fun k => eL k) (fun k => eL (256 + k)) (Br b eB) (tcR zc.toInt ec1 ec2 ec3) (eS 0).toInt.toNat eX (mkB eX (eS 0).toInt.toNat)) 0 0 (fun _ _ => (0 : Int)) (if mkB eX (eS 0).toInt.toNat = 1 then 256 else 65536) q.toNatClampNeg (RA4 eH') ∧ 0 ≤ q.toInt ∧ q.toInt ≤ 65536 ∧ zy' = q ∧ za' = a ∧ zb' = b ∧ zq' = zs) (zy' = zy ∧ za' = za ∧ zb' = zb ∧ zq' = zq ∧ eH' = eH)) : r = q ∧ RVC ke' zy' W4' W5' W6' W7' eH' ∧ RFr fsh' zq' zs ∧ RFx fsh' wi' ri' za' zb' ∧ frsR zq' zs zy' za' zb' eH' eL eX (fun c9 => Br c9 eB) (eS 0).toInt.toNat := by
  have hf : prg (lL.toInt.toNat : Nat) 0 65535 fL := fun j hj => TX_p hT j (by omega)
  have hf2 : prg (lL.toInt.toNat : Nat) 0 65535 eX := fun j hj => TX_q hT j (by rw [← TX_n hT]; omega)
  have hfe : ∀ j, j < lL.toInt.toNat → fL j = eX j := fun j hj => TX_e hT j (by omega)
  have em := mkB_cg lL.toInt.toNat hfe
  have ee : ∀ i, i < lL.toInt.toNat → EV b (Bc b f42 f43 f52 f53) fL 0 0 i = EV b (Br b eB) eX 0 0 i := fun i hi => EV_cg hi hf hfe (fun x h1 h2 => enc_eq R4 R5 h1 h2) (fun _ _ _ => rfl)
  have eN := hT.1
  rw [← eN] at h' hs ⊢
  rw [em] at h
  have i1 : (∀ i, i < lL.toInt.toNat → ¬ EV b (Bc b f42 f43 f52 f53) fL 0 0 i = []) ↔ (∀ i, i < lL.toInt.toNat → ¬ EV b (Br b eB) eX 0 0 i = []) := ⟨fun w i hi => by rw [← ee i hi]; exact w i hi, fun w i hi => by rw [ee i hi]; exact w i hi⟩
  rw [i1] at h
  rcases h with ⟨⟨k1, k2, hmk, h100, k5⟩, p1, p2, p3, p4, p5, p6, p7⟩ | ⟨n0, n1, n2, n3, n4, n5, n6, n7, n8, n9⟩ <;> rcases h' with ⟨o0, s1, s2, s3, s4, s5, s6, s7⟩ | ⟨m0, m1, m2, m3, m4, m5, m6⟩
  · have u := FLD_iff _ _ _ (fun t e _ => VX_iff (t := 0 + t) (e := e) R4 R5 hz gB hCV hf hfe) p1
    obtain ⟨u1, u2⟩ := FLD_u (VX_fn hf2 (okB_r gB)) (fun _ _ _ _ => rfl) _ _ _ _ _ u s1
    have cr := v_clamp p2
    have cq := v_clamp s2
    have erq : r = q := v_inj (by omega)
    subst s4
    subst s5
    subst s6
    subst s7
    subst p5
    subst p6
    subst p7
    subst erq
    refine ⟨rfl, ⟨s2, p4, fun i hi k hk => u2 i (by omega) k hk⟩, Or.inl ⟨rfl, rfl⟩, fun _ => ⟨rfl, rfl⟩, ch_mem hmk (by omega) s1⟩
  · exact absurd ⟨k1, k2, hmk, h100, k5⟩ m0
  · exact absurd o0 n0
  · refine ⟨v_inj (by omega), ?_⟩
    rw [n2, n3, n4, n5, n6, n7, n8, n9, m2, m3, m4, m5, m6]
    exact ⟨hv, hr, hx, hs⟩
end EREL
theorem e_bk {r q gn gn' lG lG' l l' zp zp' zf : Int32} {f1 f2 f f' eS eS' eX eX' : Nat → Int32} (hT : TXR l f eS eX) (hC : CHR gn lG zp zf f1 f2 eS eX) (h : F_bk r gn gn' lG lG' l l' f1 f2 f f') (h' : F_tbR q zp zp' zf eS eS' eX eX') (hg : 0 ≤ gn.toInt ∧ gn.toInt ≤ 19) (hz : 0 ≤ zp.toInt ∧ zp.toInt ≤ 20) (hzf : 0 ≤ zf.toInt ∧ zf.toInt ≤ 19) (h2 : rg 0 300 f2) : r = q ∧ TXR l' f' eS' eX' ∧ CHR gn' lG' zp' zf f1 f2 eS' eX' := by
  obtain ⟨k, hk, ⟨b1, b2⟩ | ⟨b1, b2⟩⟩ := h
  · have w := back_rel hC hk b1 h' hg hz hzf h2
    exact ⟨v_inj (b2.trans w.1.symm), w.2⟩
  · have c1 := hC.1
    rcases hk with ⟨a1, _⟩ | ⟨_, a2, a3, a4, a5, a6⟩
    · omega
    · rcases h' with ⟨d1, _⟩ | ⟨d1, d2, d3, d4, d5⟩
      · omega
      · refine ⟨v_inj (b2.trans d2.symm), ?_⟩
        rw [a3, a4, a5, a6, d3, d4, d5]
        exact ⟨hT, hC⟩
theorem e_cnt {r q lL lT lH lG lK l4 l5 zt zh zp zc gn zf : Int32} {wh : Int} {fL eS eX eD fG1 fG2 f41 f42 f43 f51 f52 f53 eL eB : Nat → Int32} (hT : TXR lL fL eS eX) (hrel : lT.toInt = zt.toInt) (hH : lH.toInt = zh.toInt) (hC : CHR gn lG zp zf fG1 fG2 eS eX) (hK : lK.toInt = zc.toInt) (R4 : TR 0 l4 f41 f42 f43 eL eB eD) (R5 : TR 1 l5 f51 f52 f53 eL eB eD) (h : F_cnt r.toInt wh lL.toInt lT.toInt lH.toInt lG.toInt (mkB fL lL.toInt.toNat) lK.toInt l4.toInt l5.toInt) (h' : F_cnt q.toInt wh (eS 0).toInt zt.toInt zh.toInt zp.toInt (mkB eX (eS 0).toInt.toNat) zc.toInt (eD 0).toInt (eD 1).toInt) : r = q := by
  have em := mkB_cg (f := fL) (e := eX) lL.toInt.toNat (fun j hj => TX_e hT j (by omega))
  rw [← hT.1, ← em, ← hrel, ← hH, ← hC.1, ← hK, ← R4.2.2.1, ← R5.2.2.1] at h'
  exact cnt_eq h h'
theorem e_sz {r q cd lL l4 l5 : Int32} {fL eS eX f41 f42 f43 f51 f52 f53 eL eB eD : Nat → Int32} (R4 : TR 0 l4 f41 f42 f43 eL eB eD) (R5 : TR 1 l5 f51 f52 f53 eL eB eD) (hT : TXR lL fL eS eX) (h : F_sz r cd (Bc cd f42 f43 f52 f53) lL.toInt.toNat fL) (h' : F_sz q cd (Br cd eB) (eS 0).toInt.toNat eX) : r = q := by
  rw [← hT.1] at h'
  exact sz_eq (fun j hj => TX_p hT j (by omega)) (fun j hj => TX_e hT j (by omega)) (fun x h1 h2 => enc_eq R4 R5 h1 h2) h h'
theorem e_by {r q cd i lL l4 l5 : Int32} {fL eS eX f41 f42 f43 f51 f52 f53 eL eB eD : Nat → Int32} (R4 : TR 0 l4 f41 f42 f43 eL eB eD) (R5 : TR 1 l5 f51 f52 f53 eL eB eD) (hT : TXR lL fL eS eX) (h : F_by r cd i (Bc cd f42 f43 f52 f53) lL.toInt.toNat fL) (h' : F_by q cd i (Br cd eB) (eS 0).toInt.toNat eX) : r = q := by
  rw [← hT.1] at h'
  exact by_eq (fun j hj => TX_p hT j (by omega)) (fun j hj => TX_e hT j (by omega)) (fun x h1 h2 => enc_eq R4 R5 h1 h2) h h'
theorem e_wo {r q lL zc : Int32} {fL eS eX fK1 fK2 ec1 ec2 ec3 : Nat → Int32} (hT : TXR lL fL eS eX) (h0 : 0 ≤ lL.toInt) (hCV : CVR zc.toInt fK1 fK2 ec1 ec2 ec3) (h : r.toInt = cT (tcC fK1 fK2) lL.toInt fL) (h' : q.toInt = cT (tcR zc.toInt ec1 ec2 ec3) (eS 0).toInt eX) : r = q := v_inj (h.trans ((cT_congr (TX_n hT) h0 hCV (TX_p hT) (TX_e hT)).trans h'.symm))
theorem e_cc {r q i wh ke zy : Int32} {W4 W5 W6 W7 eH : Nat → Int32} (hv : RVC ke zy W4 W5 W6 W7 eH) (h : (0 ≤ i.toInt ∧ i.toInt < ke.toInt ∧ 0 ≤ wh.toInt ∧ wh.toInt ≤ 3 ∧ r.toInt = (CA W4 W5 W6 W7) i.toNatClampNeg wh.toNatClampNeg) ∨ (¬ (0 ≤ i.toInt ∧ i.toInt < ke.toInt ∧ 0 ≤ wh.toInt ∧ wh.toInt ≤ 3) ∧ r.toInt = -1)) (h' : (0 ≤ i.toInt ∧ i.toInt < zy.toInt ∧ i.toInt < 200 ∧ 0 ≤ wh.toInt ∧ wh.toInt ≤ 3 ∧ q.toInt = RA4 eH i.toNatClampNeg wh.toNatClampNeg) ∨ (¬ (0 ≤ i.toInt ∧ i.toInt < zy.toInt ∧ i.toInt < 200 ∧ 0 ≤ wh.toInt ∧ wh.toInt ≤ 3) ∧ q.toInt = -1)) : r = q := by
  have k := RV_i hv i.toInt
  rcases h with ⟨a1, a2, a3, a4, a5⟩ | ⟨a1, a2⟩ <;> rcases h' with ⟨b1, b2, b3, b4, b5, b6⟩ | ⟨b1, b2⟩
  · have ci := v_clamp a1
    have cw := v_clamp a3
    exact v_inj (a5.trans ((hv.2.2 _ (by omega) _ (by omega)).trans b6.symm))
  · exact absurd ⟨a1, (k.mp a2).1, (k.mp a2).2, a3, a4⟩ b1
  · exact absurd ⟨b1, k.mpr ⟨b2, b3⟩, b4, b5⟩ a1
  · exact v_inj (a2.trans b2.symm)
/-! as it begins -/
theorem LB_0 {t : Nat} {eL eB : Nat → Int32} (h1 : ∀ k, eL k = -1) (h2 : ∀ k, eB k = -1) : LB t eL eB := by
  intro v x hv x0 x1
  rw [h1, h2]
  have m1 : (-1 : Int32).toInt = -1 := rfl
  exact ⟨fun e => absurd e.symm (v_nn x0), fun e => by omega⟩
theorem CV_0 {z : Int} {K V X Y Z : Nat → Int32} (hz : z ≤ 0) (h : ∀ k, V k = -1) : CVR z K V X Y Z := by
  intro x y _ _ _ _
  rw [tcR_no (noP_0 hz)]
  refine tcC_no (fun v w => ?_)
  obtain ⟨j, j1, j2, j3, j4⟩ := w
  exact j4 (j3.symm.trans (h j))
theorem CH_0 {f1 f2 eS eX : Nat → Int32} (h : ∀ k, f2 k = 0) (h2 : ∀ k, eS k = 0) : CHR 0 0 0 0 f1 f2 eS eX := by
  have z : (0 : Int32).toInt = 0 := rfl
  refine ⟨rfl, by rw [z]; rfl, fun s _ => ⟨by rw [h, h2], fun k hk => ?_⟩⟩
  rw [h] at hk
  omega
theorem RV_0 {W4 W5 W6 W7 eH : Nat → Int32} : RVC 0 0 W4 W5 W6 W7 eH := by
  have z : (0 : Int32).toInt = 0 := rfl
  refine ⟨by omega, by rw [z]; rfl, fun i hi => ?_⟩
  omega
theorem FR_0 : RFr 0 (-1) 0 := Or.inr ⟨rfl, by decide⟩

end

/-! 5x.a.rows -/
section
set_option maxRecDepth 100000 in
theorem dA390_cX9_keepFound : kDec cX9_keepFound [(0, .aload_n 0, 1), (1, .iconst 0, 1), (2, .putfield 59, 3), (5, .iconst 0, 1), (6, .istore_n 1, 1), (7, .iload_n 1, 1), (8, .sipush 258, 3), (11, .if_icmp .ge 95, 3), (106, .aload_n 0, 1), (107, .getfield 59, 3), (110, .ireturn, 1), (14, .aload_n 0, 1), (15, .getfield 26, 3), (18, .iload_n 1, 1), (19, .iaload, 1), (20, .iconst (-1), 1), (21, .if_icmp .eq 79, 3), (100, .iinc 1 1, 3), (103, .goto (-96), 3), (24, .aload_n 0, 1), (25, .getfield 36, 3), (28, .aload_n 0, 1), (29, .getfield 59, 3), (32, .aload_n 0, 1)] = true := by decide +kernel
theorem dX9_keepFound_0 : decode cX9_keepFound 0 = .ok (.aload_n 0, 1) := kDec_at dA390_cX9_keepFound 0 rfl
theorem dX9_keepFound_1 : decode cX9_keepFound 1 = .ok (.iconst 0, 1) := kDec_at dA390_cX9_keepFound 1 rfl
theorem dX9_keepFound_2 : decode cX9_keepFound 2 = .ok (.putfield 59, 3) := kDec_at dA390_cX9_keepFound 2 rfl
theorem dX9_keepFound_5 : decode cX9_keepFound 5 = .ok (.iconst 0, 1) := kDec_at dA390_cX9_keepFound 3 rfl
theorem dX9_keepFound_6 : decode cX9_keepFound 6 = .ok (.istore_n 1, 1) := kDec_at dA390_cX9_keepFound 4 rfl
theorem dX9_keepFound_7 : decode cX9_keepFound 7 = .ok (.iload_n 1, 1) := kDec_at dA390_cX9_keepFound 5 rfl
theorem dX9_keepFound_8 : decode cX9_keepFound 8 = .ok (.sipush 258, 3) := kDec_at dA390_cX9_keepFound 6 rfl
theorem dX9_keepFound_11 : decode cX9_keepFound 11 = .ok (.if_icmp .ge 95, 3) := kDec_at dA390_cX9_keepFound 7 rfl
theorem dX9_keepFound_106 : decode cX9_keepFound 106 = .ok (.aload_n 0, 1) := kDec_at dA390_cX9_keepFound 8 rfl
theorem dX9_keepFound_107 : decode cX9_keepFound 107 = .ok (.getfield 59, 3) := kDec_at dA390_cX9_keepFound 9 rfl
theorem dX9_keepFound_110 : decode cX9_keepFound 110 = .ok (.ireturn, 1) := kDec_at dA390_cX9_keepFound 10 rfl
theorem dX9_keepFound_14 : decode cX9_keepFound 14 = .ok (.aload_n 0, 1) := kDec_at dA390_cX9_keepFound 11 rfl
theorem dX9_keepFound_15 : decode cX9_keepFound 15 = .ok (.getfield 26, 3) := kDec_at dA390_cX9_keepFound 12 rfl
theorem dX9_keepFound_18 : decode cX9_keepFound 18 = .ok (.iload_n 1, 1) := kDec_at dA390_cX9_keepFound 13 rfl
theorem dX9_keepFound_19 : decode cX9_keepFound 19 = .ok (.iaload, 1) := kDec_at dA390_cX9_keepFound 14 rfl
theorem dX9_keepFound_20 : decode cX9_keepFound 20 = .ok (.iconst (-1), 1) := kDec_at dA390_cX9_keepFound 15 rfl
theorem dX9_keepFound_21 : decode cX9_keepFound 21 = .ok (.if_icmp .eq 79, 3) := kDec_at dA390_cX9_keepFound 16 rfl
theorem dX9_keepFound_100 : decode cX9_keepFound 100 = .ok (.iinc 1 1, 3) := kDec_at dA390_cX9_keepFound 17 rfl
theorem dX9_keepFound_103 : decode cX9_keepFound 103 = .ok (.goto (-96), 3) := kDec_at dA390_cX9_keepFound 18 rfl
theorem dX9_keepFound_24 : decode cX9_keepFound 24 = .ok (.aload_n 0, 1) := kDec_at dA390_cX9_keepFound 19 rfl
theorem dX9_keepFound_25 : decode cX9_keepFound 25 = .ok (.getfield 36, 3) := kDec_at dA390_cX9_keepFound 20 rfl
theorem dX9_keepFound_28 : decode cX9_keepFound 28 = .ok (.aload_n 0, 1) := kDec_at dA390_cX9_keepFound 21 rfl
theorem dX9_keepFound_29 : decode cX9_keepFound 29 = .ok (.getfield 59, 3) := kDec_at dA390_cX9_keepFound 22 rfl
theorem dX9_keepFound_32 : decode cX9_keepFound 32 = .ok (.aload_n 0, 1) := kDec_at dA390_cX9_keepFound 23 rfl
set_option maxRecDepth 100000 in
theorem dA391_cX9_keepFound : kDec cX9_keepFound [(33, .getfield 26, 3), (36, .iload_n 1, 1), (37, .iaload, 1), (38, .iastore, 1), (39, .aload_n 0, 1), (40, .getfield 39, 3), (43, .aload_n 0, 1), (44, .getfield 59, 3), (47, .aload_n 0, 1), (48, .getfield 30, 3), (51, .iload_n 1, 1), (52, .iaload, 1), (53, .iastore, 1), (54, .iconst 0, 1), (55, .istore_n 2, 1), (56, .iload_n 2, 1), (57, .iconst 3, 1), (58, .if_icmp .ge 32, 3), (90, .aload_n 0, 1), (91, .dup, 1), (92, .getfield 59, 3), (95, .iconst 1, 1), (96, .iadd, 1), (97, .putfield 59, 3)] = true := by decide +kernel
theorem dX9_keepFound_33 : decode cX9_keepFound 33 = .ok (.getfield 26, 3) := kDec_at dA391_cX9_keepFound 0 rfl
theorem dX9_keepFound_36 : decode cX9_keepFound 36 = .ok (.iload_n 1, 1) := kDec_at dA391_cX9_keepFound 1 rfl
theorem dX9_keepFound_37 : decode cX9_keepFound 37 = .ok (.iaload, 1) := kDec_at dA391_cX9_keepFound 2 rfl
theorem dX9_keepFound_38 : decode cX9_keepFound 38 = .ok (.iastore, 1) := kDec_at dA391_cX9_keepFound 3 rfl
theorem dX9_keepFound_39 : decode cX9_keepFound 39 = .ok (.aload_n 0, 1) := kDec_at dA391_cX9_keepFound 4 rfl
theorem dX9_keepFound_40 : decode cX9_keepFound 40 = .ok (.getfield 39, 3) := kDec_at dA391_cX9_keepFound 5 rfl
theorem dX9_keepFound_43 : decode cX9_keepFound 43 = .ok (.aload_n 0, 1) := kDec_at dA391_cX9_keepFound 6 rfl
theorem dX9_keepFound_44 : decode cX9_keepFound 44 = .ok (.getfield 59, 3) := kDec_at dA391_cX9_keepFound 7 rfl
theorem dX9_keepFound_47 : decode cX9_keepFound 47 = .ok (.aload_n 0, 1) := kDec_at dA391_cX9_keepFound 8 rfl
theorem dX9_keepFound_48 : decode cX9_keepFound 48 = .ok (.getfield 30, 3) := kDec_at dA391_cX9_keepFound 9 rfl
theorem dX9_keepFound_51 : decode cX9_keepFound 51 = .ok (.iload_n 1, 1) := kDec_at dA391_cX9_keepFound 10 rfl
theorem dX9_keepFound_52 : decode cX9_keepFound 52 = .ok (.iaload, 1) := kDec_at dA391_cX9_keepFound 11 rfl
theorem dX9_keepFound_53 : decode cX9_keepFound 53 = .ok (.iastore, 1) := kDec_at dA391_cX9_keepFound 12 rfl
theorem dX9_keepFound_54 : decode cX9_keepFound 54 = .ok (.iconst 0, 1) := kDec_at dA391_cX9_keepFound 13 rfl
theorem dX9_keepFound_55 : decode cX9_keepFound 55 = .ok (.istore_n 2, 1) := kDec_at dA391_cX9_keepFound 14 rfl
theorem dX9_keepFound_56 : decode cX9_keepFound 56 = .ok (.iload_n 2, 1) := kDec_at dA391_cX9_keepFound 15 rfl
theorem dX9_keepFound_57 : decode cX9_keepFound 57 = .ok (.iconst 3, 1) := kDec_at dA391_cX9_keepFound 16 rfl
theorem dX9_keepFound_58 : decode cX9_keepFound 58 = .ok (.if_icmp .ge 32, 3) := kDec_at dA391_cX9_keepFound 17 rfl
theorem dX9_keepFound_90 : decode cX9_keepFound 90 = .ok (.aload_n 0, 1) := kDec_at dA391_cX9_keepFound 18 rfl
theorem dX9_keepFound_91 : decode cX9_keepFound 91 = .ok (.dup, 1) := kDec_at dA391_cX9_keepFound 19 rfl
theorem dX9_keepFound_92 : decode cX9_keepFound 92 = .ok (.getfield 59, 3) := kDec_at dA391_cX9_keepFound 20 rfl
theorem dX9_keepFound_95 : decode cX9_keepFound 95 = .ok (.iconst 1, 1) := kDec_at dA391_cX9_keepFound 21 rfl
theorem dX9_keepFound_96 : decode cX9_keepFound 96 = .ok (.iadd, 1) := kDec_at dA391_cX9_keepFound 22 rfl
theorem dX9_keepFound_97 : decode cX9_keepFound 97 = .ok (.putfield 59, 3) := kDec_at dA391_cX9_keepFound 23 rfl
set_option maxRecDepth 100000 in
theorem dA392_cX9_keepFound : kDec cX9_keepFound [(61, .aload_n 0, 1), (62, .getfield 42, 3), (65, .aload_n 0, 1), (66, .getfield 59, 3), (69, .iconst 3, 1), (70, .imul, 1), (71, .iload_n 2, 1), (72, .iadd, 1), (73, .aload_n 0, 1), (74, .getfield 33, 3), (77, .iload_n 1, 1), (78, .iconst 3, 1), (79, .imul, 1), (80, .iload_n 2, 1), (81, .iadd, 1), (82, .iaload, 1), (83, .iastore, 1), (84, .iinc 2 1, 3), (87, .goto (-31), 3)] = true := by decide +kernel
theorem dX9_keepFound_61 : decode cX9_keepFound 61 = .ok (.aload_n 0, 1) := kDec_at dA392_cX9_keepFound 0 rfl
theorem dX9_keepFound_62 : decode cX9_keepFound 62 = .ok (.getfield 42, 3) := kDec_at dA392_cX9_keepFound 1 rfl
theorem dX9_keepFound_65 : decode cX9_keepFound 65 = .ok (.aload_n 0, 1) := kDec_at dA392_cX9_keepFound 2 rfl
theorem dX9_keepFound_66 : decode cX9_keepFound 66 = .ok (.getfield 59, 3) := kDec_at dA392_cX9_keepFound 3 rfl
theorem dX9_keepFound_69 : decode cX9_keepFound 69 = .ok (.iconst 3, 1) := kDec_at dA392_cX9_keepFound 4 rfl
theorem dX9_keepFound_70 : decode cX9_keepFound 70 = .ok (.imul, 1) := kDec_at dA392_cX9_keepFound 5 rfl
theorem dX9_keepFound_71 : decode cX9_keepFound 71 = .ok (.iload_n 2, 1) := kDec_at dA392_cX9_keepFound 6 rfl
theorem dX9_keepFound_72 : decode cX9_keepFound 72 = .ok (.iadd, 1) := kDec_at dA392_cX9_keepFound 7 rfl
theorem dX9_keepFound_73 : decode cX9_keepFound 73 = .ok (.aload_n 0, 1) := kDec_at dA392_cX9_keepFound 8 rfl
theorem dX9_keepFound_74 : decode cX9_keepFound 74 = .ok (.getfield 33, 3) := kDec_at dA392_cX9_keepFound 9 rfl
theorem dX9_keepFound_77 : decode cX9_keepFound 77 = .ok (.iload_n 1, 1) := kDec_at dA392_cX9_keepFound 10 rfl
theorem dX9_keepFound_78 : decode cX9_keepFound 78 = .ok (.iconst 3, 1) := kDec_at dA392_cX9_keepFound 11 rfl
theorem dX9_keepFound_79 : decode cX9_keepFound 79 = .ok (.imul, 1) := kDec_at dA392_cX9_keepFound 12 rfl
theorem dX9_keepFound_80 : decode cX9_keepFound 80 = .ok (.iload_n 2, 1) := kDec_at dA392_cX9_keepFound 13 rfl
theorem dX9_keepFound_81 : decode cX9_keepFound 81 = .ok (.iadd, 1) := kDec_at dA392_cX9_keepFound 14 rfl
theorem dX9_keepFound_82 : decode cX9_keepFound 82 = .ok (.iaload, 1) := kDec_at dA392_cX9_keepFound 15 rfl
theorem dX9_keepFound_83 : decode cX9_keepFound 83 = .ok (.iastore, 1) := kDec_at dA392_cX9_keepFound 16 rfl
theorem dX9_keepFound_84 : decode cX9_keepFound 84 = .ok (.iinc 2 1, 3) := kDec_at dA392_cX9_keepFound 17 rfl
theorem dX9_keepFound_87 : decode cX9_keepFound 87 = .ok (.goto (-31), 3) := kDec_at dA392_cX9_keepFound 18 rfl
set_option maxRecDepth 100000 in
theorem dA393_cX11_rows : kDec cX11_rows [(0, .aload_n 0, 1), (1, .iconst (-1), 1), (2, .putfield 90, 3), (5, .iload_n 1, 1), (6, .iconst 1, 1), (7, .if_icmp .lt 8, 3), (15, .iconst (-1), 1), (16, .ireturn, 1), (10, .iload_n 1, 1), (11, .iconst 3, 1), (12, .if_icmp .le 5, 3), (17, .aload_n 0, 1), (18, .getfield 68, 3), (21, .iload_n 1, 1), (22, .aload_n 0, 1), (23, .getfield 34, 3), (26, .invokevirtual 194, 3), (29, .aload_n 0, 1), (30, .getfield 68, 3), (33, .invokevirtual 198, 3), (36, .ireturn, 1)] = true := by decide +kernel
theorem dX11_rows_0 : decode cX11_rows 0 = .ok (.aload_n 0, 1) := kDec_at dA393_cX11_rows 0 rfl
theorem dX11_rows_1 : decode cX11_rows 1 = .ok (.iconst (-1), 1) := kDec_at dA393_cX11_rows 1 rfl
theorem dX11_rows_2 : decode cX11_rows 2 = .ok (.putfield 90, 3) := kDec_at dA393_cX11_rows 2 rfl
theorem dX11_rows_5 : decode cX11_rows 5 = .ok (.iload_n 1, 1) := kDec_at dA393_cX11_rows 3 rfl
theorem dX11_rows_6 : decode cX11_rows 6 = .ok (.iconst 1, 1) := kDec_at dA393_cX11_rows 4 rfl
theorem dX11_rows_7 : decode cX11_rows 7 = .ok (.if_icmp .lt 8, 3) := kDec_at dA393_cX11_rows 5 rfl
theorem dX11_rows_15 : decode cX11_rows 15 = .ok (.iconst (-1), 1) := kDec_at dA393_cX11_rows 6 rfl
theorem dX11_rows_16 : decode cX11_rows 16 = .ok (.ireturn, 1) := kDec_at dA393_cX11_rows 7 rfl
theorem dX11_rows_10 : decode cX11_rows 10 = .ok (.iload_n 1, 1) := kDec_at dA393_cX11_rows 8 rfl
theorem dX11_rows_11 : decode cX11_rows 11 = .ok (.iconst 3, 1) := kDec_at dA393_cX11_rows 9 rfl
theorem dX11_rows_12 : decode cX11_rows 12 = .ok (.if_icmp .le 5, 3) := kDec_at dA393_cX11_rows 10 rfl
theorem dX11_rows_17 : decode cX11_rows 17 = .ok (.aload_n 0, 1) := kDec_at dA393_cX11_rows 11 rfl
theorem dX11_rows_18 : decode cX11_rows 18 = .ok (.getfield 68, 3) := kDec_at dA393_cX11_rows 12 rfl
theorem dX11_rows_21 : decode cX11_rows 21 = .ok (.iload_n 1, 1) := kDec_at dA393_cX11_rows 13 rfl
theorem dX11_rows_22 : decode cX11_rows 22 = .ok (.aload_n 0, 1) := kDec_at dA393_cX11_rows 14 rfl
theorem dX11_rows_23 : decode cX11_rows 23 = .ok (.getfield 34, 3) := kDec_at dA393_cX11_rows 15 rfl
theorem dX11_rows_26 : decode cX11_rows 26 = .ok (.invokevirtual 194, 3) := kDec_at dA393_cX11_rows 16 rfl
theorem dX11_rows_29 : decode cX11_rows 29 = .ok (.aload_n 0, 1) := kDec_at dA393_cX11_rows 17 rfl
theorem dX11_rows_30 : decode cX11_rows 30 = .ok (.getfield 68, 3) := kDec_at dA393_cX11_rows 18 rfl
theorem dX11_rows_33 : decode cX11_rows 33 = .ok (.invokevirtual 198, 3) := kDec_at dA393_cX11_rows 19 rfl
theorem dX11_rows_36 : decode cX11_rows 36 = .ok (.ireturn, 1) := kDec_at dA393_cX11_rows 20 rfl
set_option maxRecDepth 20000 in
theorem ggX11_rows_X9_find : GoodIn wsX11_rows wsX9_find := goodIn_sub (fun _ h => List.mem_cons_of_mem _ (List.mem_append_left _ (List.mem_append_right _ (h)))) gX9_find_all
set_option maxRecDepth 20000 in
theorem gX11_rows_X9_find : GoodIn wsX11_rows (wsV RX11 194 RX9 yX9_find wsX9_find) := goodIn_app (goodIn_r _ [4, 5, 6, 7] rfl (by decide +kernel)) ggX11_rows_X9_find
set_option maxRecDepth 20000 in
theorem gX9_keepFound_all : wsX9_keepFound.all goodWord = true := by
  unfold wsX9_keepFound
  exact good_c (by decide +kernel) (good_a ((by decide +kernel)) gX9_clsall)
set_option maxRecDepth 20000 in
theorem ggX11_rows_X9_keepFound : GoodIn wsX11_rows wsX9_keepFound := goodIn_sub (fun _ h => List.mem_cons_of_mem _ (List.mem_append_right _ (h))) gX9_keepFound_all
set_option maxRecDepth 20000 in
theorem gX11_rows_X9_keepFound : GoodIn wsX11_rows (wsV RX11 198 RX9 yX9_keepFound wsX9_keepFound) := goodIn_app (goodIn_r _ [8, 9, 10, 7] rfl (by decide +kernel)) ggX11_rows_X9_keepFound
set_option maxRecDepth 100000 in
theorem dA394_cX12_rows : kDec cX12_rows [(0, .aload_n 0, 1), (1, .iconst 0, 1), (2, .putfield 85, 3), (5, .aload_n 0, 1), (6, .iconst (-1), 1), (7, .putfield 55, 3), (10, .iload_n 1, 1), (11, .iconst 1, 1), (12, .if_icmp .lt 8, 3), (20, .iconst (-1), 1), (21, .ireturn, 1), (15, .iload_n 1, 1), (16, .iconst 3, 1), (17, .if_icmp .le 5, 3), (22, .aload_n 0, 1), (23, .iconst 0, 1), (24, .putfield 180, 3), (27, .iconst 1, 1), (28, .istore_n 2, 1), (29, .iload_n 2, 1), (30, .iload_n 1, 1), (31, .if_icmp .gt 177, 3), (208, .aload_n 0, 1), (209, .getfield 180, 3)] = true := by decide +kernel
theorem dX12_rows_0 : decode cX12_rows 0 = .ok (.aload_n 0, 1) := kDec_at dA394_cX12_rows 0 rfl
theorem dX12_rows_1 : decode cX12_rows 1 = .ok (.iconst 0, 1) := kDec_at dA394_cX12_rows 1 rfl
theorem dX12_rows_2 : decode cX12_rows 2 = .ok (.putfield 85, 3) := kDec_at dA394_cX12_rows 2 rfl
theorem dX12_rows_5 : decode cX12_rows 5 = .ok (.aload_n 0, 1) := kDec_at dA394_cX12_rows 3 rfl
theorem dX12_rows_6 : decode cX12_rows 6 = .ok (.iconst (-1), 1) := kDec_at dA394_cX12_rows 4 rfl
theorem dX12_rows_7 : decode cX12_rows 7 = .ok (.putfield 55, 3) := kDec_at dA394_cX12_rows 5 rfl
theorem dX12_rows_10 : decode cX12_rows 10 = .ok (.iload_n 1, 1) := kDec_at dA394_cX12_rows 6 rfl
theorem dX12_rows_11 : decode cX12_rows 11 = .ok (.iconst 1, 1) := kDec_at dA394_cX12_rows 7 rfl
theorem dX12_rows_12 : decode cX12_rows 12 = .ok (.if_icmp .lt 8, 3) := kDec_at dA394_cX12_rows 8 rfl
theorem dX12_rows_20 : decode cX12_rows 20 = .ok (.iconst (-1), 1) := kDec_at dA394_cX12_rows 9 rfl
theorem dX12_rows_21 : decode cX12_rows 21 = .ok (.ireturn, 1) := kDec_at dA394_cX12_rows 10 rfl
theorem dX12_rows_15 : decode cX12_rows 15 = .ok (.iload_n 1, 1) := kDec_at dA394_cX12_rows 11 rfl
theorem dX12_rows_16 : decode cX12_rows 16 = .ok (.iconst 3, 1) := kDec_at dA394_cX12_rows 12 rfl
theorem dX12_rows_17 : decode cX12_rows 17 = .ok (.if_icmp .le 5, 3) := kDec_at dA394_cX12_rows 13 rfl
theorem dX12_rows_22 : decode cX12_rows 22 = .ok (.aload_n 0, 1) := kDec_at dA394_cX12_rows 14 rfl
theorem dX12_rows_23 : decode cX12_rows 23 = .ok (.iconst 0, 1) := kDec_at dA394_cX12_rows 15 rfl
theorem dX12_rows_24 : decode cX12_rows 24 = .ok (.putfield 180, 3) := kDec_at dA394_cX12_rows 16 rfl
theorem dX12_rows_27 : decode cX12_rows 27 = .ok (.iconst 1, 1) := kDec_at dA394_cX12_rows 17 rfl
theorem dX12_rows_28 : decode cX12_rows 28 = .ok (.istore_n 2, 1) := kDec_at dA394_cX12_rows 18 rfl
theorem dX12_rows_29 : decode cX12_rows 29 = .ok (.iload_n 2, 1) := kDec_at dA394_cX12_rows 19 rfl
theorem dX12_rows_30 : decode cX12_rows 30 = .ok (.iload_n 1, 1) := kDec_at dA394_cX12_rows 20 rfl
theorem dX12_rows_31 : decode cX12_rows 31 = .ok (.if_icmp .gt 177, 3) := kDec_at dA394_cX12_rows 21 rfl
theorem dX12_rows_208 : decode cX12_rows 208 = .ok (.aload_n 0, 1) := kDec_at dA394_cX12_rows 22 rfl
theorem dX12_rows_209 : decode cX12_rows 209 = .ok (.getfield 180, 3) := kDec_at dA394_cX12_rows 23 rfl
set_option maxRecDepth 100000 in
theorem dA395_cX12_rows : kDec cX12_rows [(212, .ireturn, 1), (34, .aload_n 0, 1), (35, .getfield 161, 3), (38, .ifCond .ne 7, 3), (45, .aload_n 0, 1), (46, .getfield 161, 3), (49, .iload_n 2, 1), (50, .invokestatic 183, 3), (53, .istore_n 3, 1), (54, .iconst 0, 1), (55, .istore 4, 2), (57, .iload 4, 2), (59, .iload_n 3, 1), (60, .if_icmp .ge 142, 3), (202, .iinc 2 1, 3), (205, .goto (-176), 3), (63, .aload_n 0, 1), (64, .iload 4, 2), (66, .iload_n 2, 1), (67, .invokevirtual 186, 3), (70, .ifCond .ne 6, 3), (76, .bipush 6, 2), (78, .aload_n 0, 1), (79, .getfield 180, 3)] = true := by decide +kernel
theorem dX12_rows_212 : decode cX12_rows 212 = .ok (.ireturn, 1) := kDec_at dA395_cX12_rows 0 rfl
theorem dX12_rows_34 : decode cX12_rows 34 = .ok (.aload_n 0, 1) := kDec_at dA395_cX12_rows 1 rfl
theorem dX12_rows_35 : decode cX12_rows 35 = .ok (.getfield 161, 3) := kDec_at dA395_cX12_rows 2 rfl
theorem dX12_rows_38 : decode cX12_rows 38 = .ok (.ifCond .ne 7, 3) := kDec_at dA395_cX12_rows 3 rfl
theorem dX12_rows_45 : decode cX12_rows 45 = .ok (.aload_n 0, 1) := kDec_at dA395_cX12_rows 4 rfl
theorem dX12_rows_46 : decode cX12_rows 46 = .ok (.getfield 161, 3) := kDec_at dA395_cX12_rows 5 rfl
theorem dX12_rows_49 : decode cX12_rows 49 = .ok (.iload_n 2, 1) := kDec_at dA395_cX12_rows 6 rfl
theorem dX12_rows_50 : decode cX12_rows 50 = .ok (.invokestatic 183, 3) := kDec_at dA395_cX12_rows 7 rfl
theorem dX12_rows_53 : decode cX12_rows 53 = .ok (.istore_n 3, 1) := kDec_at dA395_cX12_rows 8 rfl
theorem dX12_rows_54 : decode cX12_rows 54 = .ok (.iconst 0, 1) := kDec_at dA395_cX12_rows 9 rfl
theorem dX12_rows_55 : decode cX12_rows 55 = .ok (.istore 4, 2) := kDec_at dA395_cX12_rows 10 rfl
theorem dX12_rows_57 : decode cX12_rows 57 = .ok (.iload 4, 2) := kDec_at dA395_cX12_rows 11 rfl
theorem dX12_rows_59 : decode cX12_rows 59 = .ok (.iload_n 3, 1) := kDec_at dA395_cX12_rows 12 rfl
theorem dX12_rows_60 : decode cX12_rows 60 = .ok (.if_icmp .ge 142, 3) := kDec_at dA395_cX12_rows 13 rfl
theorem dX12_rows_202 : decode cX12_rows 202 = .ok (.iinc 2 1, 3) := kDec_at dA395_cX12_rows 14 rfl
theorem dX12_rows_205 : decode cX12_rows 205 = .ok (.goto (-176), 3) := kDec_at dA395_cX12_rows 15 rfl
theorem dX12_rows_63 : decode cX12_rows 63 = .ok (.aload_n 0, 1) := kDec_at dA395_cX12_rows 16 rfl
theorem dX12_rows_64 : decode cX12_rows 64 = .ok (.iload 4, 2) := kDec_at dA395_cX12_rows 17 rfl
theorem dX12_rows_66 : decode cX12_rows 66 = .ok (.iload_n 2, 1) := kDec_at dA395_cX12_rows 18 rfl
theorem dX12_rows_67 : decode cX12_rows 67 = .ok (.invokevirtual 186, 3) := kDec_at dA395_cX12_rows 19 rfl
theorem dX12_rows_70 : decode cX12_rows 70 = .ok (.ifCond .ne 6, 3) := kDec_at dA395_cX12_rows 20 rfl
theorem dX12_rows_76 : decode cX12_rows 76 = .ok (.bipush 6, 2) := kDec_at dA395_cX12_rows 21 rfl
theorem dX12_rows_78 : decode cX12_rows 78 = .ok (.aload_n 0, 1) := kDec_at dA395_cX12_rows 22 rfl
theorem dX12_rows_79 : decode cX12_rows 79 = .ok (.getfield 180, 3) := kDec_at dA395_cX12_rows 23 rfl
set_option maxRecDepth 20000 in
theorem ggX12_rows_X12_power : GoodIn wsX12_rows wsX12_power := goodIn_sub (fun _ h => List.mem_cons_of_mem _ (List.mem_append_left _ (List.mem_append_left _ (List.mem_append_right _ (h))))) gX12_power_all
set_option maxRecDepth 20000 in
theorem gX12_rows_X12_power : GoodIn wsX12_rows (va_wsS RX12 183 yX12_power wsX12_power) := goodIn_app (goodIn_r _ [8, 9, 10] rfl (by decide +kernel)) ggX12_rows_X12_power
set_option maxRecDepth 20000 in
theorem ggX12_rows_X12_makes : GoodIn wsX12_rows wsX12_makes := goodIn_sub (fun _ h => List.mem_cons_of_mem _ (List.mem_append_left _ (List.mem_append_right _ (h)))) gX12_makes_all
set_option maxRecDepth 20000 in
theorem gX12_rows_X12_makes : GoodIn wsX12_rows (wsV RX12 186 RX12 yX12_makes wsX12_makes) := goodIn_app (goodIn_r _ [11, 12, 13, 10] rfl (by decide +kernel)) ggX12_rows_X12_makes
set_option maxRecDepth 100000 in
theorem dA396_cX12_rows : kDec cX12_rows [(82, .imul, 1), (83, .istore 5, 2), (85, .aload_n 0, 1), (86, .getfield 36, 3), (89, .iload 5, 2), (91, .iload_n 2, 1), (92, .iastore, 1), (93, .iconst 0, 1), (94, .istore 6, 2), (96, .iload 6, 2), (98, .iconst 3, 1), (99, .if_icmp .ge 52, 3), (151, .aload_n 0, 1), (152, .getfield 36, 3), (155, .iload 5, 2), (157, .iconst 4, 1), (158, .iadd, 1), (159, .aload_n 0, 1), (160, .aload_n 0, 1), (161, .getfield 64, 3), (164, .iconst 0, 1), (165, .aload_n 0, 1), (166, .getfield 135, 3), (169, .invokevirtual 189, 3)] = true := by decide +kernel
theorem dX12_rows_82 : decode cX12_rows 82 = .ok (.imul, 1) := kDec_at dA396_cX12_rows 0 rfl
theorem dX12_rows_83 : decode cX12_rows 83 = .ok (.istore 5, 2) := kDec_at dA396_cX12_rows 1 rfl
theorem dX12_rows_85 : decode cX12_rows 85 = .ok (.aload_n 0, 1) := kDec_at dA396_cX12_rows 2 rfl
theorem dX12_rows_86 : decode cX12_rows 86 = .ok (.getfield 36, 3) := kDec_at dA396_cX12_rows 3 rfl
theorem dX12_rows_89 : decode cX12_rows 89 = .ok (.iload 5, 2) := kDec_at dA396_cX12_rows 4 rfl
theorem dX12_rows_91 : decode cX12_rows 91 = .ok (.iload_n 2, 1) := kDec_at dA396_cX12_rows 5 rfl
theorem dX12_rows_92 : decode cX12_rows 92 = .ok (.iastore, 1) := kDec_at dA396_cX12_rows 6 rfl
theorem dX12_rows_93 : decode cX12_rows 93 = .ok (.iconst 0, 1) := kDec_at dA396_cX12_rows 7 rfl
theorem dX12_rows_94 : decode cX12_rows 94 = .ok (.istore 6, 2) := kDec_at dA396_cX12_rows 8 rfl
theorem dX12_rows_96 : decode cX12_rows 96 = .ok (.iload 6, 2) := kDec_at dA396_cX12_rows 9 rfl
theorem dX12_rows_98 : decode cX12_rows 98 = .ok (.iconst 3, 1) := kDec_at dA396_cX12_rows 10 rfl
theorem dX12_rows_99 : decode cX12_rows 99 = .ok (.if_icmp .ge 52, 3) := kDec_at dA396_cX12_rows 11 rfl
theorem dX12_rows_151 : decode cX12_rows 151 = .ok (.aload_n 0, 1) := kDec_at dA396_cX12_rows 12 rfl
theorem dX12_rows_152 : decode cX12_rows 152 = .ok (.getfield 36, 3) := kDec_at dA396_cX12_rows 13 rfl
theorem dX12_rows_155 : decode cX12_rows 155 = .ok (.iload 5, 2) := kDec_at dA396_cX12_rows 14 rfl
theorem dX12_rows_157 : decode cX12_rows 157 = .ok (.iconst 4, 1) := kDec_at dA396_cX12_rows 15 rfl
theorem dX12_rows_158 : decode cX12_rows 158 = .ok (.iadd, 1) := kDec_at dA396_cX12_rows 16 rfl
theorem dX12_rows_159 : decode cX12_rows 159 = .ok (.aload_n 0, 1) := kDec_at dA396_cX12_rows 17 rfl
theorem dX12_rows_160 : decode cX12_rows 160 = .ok (.aload_n 0, 1) := kDec_at dA396_cX12_rows 18 rfl
theorem dX12_rows_161 : decode cX12_rows 161 = .ok (.getfield 64, 3) := kDec_at dA396_cX12_rows 19 rfl
theorem dX12_rows_164 : decode cX12_rows 164 = .ok (.iconst 0, 1) := kDec_at dA396_cX12_rows 20 rfl
theorem dX12_rows_165 : decode cX12_rows 165 = .ok (.aload_n 0, 1) := kDec_at dA396_cX12_rows 21 rfl
theorem dX12_rows_166 : decode cX12_rows 166 = .ok (.getfield 135, 3) := kDec_at dA396_cX12_rows 22 rfl
theorem dX12_rows_169 : decode cX12_rows 169 = .ok (.invokevirtual 189, 3) := kDec_at dA396_cX12_rows 23 rfl
set_option maxRecDepth 20000 in
theorem ggX12_rows_X12_costOf_ : GoodIn wsX12_rows wsX12_costOf_ := goodIn_sub (fun _ h => List.mem_cons_of_mem _ (List.mem_append_right _ (h))) gX12_costOf__all
set_option maxRecDepth 20000 in
theorem gX12_rows_X12_costOf_ : GoodIn wsX12_rows (wsV RX12 189 RX12 yX12_costOf_ wsX12_costOf_) := goodIn_app (goodIn_r _ [14, 15, 16, 10] rfl (by decide +kernel)) ggX12_rows_X12_costOf_
set_option maxRecDepth 100000 in
theorem dA397_cX12_rows : kDec cX12_rows [(172, .iastore, 1), (173, .aload_n 0, 1), (174, .getfield 36, 3), (177, .iload 5, 2), (179, .iconst 5, 1), (180, .iadd, 1), (181, .aload_n 0, 1), (182, .getfield 135, 3), (185, .iastore, 1), (186, .aload_n 0, 1), (187, .dup, 1), (188, .getfield 180, 3), (191, .iconst 1, 1), (192, .iadd, 1), (193, .putfield 180, 3), (196, .iinc 4 1, 3), (199, .goto (-142), 3), (102, .aload_n 0, 1), (103, .getfield 36, 3), (106, .iload 5, 2), (108, .iconst 1, 1), (109, .iadd, 1), (110, .iload 6, 2), (112, .iadd, 1)] = true := by decide +kernel
theorem dX12_rows_172 : decode cX12_rows 172 = .ok (.iastore, 1) := kDec_at dA397_cX12_rows 0 rfl
theorem dX12_rows_173 : decode cX12_rows 173 = .ok (.aload_n 0, 1) := kDec_at dA397_cX12_rows 1 rfl
theorem dX12_rows_174 : decode cX12_rows 174 = .ok (.getfield 36, 3) := kDec_at dA397_cX12_rows 2 rfl
theorem dX12_rows_177 : decode cX12_rows 177 = .ok (.iload 5, 2) := kDec_at dA397_cX12_rows 3 rfl
theorem dX12_rows_179 : decode cX12_rows 179 = .ok (.iconst 5, 1) := kDec_at dA397_cX12_rows 4 rfl
theorem dX12_rows_180 : decode cX12_rows 180 = .ok (.iadd, 1) := kDec_at dA397_cX12_rows 5 rfl
theorem dX12_rows_181 : decode cX12_rows 181 = .ok (.aload_n 0, 1) := kDec_at dA397_cX12_rows 6 rfl
theorem dX12_rows_182 : decode cX12_rows 182 = .ok (.getfield 135, 3) := kDec_at dA397_cX12_rows 7 rfl
theorem dX12_rows_185 : decode cX12_rows 185 = .ok (.iastore, 1) := kDec_at dA397_cX12_rows 8 rfl
theorem dX12_rows_186 : decode cX12_rows 186 = .ok (.aload_n 0, 1) := kDec_at dA397_cX12_rows 9 rfl
theorem dX12_rows_187 : decode cX12_rows 187 = .ok (.dup, 1) := kDec_at dA397_cX12_rows 10 rfl
theorem dX12_rows_188 : decode cX12_rows 188 = .ok (.getfield 180, 3) := kDec_at dA397_cX12_rows 11 rfl
theorem dX12_rows_191 : decode cX12_rows 191 = .ok (.iconst 1, 1) := kDec_at dA397_cX12_rows 12 rfl
theorem dX12_rows_192 : decode cX12_rows 192 = .ok (.iadd, 1) := kDec_at dA397_cX12_rows 13 rfl
theorem dX12_rows_193 : decode cX12_rows 193 = .ok (.putfield 180, 3) := kDec_at dA397_cX12_rows 14 rfl
theorem dX12_rows_196 : decode cX12_rows 196 = .ok (.iinc 4 1, 3) := kDec_at dA397_cX12_rows 15 rfl
theorem dX12_rows_199 : decode cX12_rows 199 = .ok (.goto (-142), 3) := kDec_at dA397_cX12_rows 16 rfl
theorem dX12_rows_102 : decode cX12_rows 102 = .ok (.aload_n 0, 1) := kDec_at dA397_cX12_rows 17 rfl
theorem dX12_rows_103 : decode cX12_rows 103 = .ok (.getfield 36, 3) := kDec_at dA397_cX12_rows 18 rfl
theorem dX12_rows_106 : decode cX12_rows 106 = .ok (.iload 5, 2) := kDec_at dA397_cX12_rows 19 rfl
theorem dX12_rows_108 : decode cX12_rows 108 = .ok (.iconst 1, 1) := kDec_at dA397_cX12_rows 20 rfl
theorem dX12_rows_109 : decode cX12_rows 109 = .ok (.iadd, 1) := kDec_at dA397_cX12_rows 21 rfl
theorem dX12_rows_110 : decode cX12_rows 110 = .ok (.iload 6, 2) := kDec_at dA397_cX12_rows 22 rfl
theorem dX12_rows_112 : decode cX12_rows 112 = .ok (.iadd, 1) := kDec_at dA397_cX12_rows 23 rfl
set_option maxRecDepth 100000 in
theorem dA398_cX12_rows : kDec cX12_rows [(113, .iload 6, 2), (115, .iload_n 2, 1), (116, .if_icmp .ge 27, 3), (143, .iconst (-1), 1), (144, .iastore, 1), (145, .iinc 6 1, 3), (148, .goto (-52), 3), (119, .iload 4, 2), (121, .aload_n 0, 1), (122, .getfield 161, 3), (125, .iload_n 2, 1), (126, .iconst 1, 1), (127, .isub, 1), (128, .iload 6, 2), (130, .isub, 1), (131, .invokestatic 183, 3), (134, .idiv, 1), (135, .aload_n 0, 1), (136, .getfield 161, 3), (139, .irem, 1), (140, .goto 4, 3), (73, .goto 123, 3), (41, .iconst 0, 1), (42, .goto 11, 3)] = true := by decide +kernel
theorem dX12_rows_113 : decode cX12_rows 113 = .ok (.iload 6, 2) := kDec_at dA398_cX12_rows 0 rfl
theorem dX12_rows_115 : decode cX12_rows 115 = .ok (.iload_n 2, 1) := kDec_at dA398_cX12_rows 1 rfl
theorem dX12_rows_116 : decode cX12_rows 116 = .ok (.if_icmp .ge 27, 3) := kDec_at dA398_cX12_rows 2 rfl
theorem dX12_rows_143 : decode cX12_rows 143 = .ok (.iconst (-1), 1) := kDec_at dA398_cX12_rows 3 rfl
theorem dX12_rows_144 : decode cX12_rows 144 = .ok (.iastore, 1) := kDec_at dA398_cX12_rows 4 rfl
theorem dX12_rows_145 : decode cX12_rows 145 = .ok (.iinc 6 1, 3) := kDec_at dA398_cX12_rows 5 rfl
theorem dX12_rows_148 : decode cX12_rows 148 = .ok (.goto (-52), 3) := kDec_at dA398_cX12_rows 6 rfl
theorem dX12_rows_119 : decode cX12_rows 119 = .ok (.iload 4, 2) := kDec_at dA398_cX12_rows 7 rfl
theorem dX12_rows_121 : decode cX12_rows 121 = .ok (.aload_n 0, 1) := kDec_at dA398_cX12_rows 8 rfl
theorem dX12_rows_122 : decode cX12_rows 122 = .ok (.getfield 161, 3) := kDec_at dA398_cX12_rows 9 rfl
theorem dX12_rows_125 : decode cX12_rows 125 = .ok (.iload_n 2, 1) := kDec_at dA398_cX12_rows 10 rfl
theorem dX12_rows_126 : decode cX12_rows 126 = .ok (.iconst 1, 1) := kDec_at dA398_cX12_rows 11 rfl
theorem dX12_rows_127 : decode cX12_rows 127 = .ok (.isub, 1) := kDec_at dA398_cX12_rows 12 rfl
theorem dX12_rows_128 : decode cX12_rows 128 = .ok (.iload 6, 2) := kDec_at dA398_cX12_rows 13 rfl
theorem dX12_rows_130 : decode cX12_rows 130 = .ok (.isub, 1) := kDec_at dA398_cX12_rows 14 rfl
theorem dX12_rows_131 : decode cX12_rows 131 = .ok (.invokestatic 183, 3) := kDec_at dA398_cX12_rows 15 rfl
theorem dX12_rows_134 : decode cX12_rows 134 = .ok (.idiv, 1) := kDec_at dA398_cX12_rows 16 rfl
theorem dX12_rows_135 : decode cX12_rows 135 = .ok (.aload_n 0, 1) := kDec_at dA398_cX12_rows 17 rfl
theorem dX12_rows_136 : decode cX12_rows 136 = .ok (.getfield 161, 3) := kDec_at dA398_cX12_rows 18 rfl
theorem dX12_rows_139 : decode cX12_rows 139 = .ok (.irem, 1) := kDec_at dA398_cX12_rows 19 rfl
theorem dX12_rows_140 : decode cX12_rows 140 = .ok (.goto 4, 3) := kDec_at dA398_cX12_rows 20 rfl
theorem dX12_rows_73 : decode cX12_rows 73 = .ok (.goto 123, 3) := kDec_at dA398_cX12_rows 21 rfl
theorem dX12_rows_41 : decode cX12_rows 41 = .ok (.iconst 0, 1) := kDec_at dA398_cX12_rows 22 rfl
theorem dX12_rows_42 : decode cX12_rows 42 = .ok (.goto 11, 3) := kDec_at dA398_cX12_rows 23 rfl

end

/-! 5x.rows -/
section
/-! rows that row() tells, on both sides -/
theorem nF_lt {R : Nat → Int32} {p P : Nat} (hp : p < P) (hr : ¬ R p = -1) : nF R p < nF R P := by
  have a := nF_m R (p := p + 1) P (by omega)
  rw [nF_y hr] at a
  omega
theorem nF_sur {R : Nat → Int32} : ∀ (P q : Nat), q < nF R P → ∃ p, p < P ∧ ¬ R p = -1 ∧ nF R p = q
  | 0, q, h => absurd h (Nat.not_lt_zero q)
  | P + 1, q, h => by
    by_cases w : R P = -1
    · rw [nF_n w] at h
      obtain ⟨p, h1, h2⟩ := nF_sur (R := R) P q h
      exact ⟨p, by omega, h2⟩
    · rw [nF_y w] at h
      by_cases e : q = nF R P
      · exact ⟨P, by omega, w, e.symm⟩
      · obtain ⟨p, h1, h2⟩ := nF_sur (R := R) P q (by omega)
        exact ⟨p, by omega, h2⟩
def KFD (R1 R2 R3 T4 T5 T6 : Nat → Int32) (P : Nat) (t : Int) : Prop := t = nF R1 P ∧ ∀ p, p < P → ¬ R1 p = -1 → T4 (nF R1 p) = R1 p ∧ T5 (nF R1 p) = R2 p ∧ ∀ k, k < 3 → T6 (3 * nF R1 p + k) = R3 (3 * p + k)
def CP3 (t p k : Int) (T6 T R3 : Nat → Int32) : Prop := (∀ j : Nat, (j : Int) < k → T (3 * t.toNat + j) = R3 (3 * p.toNat + j)) ∧ ∀ j : Nat, (j : Int) < 3 * t → T j = T6 j
theorem CP3_0 {t p k : Int} {T R3 : Nat → Int32} (h : k = 0) : CP3 t p k T T R3 := ⟨fun j hj => by omega, fun _ _ => rfl⟩
theorem CP3_s {t p k k' a c x : Int32} {T6 T T' R3 : Nat → Int32} (h : CP3 t.toInt p.toInt k.toInt T6 T R3) (ht : 0 ≤ t.toInt) (hp : 0 ≤ p.toInt) (hk : 0 ≤ k.toInt) (ea : a.toInt = 3 * t.toInt + k.toInt) (ec : c.toInt = 3 * p.toInt + k.toInt) (ex : x = R3 c.toNatClampNeg) (eT : T' = upd T a.toNatClampNeg x) (hk' : k'.toInt = k.toInt + 1) : CP3 t.toInt p.toInt k'.toInt T6 T' R3 := by
  have ca := v_clamp (x := a) (by omega)
  have cc := v_clamp (x := c) (by omega)
  refine ⟨fun j hj => ?_, fun j hj => ?_⟩
  · by_cases z : (j : Int) = k.toInt
    · have e1 : 3 * t.toInt.toNat + j = a.toNatClampNeg := by omega
      have e2 : 3 * p.toInt.toNat + j = c.toNatClampNeg := by omega
      rw [e1, e2, eT, pk_us, ex]
    · rw [eT, pk_un (by omega)]; exact h.1 j (by omega)
  · rw [eT, pk_un (by omega)]; exact h.2 j hj
theorem KFD_0 {R1 R2 R3 T4 T5 T6 : Nat → Int32} {P : Nat} {t : Int} (hP : P = 0) (ht : t = 0) : KFD R1 R2 R3 T4 T5 T6 P t := by
  subst hP
  exact ⟨by rw [ht]; rfl, fun p hp => absurd hp (Nat.not_lt_zero p)⟩
theorem KFD_n {R1 R2 R3 T4 T5 T6 : Nat → Int32} {P P' : Nat} {t : Int} {x : Int32} (h : KFD R1 R2 R3 T4 T5 T6 P t) (ex : x = R1 P) (hx : x = -1) (hP : P' = P + 1) : KFD R1 R2 R3 T4 T5 T6 P' t := by
  subst hP
  have hR : R1 P = -1 := by rw [← ex]; exact hx
  refine ⟨by rw [nF_n hR]; exact h.1, fun p hp hr => ?_⟩
  by_cases e : p = P
  · rw [e] at hr; exact absurd hR hr
  · exact h.2 p (by omega) hr
theorem KFD_y {R1 R2 R3 T4 T5 T6 T4' T5' T6' : Nat → Int32} {P P' : Nat} {t t' pl x y : Int32} {k : Int} (h : KFD R1 R2 R3 T4 T5 T6 P t.toInt) (hR : ¬ R1 P = -1) (ex : x = R1 P) (ey : y = R2 P) (e4 : T4' = upd T4 t.toNatClampNeg x) (e5 : T5' = upd T5 t.toNatClampNeg y) (h6 : CP3 t.toInt pl.toInt k T6 T6' R3) (hk : 3 ≤ k) (hpl : pl.toInt = P) (h0 : 0 ≤ t.toInt) (hP : P' = P + 1) (ht : t'.toInt = t.toInt + 1) : KFD R1 R2 R3 T4' T5' T6' P' t'.toInt := by
  subst hP
  have ct := v_clamp h0
  have et : t.toNatClampNeg = nF R1 P := by have := h.1; omega
  have et2 : t.toInt.toNat = nF R1 P := by have := h.1; omega
  refine ⟨by rw [nF_y hR]; have := h.1; omega, fun p hp hr => ?_⟩
  by_cases e : p = P
  · subst e
    refine ⟨by rw [e4, et, pk_us, ex], by rw [e5, et, pk_us, ey], fun j hj => ?_⟩
    have q := h6.1 j (by omega)
    rw [et2, show pl.toInt.toNat = p by omega] at q
    exact q
  · have lt := nF_lt (R := R1) (p := p) (P := P) (by omega) hr
    obtain ⟨a1, a2, a3⟩ := h.2 p (by omega) hr
    refine ⟨by rw [e4, pk_un (by omega)]; exact a1, by rw [e5, pk_un (by omega)]; exact a2, fun j hj => ?_⟩
    rw [h6.2 (3 * nF R1 p + j) (by omega)]
    exact a3 j hj
theorem KFD_e {R1 R2 R3 T4 T5 T6 : Nat → Int32} {P P' : Nat} {t : Int} (h : KFD R1 R2 R3 T4 T5 T6 P t) (e : P = P') : KFD R1 R2 R3 T4 T5 T6 P' t := by rw [← e]; exact h
/-- how many harms a row has, by its second and third -/
def cnt3 (a b : Int32) : Int := if a = -1 then 1 else if b = -1 then 2 else 3
theorem c3_1 {x a b : Int32} {T : Nat → Int32} {N : Nat} (ex : x = T a.toNatClampNeg) (ha : a.toInt = (N : Int)) (hx : x = -1) : (1 : Int32).toInt = cnt3 (T N) b := by
  unfold cnt3
  rw [← ix_eq ha, ← ex, if_pos hx]; rfl
theorem c3_2 {x a y b : Int32} {T : Nat → Int32} {N M : Nat} (ex : x = T a.toNatClampNeg) (ha : a.toInt = (N : Int)) (hx : ¬ x = -1) (ey : y = T b.toNatClampNeg) (hb : b.toInt = (M : Int)) (hy : y = -1) : (2 : Int32).toInt = cnt3 (T N) (T M) := by
  unfold cnt3
  rw [← ix_eq ha, ← ex, ← ix_eq hb, ← ey, if_neg hx, if_pos hy]; rfl
theorem c3_3 {x a y b : Int32} {T : Nat → Int32} {N M : Nat} (ex : x = T a.toNatClampNeg) (ha : a.toInt = (N : Int)) (hx : ¬ x = -1) (ey : y = T b.toNatClampNeg) (hb : b.toInt = (M : Int)) (hy : ¬ y = -1) : (3 : Int32).toInt = cnt3 (T N) (T M) := by
  unfold cnt3
  rw [← ix_eq ha, ← ex, ← ix_eq hb, ← ey, if_neg hx, if_neg hy]; rfl
def RWE (R1 R2 R3 eR : Nat → Int32) (p q : Nat) : Prop := (eR (6 * q)).toInt = cnt3 (R3 (3 * p + 1)) (R3 (3 * p + 2)) ∧ (∀ k, k < 3 → eR (6 * q + 1 + k) = R3 (3 * p + k)) ∧ eR (6 * q + 4) = R1 p ∧ eR (6 * q + 5) = R2 p
def RWT (R1 R2 R3 eR : Nat → Int32) (P : Nat) (t : Int) : Prop := t = nF R1 P ∧ ∀ p, p < P → ¬ R1 p = -1 → RWE R1 R2 R3 eR p (nF R1 p)
theorem RWT_0 {R1 R2 R3 eR : Nat → Int32} {P : Nat} {t : Int} (hP : P = 0) (ht : t = 0) : RWT R1 R2 R3 eR P t := by
  subst hP
  exact ⟨by rw [ht]; rfl, fun p hp => absurd hp (Nat.not_lt_zero p)⟩
theorem RWT_e {R1 R2 R3 eR : Nat → Int32} {P P' : Nat} {t : Int} (h : RWT R1 R2 R3 eR P t) (e : P = P') : RWT R1 R2 R3 eR P' t := by rw [← e]; exact h
theorem RWT_n {R1 R2 R3 eR : Nat → Int32} {P P' : Nat} {t : Int} (h : RWT R1 R2 R3 eR P t) (hR : R1 P = -1) (hP : P' = P + 1) : RWT R1 R2 R3 eR P' t := by
  subst hP
  refine ⟨by rw [nF_n hR]; exact h.1, fun p hp hr => ?_⟩
  by_cases e : p = P
  · rw [e] at hr; exact absurd hR hr
  · exact h.2 p (by omega) hr
/-- the harms' numbers go into the row -/
def CPR (z k code : Nat) (t j : Int) (g g' : Nat → Int32) : Prop := (∀ i : Nat, (i : Int) < j → (g' (6 * t.toNat + 1 + i)).toInt = nmz z k code i) ∧ ∀ i : Nat, (i : Int) ≤ 6 * t → g' i = g i
theorem CPR_0 {z k code : Nat} {t j : Int} {g : Nat → Int32} (h : j = 0) : CPR z k code t j g g := ⟨fun i hi => by omega, fun _ _ => rfl⟩
theorem CPR_s {z k code : Nat} {t j j' a v : Int32} {g g1 g2 : Nat → Int32} (h : CPR z k code t.toInt j.toInt g g1) (ht : 0 ≤ t.toInt) (hj : 0 ≤ j.toInt) (ea : a.toInt = 6 * t.toInt + 1 + j.toInt) (hv : v.toInt = nmz z k code j.toNatClampNeg) (eg : g2 = upd g1 a.toNatClampNeg v) (hj' : j'.toInt = j.toInt + 1) : CPR z k code t.toInt j'.toInt g g2 := by
  have ca := v_clamp (x := a) (by omega)
  have cj := v_clamp hj
  refine ⟨fun i hi => ?_, fun i hi => ?_⟩
  · by_cases w : i = j.toNatClampNeg
    · have e1 : 6 * t.toInt.toNat + 1 + i = a.toNatClampNeg := by omega
      rw [e1, eg, pk_us, w]; exact hv
    · rw [eg, pk_un (by omega)]; exact h.1 i (by omega)
  · rw [eg, pk_un (by omega)]; exact h.2 i hi
theorem nm_out {z k code j : Nat} (h : k ≤ j) : nmz z k code j = -1 := if_pos h
theorem nm_in {z k code j : Nat} (hk : k ≤ 3) (hj : j < k) : nmz z k code j = ((code / rpz z (k - 1 - j) % z : Nat) : Int) := by
  unfold nmz
  rw [if_neg (by omega)]
  by_cases a : j + 1 = k
  · rw [if_pos a, show k - 1 - j = 0 by omega]
    show _ = ((code / 1 % z : Nat) : Int)
    rw [Nat.div_one]
  · rw [if_neg a]
    by_cases b : j + 2 = k
    · rw [if_pos b, show k - 1 - j = 1 by omega]; rfl
    · rw [if_neg b, show k - 1 - j = 2 by omega, Nat.div_div_eq_div_mul]; rfl
theorem nm_v {v d pw zh co my jj ex : Int32} {z : Nat} (hz : z = zh.toNatClampNeg) (hd : d = co / pw) (hv : v = d - d / zh * zh) (hp : pw.toInt = rpz zh.toNatClampNeg ex.toNatClampNeg) (hpos : 1 ≤ pw.toInt) (hzh : 1 ≤ zh.toInt) (hco : 0 ≤ co.toInt) (hm : 0 ≤ my.toInt ∧ my.toInt ≤ 3) (hj : 0 ≤ jj.toInt ∧ jj.toInt < my.toInt) (he : ex.toInt = my.toInt - 1 - jj.toInt) : v.toInt = nmz z my.toNatClampNeg co.toNatClampNeg jj.toNatClampNeg := by
  subst hz
  have hd0 := (v_divr hd hco hpos).1
  have hv0 := (v_remr hv hd0 hzh).1
  have cm := v_clamp hm.1
  have cj := v_clamp hj.1
  have cv := v_clamp hv0
  have q1 := dv_n hd hco hpos
  have q2 := md_n hv hd0 hzh
  have q3 : pw.toNatClampNeg = rpz zh.toNatClampNeg ex.toNatClampNeg := ix_eq hp
  have q4 : ex.toNatClampNeg = my.toNatClampNeg - 1 - jj.toNatClampNeg := ix_eq (by omega)
  rw [nm_in (by omega) (by omega), ← q4, ← q3, ← q1, ← q2]
  exact cv.symm
theorem RWT_y {U : Nat → Nat → (Nat → Int32) → Nat → (Nat → Int32) → Prop} (hU : okU U) {T : Int32 → Int32 → Int32} {z n k code P P' : Nat} {f f' : Nat → Int32} {nn m : Int} {r l t t' my i0 i4 i5 v4 : Int32} {R1 R2 R3 eR g0 g1 g2 g3 : Nat → Int32} {kk : Int} (hR : rGE U T z n f nn R1 R2 R3) (em : m.toNat = n) (hn : n ≤ 300) (hf : prg n 0 65535 f) (hb : F_bd U (digs z k code) r l f' m f) (hr : ¬ r.toInt = 0) (k1 : 1 ≤ k) (k2 : k ≤ 3) (k4 : (k : Int) ≤ nn) (hc : code < rpz z k) (h : RWT R1 R2 R3 eR P t.toInt) (hP : P = roff z k + code) (hP' : P' = P + 1) (ht0 : 0 ≤ t.toInt) (ht : t'.toInt = t.toInt + 1)
    (e0 : g0 = upd eR i0.toNatClampNeg my) (hi0 : i0.toInt = 6 * t.toInt) (hmy : my.toInt = k) (hcp : CPR z k code t.toInt kk g0 g1) (hkk : 3 ≤ kk) (e4 : g2 = upd g1 i4.toNatClampNeg v4) (hi4 : i4.toInt = 6 * t.toInt + 4) (hv4 : v4.toInt = cT T l.toInt f') (e5 : g3 = upd g2 i5.toNatClampNeg l) (hi5 : i5.toInt = 6 * t.toInt + 5) : RWT R1 R2 R3 g3 P' t'.toInt := by
  subst hP'
  have c0 := v_clamp (x := i0) (by omega)
  have c4 := v_clamp (x := i4) (by omega)
  have c5 := v_clamp (x := i5) (by omega)
  unfold F_bd at hb
  rw [em] at hb
  rcases hb with ⟨b1, c', b2, b3⟩ | ⟨b1, _⟩
  · obtain ⟨y1, y2, y3, y4, y5, y6, y7⟩ := ge_y hU hR hn hf k1 k2 k4 hc b3
    rw [← hP] at y1 y2 y3 y4 y5 y6 y7
    have et : t.toInt.toNat = nF R1 P := by have := h.1; omega
    refine ⟨by rw [nF_y y2]; have := h.1; omega, fun p hp hr => ?_⟩
    by_cases e : p = P
    · subst e
      have n1 : nmz z k code 1 = -1 ∨ (0 ≤ nmz z k code 1 ∧ 2 ≤ k) := by
        by_cases w : k ≤ 1
        · exact Or.inl (nm_out w)
        · refine Or.inr ⟨?_, by omega⟩
          rw [nm_in k2 (by omega)]; omega
      have n2 : nmz z k code 2 = -1 ∨ (0 ≤ nmz z k code 2 ∧ 3 ≤ k) := by
        by_cases w : k ≤ 2
        · exact Or.inl (nm_out w)
        · refine Or.inr ⟨?_, by omega⟩
          rw [nm_in k2 (by omega)]; omega
      have m1 : (-1 : Int32).toInt = -1 := rfl
      have ein : ∀ j, j < 3 → g3 (6 * nF R1 p + 1 + j) = g1 (6 * nF R1 p + 1 + j) := fun j hj => by
        rw [e5, pk_un (by omega), e4, pk_un (by omega)]
      have eq0 : g3 (6 * nF R1 p) = my := by
        rw [e5, pk_un (by omega), e4, pk_un (by omega), hcp.2 (6 * nF R1 p) (by omega), e0, show 6 * nF R1 p = i0.toNatClampNeg by omega, pk_us]
      refine ⟨?_, fun j hj => ?_, ?_, ?_⟩
      · rw [eq0, hmy]
        unfold cnt3
        by_cases w : k ≤ 1
        · rw [if_pos (v_inj (by rw [y5, nm_out w]; rfl))]; omega
        · rw [if_neg (fun z9 => by have q9 : 0 ≤ nmz z k code 1 := (by rw [nm_in k2 (by omega)]; omega); rw [z9] at y5; omega)]
          by_cases w2 : k ≤ 2
          · rw [if_pos (v_inj (by rw [y6, nm_out w2]; rfl))]; omega
          · rw [if_neg (fun z9 => by have q9 : 0 ≤ nmz z k code 2 := (by rw [nm_in k2 (by omega)]; omega); rw [z9] at y6; omega)]; omega
      · rw [ein j hj]
        have q := hcp.1 j (by omega)
        rw [et] at q
        have j3 : j = 0 ∨ j = 1 ∨ j = 2 := by omega
        rcases j3 with w | w | w <;> subst w
        · exact v_inj (q.trans y4.symm)
        · exact v_inj (q.trans y5.symm)
        · exact v_inj (q.trans y6.symm)
      · rw [e5, pk_un (by omega), e4, show 6 * nF R1 p + 4 = i4.toNatClampNeg by omega, pk_us]
        exact v_inj (by rw [hv4, b2, y1])
      · rw [e5, show 6 * nF R1 p + 5 = i5.toNatClampNeg by omega, pk_us]
        exact v_inj (by rw [b2, y3])
    · have lt := nF_lt (R := R1) (p := p) (P := P) (by omega) hr
      have old : ∀ i : Nat, (i : Int) < 6 * t.toInt → g3 i = eR i := fun i hi => by
        rw [e5, pk_un (by omega), e4, pk_un (by omega), hcp.2 i (by omega), e0, pk_un (by omega)]
      obtain ⟨a1, a2, a3, a4⟩ := h.2 p (by omega) hr
      refine ⟨by rw [old _ (by omega)]; exact a1, fun j hj => by rw [old _ (by omega)]; exact a2 j hj, by rw [old _ (by omega)]; exact a3, by rw [old _ (by omega)]; exact a4⟩
  · exact absurd (by rw [b1]; rfl) hr
theorem RWT_end {U : Nat → Nat → (Nat → Int32) → Nat → (Nat → Int32) → Prop} {T : Int32 → Int32 → Int32} {z n P N : Nat} {f : Nat → Int32} {nn t : Int} {R1 R2 R3 eR : Nat → Int32} (h : rGE U T z n f nn R1 R2 R3) (hz : z ≤ 6) (hN : (N : Int) = nn) (hN3 : N ≤ 3) (hP : P = roff z (N + 1)) (hw : RWT R1 R2 R3 eR P t) : RWT R1 R2 R3 eR 258 t := by
  have m := roff_m (z := z) (k := N + 1) (k' := 4) (by omega) (by omega) (by omega)
  have o := roff_4 hz
  have en := nF_z (R := R1) (p := P) 258 (by omega) (fun j h1 h2 => ge_end h hN hN3 hP h1 h2)
  refine ⟨by rw [en]; exact hw.1, fun p hp hr => ?_⟩
  by_cases w : p < P
  · exact hw.2 p w hr
  · exact absurd (ge_end h hN hN3 hP (by omega) hp) hr
def F_rwC (n r l l' : Int32) (G : Prop) (R1 R2 R3 T4 T4' T5 T5' T6 T6' : Nat → Int32) : Prop := ((1 ≤ n.toInt ∧ n.toInt ≤ 3) ∧ G ∧ KFD R1 R2 R3 T4' T5' T6' 258 l'.toInt ∧ r.toInt = l'.toInt) ∨ (¬ (1 ≤ n.toInt ∧ n.toInt ≤ 3) ∧ r.toInt = -1 ∧ l' = l ∧ T4' = T4 ∧ T5' = T5 ∧ T6' = T6)
def F_rwR (n r l l' : Int32) (R1 R2 R3 eR eR' : Nat → Int32) : Prop := ((1 ≤ n.toInt ∧ n.toInt ≤ 3) ∧ RWT R1 R2 R3 eR' 258 l'.toInt ∧ r.toInt = l'.toInt) ∨ (¬ (1 ≤ n.toInt ∧ n.toInt ≤ 3) ∧ r.toInt = -1 ∧ l' = l ∧ eR' = eR)
/-- what row() tells is alike -/
def RWR (l z : Int32) (T4 T5 T6 eR : Nat → Int32) : Prop := l.toInt = z.toInt ∧ ∀ q : Nat, (q : Int) < l.toInt → (eR (6 * q)).toInt = cnt3 (T6 (3 * q + 1)) (T6 (3 * q + 2)) ∧ (∀ k, k < 3 → eR (6 * q + 1 + k) = T6 (3 * q + k)) ∧ eR (6 * q + 4) = T4 q ∧ eR (6 * q + 5) = T5 q
theorem RWR_0 {T4 T5 T6 eR : Nat → Int32} : RWR 0 0 T4 T5 T6 eR := ⟨rfl, fun q hq => by
  have z : (0 : Int32).toInt = 0 := rfl
  omega⟩
theorem rw_rel {l z : Int32} {R1 R2 R3 T4 T5 T6 eR : Nat → Int32} (h : KFD R1 R2 R3 T4 T5 T6 258 l.toInt) (h' : RWT R1 R2 R3 eR 258 z.toInt) : RWR l z T4 T5 T6 eR := by
  have e1 := h.1
  have e2 := h'.1
  refine ⟨by omega, fun q hq => ?_⟩
  obtain ⟨p, p1, p2, p3⟩ := nF_sur (R := R1) 258 q (by omega)
  obtain ⟨a1, a2, a3⟩ := h.2 p p1 p2
  obtain ⟨b1, b2, b3, b4⟩ := h'.2 p p1 p2
  rw [p3] at a1 a2 a3 b1 b2 b3 b4
  refine ⟨by rw [b1, a3 1 (by omega), a3 2 (by omega)], fun k hk => by rw [b2 k hk, a3 k hk], by rw [b3, a1], by rw [b4, a2]⟩
theorem e_rw {r q n lR lR' zr zr' lH zh zc lL l4 l5 : Int32} {R1 R2 R3 T4 T4' T5 T5' T6 T6' eR eR' fL eS eX fH1 fH2 e1 e2 fK1 fK2 ec1 ec2 ec3 f41 f42 f43 f51 f52 f53 eL eB eD : Nat → Int32} (R4 : TR 0 l4 f41 f42 f43 eL eB eD) (R5 : TR 1 l5 f51 f52 f53 eL eB eD) (gB : rg (-1) 255 eB) (gL : rg (-1) 65535 eL) (hH : lH.toInt = zh.toInt) (h0H : 0 ≤ lH.toInt) (hHe : eqP lH.toInt fH1 e1 fH2 e2) (hCV : CVR zc.toInt fK1 fK2 ec1 ec2 ec3) (hT : TXR lL fL eS eX) (hl3 : lL.toInt ≤ 300)
    (h : F_rwC n r lR lR' (rGE (UC fH1 fH2 f41 f42 f43 f51 f52 f53) (tcC fK1 fK2) lH.toNatClampNeg lL.toInt.toNat fL n.toInt R1 R2 R3) R1 R2 R3 T4 T4' T5 T5' T6 T6')
    (h' : ∀ R1 R2 R3 : Nat → Int32, (1 ≤ n.toInt ∧ n.toInt ≤ 3 → rGE (UR e1 e2 eL eB) (tcR zc.toInt ec1 ec2 ec3) zh.toNatClampNeg (eS 0).toInt.toNat eX n.toInt R1 R2 R3) → F_rwR n q zr zr' R1 R2 R3 eR eR') : r = q ∧ (RWR lR zr T4 T5 T6 eR → RWR lR' zr' T4' T5' T6' eR') := by
  have eH : lH = zh := v_inj hH
  subst eH
  have cH := v_clamp h0H
  have eN : (eS 0).toInt.toNat = lL.toInt.toNat := by rw [hT.1]
  have hf : prg (lL.toInt.toNat : Nat) 0 65535 fL := fun j hj => TX_p hT j (by omega)
  have hfe : ∀ i, i < lL.toInt.toNat → fL i = eX i := fun i hi => TX_e hT i (by omega)
  have hU := okU_C (H1 := fH1) (H2 := fH2) (okB_cl R4 R5 gB) (TR_r R4 gL) (TR_r R5 gL)
  have hV := okU_R (e1 := e1) (e2 := e2) gB gL
  have he : ∀ h, h < lH.toNatClampNeg → ∀ (n c : Nat) (f f' : Nat → Int32), prg n 0 65535 f → (UC fH1 fH2 f41 f42 f43 f51 f52 f53 h n f c f' ↔ UR e1 e2 eL eB h n f c f') := fun h hh n c f f' hp => UCR R4 R5 gB (hHe h (by omega)).1 (hHe h (by omega)).2 hp
  rcases h with ⟨g, a1, a2, a3⟩ | ⟨g, a1, a2, a3, a4, a5⟩
  · rcases h' R1 R2 R3 (fun _ => by rw [eN]; exact ge_iff hU hV (by omega) hf hfe he hCV a1) with ⟨_, b1, b2⟩ | ⟨w, _⟩
    · have w := rw_rel a2 b1
      exact ⟨v_inj (by rw [a3, b2]; exact w.1), fun _ => w⟩
    · exact absurd g w
  · rcases h' R1 R2 R3 (fun w => absurd w g) with ⟨w, _⟩ | ⟨_, b1, b2, b3⟩
    · exact absurd w g
    · refine ⟨v_inj (by rw [a1, b1]), fun w => ?_⟩
      rw [a2, a3, a4, a5, b2, b3]; exact w
def F_roC (r i wh l : Int32) (T4 T5 T6 : Nat → Int32) : Prop := ((0 ≤ i.toInt ∧ i.toInt < l.toInt) ∧ ((wh.toInt = 0 ∧ r.toInt = cnt3 (T6 (3 * i.toNatClampNeg + 1)) (T6 (3 * i.toNatClampNeg + 2))) ∨ (∃ k : Nat, k < 3 ∧ wh.toInt = 1 + k ∧ r = T6 (3 * i.toNatClampNeg + k)) ∨ (wh.toInt = 4 ∧ r = T4 i.toNatClampNeg) ∨ (wh.toInt = 5 ∧ r = T5 i.toNatClampNeg))) ∨ (¬ (0 ≤ i.toInt ∧ i.toInt < l.toInt ∧ 0 ≤ wh.toInt ∧ wh.toInt < 6) ∧ r.toInt = -1)
def F_roR (r i wh z : Int32) (eR : Nat → Int32) : Prop := ((0 ≤ i.toInt ∧ i.toInt < z.toInt ∧ 0 ≤ wh.toInt ∧ wh.toInt < 6) ∧ r = eR (6 * i.toNatClampNeg + wh.toNatClampNeg)) ∨ (¬ (0 ≤ i.toInt ∧ i.toInt < z.toInt ∧ 0 ≤ wh.toInt ∧ wh.toInt < 6) ∧ r.toInt = -1)
theorem e_ro {r q i wh l z : Int32} {T4 T5 T6 eR : Nat → Int32} (hw : RWR l z T4 T5 T6 eR) (h : F_roC r i wh l T4 T5 T6) (h' : F_roR q i wh z eR) : r = q := by
  obtain ⟨w1, w2⟩ := hw
  rcases h with ⟨a1, a2⟩ | ⟨a1, a2⟩ <;> rcases h' with ⟨b1, b2⟩ | ⟨b1, b2⟩
  · have ci := v_clamp a1.1
    have cw := v_clamp b1.2.2.1
    obtain ⟨d1, d2, d3, d4⟩ := w2 i.toNatClampNeg (by omega)
    rcases a2 with ⟨c1, c2⟩ | ⟨k, c0, c1, c2⟩ | ⟨c1, c2⟩ | ⟨c1, c2⟩
    · rw [show wh.toNatClampNeg = 0 by omega, Nat.add_zero] at b2
      exact v_inj (by rw [c2, b2, d1])
    · rw [show 6 * i.toNatClampNeg + wh.toNatClampNeg = 6 * i.toNatClampNeg + 1 + k by omega] at b2
      rw [c2, b2, d2 k c0]
    · rw [show wh.toNatClampNeg = 4 by omega] at b2
      rw [c2, b2, d3]
    · rw [show wh.toNatClampNeg = 5 by omega] at b2
      rw [c2, b2, d4]
  · refine absurd ?_ b1
    rcases a2 with ⟨c1, c2⟩ | ⟨k, c0, c1, c2⟩ | ⟨c1, c2⟩ | ⟨c1, c2⟩ <;> omega
  · refine absurd ?_ a1
    omega
  · exact v_inj (a2.trans b2.symm)

set_option maxHeartbeats 40000000 in
set_option maxRecDepth 100000 in
theorem f_X9_keepFound (l : Launch) (dC : Nat → ClassId) (dI : Nat → Nat → Nat) (cI cS : ClassId) (sz : Nat) (oR : Nat) (oH : Nat) (oK : Nat) (n1 : Nat) (n2 : Nat) (n3 : Nat) (r1 : Nat) (r2 : Nat) (r3 : Nat) (r4 : Nat) (r5 : Nat) (r6 : Nat) (lR : Int32) (fR1 : Nat → Int32) (fR2 : Nat → Int32) (fR3 : Nat → Int32) (fR4 : Nat → Int32) (fR5 : Nat → Int32) (fR6 : Nat → Int32) (g_lR : 0 ≤ lR.toInt ∧ lR.toInt ≤ 258) : kMi l yX9_keepFound wsX9_keepFound ({ frames := 0, cells := 0, slots := 0, locals := 0 } : Room) [.ref oR] sz (dC, dI) vwCl [(cI, .int), (cS, .short)] [(oR, .inr (9, [.ref oH, .ref oK, .ref n1, .ref n2, .ref n3, .ref r1, .ref r2, .ref r3, .ref r4, .ref r5, .ref r6, .int lR])), (r1, .inl (cI, 258, .inl fR1)), (r2, .inl (cI, 258, .inl fR2)), (r3, .inl (cI, 774, .inl fR3)), (r4, .inl (cI, 258, .inl fR4)), (r5, .inl (cI, 258, .inl fR5)), (r6, .inl (cI, 774, .inl fR6))] (fun _ => True) 0 0 (fun (A : Nat → Prop) (r : Int32) (hh9 : Heap) => ∀ PZ9 : Prop, (∀ (lR' : Int32) (fR4' : Nat → Int32) (fR5' : Nat → Int32) (fR6' : Nat → Int32), kPD (dC, dI) vwCl A [(oR, .inr (9, [.ref oH, .ref oK, .ref n1, .ref n2, .ref n3, .ref r1, .ref r2, .ref r3, .ref r4, .ref r5, .ref r6, .int lR'])), (r1, .inl (cI, 258, .inl fR1)), (r2, .inl (cI, 258, .inl fR2)), (r3, .inl (cI, 774, .inl fR3)), (r4, .inl (cI, 258, .inl fR4')), (r5, .inl (cI, 258, .inl fR5')), (r6, .inl (cI, 774, .inl fR6'))] hh9 → (0 ≤ lR'.toInt ∧ lR'.toInt ≤ 258) → (r.toInt = lR'.toInt) → (KFD fR1 fR2 fR3 fR4' fR5' fR6' 258 lR'.toInt) → PZ9) → PZ9) := by
  refine kMi_of (cc := cX9_keepFound) (maxL := 3) (ret := (some .int)) (lv := [(0, .ref oR)]) (by decide +kernel) rfl rfl (Nat.le_of_ble_eq_true rfl) ?_
  intro p e s m below meth c A QQ ls hx hb hr hts hml hown hlocks hA hQQ hK hX hP hD hS hl
  have hown : s.vm.findClass RX9 = some m.cls := hown
  have hcf := k_cf hx hb hml hown hts
  have in_X9 : ∀ w ∈ wsX90, w ∈ wsX9_keepFound := fun _ h => List.mem_cons_of_mem _ (List.mem_append_right _ (h))
  replace g_lR := hid g_lR
  refine lv_aload_n hx hb dX9_keepFound_0 rfl (lv_at hl 0 rfl) ?_
  refine lv_iconst (v := 0) hx hb dX9_keepFound_1 (by decide) ?_
  refine va_put (D := (dC, dI)) (ci := 9) (v := .int 0) (ty := .int) (C := RX9) (T := TX9) (N := 12) hx hb hts in_X9 tyX9 tyX9_ok nmX9 hown hK hP hD hS 0 rfl rfl 11 (Nat.le_of_ble_eq_true rfl) (hts (.fieldLink RX9 59 "TextMender$Rows" "told" "I") (List.mem_of_getElem? (i := 1) rfl)) (fun _ h9 => h9) rfl (tyX9_ok 11 (Nat.le_of_ble_eq_true rfl)) rfl rfl (Nat.le_of_ble_eq_true rfl) dX9_keepFound_2 (kW (wn := [(oR, .inr (9, [.ref oH, .ref oK, .ref n1, .ref n2, .ref n3, .ref r1, .ref r2, .ref r3, .ref r4, .ref r5, .ref r6, .int 0])), (r1, .inl (cI, 258, .inl fR1)), (r2, .inl (cI, 258, .inl fR2)), (r3, .inl (cI, 774, .inl fR3)), (r4, .inl (cI, 258, .inl fR4)), (r5, .inl (cI, 258, .inl fR5)), (r6, .inl (cI, 774, .inl fR6))]) rfl (fun H locs hPn hDn hSn => ?_))
  clear hP hD hS
  have hP := hPn
  have hD := hDn
  have hS := hSn
  clear hPn hDn hSn
  refine lv_iconst (v := 0) hx hb dX9_keepFound_5 (by decide) ?_
  refine lv_istore_n (lv' := [(1, .int 0), (0, .ref oR)]) hx hb dX9_keepFound_6 rfl hl (by decide) rfl (fun ls hl => ?_)
  have LOOP_7 : ∀ (k_7 : Nat) (pl : Int32) (l2 : Int32) (f4 : Nat → Int32) (f5 : Nat → Int32) (f6 : Nat → Int32) (H : Heap) (locs : List Loc) (ls : Array Slot), MSd (258 - pl.toInt : Int) k_7 → (0 ≤ pl.toInt ∧ pl.toInt ≤ 258) → (0 ≤ l2.toInt ∧ l2.toInt ≤ pl.toInt) → (KFD fR1 fR2 fR3 f4 f5 f6 pl.toNatClampNeg l2.toInt) → va_P (dC, dI) vwCl [(oR, .inr (9, [.ref oH, .ref oK, .ref n1, .ref n2, .ref n3, .ref r1, .ref r2, .ref r3, .ref r4, .ref r5, .ref r6, .int l2])), (r1, .inl (cI, 258, .inl fR1)), (r2, .inl (cI, 258, .inl fR2)), (r3, .inl (cI, 774, .inl fR3)), (r4, .inl (cI, 258, .inl f4)), (r5, .inl (cI, 258, .inl f5)), (r6, .inl (cI, 774, .inl f6))] H → va_D A [(oR, .inr (9, [.ref oH, .ref oK, .ref n1, .ref n2, .ref n3, .ref r1, .ref r2, .ref r3, .ref r4, .ref r5, .ref r6, .int l2])), (r1, .inl (cI, 258, .inl fR1)), (r2, .inl (cI, 258, .inl fR2)), (r3, .inl (cI, 774, .inl fR3)), (r4, .inl (cI, 258, .inl f4)), (r5, .inl (cI, 258, .inl f5)), (r6, .inl (cI, 774, .inl f6))] → va_S A s.heap H locs → lv_has ls 3 [(1, .int pl), (0, .ref oR)] → W p l e (headSpec wsX9_keepFound ({ frames := 0, cells := 0, slots := 0, locals := 0 } : Room)).room s m ([.ref oR] : List Value).toArray below meth c H locs 0 0 (MQ below QQ ([.ref oR] : List Value).toArray s 0 0 A) (F0 m 7 ls []) := by
    clear hP hD hS hl
    intro k_7
    induction k_7 with
    | zero =>
      intro pl l2 f4 f5 f6 H locs ls hm_7 g_pl g_l2 hkf hP hD hS hl
      exact ms_0 hm_7
    | succ k_7 ih_7 =>
      intro pl l2 f4 f5 f6 H locs ls hm_7 g_pl g_l2 hkf hP hD hS hl
      refine lv_iload_n hx hb dX9_keepFound_7 rfl (lv_at hl 0 rfl) ?_
      refine lv_sipush (v := 258) hx hb dX9_keepFound_8 (by decide) ?_
      refine lv_icmp_ge (tgt := 106) hx hb dX9_keepFound_11 (by decide) (fun c_1 => ?_) (fun c_1 => ?_)
      · have tc_1 : 258 ≤ pl.toInt := v_le c_1
        refine lv_aload_n hx hb dX9_keepFound_106 rfl (lv_at hl 1 rfl) ?_
        refine va_get (D := (dC, dI)) (ci := 9) (v := .int l2) (C := RX9) (T := TX9) (N := 12) hx hb hts in_X9 hown hK hP 0 rfl rfl 11 (Nat.le_of_ble_eq_true rfl) (hts (.fieldLink RX9 59 "TextMender$Rows" "told" "I") (List.mem_of_getElem? (i := 1) rfl)) (fun _ h9 => h9) rfl dX9_keepFound_107 ?_
        exact kl_i (v := l2) hQQ hx hb hr hlocks hS dX9_keepFound_110 (fun PZ9 kZ9 => kZ9 l2 f4 f5 f6 (⟨hP, hD⟩) (by omega) (by show l2.toInt = l2.toInt; omega) (KFD_e hkf (ix_eq (by omega))))
      · have tc_1 : pl.toInt < 258 := v_nle c_1
        have cpl9 := v_clamp (x := pl) (by omega)
        refine lv_aload_n hx hb dX9_keepFound_14 rfl (lv_at hl 1 rfl) ?_
        refine va_get (D := (dC, dI)) (ci := 9) (v := .ref r1) (C := RX9) (T := TX9) (N := 12) hx hb hts in_X9 hown hK hP 0 rfl rfl 5 (Nat.le_of_ble_eq_true rfl) (hts (.fieldLink RX9 26 "TextMender$Rows" "foundCost" "[I") (List.mem_of_getElem? (i := 2) rfl)) (fun _ h9 => h9) rfl dX9_keepFound_15 ?_
        refine lv_iload_n hx hb dX9_keepFound_18 rfl (lv_at hl 0 rfl) ?_
        refine va_iald hx hb hK hP 1 0 rfl rfl (v_in (by omega)) dX9_keepFound_19 ?_
        refine lv_topi (fun x_2 ex_2 => ?_)
        refine lv_iconst (v := (-1)) hx hb dX9_keepFound_20 (by decide) ?_
        refine lv_icmp_eq (tgt := 100) hx hb dX9_keepFound_21 (by decide) (fun c_3 => ?_) (fun c_3 => ?_)
        · have tc_3 : x_2.toInt = (-1) := v_eq c_3
          obtain ⟨x_4, ex_4⟩ : ∃ y : Int32, y = pl + 1 := ⟨_, rfl⟩
          have tx_4 : x_4.toInt = pl.toInt + 1 := v_addR (l2 := 1) (h2 := 1) ex_4 g_pl (by decide) (by decide) (by decide)
          refine lv_iinc (v := x_4) (lv' := [(1, .int x_4), (0, .ref oR)]) hx hb dX9_keepFound_100 hl (k := 0) rfl (by rw [ex_4]; rfl) (by decide) rfl (fun ls hl => ?_)
          refine lv_goto (tgt := 7) hx hb dX9_keepFound_103 (by decide) ?_
          exact ih_7 x_4 l2 f4 f5 f6 _ _ _ (ms_lt hm_7 (by show ((258 - x_4.toInt : Int)) < 258 - pl.toInt; omega) (by show (0 : Int) < 258 - pl.toInt; omega)) (by show 0 ≤ x_4.toInt ∧ x_4.toInt ≤ 258; omega) (by show 0 ≤ l2.toInt ∧ l2.toInt ≤ x_4.toInt; omega) (KFD_n hkf ex_2 c_3 (ix_eq (by omega))) hP hD hS (lv_sub hl [0, 1] rfl)
        · have tc_3 : ¬ x_2.toInt = (-1) := v_ne c_3
          have hne9 : ¬ fR1 pl.toNatClampNeg = -1 := by rw [← ex_2]; exact c_3
          refine lv_aload_n hx hb dX9_keepFound_24 rfl (lv_at hl 1 rfl) ?_
          refine va_get (D := (dC, dI)) (ci := 9) (v := .ref r4) (C := RX9) (T := TX9) (N := 12) hx hb hts in_X9 hown hK hP 0 rfl rfl 8 (Nat.le_of_ble_eq_true rfl) (hts (.fieldLink RX9 36 "TextMender$Rows" "toldCost" "[I") (List.mem_of_getElem? (i := 3) rfl)) (fun _ h9 => h9) rfl dX9_keepFound_25 ?_
          refine lv_aload_n hx hb dX9_keepFound_28 rfl (lv_at hl 1 rfl) ?_
          refine va_get (D := (dC, dI)) (ci := 9) (v := .int l2) (C := RX9) (T := TX9) (N := 12) hx hb hts in_X9 hown hK hP 0 rfl rfl 11 (Nat.le_of_ble_eq_true rfl) (hts (.fieldLink RX9 59 "TextMender$Rows" "told" "I") (List.mem_of_getElem? (i := 1) rfl)) (fun _ h9 => h9) rfl dX9_keepFound_29 ?_
          refine lv_aload_n hx hb dX9_keepFound_32 rfl (lv_at hl 1 rfl) ?_
          refine va_get (D := (dC, dI)) (ci := 9) (v := .ref r1) (C := RX9) (T := TX9) (N := 12) hx hb hts in_X9 hown hK hP 0 rfl rfl 5 (Nat.le_of_ble_eq_true rfl) (hts (.fieldLink RX9 26 "TextMender$Rows" "foundCost" "[I") (List.mem_of_getElem? (i := 2) rfl)) (fun _ h9 => h9) rfl dX9_keepFound_33 ?_
          refine lv_iload_n hx hb dX9_keepFound_36 rfl (lv_at hl 0 rfl) ?_
          refine va_iald hx hb hK hP 1 0 rfl rfl (v_in (by omega)) dX9_keepFound_37 ?_
          refine k_i (y := x_2) ex_2.symm ?_
          obtain ⟨f_5, ef_5⟩ : ∃ g : Nat → Int32, g = upd f4 (l2 : Int32).toNatClampNeg x_2 := ⟨_, rfl⟩
          refine va_iast hx hb hK hP hD hS 4 0 rfl rfl (v_in (by omega)) dX9_keepFound_38 (kWf (g := f_5) (F := fun f_5 => [(oR, .inr (9, [.ref oH, .ref oK, .ref n1, .ref n2, .ref n3, .ref r1, .ref r2, .ref r3, .ref r4, .ref r5, .ref r6, .int l2])), (r1, .inl (cI, 258, .inl fR1)), (r2, .inl (cI, 258, .inl fR2)), (r3, .inl (cI, 774, .inl fR3)), (r4, .inl (cI, 258, .inl f_5)), (r5, .inl (cI, 258, .inl f5)), (r6, .inl (cI, 774, .inl f6))]) ef_5 rfl (fun H locs hPn hDn hSn => ?_))
          clear hP hD hS
          have hP := hPn
          have hD := hDn
          have hS := hSn
          clear hPn hDn hSn
          refine lv_aload_n hx hb dX9_keepFound_39 rfl (lv_at hl 1 rfl) ?_
          refine va_get (D := (dC, dI)) (ci := 9) (v := .ref r5) (C := RX9) (T := TX9) (N := 12) hx hb hts in_X9 hown hK hP 0 rfl rfl 9 (Nat.le_of_ble_eq_true rfl) (hts (.fieldLink RX9 39 "TextMender$Rows" "toldLength" "[I") (List.mem_of_getElem? (i := 4) rfl)) (fun _ h9 => h9) rfl dX9_keepFound_40 ?_
          refine lv_aload_n hx hb dX9_keepFound_43 rfl (lv_at hl 1 rfl) ?_
          refine va_get (D := (dC, dI)) (ci := 9) (v := .int l2) (C := RX9) (T := TX9) (N := 12) hx hb hts in_X9 hown hK hP 0 rfl rfl 11 (Nat.le_of_ble_eq_true rfl) (hts (.fieldLink RX9 59 "TextMender$Rows" "told" "I") (List.mem_of_getElem? (i := 1) rfl)) (fun _ h9 => h9) rfl dX9_keepFound_44 ?_
          refine lv_aload_n hx hb dX9_keepFound_47 rfl (lv_at hl 1 rfl) ?_
          refine va_get (D := (dC, dI)) (ci := 9) (v := .ref r2) (C := RX9) (T := TX9) (N := 12) hx hb hts in_X9 hown hK hP 0 rfl rfl 6 (Nat.le_of_ble_eq_true rfl) (hts (.fieldLink RX9 30 "TextMender$Rows" "foundLength" "[I") (List.mem_of_getElem? (i := 5) rfl)) (fun _ h9 => h9) rfl dX9_keepFound_48 ?_
          refine lv_iload_n hx hb dX9_keepFound_51 rfl (lv_at hl 0 rfl) ?_
          refine va_iald hx hb hK hP 2 0 rfl rfl (v_in (by omega)) dX9_keepFound_52 ?_
          refine lv_topi (fun x_6 ex_6 => ?_)
          obtain ⟨f_7, ef_7⟩ : ∃ g : Nat → Int32, g = upd f5 (l2 : Int32).toNatClampNeg x_6 := ⟨_, rfl⟩
          refine va_iast hx hb hK hP hD hS 5 0 rfl rfl (v_in (by omega)) dX9_keepFound_53 (kWf (g := f_7) (F := fun f_7 => [(oR, .inr (9, [.ref oH, .ref oK, .ref n1, .ref n2, .ref n3, .ref r1, .ref r2, .ref r3, .ref r4, .ref r5, .ref r6, .int l2])), (r1, .inl (cI, 258, .inl fR1)), (r2, .inl (cI, 258, .inl fR2)), (r3, .inl (cI, 774, .inl fR3)), (r4, .inl (cI, 258, .inl f_5)), (r5, .inl (cI, 258, .inl f_7)), (r6, .inl (cI, 774, .inl f6))]) ef_7 rfl (fun H locs hPn hDn hSn => ?_))
          clear hP hD hS
          have hP := hPn
          have hD := hDn
          have hS := hSn
          clear hPn hDn hSn
          refine lv_iconst (v := 0) hx hb dX9_keepFound_54 (by decide) ?_
          refine lv_istore_n (lv' := [(2, .int 0), (1, .int pl), (0, .ref oR)]) hx hb dX9_keepFound_55 rfl hl (by decide) rfl (fun ls hl => ?_)
          have LOOP_56 : ∀ (k_56 : Nat) (k : Int32) (f7 : Nat → Int32) (H : Heap) (locs : List Loc) (ls : Array Slot), MSd (3 - k.toInt : Int) k_56 → (0 ≤ k.toInt ∧ k.toInt ≤ 3) → (CP3 l2.toInt pl.toInt k.toInt f6 f7 fR3) → va_P (dC, dI) vwCl [(oR, .inr (9, [.ref oH, .ref oK, .ref n1, .ref n2, .ref n3, .ref r1, .ref r2, .ref r3, .ref r4, .ref r5, .ref r6, .int l2])), (r1, .inl (cI, 258, .inl fR1)), (r2, .inl (cI, 258, .inl fR2)), (r3, .inl (cI, 774, .inl fR3)), (r4, .inl (cI, 258, .inl f_5)), (r5, .inl (cI, 258, .inl f_7)), (r6, .inl (cI, 774, .inl f7))] H → va_D A [(oR, .inr (9, [.ref oH, .ref oK, .ref n1, .ref n2, .ref n3, .ref r1, .ref r2, .ref r3, .ref r4, .ref r5, .ref r6, .int l2])), (r1, .inl (cI, 258, .inl fR1)), (r2, .inl (cI, 258, .inl fR2)), (r3, .inl (cI, 774, .inl fR3)), (r4, .inl (cI, 258, .inl f_5)), (r5, .inl (cI, 258, .inl f_7)), (r6, .inl (cI, 774, .inl f7))] → va_S A s.heap H locs → lv_has ls 3 [(2, .int k), (1, .int pl), (0, .ref oR)] → W p l e (headSpec wsX9_keepFound ({ frames := 0, cells := 0, slots := 0, locals := 0 } : Room)).room s m ([.ref oR] : List Value).toArray below meth c H locs 0 0 (MQ below QQ ([.ref oR] : List Value).toArray s 0 0 A) (F0 m 56 ls []) := by
            clear hP hD hS hl
            intro k_56
            induction k_56 with
            | zero =>
              intro k f7 H locs ls hm_56 g_k hcp hP hD hS hl
              exact ms_0 hm_56
            | succ k_56 ih_56 =>
              intro k f7 H locs ls hm_56 g_k hcp hP hD hS hl
              refine lv_iload_n hx hb dX9_keepFound_56 rfl (lv_at hl 0 rfl) ?_
              refine lv_iconst (v := 3) hx hb dX9_keepFound_57 (by decide) ?_
              refine lv_icmp_ge (tgt := 90) hx hb dX9_keepFound_58 (by decide) (fun c_8 => ?_) (fun c_8 => ?_)
              · have tc_8 : 3 ≤ k.toInt := v_le c_8
                refine lv_aload_n hx hb dX9_keepFound_90 rfl (lv_at hl 2 rfl) ?_
                refine lv_dup hx hb dX9_keepFound_91 rfl ?_
                refine va_get (D := (dC, dI)) (ci := 9) (v := .int l2) (C := RX9) (T := TX9) (N := 12) hx hb hts in_X9 hown hK hP 0 rfl rfl 11 (Nat.le_of_ble_eq_true rfl) (hts (.fieldLink RX9 59 "TextMender$Rows" "told" "I") (List.mem_of_getElem? (i := 1) rfl)) (fun _ h9 => h9) rfl dX9_keepFound_92 ?_
                refine lv_iconst (v := 1) hx hb dX9_keepFound_95 (by decide) ?_
                refine lv_iadd hx hb dX9_keepFound_96 ?_
                refine lv_topi (fun x_9 ex_9 => ?_)
                have tx_9 : x_9.toInt = l2.toInt + 1 := v_add ex_9 (by show -2147483648 ≤ l2.toInt + 1; omega) (by show l2.toInt + 1 < 2147483648; omega)
                refine va_put (D := (dC, dI)) (ci := 9) (v := .int x_9) (ty := .int) (C := RX9) (T := TX9) (N := 12) hx hb hts in_X9 tyX9 tyX9_ok nmX9 hown hK hP hD hS 0 rfl rfl 11 (Nat.le_of_ble_eq_true rfl) (hts (.fieldLink RX9 59 "TextMender$Rows" "told" "I") (List.mem_of_getElem? (i := 1) rfl)) (fun _ h9 => h9) rfl (tyX9_ok 11 (Nat.le_of_ble_eq_true rfl)) rfl rfl (Nat.le_of_ble_eq_true rfl) dX9_keepFound_97 (kW (wn := [(oR, .inr (9, [.ref oH, .ref oK, .ref n1, .ref n2, .ref n3, .ref r1, .ref r2, .ref r3, .ref r4, .ref r5, .ref r6, .int x_9])), (r1, .inl (cI, 258, .inl fR1)), (r2, .inl (cI, 258, .inl fR2)), (r3, .inl (cI, 774, .inl fR3)), (r4, .inl (cI, 258, .inl f_5)), (r5, .inl (cI, 258, .inl f_7)), (r6, .inl (cI, 774, .inl f7))]) rfl (fun H locs hPn hDn hSn => ?_))
                clear hP hD hS
                have hP := hPn
                have hD := hDn
                have hS := hSn
                clear hPn hDn hSn
                obtain ⟨x_10, ex_10⟩ : ∃ y : Int32, y = pl + 1 := ⟨_, rfl⟩
                have tx_10 : x_10.toInt = pl.toInt + 1 := v_addR (l2 := 1) (h2 := 1) ex_10 g_pl (by decide) (by decide) (by decide)
                refine lv_iinc (v := x_10) (lv' := [(1, .int x_10), (2, .int k), (0, .ref oR)]) hx hb dX9_keepFound_100 hl (k := 1) rfl (by rw [ex_10]; rfl) (by decide) rfl (fun ls hl => ?_)
                refine lv_goto (tgt := 7) hx hb dX9_keepFound_103 (by decide) ?_
                exact ih_7 x_10 x_9 f_5 f_7 f7 _ _ _ (ms_lt hm_7 (by show ((258 - x_10.toInt : Int)) < 258 - pl.toInt; omega) (by show (0 : Int) < 258 - pl.toInt; omega)) (by show 0 ≤ x_10.toInt ∧ x_10.toInt ≤ 258; omega) (by show 0 ≤ x_9.toInt ∧ x_9.toInt ≤ x_10.toInt; omega) (KFD_y hkf hne9 ex_2 ex_6 ef_5 ef_7 hcp (by omega) (by omega) (by omega) (ix_eq (by omega)) (by omega)) hP hD hS (lv_sub hl [0, 2] rfl)
              · have tc_8 : k.toInt < 3 := v_nle c_8
                refine lv_aload_n hx hb dX9_keepFound_61 rfl (lv_at hl 2 rfl) ?_
                refine va_get (D := (dC, dI)) (ci := 9) (v := .ref r6) (C := RX9) (T := TX9) (N := 12) hx hb hts in_X9 hown hK hP 0 rfl rfl 10 (Nat.le_of_ble_eq_true rfl) (hts (.fieldLink RX9 42 "TextMender$Rows" "toldHarms" "[I") (List.mem_of_getElem? (i := 6) rfl)) (fun _ h9 => h9) rfl dX9_keepFound_62 ?_
                refine lv_aload_n hx hb dX9_keepFound_65 rfl (lv_at hl 2 rfl) ?_
                refine va_get (D := (dC, dI)) (ci := 9) (v := .int l2) (C := RX9) (T := TX9) (N := 12) hx hb hts in_X9 hown hK hP 0 rfl rfl 11 (Nat.le_of_ble_eq_true rfl) (hts (.fieldLink RX9 59 "TextMender$Rows" "told" "I") (List.mem_of_getElem? (i := 1) rfl)) (fun _ h9 => h9) rfl dX9_keepFound_66 ?_
                refine lv_iconst (v := 3) hx hb dX9_keepFound_69 (by decide) ?_
                refine lv_imul hx hb dX9_keepFound_70 ?_
                refine lv_topi (fun x_11 ex_11 => ?_)
                have tx_11 : x_11.toInt = l2.toInt * 3 := v_mul ex_11 (by show -2147483648 ≤ l2.toInt * 3; omega) (by show l2.toInt * 3 < 2147483648; omega)
                refine lv_iload_n hx hb dX9_keepFound_71 rfl (lv_at hl 0 rfl) ?_
                refine lv_iadd hx hb dX9_keepFound_72 ?_
                refine lv_topi (fun x_12 ex_12 => ?_)
                have tx_12 : x_12.toInt = x_11.toInt + k.toInt := v_add ex_12 (by show -2147483648 ≤ x_11.toInt + k.toInt; omega) (by show x_11.toInt + k.toInt < 2147483648; omega)
                refine lv_aload_n hx hb dX9_keepFound_73 rfl (lv_at hl 2 rfl) ?_
                refine va_get (D := (dC, dI)) (ci := 9) (v := .ref r3) (C := RX9) (T := TX9) (N := 12) hx hb hts in_X9 hown hK hP 0 rfl rfl 7 (Nat.le_of_ble_eq_true rfl) (hts (.fieldLink RX9 33 "TextMender$Rows" "foundHarms" "[I") (List.mem_of_getElem? (i := 7) rfl)) (fun _ h9 => h9) rfl dX9_keepFound_74 ?_
                refine lv_iload_n hx hb dX9_keepFound_77 rfl (lv_at hl 1 rfl) ?_
                refine lv_iconst (v := 3) hx hb dX9_keepFound_78 (by decide) ?_
                refine lv_imul hx hb dX9_keepFound_79 ?_
                refine lv_topi (fun x_13 ex_13 => ?_)
                have tx_13 : x_13.toInt = pl.toInt * 3 := v_mul ex_13 (by show -2147483648 ≤ pl.toInt * 3; omega) (by show pl.toInt * 3 < 2147483648; omega)
                refine lv_iload_n hx hb dX9_keepFound_80 rfl (lv_at hl 0 rfl) ?_
                refine lv_iadd hx hb dX9_keepFound_81 ?_
                refine lv_topi (fun x_14 ex_14 => ?_)
                have tx_14 : x_14.toInt = x_13.toInt + k.toInt := v_add ex_14 (by show -2147483648 ≤ x_13.toInt + k.toInt; omega) (by show x_13.toInt + k.toInt < 2147483648; omega)
                refine va_iald hx hb hK hP 3 0 rfl rfl (v_in (by omega)) dX9_keepFound_82 ?_
                refine lv_topi (fun x_15 ex_15 => ?_)
                obtain ⟨f_16, ef_16⟩ : ∃ g : Nat → Int32, g = upd f7 (x_12 : Int32).toNatClampNeg x_15 := ⟨_, rfl⟩
                refine va_iast hx hb hK hP hD hS 6 0 rfl rfl (v_in (by omega)) dX9_keepFound_83 (kWf (g := f_16) (F := fun f_16 => [(oR, .inr (9, [.ref oH, .ref oK, .ref n1, .ref n2, .ref n3, .ref r1, .ref r2, .ref r3, .ref r4, .ref r5, .ref r6, .int l2])), (r1, .inl (cI, 258, .inl fR1)), (r2, .inl (cI, 258, .inl fR2)), (r3, .inl (cI, 774, .inl fR3)), (r4, .inl (cI, 258, .inl f_5)), (r5, .inl (cI, 258, .inl f_7)), (r6, .inl (cI, 774, .inl f_16))]) ef_16 rfl (fun H locs hPn hDn hSn => ?_))
                clear hP hD hS
                have hP := hPn
                have hD := hDn
                have hS := hSn
                clear hPn hDn hSn
                obtain ⟨x_17, ex_17⟩ : ∃ y : Int32, y = k + 1 := ⟨_, rfl⟩
                have tx_17 : x_17.toInt = k.toInt + 1 := v_addR (l2 := 1) (h2 := 1) ex_17 g_k (by decide) (by decide) (by decide)
                refine lv_iinc (v := x_17) (lv' := [(2, .int x_17), (1, .int pl), (0, .ref oR)]) hx hb dX9_keepFound_84 hl (k := 0) rfl (by rw [ex_17]; rfl) (by decide) rfl (fun ls hl => ?_)
                refine lv_goto (tgt := 56) hx hb dX9_keepFound_87 (by decide) ?_
                exact ih_56 x_17 f_16 _ _ _ (ms_lt hm_56 (by show ((3 - x_17.toInt : Int)) < 3 - k.toInt; omega) (by show (0 : Int) < 3 - k.toInt; omega)) (by show 0 ≤ x_17.toInt ∧ x_17.toInt ≤ 3; omega) (CP3_s hcp (by omega) (by omega) (by omega) (by omega) (by omega) ex_15 ef_16 (by omega)) hP hD hS (lv_sub hl [0, 1, 2] rfl)
          exact LOOP_56 _ 0 f6 _ _ _ (ms_s _) (by decide) (CP3_0 rfl) hP hD hS (lv_sub hl [0, 1, 2] rfl)
  exact LOOP_7 _ 0 0 fR4 fR5 fR6 _ _ _ (ms_s _) (by decide) (by show 0 ≤ (0 : Int) ∧ (0 : Int) ≤ 0; omega) (KFD_0 rfl rfl) hP hD hS (lv_sub hl [0, 1] rfl)

set_option maxHeartbeats 40000000 in
set_option maxRecDepth 100000 in
theorem f_X11_rows (l : Launch) (dC : Nat → ClassId) (dI : Nat → Nat → Nat) (cI cS : ClassId) (sz : Nat) (oX : Nat) (nT : Nat) (nL : Nat) (nM : Nat) (oC : Nat) (oP : Nat) (oH : Nat) (oK : Nat) (oG : Nat) (oR : Nat) (oQ : Nat) (oW : Nat) (n1 : Nat) (n2 : Nat) (n3 : Nat) (r1 : Nat) (r2 : Nat) (r3 : Nat) (r4 : Nat) (r5 : Nat) (r6 : Nat) (a1 : Nat) (a2 : Nat) (a3 : Nat) (h1 : Nat) (h2 : Nat) (nB : Nat) (aB : Nat) (o4 : Nat) (o5 : Nat) (a41 : Nat) (a42 : Nat) (a43 : Nat) (a51 : Nat) (a52 : Nat) (a53 : Nat) (k1 : Nat) (k2 : Nat) (aL : Nat) (fa : Int32) (lR : Int32) (fR1 : Nat → Int32) (fR2 : Nat → Int32) (fR3 : Nat → Int32) (fR4 : Nat → Int32) (fR5 : Nat → Int32) (fR6 : Nat → Int32) (l1 : Int32) (f1 : Nat → Int32) (l2 : Int32) (f2 : Nat → Int32) (l3 : Int32) (f3 : Nat → Int32) (lH : Int32) (fH1 : Nat → Int32) (fH2 : Nat → Int32) (ft : Int32) (lB : Int32) (fB : Nat → Int32) (l4 : Int32) (f41 : Nat → Int32) (f42 : Nat → Int32) (f43 : Nat → Int32) (l5 : Int32) (f51 : Nat → Int32) (f52 : Nat → Int32) (f53 : Nat → Int32) (lK : Int32) (fK1 : Nat → Int32) (fK2 : Nat → Int32) (lL : Int32) (fL : Nat → Int32) (n : Int32) (g_lR : 0 ≤ lR.toInt ∧ lR.toInt ≤ 258) (g_l1 : 0 ≤ l1.toInt ∧ l1.toInt ≤ 300) (g_l2 : 0 ≤ l2.toInt ∧ l2.toInt ≤ 300) (g_l3 : 0 ≤ l3.toInt ∧ l3.toInt ≤ 300) (g_lH : 0 ≤ lH.toInt ∧ lH.toInt ≤ 6) (g_lB : 0 ≤ lB.toInt ∧ lB.toInt ≤ 2400) (g_lK : 0 ≤ lK.toInt ∧ lK.toInt ≤ 300) (g_lL : 0 ≤ lL.toInt ∧ lL.toInt ≤ 300) (hlt : prg lL.toInt 0 65535 fL) (hT4 : HT 512 511 hsT f42 f43) (ho4 : (occ f43 512 : Int) ≤ 511) (hT5 : HT 512 511 hsT f52 f53) (ho5 : (occ f53 512 : Int) ≤ 511) (hL4 : prg 256 (-1) 65535 f41) (hL5 : prg 256 (-1) 65535 f51) (hBr : ∀ cd : Int32, okB (Bc cd f42 f43 f52 f53)) (hT : HT 1024 1023 hsK fK1 fK2) (ho : (occ fK2 1024 : Int) ≤ lK.toInt) (hV : prg 1024 (-1) 200 fK2) : kMi l yX11_rows wsX11_rows ({ frames := 7, cells := 0, slots := 0, locals := 175 } : Room) [.ref oX, .int n] sz (dC, dI) vwCl [(cI, .int), (cS, .short)] [(oX, .inr (11, [.ref nT, .ref nL, .ref nM, .ref oC, .ref oP, .ref oH, .ref oK, .ref oG, .ref oR, .ref oQ, .ref oW, .int fa])), (oR, .inr (9, [.ref oH, .ref oK, .ref n1, .ref n2, .ref n3, .ref r1, .ref r2, .ref r3, .ref r4, .ref r5, .ref r6, .int lR])), (r1, .inl (cI, 258, .inl fR1)), (r2, .inl (cI, 258, .inl fR2)), (r3, .inl (cI, 774, .inl fR3)), (r4, .inl (cI, 258, .inl fR4)), (r5, .inl (cI, 258, .inl fR5)), (r6, .inl (cI, 774, .inl fR6)), (n1, .inr (5, [.ref a1, .int l1])), (a1, .inl (cI, 300, .inl f1)), (n2, .inr (5, [.ref a2, .int l2])), (a2, .inl (cI, 300, .inl f2)), (n3, .inr (5, [.ref a3, .int l3])), (a3, .inl (cI, 300, .inl f3)), (oH, .inr (4, [.ref oP, .ref h1, .ref h2, .int lH])), (h1, .inl (cI, 6, .inl fH1)), (h2, .inl (cI, 6, .inl fH2)), (oP, .inr (7, [.ref oC, .ref nB, .int ft])), (nB, .inr (5, [.ref aB, .int lB])), (aB, .inl (cI, 2400, .inl fB)), (oC, .inr (2, [.ref o4, .ref o5])), (o4, .inr (10, [.ref a41, .ref a42, .ref a43, .int l4])), (a41, .inl (cI, 256, .inl f41)), (a42, .inl (cI, 512, .inl f42)), (a43, .inl (cI, 512, .inl f43)), (o5, .inr (10, [.ref a51, .ref a52, .ref a53, .int l5])), (a51, .inl (cI, 256, .inl f51)), (a52, .inl (cI, 512, .inl f52)), (a53, .inl (cI, 512, .inl f53)), (oK, .inr (3, [.ref k1, .ref k2, .int lK])), (k1, .inl (cI, 1024, .inl fK1)), (k2, .inl (cI, 1024, .inl fK2)), (nL, .inr (5, [.ref aL, .int lL])), (aL, .inl (cI, 300, .inl fL))] (va_Nw (.methodLinkNest RX2 52 yX11_isLetter "TextMender")) 0 0 (fun (A : Nat → Prop) (r : Int32) (hh9 : Heap) => ∀ PZ9 : Prop, (∀ (fa' : Int32) (ft' : Int32) (lB' : Int32) (fB' : Nat → Int32) (l1' : Int32) (f1' : Nat → Int32) (l2' : Int32) (f2' : Nat → Int32) (l3' : Int32) (f3' : Nat → Int32) (fR1' : Nat → Int32) (fR2' : Nat → Int32) (fR3' : Nat → Int32) (lR' : Int32) (fR4' : Nat → Int32) (fR5' : Nat → Int32) (fR6' : Nat → Int32), kPD (dC, dI) vwCl A [(oX, .inr (11, [.ref nT, .ref nL, .ref nM, .ref oC, .ref oP, .ref oH, .ref oK, .ref oG, .ref oR, .ref oQ, .ref oW, .int fa'])), (oR, .inr (9, [.ref oH, .ref oK, .ref n1, .ref n2, .ref n3, .ref r1, .ref r2, .ref r3, .ref r4, .ref r5, .ref r6, .int lR'])), (r1, .inl (cI, 258, .inl fR1')), (r2, .inl (cI, 258, .inl fR2')), (r3, .inl (cI, 774, .inl fR3')), (r4, .inl (cI, 258, .inl fR4')), (r5, .inl (cI, 258, .inl fR5')), (r6, .inl (cI, 774, .inl fR6')), (n1, .inr (5, [.ref a1, .int l1'])), (a1, .inl (cI, 300, .inl f1')), (n2, .inr (5, [.ref a2, .int l2'])), (a2, .inl (cI, 300, .inl f2')), (n3, .inr (5, [.ref a3, .int l3'])), (a3, .inl (cI, 300, .inl f3')), (oH, .inr (4, [.ref oP, .ref h1, .ref h2, .int lH])), (h1, .inl (cI, 6, .inl fH1)), (h2, .inl (cI, 6, .inl fH2)), (oP, .inr (7, [.ref oC, .ref nB, .int ft'])), (nB, .inr (5, [.ref aB, .int lB'])), (aB, .inl (cI, 2400, .inl fB')), (oC, .inr (2, [.ref o4, .ref o5])), (o4, .inr (10, [.ref a41, .ref a42, .ref a43, .int l4])), (a41, .inl (cI, 256, .inl f41)), (a42, .inl (cI, 512, .inl f42)), (a43, .inl (cI, 512, .inl f43)), (o5, .inr (10, [.ref a51, .ref a52, .ref a53, .int l5])), (a51, .inl (cI, 256, .inl f51)), (a52, .inl (cI, 512, .inl f52)), (a53, .inl (cI, 512, .inl f53)), (oK, .inr (3, [.ref k1, .ref k2, .int lK])), (k1, .inl (cI, 1024, .inl fK1)), (k2, .inl (cI, 1024, .inl fK2)), (nL, .inr (5, [.ref aL, .int lL])), (aL, .inl (cI, 300, .inl fL))] hh9 → (0 ≤ lB'.toInt ∧ lB'.toInt ≤ 2400) → (0 ≤ l1'.toInt ∧ l1'.toInt ≤ 300) → (0 ≤ l2'.toInt ∧ l2'.toInt ≤ 300) → (0 ≤ l3'.toInt ∧ l3'.toInt ≤ 300) → (0 ≤ lR'.toInt ∧ lR'.toInt ≤ 258) → (F_rwC n r lR lR' (rGE (UC fH1 fH2 f41 f42 f43 f51 f52 f53) (tcC fK1 fK2) lH.toNatClampNeg lL.toInt.toNat fL n.toInt fR1' fR2' fR3') fR1' fR2' fR3' fR4 fR4' fR5 fR5' fR6 fR6') → PZ9) → PZ9) := by
  refine kMi_of (cc := cX11_rows) (maxL := 2) (ret := (some .int)) (lv := [(0, .ref oX), (1, .int n)]) (by decide +kernel) rfl rfl (Nat.le_of_ble_eq_true rfl) ?_
  intro p e s m below meth c A QQ ls hx hb hr hts hml hown hlocks hA hQQ hK hX hP hD hS hl
  have hown : s.vm.findClass RX11 = some m.cls := hown
  have hcf := k_cf hx hb hml hown hts
  have hN52 := hX
  have in_X11 : ∀ w ∈ wsX110, w ∈ wsX11_rows := fun _ h => List.mem_cons_of_mem _ (List.mem_append_left _ (List.mem_append_left _ (List.mem_append_left _ (List.mem_append_left _ (List.mem_append_left _ (List.mem_append_left _ (List.mem_append_left _ (List.mem_append_left _ (List.mem_append_left _ (List.mem_append_right _ (h)))))))))))
  replace g_l1 := hid g_l1
  replace g_l2 := hid g_l2
  replace g_l3 := hid g_l3
  replace g_lB := hid g_lB
  refine lv_aload_n hx hb dX11_rows_0 rfl (lv_at hl 0 rfl) ?_
  refine lv_iconst (v := (-1)) hx hb dX11_rows_1 (by decide) ?_
  refine va_put (D := (dC, dI)) (ci := 11) (v := .int (-1)) (ty := .int) (C := RX11) (T := TX11) (N := 12) hx hb hts in_X11 tyX11 tyX11_ok nmX11 hown hK hP hD hS 0 rfl rfl 11 (Nat.le_of_ble_eq_true rfl) (hts (.fieldLink RX11 90 "TextMender" "fault" "I") (List.mem_of_getElem? (i := 1) rfl)) (fun _ h9 => h9) rfl (tyX11_ok 11 (Nat.le_of_ble_eq_true rfl)) rfl rfl (Nat.le_of_ble_eq_true rfl) dX11_rows_2 (kW (wn := [(oX, .inr (11, [.ref nT, .ref nL, .ref nM, .ref oC, .ref oP, .ref oH, .ref oK, .ref oG, .ref oR, .ref oQ, .ref oW, .int (-1)])), (oR, .inr (9, [.ref oH, .ref oK, .ref n1, .ref n2, .ref n3, .ref r1, .ref r2, .ref r3, .ref r4, .ref r5, .ref r6, .int lR])), (r1, .inl (cI, 258, .inl fR1)), (r2, .inl (cI, 258, .inl fR2)), (r3, .inl (cI, 774, .inl fR3)), (r4, .inl (cI, 258, .inl fR4)), (r5, .inl (cI, 258, .inl fR5)), (r6, .inl (cI, 774, .inl fR6)), (n1, .inr (5, [.ref a1, .int l1])), (a1, .inl (cI, 300, .inl f1)), (n2, .inr (5, [.ref a2, .int l2])), (a2, .inl (cI, 300, .inl f2)), (n3, .inr (5, [.ref a3, .int l3])), (a3, .inl (cI, 300, .inl f3)), (oH, .inr (4, [.ref oP, .ref h1, .ref h2, .int lH])), (h1, .inl (cI, 6, .inl fH1)), (h2, .inl (cI, 6, .inl fH2)), (oP, .inr (7, [.ref oC, .ref nB, .int ft])), (nB, .inr (5, [.ref aB, .int lB])), (aB, .inl (cI, 2400, .inl fB)), (oC, .inr (2, [.ref o4, .ref o5])), (o4, .inr (10, [.ref a41, .ref a42, .ref a43, .int l4])), (a41, .inl (cI, 256, .inl f41)), (a42, .inl (cI, 512, .inl f42)), (a43, .inl (cI, 512, .inl f43)), (o5, .inr (10, [.ref a51, .ref a52, .ref a53, .int l5])), (a51, .inl (cI, 256, .inl f51)), (a52, .inl (cI, 512, .inl f52)), (a53, .inl (cI, 512, .inl f53)), (oK, .inr (3, [.ref k1, .ref k2, .int lK])), (k1, .inl (cI, 1024, .inl fK1)), (k2, .inl (cI, 1024, .inl fK2)), (nL, .inr (5, [.ref aL, .int lL])), (aL, .inl (cI, 300, .inl fL))]) rfl (fun H locs hPn hDn hSn => ?_))
  clear hP hD hS
  have hP := hPn
  have hD := hDn
  have hS := hSn
  clear hPn hDn hSn
  refine lv_iload_n hx hb dX11_rows_5 rfl (lv_at hl 1 rfl) ?_
  refine lv_iconst (v := 1) hx hb dX11_rows_6 (by decide) ?_
  refine lv_icmp_lt (tgt := 15) hx hb dX11_rows_7 (by decide) (fun c_1 => ?_) (fun c_1 => ?_)
  · have tc_1 : n.toInt < 1 := v_lt c_1
    refine lv_iconst (v := (-1)) hx hb dX11_rows_15 (by decide) ?_
    exact kl_i (v := (-1)) hQQ hx hb hr hlocks hS dX11_rows_16 (fun PZ9 kZ9 => kZ9 (-1) ft lB fB l1 f1 l2 f2 l3 f3 fR1 fR2 fR3 lR fR4 fR5 fR6 (⟨hP, hD⟩) (g_lB) (g_l1) (g_l2) (g_l3) (g_lR) (Or.inr ⟨by omega, rfl, rfl, rfl, rfl, rfl⟩))
  · have tc_1 : 1 ≤ n.toInt := v_nlt c_1
    refine lv_iload_n hx hb dX11_rows_10 rfl (lv_at hl 1 rfl) ?_
    refine lv_iconst (v := 3) hx hb dX11_rows_11 (by decide) ?_
    refine lv_icmp_le (tgt := 17) hx hb dX11_rows_12 (by decide) (fun c_2 => ?_) (fun c_2 => ?_)
    · have tc_2 : n.toInt ≤ 3 := v_le c_2
      refine lv_aload_n hx hb dX11_rows_17 rfl (lv_at hl 0 rfl) ?_
      refine va_get (D := (dC, dI)) (ci := 11) (v := .ref oR) (C := RX11) (T := TX11) (N := 12) hx hb hts in_X11 hown hK hP 0 rfl rfl 8 (Nat.le_of_ble_eq_true rfl) (hts (.fieldLink RX11 68 "TextMender" "rowBook" "LTextMender$Rows;") (List.mem_of_getElem? (i := 2) rfl)) (fun _ h9 => h9) rfl dX11_rows_18 ?_
      refine lv_iload_n hx hb dX11_rows_21 rfl (lv_at hl 1 rfl) ?_
      refine lv_aload_n hx hb dX11_rows_22 rfl (lv_at hl 0 rfl) ?_
      refine va_get (D := (dC, dI)) (ci := 11) (v := .ref nL) (C := RX11) (T := TX11) (N := 12) hx hb hts in_X11 hown hK hP 0 rfl rfl 1 (Nat.le_of_ble_eq_true rfl) (hts (.fieldLink RX11 34 "TextMender" "letters" "LTextMender$Numbers;") (List.mem_of_getElem? (i := 3) rfl)) (fun _ h9 => h9) rfl dX11_rows_23 ?_
      refine kV_v (rest := []) (q0 := 0) (ci := 9) hcf (f_X9_find l dC dI cI cS H.size oR nL oH oK n1 n2 n3 r1 r2 r3 r4 r5 r6 a1 a2 a3 oP h1 h2 oC nB aB o4 o5 a41 a42 a43 a51 a52 a53 k1 k2 aL lR fR1 fR2 fR3 l1 f1 l2 f2 l3 f3 lH fH1 fH2 ft lB fB l4 f41 f42 f43 l5 f51 f52 f53 lK fK1 fK2 lL fL n (g_lR) (g_l1) (g_l2) (g_l3) (g_lH) (g_lB) (g_lK) (g_lL) (by omega) (hlt) (hT4) (ho4) (hT5) (ho5) (hL4) (hL5) (hBr) (hT) (ho) (hV)) kc_X9_find gX11_rows_X9_find rfl rfl rfl ⟨Nat.le_of_ble_eq_true rfl, Nat.le_of_ble_eq_true rfl⟩ (kX_1 hN52) hK hP hD hS hA (posT mk_139 0) (posF mk_139 0) (kC_of mk_139 rfl rfl) (by decide +kernel) rfl rfl rfl hl rfl (Nat.le_of_ble_eq_true rfl) dX11_rows_26 ⟨Nat.le_of_ble_eq_true rfl, Nat.le_of_ble_eq_true rfl⟩ (fun H locs hB hJ hSn => ?_)
      refine hB _ (fun ft_3 lB_3 fB_3 l1_3 f1_3 l2_3 f2_3 l3_3 f3_3 fR1_3 fR2_3 fR3_3 hPD9 hf3_0 hf3_1 hf3_2 hf3_3 hf3_4 => ?_)
      clear hB
      obtain ⟨hPn, hDn⟩ := kJi (m := mk_139) hJ rfl hPD9.1 hPD9.2 (wn := [(oX, .inr (11, [.ref nT, .ref nL, .ref nM, .ref oC, .ref oP, .ref oH, .ref oK, .ref oG, .ref oR, .ref oQ, .ref oW, .int (-1)])), (oR, .inr (9, [.ref oH, .ref oK, .ref n1, .ref n2, .ref n3, .ref r1, .ref r2, .ref r3, .ref r4, .ref r5, .ref r6, .int lR])), (r1, .inl (cI, 258, .inl fR1_3)), (r2, .inl (cI, 258, .inl fR2_3)), (r3, .inl (cI, 774, .inl fR3_3)), (r4, .inl (cI, 258, .inl fR4)), (r5, .inl (cI, 258, .inl fR5)), (r6, .inl (cI, 774, .inl fR6)), (n1, .inr (5, [.ref a1, .int l1_3])), (a1, .inl (cI, 300, .inl f1_3)), (n2, .inr (5, [.ref a2, .int l2_3])), (a2, .inl (cI, 300, .inl f2_3)), (n3, .inr (5, [.ref a3, .int l3_3])), (a3, .inl (cI, 300, .inl f3_3)), (oH, .inr (4, [.ref oP, .ref h1, .ref h2, .int lH])), (h1, .inl (cI, 6, .inl fH1)), (h2, .inl (cI, 6, .inl fH2)), (oP, .inr (7, [.ref oC, .ref nB, .int ft_3])), (nB, .inr (5, [.ref aB, .int lB_3])), (aB, .inl (cI, 2400, .inl fB_3)), (oC, .inr (2, [.ref o4, .ref o5])), (o4, .inr (10, [.ref a41, .ref a42, .ref a43, .int l4])), (a41, .inl (cI, 256, .inl f41)), (a42, .inl (cI, 512, .inl f42)), (a43, .inl (cI, 512, .inl f43)), (o5, .inr (10, [.ref a51, .ref a52, .ref a53, .int l5])), (a51, .inl (cI, 256, .inl f51)), (a52, .inl (cI, 512, .inl f52)), (a53, .inl (cI, 512, .inl f53)), (oK, .inr (3, [.ref k1, .ref k2, .int lK])), (k1, .inl (cI, 1024, .inl fK1)), (k2, .inl (cI, 1024, .inl fK2)), (nL, .inr (5, [.ref aL, .int lL])), (aL, .inl (cI, 300, .inl fL))]) rfl
      clear hP hD hS hJ hPD9
      have hP := hPn
      have hD := hDn
      have hS := hSn
      clear hPn hDn hSn
      refine lv_aload_n hx hb dX11_rows_29 rfl (lv_at hl 0 rfl) ?_
      refine va_get (D := (dC, dI)) (ci := 11) (v := .ref oR) (C := RX11) (T := TX11) (N := 12) hx hb hts in_X11 hown hK hP 0 rfl rfl 8 (Nat.le_of_ble_eq_true rfl) (hts (.fieldLink RX11 68 "TextMender" "rowBook" "LTextMender$Rows;") (List.mem_of_getElem? (i := 2) rfl)) (fun _ h9 => h9) rfl dX11_rows_30 ?_
      refine kV_i (rest := []) (q0 := 0) (ci := 9) hcf (f_X9_keepFound l dC dI cI cS H.size oR oH oK n1 n2 n3 r1 r2 r3 r4 r5 r6 lR fR1_3 fR2_3 fR3_3 fR4 fR5 fR6 (g_lR)) kc_X9_keepFound gX11_rows_X9_keepFound rfl rfl rfl ⟨Nat.le_of_ble_eq_true rfl, Nat.le_of_ble_eq_true rfl⟩ kX_t hK hP hD hS hA (posT mk_140 0) (posF mk_140 0) (kC_of mk_140 rfl rfl) (by decide +kernel) rfl rfl rfl hl rfl (Nat.le_of_ble_eq_true rfl) dX11_rows_33 ⟨Nat.le_of_ble_eq_true rfl, Nat.le_of_ble_eq_true rfl⟩ (fun r_4 H locs hB hJ hSn => ?_)
      refine hB _ (fun lR_4 fR4_4 fR5_4 fR6_4 hPD9 hf4_0 hf4_1 hf4_2 => ?_)
      clear hB
      obtain ⟨hPn, hDn⟩ := kJi (m := mk_140) hJ rfl hPD9.1 hPD9.2 (wn := [(oX, .inr (11, [.ref nT, .ref nL, .ref nM, .ref oC, .ref oP, .ref oH, .ref oK, .ref oG, .ref oR, .ref oQ, .ref oW, .int (-1)])), (oR, .inr (9, [.ref oH, .ref oK, .ref n1, .ref n2, .ref n3, .ref r1, .ref r2, .ref r3, .ref r4, .ref r5, .ref r6, .int lR_4])), (r1, .inl (cI, 258, .inl fR1_3)), (r2, .inl (cI, 258, .inl fR2_3)), (r3, .inl (cI, 774, .inl fR3_3)), (r4, .inl (cI, 258, .inl fR4_4)), (r5, .inl (cI, 258, .inl fR5_4)), (r6, .inl (cI, 774, .inl fR6_4)), (n1, .inr (5, [.ref a1, .int l1_3])), (a1, .inl (cI, 300, .inl f1_3)), (n2, .inr (5, [.ref a2, .int l2_3])), (a2, .inl (cI, 300, .inl f2_3)), (n3, .inr (5, [.ref a3, .int l3_3])), (a3, .inl (cI, 300, .inl f3_3)), (oH, .inr (4, [.ref oP, .ref h1, .ref h2, .int lH])), (h1, .inl (cI, 6, .inl fH1)), (h2, .inl (cI, 6, .inl fH2)), (oP, .inr (7, [.ref oC, .ref nB, .int ft_3])), (nB, .inr (5, [.ref aB, .int lB_3])), (aB, .inl (cI, 2400, .inl fB_3)), (oC, .inr (2, [.ref o4, .ref o5])), (o4, .inr (10, [.ref a41, .ref a42, .ref a43, .int l4])), (a41, .inl (cI, 256, .inl f41)), (a42, .inl (cI, 512, .inl f42)), (a43, .inl (cI, 512, .inl f43)), (o5, .inr (10, [.ref a51, .ref a52, .ref a53, .int l5])), (a51, .inl (cI, 256, .inl f51)), (a52, .inl (cI, 512, .inl f52)), (a53, .inl (cI, 512, .inl f53)), (oK, .inr (3, [.ref k1, .ref k2, .int lK])), (k1, .inl (cI, 1024, .inl fK1)), (k2, .inl (cI, 1024, .inl fK2)), (nL, .inr (5, [.ref aL, .int lL])), (aL, .inl (cI, 300, .inl fL))]) rfl
      clear hP hD hS hJ hPD9
      have hP := hPn
      have hD := hDn
      have hS := hSn
      clear hPn hDn hSn
      exact kl_i (v := r_4) hQQ hx hb hr hlocks hS dX11_rows_36 (fun PZ9 kZ9 => kZ9 (-1) ft_3 lB_3 fB_3 l1_3 f1_3 l2_3 f2_3 l3_3 f3_3 fR1_3 fR2_3 fR3_3 lR_4 fR4_4 fR5_4 fR6_4 (⟨hP, hD⟩) (hf3_0) (hf3_1) (hf3_2) (hf3_3) (hf4_0) (Or.inl ⟨by omega, hf3_4, hf4_2, by omega⟩))
    · have tc_2 : 3 < n.toInt := v_nle c_2
      refine lv_iconst (v := (-1)) hx hb dX11_rows_15 (by decide) ?_
      exact kl_i (v := (-1)) hQQ hx hb hr hlocks hS dX11_rows_16 (fun PZ9 kZ9 => kZ9 (-1) ft lB fB l1 f1 l2 f2 l3 f3 fR1 fR2 fR3 lR fR4 fR5 fR6 (⟨hP, hD⟩) (g_lB) (g_l1) (g_l2) (g_l3) (g_lR) (Or.inr ⟨by omega, rfl, rfl, rfl, rfl, rfl⟩))

set_option maxHeartbeats 40000000 in
set_option maxRecDepth 100000 in
theorem f_X12_rows (l : Launch) (dC : Nat → ClassId) (dI : Nat → Nat → Nat) (cI cS : ClassId) (sz : Nat) (oM : Nat) (mT : Nat) (mS : Nat) (mX : Nat) (mL : Nat) (mB : Nat) (mD : Nat) (m1 : Nat) (m2 : Nat) (mR : Nat) (x1 : Nat) (x2 : Nat) (x3 : Nat) (mH : Nat) (mY : Nat) (mE : Nat) (mW : Nat) (mO : Nat) (y1 : Nat) (y2 : Nat) (y3 : Nat) (y4 : Nat) (mZ : Nat) (zt : Int32) (zp : Int32) (zf : Int32) (zh : Int32) (zr : Int32) (zc : Int32) (zy : Int32) (za : Int32) (zb : Int32) (zs : Int32) (zq : Int32) (zw : Int32) (ze : Int32) (zn : Int32) (zm : Int32) (zl : Int32) (zk : Int32) (zd : Int32) (eY : Nat → Int32) (eB : Nat → Int32) (eL : Nat → Int32) (eE : Nat → Int32) (eW : Nat → Int32) (eO : Nat → Int32) (eS : Nat → Int32) (eX : Nat → Int32) (e1 : Nat → Int32) (e2 : Nat → Int32) (eR : Nat → Int32) (ec1 : Nat → Int32) (ec2 : Nat → Int32) (ec3 : Nat → Int32) (n : Int32) (g_zt : 0 ≤ zt.toInt ∧ zt.toInt ≤ 900) (g_zp : 0 ≤ zp.toInt ∧ zp.toInt ≤ 20) (g_zf : 0 ≤ zf.toInt ∧ zf.toInt ≤ 19) (g_zh : 0 ≤ zh.toInt ∧ zh.toInt ≤ 6) (g_zr : 0 ≤ zr.toInt ∧ zr.toInt ≤ 258) (g_zc : 0 ≤ zc.toInt ∧ zc.toInt ≤ 300) (g_zy : 0 ≤ zy.toInt ∧ zy.toInt ≤ 65536) (g_za : 0 ≤ za.toInt ∧ za.toInt ≤ 5) (g_zb : 0 ≤ zb.toInt ∧ zb.toInt ≤ 5) (g_zs : 0 ≤ zs.toInt ∧ zs.toInt ≤ 2000000) (g_zq : -1 ≤ zq.toInt ∧ zq.toInt ≤ 2000000) (g_zn : 0 ≤ zn.toInt ∧ zn.toInt ≤ 2600) (g_zm : 0 ≤ zm.toInt ∧ zm.toInt ≤ 2600) (g_zk : 0 ≤ zk.toInt ∧ zk.toInt ≤ 300) (g_eY : rg 0 255 eY) (g_eB : rg (-1) 255 eB) (g_eL : rg (-1) 65535 eL) (g_eE : rg 0 65535 eE) (g_eW : rg 0 65535 eW) (g_eO : rg 0 65535 eO) (g_eS : rg 0 300 eS) (g_eX : rg 0 65535 eX) (g_e1 : rg 0 5 e1) (g_e2 : rg 0 5 e2) (hxl : ∀ j : Nat, (j : Int) < (eS 0).toInt → isLz (eX j)) (hlb : LBr eL eB) (hlz : LZ eL) (hV : rg 0 200 ec3) (hzs : zs.toInt ≤ 1000000) : kMi l yX12_rows wsX12_rows ({ frames := 6, cells := 0, slots := 0, locals := 145 } : Room) [.ref oM, .int n] sz (dC, dI) vwCl [(cI, .int), (cS, .short)] [(oM, .inr (12, [.ref mT, .int zt, .ref mS, .ref mX, .int zp, .int zf, .ref mL, .ref mB, .ref mD, .ref m1, .ref m2, .int zh, .ref mR, .int zr, .ref x1, .ref x2, .ref x3, .int zc, .ref mH, .int zy, .int za, .int zb, .int zs, .int zq, .int zw, .int ze, .ref mY, .int zn, .ref mE, .int zm, .int zl, .ref mW, .int zk, .ref mO, .int zd, .ref y1, .ref y2, .ref y3, .ref y4, .ref mZ])), (mY, .inl (cI, 2600, .inl eY)), (mB, .inl (cS, 131072, .inl eB)), (mL, .inl (cI, 512, .inl eL)), (mE, .inl (cI, 2600, .inl eE)), (mW, .inl (cI, 300, .inl eW)), (mO, .inl (cI, 300, .inl eO)), (mS, .inl (cI, 21, .inl eS)), (mX, .inl (cI, 6300, .inl eX)), (m1, .inl (cI, 6, .inl e1)), (m2, .inl (cI, 6, .inl e2)), (mR, .inl (cI, 1548, .inl eR)), (x1, .inl (cI, 300, .inl ec1)), (x2, .inl (cI, 300, .inl ec2)), (x3, .inl (cI, 300, .inl ec3))] (fun _ => True) 0 0 (fun (A : Nat → Prop) (r : Int32) (hh9 : Heap) => ∀ PZ9 : Prop, (∀ (ze' : Int32) (zw' : Int32) (zr' : Int32) (eR' : Nat → Int32) (zn' : Int32) (eY' : Nat → Int32) (zd' : Int32) (zm' : Int32) (zl' : Int32) (eE' : Nat → Int32) (zk' : Int32) (eW' : Nat → Int32) (eO' : Nat → Int32), kPD (dC, dI) vwCl A [(oM, .inr (12, [.ref mT, .int zt, .ref mS, .ref mX, .int zp, .int zf, .ref mL, .ref mB, .ref mD, .ref m1, .ref m2, .int zh, .ref mR, .int zr', .ref x1, .ref x2, .ref x3, .int zc, .ref mH, .int zy, .int za, .int zb, .int zs, .int zq, .int zw', .int ze', .ref mY, .int zn', .ref mE, .int zm', .int zl', .ref mW, .int zk', .ref mO, .int zd', .ref y1, .ref y2, .ref y3, .ref y4, .ref mZ])), (mY, .inl (cI, 2600, .inl eY')), (mB, .inl (cS, 131072, .inl eB)), (mL, .inl (cI, 512, .inl eL)), (mE, .inl (cI, 2600, .inl eE')), (mW, .inl (cI, 300, .inl eW')), (mO, .inl (cI, 300, .inl eO')), (mS, .inl (cI, 21, .inl eS)), (mX, .inl (cI, 6300, .inl eX)), (m1, .inl (cI, 6, .inl e1)), (m2, .inl (cI, 6, .inl e2)), (mR, .inl (cI, 1548, .inl eR')), (x1, .inl (cI, 300, .inl ec1)), (x2, .inl (cI, 300, .inl ec2)), (x3, .inl (cI, 300, .inl ec3))] hh9 → (0 ≤ zr'.toInt ∧ zr'.toInt ≤ 258) → (0 ≤ zn'.toInt ∧ zn'.toInt ≤ 2600) → (rg 0 255 eY') → (0 ≤ zm'.toInt ∧ zm'.toInt ≤ 2600) → (rg 0 65535 eE') → (0 ≤ zk'.toInt ∧ zk'.toInt ≤ 300) → (rg 0 65535 eW') → (rg 0 65535 eO') → (∀ R1 R2 R3 : Nat → Int32, (1 ≤ n.toInt ∧ n.toInt ≤ 3 → rGE (UR e1 e2 eL eB) (tcR zc.toInt ec1 ec2 ec3) zh.toNatClampNeg (eS 0).toInt.toNat eX n.toInt R1 R2 R3) → F_rwR n r zr zr' R1 R2 R3 eR eR') → PZ9) → PZ9) := by
  refine kMi_of (cc := cX12_rows) (maxL := 7) (ret := (some .int)) (lv := [(0, .ref oM), (1, .int n)]) (by decide +kernel) rfl rfl (Nat.le_of_ble_eq_true rfl) ?_
  intro p e s m below meth c A QQ ls hx hb hr hts hml hown hlocks hA hQQ hK hX hP hD hS hl
  have hown : s.vm.findClass RX12 = some m.cls := hown
  have hcf := k_cf hx hb hml hown hts
  have in_X12 : ∀ w ∈ wsX120, w ∈ wsX12_rows := fun _ h => List.mem_cons_of_mem _ (List.mem_append_left _ (List.mem_append_left _ (List.mem_append_left _ (List.mem_append_right _ (h)))))
  replace g_zt := hid g_zt
  replace g_zp := hid g_zp
  replace g_zf := hid g_zf
  replace g_zy := hid g_zy
  replace g_za := hid g_za
  replace g_zb := hid g_zb
  replace g_zs := hid g_zs
  replace g_zq := hid g_zq
  replace g_zn := hid g_zn
  replace g_zm := hid g_zm
  replace g_zk := hid g_zk
  have hU : okU (UR e1 e2 eL eB) := okU_R g_eB g_eL
  have hlb9 := hlb
  have z0 : (0 : Int32).toInt = 0 := rfl
  have z1 : (1 : Int32).toInt = 1 := rfl
  have zm1 : (-1 : Int32).toInt = -1 := rfl
  have cz0 := v_clamp (x := zh) (by omega)
  have gS0 := g_eS 0
  have hs3 : (eS 0).toInt.toNat ≤ 300 := by omega
  have hx9 : prg (((eS 0).toInt.toNat : Nat) : Int) 0 65535 eX := rg_prg g_eX
  refine lv_aload_n hx hb dX12_rows_0 rfl (lv_at hl 0 rfl) ?_
  refine lv_iconst (v := 0) hx hb dX12_rows_1 (by decide) ?_
  refine va_put (D := (dC, dI)) (ci := 12) (v := .int 0) (ty := .int) (C := RX12) (T := TX12) (N := 40) hx hb hts in_X12 tyX12 tyX12_ok nmX12 hown hK hP hD hS 0 rfl rfl 25 (Nat.le_of_ble_eq_true rfl) (hts (.fieldLink RX12 85 "TextMenderModel" "thrown" "I") (List.mem_of_getElem? (i := 1) rfl)) (fun _ h9 => h9) rfl (tyX12_ok 25 (Nat.le_of_ble_eq_true rfl)) rfl rfl (Nat.le_of_ble_eq_true rfl) dX12_rows_2 (kW (wn := [(oM, .inr (12, [.ref mT, .int zt, .ref mS, .ref mX, .int zp, .int zf, .ref mL, .ref mB, .ref mD, .ref m1, .ref m2, .int zh, .ref mR, .int zr, .ref x1, .ref x2, .ref x3, .int zc, .ref mH, .int zy, .int za, .int zb, .int zs, .int zq, .int zw, .int 0, .ref mY, .int zn, .ref mE, .int zm, .int zl, .ref mW, .int zk, .ref mO, .int zd, .ref y1, .ref y2, .ref y3, .ref y4, .ref mZ])), (mY, .inl (cI, 2600, .inl eY)), (mB, .inl (cS, 131072, .inl eB)), (mL, .inl (cI, 512, .inl eL)), (mE, .inl (cI, 2600, .inl eE)), (mW, .inl (cI, 300, .inl eW)), (mO, .inl (cI, 300, .inl eO)), (mS, .inl (cI, 21, .inl eS)), (mX, .inl (cI, 6300, .inl eX)), (m1, .inl (cI, 6, .inl e1)), (m2, .inl (cI, 6, .inl e2)), (mR, .inl (cI, 1548, .inl eR)), (x1, .inl (cI, 300, .inl ec1)), (x2, .inl (cI, 300, .inl ec2)), (x3, .inl (cI, 300, .inl ec3))]) rfl (fun H locs hPn hDn hSn => ?_))
  clear hP hD hS
  have hP := hPn
  have hD := hDn
  have hS := hSn
  clear hPn hDn hSn
  refine lv_aload_n hx hb dX12_rows_5 rfl (lv_at hl 0 rfl) ?_
  refine lv_iconst (v := (-1)) hx hb dX12_rows_6 (by decide) ?_
  refine va_put (D := (dC, dI)) (ci := 12) (v := .int (-1)) (ty := .int) (C := RX12) (T := TX12) (N := 40) hx hb hts in_X12 tyX12 tyX12_ok nmX12 hown hK hP hD hS 0 rfl rfl 24 (Nat.le_of_ble_eq_true rfl) (hts (.fieldLink RX12 55 "TextMenderModel" "where" "I") (List.mem_of_getElem? (i := 2) rfl)) (fun _ h9 => h9) rfl (tyX12_ok 24 (Nat.le_of_ble_eq_true rfl)) rfl rfl (Nat.le_of_ble_eq_true rfl) dX12_rows_7 (kW (wn := [(oM, .inr (12, [.ref mT, .int zt, .ref mS, .ref mX, .int zp, .int zf, .ref mL, .ref mB, .ref mD, .ref m1, .ref m2, .int zh, .ref mR, .int zr, .ref x1, .ref x2, .ref x3, .int zc, .ref mH, .int zy, .int za, .int zb, .int zs, .int zq, .int (-1), .int 0, .ref mY, .int zn, .ref mE, .int zm, .int zl, .ref mW, .int zk, .ref mO, .int zd, .ref y1, .ref y2, .ref y3, .ref y4, .ref mZ])), (mY, .inl (cI, 2600, .inl eY)), (mB, .inl (cS, 131072, .inl eB)), (mL, .inl (cI, 512, .inl eL)), (mE, .inl (cI, 2600, .inl eE)), (mW, .inl (cI, 300, .inl eW)), (mO, .inl (cI, 300, .inl eO)), (mS, .inl (cI, 21, .inl eS)), (mX, .inl (cI, 6300, .inl eX)), (m1, .inl (cI, 6, .inl e1)), (m2, .inl (cI, 6, .inl e2)), (mR, .inl (cI, 1548, .inl eR)), (x1, .inl (cI, 300, .inl ec1)), (x2, .inl (cI, 300, .inl ec2)), (x3, .inl (cI, 300, .inl ec3))]) rfl (fun H locs hPn hDn hSn => ?_))
  clear hP hD hS
  have hP := hPn
  have hD := hDn
  have hS := hSn
  clear hPn hDn hSn
  refine lv_iload_n hx hb dX12_rows_10 rfl (lv_at hl 1 rfl) ?_
  refine lv_iconst (v := 1) hx hb dX12_rows_11 (by decide) ?_
  refine lv_icmp_lt (tgt := 20) hx hb dX12_rows_12 (by decide) (fun c_1 => ?_) (fun c_1 => ?_)
  · have tc_1 : n.toInt < 1 := v_lt c_1
    refine lv_iconst (v := (-1)) hx hb dX12_rows_20 (by decide) ?_
    exact kl_i (v := (-1)) hQQ hx hb hr hlocks hS dX12_rows_21 (fun PZ9 kZ9 => kZ9 0 (-1) zr eR zn eY zd zm zl eE zk eW eO (⟨hP, hD⟩) (g_zr) (g_zn) (g_eY) (g_zm) (g_eE) (g_zk) (g_eW) (g_eO) (fun R1 R2 R3 hR => Or.inr ⟨by omega, rfl, rfl, rfl⟩))
  · have tc_1 : 1 ≤ n.toInt := v_nlt c_1
    refine lv_iload_n hx hb dX12_rows_15 rfl (lv_at hl 1 rfl) ?_
    refine lv_iconst (v := 3) hx hb dX12_rows_16 (by decide) ?_
    refine lv_icmp_le (tgt := 22) hx hb dX12_rows_17 (by decide) (fun c_2 => ?_) (fun c_2 => ?_)
    · have tc_2 : n.toInt ≤ 3 := v_le c_2
      refine lv_aload_n hx hb dX12_rows_22 rfl (lv_at hl 0 rfl) ?_
      refine lv_iconst (v := 0) hx hb dX12_rows_23 (by decide) ?_
      refine va_put (D := (dC, dI)) (ci := 12) (v := .int 0) (ty := .int) (C := RX12) (T := TX12) (N := 40) hx hb hts in_X12 tyX12 tyX12_ok nmX12 hown hK hP hD hS 0 rfl rfl 13 (Nat.le_of_ble_eq_true rfl) (hts (.fieldLink RX12 180 "TextMenderModel" "rowMany" "I") (List.mem_of_getElem? (i := 3) rfl)) (fun _ h9 => h9) rfl (tyX12_ok 13 (Nat.le_of_ble_eq_true rfl)) rfl rfl (Nat.le_of_ble_eq_true rfl) dX12_rows_24 (kW (wn := [(oM, .inr (12, [.ref mT, .int zt, .ref mS, .ref mX, .int zp, .int zf, .ref mL, .ref mB, .ref mD, .ref m1, .ref m2, .int zh, .ref mR, .int 0, .ref x1, .ref x2, .ref x3, .int zc, .ref mH, .int zy, .int za, .int zb, .int zs, .int zq, .int (-1), .int 0, .ref mY, .int zn, .ref mE, .int zm, .int zl, .ref mW, .int zk, .ref mO, .int zd, .ref y1, .ref y2, .ref y3, .ref y4, .ref mZ])), (mY, .inl (cI, 2600, .inl eY)), (mB, .inl (cS, 131072, .inl eB)), (mL, .inl (cI, 512, .inl eL)), (mE, .inl (cI, 2600, .inl eE)), (mW, .inl (cI, 300, .inl eW)), (mO, .inl (cI, 300, .inl eO)), (mS, .inl (cI, 21, .inl eS)), (mX, .inl (cI, 6300, .inl eX)), (m1, .inl (cI, 6, .inl e1)), (m2, .inl (cI, 6, .inl e2)), (mR, .inl (cI, 1548, .inl eR)), (x1, .inl (cI, 300, .inl ec1)), (x2, .inl (cI, 300, .inl ec2)), (x3, .inl (cI, 300, .inl ec3))]) rfl (fun H locs hPn hDn hSn => ?_))
      clear hP hD hS
      have hP := hPn
      have hD := hDn
      have hS := hSn
      clear hPn hDn hSn
      refine lv_iconst (v := 1) hx hb dX12_rows_27 (by decide) ?_
      refine lv_istore_n (lv' := [(2, .int 1), (0, .ref oM), (1, .int n)]) hx hb dX12_rows_28 rfl hl (by decide) rfl (fun ls hl => ?_)
      have LOOP_29 : ∀ (k_29 : Nat) (my : Int32) (zna : Int32) (zda : Int32) (zma : Int32) (zla : Int32) (zka : Int32) (zra : Int32) (eYa : Nat → Int32) (eEa : Nat → Int32) (eWa : Nat → Int32) (eOa : Nat → Int32) (eRa : Nat → Int32) (H : Heap) (locs : List Loc) (ls : Array Slot), MSd (4 - my.toInt : Int) k_29 → (1 ≤ my.toInt ∧ my.toInt ≤ 4) → (0 ≤ zna.toInt ∧ zna.toInt ≤ 2600) → (0 ≤ zma.toInt ∧ zma.toInt ≤ 2600) → (0 ≤ zka.toInt ∧ zka.toInt ≤ 300) → (0 ≤ zra.toInt ∧ zra.toInt ≤ 258) → (rg 0 255 eYa) → (rg 0 65535 eEa) → (rg 0 65535 eWa) → (rg 0 65535 eOa) → ((my.toInt = 1 ∧ zra.toInt = 0) ∨ (my.toInt = 2 ∧ zra.toInt ≤ 6) ∨ (my.toInt = 3 ∧ zra.toInt ≤ 42) ∨ (my.toInt = 4 ∧ zra.toInt ≤ 258)) → (my.toInt ≤ n.toInt + 1) → (∀ R1 R2 R3 : Nat → Int32, rGE (UR e1 e2 eL eB) (tcR zc.toInt ec1 ec2 ec3) zh.toNatClampNeg (eS 0).toInt.toNat eX n.toInt R1 R2 R3 → RWT R1 R2 R3 eRa (roff zh.toNatClampNeg my.toNatClampNeg) zra.toInt) → va_P (dC, dI) vwCl [(oM, .inr (12, [.ref mT, .int zt, .ref mS, .ref mX, .int zp, .int zf, .ref mL, .ref mB, .ref mD, .ref m1, .ref m2, .int zh, .ref mR, .int zra, .ref x1, .ref x2, .ref x3, .int zc, .ref mH, .int zy, .int za, .int zb, .int zs, .int zq, .int (-1), .int 0, .ref mY, .int zna, .ref mE, .int zma, .int zla, .ref mW, .int zka, .ref mO, .int zda, .ref y1, .ref y2, .ref y3, .ref y4, .ref mZ])), (mY, .inl (cI, 2600, .inl eYa)), (mB, .inl (cS, 131072, .inl eB)), (mL, .inl (cI, 512, .inl eL)), (mE, .inl (cI, 2600, .inl eEa)), (mW, .inl (cI, 300, .inl eWa)), (mO, .inl (cI, 300, .inl eOa)), (mS, .inl (cI, 21, .inl eS)), (mX, .inl (cI, 6300, .inl eX)), (m1, .inl (cI, 6, .inl e1)), (m2, .inl (cI, 6, .inl e2)), (mR, .inl (cI, 1548, .inl eRa)), (x1, .inl (cI, 300, .inl ec1)), (x2, .inl (cI, 300, .inl ec2)), (x3, .inl (cI, 300, .inl ec3))] H → va_D A [(oM, .inr (12, [.ref mT, .int zt, .ref mS, .ref mX, .int zp, .int zf, .ref mL, .ref mB, .ref mD, .ref m1, .ref m2, .int zh, .ref mR, .int zra, .ref x1, .ref x2, .ref x3, .int zc, .ref mH, .int zy, .int za, .int zb, .int zs, .int zq, .int (-1), .int 0, .ref mY, .int zna, .ref mE, .int zma, .int zla, .ref mW, .int zka, .ref mO, .int zda, .ref y1, .ref y2, .ref y3, .ref y4, .ref mZ])), (mY, .inl (cI, 2600, .inl eYa)), (mB, .inl (cS, 131072, .inl eB)), (mL, .inl (cI, 512, .inl eL)), (mE, .inl (cI, 2600, .inl eEa)), (mW, .inl (cI, 300, .inl eWa)), (mO, .inl (cI, 300, .inl eOa)), (mS, .inl (cI, 21, .inl eS)), (mX, .inl (cI, 6300, .inl eX)), (m1, .inl (cI, 6, .inl e1)), (m2, .inl (cI, 6, .inl e2)), (mR, .inl (cI, 1548, .inl eRa)), (x1, .inl (cI, 300, .inl ec1)), (x2, .inl (cI, 300, .inl ec2)), (x3, .inl (cI, 300, .inl ec3))] → va_S A s.heap H locs → lv_has ls 7 [(2, .int my), (0, .ref oM), (1, .int n)] → W p l e (headSpec wsX12_rows ({ frames := 6, cells := 0, slots := 0, locals := 145 } : Room)).room s m ([.ref oM, .int n] : List Value).toArray below meth c H locs 0 0 (MQ below QQ ([.ref oM, .int n] : List Value).toArray s 0 0 A) (F0 m 29 ls []) := by
        clear hP hD hS hl
        try (clear hzs)
        intro k_29
        induction k_29 with
        | zero =>
          intro my zna zda zma zla zka zra eYa eEa eWa eOa eRa H locs ls hm_29 g_my g_zna g_zma g_zka g_zra g_eYa g_eEa g_eWa g_eOa hro hmn hmo hP hD hS hl
          exact ms_0 hm_29
        | succ k_29 ih_29 =>
          intro my zna zda zma zla zka zra eYa eEa eWa eOa eRa H locs ls hm_29 g_my g_zna g_zma g_zka g_zra g_eYa g_eEa g_eWa g_eOa hro hmn hmo hP hD hS hl
          refine lv_iload_n hx hb dX12_rows_29 rfl (lv_at hl 0 rfl) ?_
          refine lv_iload_n hx hb dX12_rows_30 rfl (lv_at hl 2 rfl) ?_
          refine lv_icmp_gt (tgt := 208) hx hb dX12_rows_31 (by decide) (fun c_3 => ?_) (fun c_3 => ?_)
          · have tc_3 : n.toInt < my.toInt := v_lt c_3
            have cn9 := v_clamp (x := n) (by omega)
            have hPe : roff zh.toNatClampNeg my.toNatClampNeg = roff zh.toNatClampNeg (n.toNatClampNeg + 1) := by rw [ix_eq (x := my) (N := n.toNatClampNeg + 1) (by omega)]
            refine lv_aload_n hx hb dX12_rows_208 rfl (lv_at hl 1 rfl) ?_
            refine va_get (D := (dC, dI)) (ci := 12) (v := .int zra) (C := RX12) (T := TX12) (N := 40) hx hb hts in_X12 hown hK hP 0 rfl rfl 13 (Nat.le_of_ble_eq_true rfl) (hts (.fieldLink RX12 180 "TextMenderModel" "rowMany" "I") (List.mem_of_getElem? (i := 3) rfl)) (fun _ h9 => h9) rfl dX12_rows_209 ?_
            exact kl_i (v := zra) hQQ hx hb hr hlocks hS dX12_rows_212 (fun PZ9 kZ9 => kZ9 0 (-1) zra eRa zna eYa zda zma zla eEa zka eWa eOa (⟨hP, hD⟩) (g_zra) (g_zna) (g_eYa) (g_zma) (g_eEa) (g_zka) (g_eWa) (g_eOa) (fun R1 R2 R3 hR9 => Or.inl ⟨by omega, RWT_end (hR9 (by omega)) (by omega) (N := n.toNatClampNeg) (by omega) (by omega) hPe (hmo R1 R2 R3 (hR9 (by omega))), rfl⟩))
          · have tc_3 : my.toInt ≤ n.toInt := v_nlt c_3
            have cmy := v_clamp (x := my) (by omega)
            have hmy3 := roff_s (z := zh.toNatClampNeg) (k := my.toNatClampNeg) (by omega) (by omega)
            refine lv_aload_n hx hb dX12_rows_34 rfl (lv_at hl 1 rfl) ?_
            refine va_get (D := (dC, dI)) (ci := 12) (v := .int zh) (C := RX12) (T := TX12) (N := 40) hx hb hts in_X12 hown hK hP 0 rfl rfl 11 (Nat.le_of_ble_eq_true rfl) (hts (.fieldLink RX12 161 "TextMenderModel" "harms" "I") (List.mem_of_getElem? (i := 4) rfl)) (fun _ h9 => h9) rfl dX12_rows_35 ?_
            refine lv_if_ne (tgt := 45) hx hb dX12_rows_38 (by decide) (fun c_4 => ?_) (fun c_4 => ?_)
            · have tc_4 : ¬ zh.toInt = 0 := v_ne c_4
              refine lv_aload_n hx hb dX12_rows_45 rfl (lv_at hl 1 rfl) ?_
              refine va_get (D := (dC, dI)) (ci := 12) (v := .int zh) (C := RX12) (T := TX12) (N := 40) hx hb hts in_X12 hown hK hP 0 rfl rfl 11 (Nat.le_of_ble_eq_true rfl) (hts (.fieldLink RX12 161 "TextMenderModel" "harms" "I") (List.mem_of_getElem? (i := 4) rfl)) (fun _ h9 => h9) rfl dX12_rows_46 ?_
              refine lv_iload_n hx hb dX12_rows_49 rfl (lv_at hl 0 rfl) ?_
              refine kS_i (rest := []) hcf (f_X12_power l dC dI cI cS H.size zh my (by omega) (by omega)) kc_X12_power gX12_rows_X12_power rfl rfl ⟨Nat.le_of_ble_eq_true rfl, Nat.le_of_ble_eq_true rfl⟩ kX_t hK hP hD hS hA (posT mk_172 0) (posF mk_172 0) (kC_of mk_172 rfl rfl) (by decide +kernel) rfl hl rfl (Nat.le_of_ble_eq_true rfl) dX12_rows_50 ⟨Nat.le_of_ble_eq_true rfl, Nat.le_of_ble_eq_true rfl⟩ (fun r_5 H locs hB hJ hSn => ?_)
              refine hB _ (fun hPD9 hf5_0 hf5_1 hf5_2 => ?_)
              clear hB
              obtain ⟨hPn, hDn⟩ := kJi (m := mk_172) hJ rfl hPD9.1 hPD9.2 (wn := [(oM, .inr (12, [.ref mT, .int zt, .ref mS, .ref mX, .int zp, .int zf, .ref mL, .ref mB, .ref mD, .ref m1, .ref m2, .int zh, .ref mR, .int zra, .ref x1, .ref x2, .ref x3, .int zc, .ref mH, .int zy, .int za, .int zb, .int zs, .int zq, .int (-1), .int 0, .ref mY, .int zna, .ref mE, .int zma, .int zla, .ref mW, .int zka, .ref mO, .int zda, .ref y1, .ref y2, .ref y3, .ref y4, .ref mZ])), (mY, .inl (cI, 2600, .inl eYa)), (mB, .inl (cS, 131072, .inl eB)), (mL, .inl (cI, 512, .inl eL)), (mE, .inl (cI, 2600, .inl eEa)), (mW, .inl (cI, 300, .inl eWa)), (mO, .inl (cI, 300, .inl eOa)), (mS, .inl (cI, 21, .inl eS)), (mX, .inl (cI, 6300, .inl eX)), (m1, .inl (cI, 6, .inl e1)), (m2, .inl (cI, 6, .inl e2)), (mR, .inl (cI, 1548, .inl eRa)), (x1, .inl (cI, 300, .inl ec1)), (x2, .inl (cI, 300, .inl ec2)), (x3, .inl (cI, 300, .inl ec3))]) rfl
              clear hP hD hS hJ hPD9
              have hP := hPn
              have hD := hDn
              have hS := hSn
              clear hPn hDn hSn
              refine lv_istore_n (lv' := [(3, .int r_5), (2, .int my), (0, .ref oM), (1, .int n)]) hx hb dX12_rows_53 rfl hl (by decide) rfl (fun ls hl => ?_)
              refine lv_iconst (v := 0) hx hb dX12_rows_54 (by decide) ?_
              refine lv_istore (lv' := [(4, .int 0), (3, .int r_5), (2, .int my), (0, .ref oM), (1, .int n)]) hx hb dX12_rows_55 hl (by decide) rfl (fun ls hl => ?_)
              have LOOP_57 : ∀ (k_57 : Nat) (co : Int32) (znb : Int32) (zdb : Int32) (zmb : Int32) (zlb : Int32) (zkb : Int32) (zrb : Int32) (eYb : Nat → Int32) (eEb : Nat → Int32) (eWb : Nat → Int32) (eOb : Nat → Int32) (eRb : Nat → Int32) (H : Heap) (locs : List Loc) (ls : Array Slot), MSd (r_5.toInt - co.toInt : Int) k_57 → (0 ≤ co.toInt ∧ co.toInt ≤ r_5.toInt) → (0 ≤ znb.toInt ∧ znb.toInt ≤ 2600) → (0 ≤ zmb.toInt ∧ zmb.toInt ≤ 2600) → (0 ≤ zkb.toInt ∧ zkb.toInt ≤ 300) → (0 ≤ zrb.toInt ∧ zrb.toInt ≤ 258) → (rg 0 255 eYb) → (rg 0 65535 eEb) → (rg 0 65535 eWb) → (rg 0 65535 eOb) → ((my.toInt = 1 ∧ zrb.toInt ≤ co.toInt) ∨ (my.toInt = 2 ∧ zrb.toInt ≤ 6 + co.toInt) ∨ (my.toInt = 3 ∧ zrb.toInt ≤ 42 + co.toInt)) → (∀ R1 R2 R3 : Nat → Int32, rGE (UR e1 e2 eL eB) (tcR zc.toInt ec1 ec2 ec3) zh.toNatClampNeg (eS 0).toInt.toNat eX n.toInt R1 R2 R3 → RWT R1 R2 R3 eRb (roff zh.toNatClampNeg my.toNatClampNeg + co.toNatClampNeg) zrb.toInt) → va_P (dC, dI) vwCl [(oM, .inr (12, [.ref mT, .int zt, .ref mS, .ref mX, .int zp, .int zf, .ref mL, .ref mB, .ref mD, .ref m1, .ref m2, .int zh, .ref mR, .int zrb, .ref x1, .ref x2, .ref x3, .int zc, .ref mH, .int zy, .int za, .int zb, .int zs, .int zq, .int (-1), .int 0, .ref mY, .int znb, .ref mE, .int zmb, .int zlb, .ref mW, .int zkb, .ref mO, .int zdb, .ref y1, .ref y2, .ref y3, .ref y4, .ref mZ])), (mY, .inl (cI, 2600, .inl eYb)), (mB, .inl (cS, 131072, .inl eB)), (mL, .inl (cI, 512, .inl eL)), (mE, .inl (cI, 2600, .inl eEb)), (mW, .inl (cI, 300, .inl eWb)), (mO, .inl (cI, 300, .inl eOb)), (mS, .inl (cI, 21, .inl eS)), (mX, .inl (cI, 6300, .inl eX)), (m1, .inl (cI, 6, .inl e1)), (m2, .inl (cI, 6, .inl e2)), (mR, .inl (cI, 1548, .inl eRb)), (x1, .inl (cI, 300, .inl ec1)), (x2, .inl (cI, 300, .inl ec2)), (x3, .inl (cI, 300, .inl ec3))] H → va_D A [(oM, .inr (12, [.ref mT, .int zt, .ref mS, .ref mX, .int zp, .int zf, .ref mL, .ref mB, .ref mD, .ref m1, .ref m2, .int zh, .ref mR, .int zrb, .ref x1, .ref x2, .ref x3, .int zc, .ref mH, .int zy, .int za, .int zb, .int zs, .int zq, .int (-1), .int 0, .ref mY, .int znb, .ref mE, .int zmb, .int zlb, .ref mW, .int zkb, .ref mO, .int zdb, .ref y1, .ref y2, .ref y3, .ref y4, .ref mZ])), (mY, .inl (cI, 2600, .inl eYb)), (mB, .inl (cS, 131072, .inl eB)), (mL, .inl (cI, 512, .inl eL)), (mE, .inl (cI, 2600, .inl eEb)), (mW, .inl (cI, 300, .inl eWb)), (mO, .inl (cI, 300, .inl eOb)), (mS, .inl (cI, 21, .inl eS)), (mX, .inl (cI, 6300, .inl eX)), (m1, .inl (cI, 6, .inl e1)), (m2, .inl (cI, 6, .inl e2)), (mR, .inl (cI, 1548, .inl eRb)), (x1, .inl (cI, 300, .inl ec1)), (x2, .inl (cI, 300, .inl ec2)), (x3, .inl (cI, 300, .inl ec3))] → va_S A s.heap H locs → lv_has ls 7 [(4, .int co), (3, .int r_5), (2, .int my), (0, .ref oM), (1, .int n)] → W p l e (headSpec wsX12_rows ({ frames := 6, cells := 0, slots := 0, locals := 145 } : Room)).room s m ([.ref oM, .int n] : List Value).toArray below meth c H locs 0 0 (MQ below QQ ([.ref oM, .int n] : List Value).toArray s 0 0 A) (F0 m 57 ls []) := by
                clear hP hD hS hl
                try (clear g_zna g_zma g_zka g_zr hzs)
                intro k_57
                induction k_57 with
                | zero =>
                  intro co znb zdb zmb zlb zkb zrb eYb eEb eWb eOb eRb H locs ls hm_57 g_co g_znb g_zmb g_zkb g_zrb g_eYb g_eEb g_eWb g_eOb hco hmi hP hD hS hl
                  exact ms_0 hm_57
                | succ k_57 ih_57 =>
                  intro co znb zdb zmb zlb zkb zrb eYb eEb eWb eOb eRb H locs ls hm_57 g_co g_znb g_zmb g_zkb g_zrb g_eYb g_eEb g_eWb g_eOb hco hmi hP hD hS hl
                  refine lv_iload hx hb dX12_rows_57 (lv_at hl 0 rfl) ?_
                  refine lv_iload_n hx hb dX12_rows_59 rfl (lv_at hl 1 rfl) ?_
                  refine lv_icmp_ge (tgt := 202) hx hb dX12_rows_60 (by decide) (fun c_6 => ?_) (fun c_6 => ?_)
                  · have tc_6 : r_5.toInt ≤ co.toInt := v_le c_6
                    obtain ⟨x_7, ex_7⟩ : ∃ y : Int32, y = my + 1 := ⟨_, rfl⟩
                    have tx_7 : x_7.toInt = my.toInt + 1 := v_addR (l2 := 1) (h2 := 1) ex_7 g_my (by decide) (by decide) (by decide)
                    refine lv_iinc (v := x_7) (lv' := [(2, .int x_7), (4, .int co), (3, .int r_5), (0, .ref oM), (1, .int n)]) hx hb dX12_rows_202 hl (k := 2) rfl (by rw [ex_7]; rfl) (by decide) rfl (fun ls hl => ?_)
                    refine lv_goto (tgt := 29) hx hb dX12_rows_205 (by decide) ?_
                    exact ih_29 x_7 znb zdb zmb zlb zkb zrb eYb eEb eWb eOb eRb _ _ _ (ms_lt hm_29 (by show ((4 - x_7.toInt : Int)) < 4 - my.toInt; omega) (by show (0 : Int) < 4 - my.toInt; omega)) (by show 1 ≤ x_7.toInt ∧ x_7.toInt ≤ 4; omega) (g_znb) (g_zmb) (g_zkb) (g_zrb) (g_eYb) (g_eEb) (g_eWb) (g_eOb) (by show (x_7.toInt = 1 ∧ zrb.toInt = 0) ∨ (x_7.toInt = 2 ∧ zrb.toInt ≤ 6) ∨ (x_7.toInt = 3 ∧ zrb.toInt ≤ 42) ∨ (x_7.toInt = 4 ∧ zrb.toInt ≤ 258); omega) (by show x_7.toInt ≤ n.toInt + 1; omega) (fun R1 R2 R3 hR => RWT_e (hmi R1 R2 R3 hR) (by rw [ix_eq (x := x_7) (N := my.toNatClampNeg + 1) (by omega), hmy3]; have cco := v_clamp (x := co) (by omega); have hal9 := hf5_2; omega)) hP hD hS (lv_sub hl [0, 3, 4] rfl)
                  · have tc_6 : co.toInt < r_5.toInt := v_nle c_6
                    have cco := v_clamp (x := co) (by omega)
                    have hal9 := hf5_2
                    have h258 := off_258 (z := zh.toNatClampNeg) (k := my.toNatClampNeg) (by omega) (by omega) (by omega)
                    refine lv_aload_n hx hb dX12_rows_63 rfl (lv_at hl 3 rfl) ?_
                    refine lv_iload hx hb dX12_rows_64 (lv_at hl 0 rfl) ?_
                    refine lv_iload_n hx hb dX12_rows_66 rfl (lv_at hl 2 rfl) ?_
                    refine kV_i (rest := []) (q0 := 0) (ci := 12) hcf (f_X12_makes l dC dI cI cS H.size oM mT mS mX mL mB mD m1 m2 mR x1 x2 x3 mH mY mE mW mO y1 y2 y3 y4 mZ zt zp zf zh zrb zc zy za zb zs zq (-1) 0 znb zmb zlb zkb zdb eYb eB eL eEb eWb eOb eS eX e1 e2 co my (g_zt) (g_zp) (g_zf) (g_zh) (g_zrb) (g_zc) (g_zy) (g_za) (g_zb) (g_zs) (g_zq) (g_znb) (g_zmb) (g_zkb) (g_eYb) (g_eB) (g_eL) (g_eEb) (g_eWb) (g_eOb) (g_eS) (g_eX) (g_e1) (g_e2) (by omega) (by omega) (by omega) (hxl) (hlb) (hlz)) kc_X12_makes gX12_rows_X12_makes rfl rfl rfl ⟨Nat.le_of_ble_eq_true rfl, Nat.le_of_ble_eq_true rfl⟩ kX_t hK hP hD hS hA (posT mk_173 0) (posF mk_173 0) (kC_of mk_173 rfl rfl) (by decide +kernel) rfl rfl rfl hl rfl (Nat.le_of_ble_eq_true rfl) dX12_rows_67 ⟨Nat.le_of_ble_eq_true rfl, Nat.le_of_ble_eq_true rfl⟩ (fun r_8 H locs hB hJ hSn => ?_)
                    refine hB _ (fun zn_8 eY_8 zd_8 zm_8 zl_8 eE_8 zk_8 eW_8 eO_8 hPD9 hf8_0 hf8_1 hf8_2 hf8_3 hf8_4 hf8_5 hf8_6 hf8_7 hf8_8 => ?_)
                    clear hB
                    obtain ⟨hPn, hDn⟩ := kJi (m := mk_173) hJ rfl hPD9.1 hPD9.2 (wn := [(oM, .inr (12, [.ref mT, .int zt, .ref mS, .ref mX, .int zp, .int zf, .ref mL, .ref mB, .ref mD, .ref m1, .ref m2, .int zh, .ref mR, .int zrb, .ref x1, .ref x2, .ref x3, .int zc, .ref mH, .int zy, .int za, .int zb, .int zs, .int zq, .int (-1), .int 0, .ref mY, .int zn_8, .ref mE, .int zm_8, .int zl_8, .ref mW, .int zk_8, .ref mO, .int zd_8, .ref y1, .ref y2, .ref y3, .ref y4, .ref mZ])), (mY, .inl (cI, 2600, .inl eY_8)), (mB, .inl (cS, 131072, .inl eB)), (mL, .inl (cI, 512, .inl eL)), (mE, .inl (cI, 2600, .inl eE_8)), (mW, .inl (cI, 300, .inl eW_8)), (mO, .inl (cI, 300, .inl eO_8)), (mS, .inl (cI, 21, .inl eS)), (mX, .inl (cI, 6300, .inl eX)), (m1, .inl (cI, 6, .inl e1)), (m2, .inl (cI, 6, .inl e2)), (mR, .inl (cI, 1548, .inl eRb)), (x1, .inl (cI, 300, .inl ec1)), (x2, .inl (cI, 300, .inl ec2)), (x3, .inl (cI, 300, .inl ec3))]) rfl
                    clear hP hD hS hJ hPD9
                    have hP := hPn
                    have hD := hDn
                    have hS := hSn
                    clear hPn hDn hSn
                    refine lv_if_ne (tgt := 76) hx hb dX12_rows_70 (by decide) (fun c_9 => ?_) (fun c_9 => ?_)
                    · have tc_9 : ¬ r_8.toInt = 0 := v_ne c_9
                      refine lv_bipush (v := 6) hx hb dX12_rows_76 (by decide) ?_
                      refine lv_aload_n hx hb dX12_rows_78 rfl (lv_at hl 3 rfl) ?_
                      refine va_get (D := (dC, dI)) (ci := 12) (v := .int zrb) (C := RX12) (T := TX12) (N := 40) hx hb hts in_X12 hown hK hP 0 rfl rfl 13 (Nat.le_of_ble_eq_true rfl) (hts (.fieldLink RX12 180 "TextMenderModel" "rowMany" "I") (List.mem_of_getElem? (i := 3) rfl)) (fun _ h9 => h9) rfl dX12_rows_79 ?_
                      refine lv_imul hx hb dX12_rows_82 ?_
                      refine lv_topi (fun x_10 ex_10 => ?_)
                      have tx_10 : x_10.toInt = 6 * zrb.toInt := v_mul ex_10 (by show -2147483648 ≤ 6 * zrb.toInt; omega) (by show 6 * zrb.toInt < 2147483648; omega)
                      refine lv_istore (lv' := [(5, .int x_10), (4, .int co), (3, .int r_5), (2, .int my), (0, .ref oM), (1, .int n)]) hx hb dX12_rows_83 hl (by decide) rfl (fun ls hl => ?_)
                      refine lv_aload_n hx hb dX12_rows_85 rfl (lv_at hl 4 rfl) ?_
                      refine va_get (D := (dC, dI)) (ci := 12) (v := .ref mR) (C := RX12) (T := TX12) (N := 40) hx hb hts in_X12 hown hK hP 0 rfl rfl 12 (Nat.le_of_ble_eq_true rfl) (hts (.fieldLink RX12 36 "TextMenderModel" "rows" "[I") (List.mem_of_getElem? (i := 5) rfl)) (fun _ h9 => h9) rfl dX12_rows_86 ?_
                      refine lv_iload hx hb dX12_rows_89 (lv_at hl 0 rfl) ?_
                      refine lv_iload_n hx hb dX12_rows_91 rfl (lv_at hl 3 rfl) ?_
                      obtain ⟨f_11, ef_11⟩ : ∃ g : Nat → Int32, g = upd eRb (x_10 : Int32).toNatClampNeg my := ⟨_, rfl⟩
                      refine va_iast hx hb hK hP hD hS 11 0 rfl rfl (v_in (by omega)) dX12_rows_92 (kWf (g := f_11) (F := fun f_11 => [(oM, .inr (12, [.ref mT, .int zt, .ref mS, .ref mX, .int zp, .int zf, .ref mL, .ref mB, .ref mD, .ref m1, .ref m2, .int zh, .ref mR, .int zrb, .ref x1, .ref x2, .ref x3, .int zc, .ref mH, .int zy, .int za, .int zb, .int zs, .int zq, .int (-1), .int 0, .ref mY, .int zn_8, .ref mE, .int zm_8, .int zl_8, .ref mW, .int zk_8, .ref mO, .int zd_8, .ref y1, .ref y2, .ref y3, .ref y4, .ref mZ])), (mY, .inl (cI, 2600, .inl eY_8)), (mB, .inl (cS, 131072, .inl eB)), (mL, .inl (cI, 512, .inl eL)), (mE, .inl (cI, 2600, .inl eE_8)), (mW, .inl (cI, 300, .inl eW_8)), (mO, .inl (cI, 300, .inl eO_8)), (mS, .inl (cI, 21, .inl eS)), (mX, .inl (cI, 6300, .inl eX)), (m1, .inl (cI, 6, .inl e1)), (m2, .inl (cI, 6, .inl e2)), (mR, .inl (cI, 1548, .inl f_11)), (x1, .inl (cI, 300, .inl ec1)), (x2, .inl (cI, 300, .inl ec2)), (x3, .inl (cI, 300, .inl ec3))]) ef_11 rfl (fun H locs hPn hDn hSn => ?_))
                      clear hP hD hS
                      have hP := hPn
                      have hD := hDn
                      have hS := hSn
                      clear hPn hDn hSn
                      skip
                      refine lv_iconst (v := 0) hx hb dX12_rows_93 (by decide) ?_
                      refine lv_istore (lv' := [(6, .int 0), (5, .int x_10), (4, .int co), (3, .int r_5), (2, .int my), (0, .ref oM), (1, .int n)]) hx hb dX12_rows_94 hl (by decide) rfl (fun ls hl => ?_)
                      have LOOP_96 : ∀ (k_96 : Nat) (k : Int32) (eRc : Nat → Int32) (H : Heap) (locs : List Loc) (ls : Array Slot), MSd (3 - k.toInt : Int) k_96 → (0 ≤ k.toInt ∧ k.toInt ≤ 3) → (CPR zh.toNatClampNeg my.toNatClampNeg co.toNatClampNeg zrb.toInt k.toInt f_11 eRc) → va_P (dC, dI) vwCl [(oM, .inr (12, [.ref mT, .int zt, .ref mS, .ref mX, .int zp, .int zf, .ref mL, .ref mB, .ref mD, .ref m1, .ref m2, .int zh, .ref mR, .int zrb, .ref x1, .ref x2, .ref x3, .int zc, .ref mH, .int zy, .int za, .int zb, .int zs, .int zq, .int (-1), .int 0, .ref mY, .int zn_8, .ref mE, .int zm_8, .int zl_8, .ref mW, .int zk_8, .ref mO, .int zd_8, .ref y1, .ref y2, .ref y3, .ref y4, .ref mZ])), (mY, .inl (cI, 2600, .inl eY_8)), (mB, .inl (cS, 131072, .inl eB)), (mL, .inl (cI, 512, .inl eL)), (mE, .inl (cI, 2600, .inl eE_8)), (mW, .inl (cI, 300, .inl eW_8)), (mO, .inl (cI, 300, .inl eO_8)), (mS, .inl (cI, 21, .inl eS)), (mX, .inl (cI, 6300, .inl eX)), (m1, .inl (cI, 6, .inl e1)), (m2, .inl (cI, 6, .inl e2)), (mR, .inl (cI, 1548, .inl eRc)), (x1, .inl (cI, 300, .inl ec1)), (x2, .inl (cI, 300, .inl ec2)), (x3, .inl (cI, 300, .inl ec3))] H → va_D A [(oM, .inr (12, [.ref mT, .int zt, .ref mS, .ref mX, .int zp, .int zf, .ref mL, .ref mB, .ref mD, .ref m1, .ref m2, .int zh, .ref mR, .int zrb, .ref x1, .ref x2, .ref x3, .int zc, .ref mH, .int zy, .int za, .int zb, .int zs, .int zq, .int (-1), .int 0, .ref mY, .int zn_8, .ref mE, .int zm_8, .int zl_8, .ref mW, .int zk_8, .ref mO, .int zd_8, .ref y1, .ref y2, .ref y3, .ref y4, .ref mZ])), (mY, .inl (cI, 2600, .inl eY_8)), (mB, .inl (cS, 131072, .inl eB)), (mL, .inl (cI, 512, .inl eL)), (mE, .inl (cI, 2600, .inl eE_8)), (mW, .inl (cI, 300, .inl eW_8)), (mO, .inl (cI, 300, .inl eO_8)), (mS, .inl (cI, 21, .inl eS)), (mX, .inl (cI, 6300, .inl eX)), (m1, .inl (cI, 6, .inl e1)), (m2, .inl (cI, 6, .inl e2)), (mR, .inl (cI, 1548, .inl eRc)), (x1, .inl (cI, 300, .inl ec1)), (x2, .inl (cI, 300, .inl ec2)), (x3, .inl (cI, 300, .inl ec3))] → va_S A s.heap H locs → lv_has ls 7 [(6, .int k), (5, .int x_10), (4, .int co), (3, .int r_5), (2, .int my), (0, .ref oM), (1, .int n)] → W p l e (headSpec wsX12_rows ({ frames := 6, cells := 0, slots := 0, locals := 145 } : Room)).room s m ([.ref oM, .int n] : List Value).toArray below meth c H locs 0 0 (MQ below QQ ([.ref oM, .int n] : List Value).toArray s 0 0 A) (F0 m 96 ls []) := by
                        clear hP hD hS hl
                        try (clear g_znb g_zmb g_zkb g_zna g_zma g_zka g_zr hzs)
                        intro k_96
                        induction k_96 with
                        | zero =>
                          intro k eRc H locs ls hm_96 g_k hcr hP hD hS hl
                          exact ms_0 hm_96
                        | succ k_96 ih_96 =>
                          intro k eRc H locs ls hm_96 g_k hcr hP hD hS hl
                          refine lv_iload hx hb dX12_rows_96 (lv_at hl 0 rfl) ?_
                          refine lv_iconst (v := 3) hx hb dX12_rows_98 (by decide) ?_
                          refine lv_icmp_ge (tgt := 151) hx hb dX12_rows_99 (by decide) (fun c_12 => ?_) (fun c_12 => ?_)
                          · have tc_12 : 3 ≤ k.toInt := v_le c_12
                            refine lv_aload_n hx hb dX12_rows_151 rfl (lv_at hl 5 rfl) ?_
                            refine va_get (D := (dC, dI)) (ci := 12) (v := .ref mR) (C := RX12) (T := TX12) (N := 40) hx hb hts in_X12 hown hK hP 0 rfl rfl 12 (Nat.le_of_ble_eq_true rfl) (hts (.fieldLink RX12 36 "TextMenderModel" "rows" "[I") (List.mem_of_getElem? (i := 5) rfl)) (fun _ h9 => h9) rfl dX12_rows_152 ?_
                            refine lv_iload hx hb dX12_rows_155 (lv_at hl 1 rfl) ?_
                            refine lv_iconst (v := 4) hx hb dX12_rows_157 (by decide) ?_
                            refine lv_iadd hx hb dX12_rows_158 ?_
                            refine lv_topi (fun x_13 ex_13 => ?_)
                            have tx_13 : x_13.toInt = x_10.toInt + 4 := v_add ex_13 (by show -2147483648 ≤ x_10.toInt + 4; omega) (by show x_10.toInt + 4 < 2147483648; omega)
                            refine lv_aload_n hx hb dX12_rows_159 rfl (lv_at hl 5 rfl) ?_
                            refine lv_aload_n hx hb dX12_rows_160 rfl (lv_at hl 5 rfl) ?_
                            refine va_get (D := (dC, dI)) (ci := 12) (v := .ref mW) (C := RX12) (T := TX12) (N := 40) hx hb hts in_X12 hown hK hP 0 rfl rfl 31 (Nat.le_of_ble_eq_true rfl) (hts (.fieldLink RX12 64 "TextMenderModel" "work" "[I") (List.mem_of_getElem? (i := 6) rfl)) (fun _ h9 => h9) rfl dX12_rows_161 ?_
                            refine lv_iconst (v := 0) hx hb dX12_rows_164 (by decide) ?_
                            refine lv_aload_n hx hb dX12_rows_165 rfl (lv_at hl 5 rfl) ?_
                            refine va_get (D := (dC, dI)) (ci := 12) (v := .int zk_8) (C := RX12) (T := TX12) (N := 40) hx hb hts in_X12 hown hK hP 0 rfl rfl 32 (Nat.le_of_ble_eq_true rfl) (hts (.fieldLink RX12 135 "TextMenderModel" "workMany" "I") (List.mem_of_getElem? (i := 7) rfl)) (fun _ h9 => h9) rfl dX12_rows_166 ?_
                            refine kV_i (rest := [.int x_13, .ref mR]) (q0 := 0) (ci := 12) hcf (f_X12_costOf_ l dC dI cI cS H.size oM mW mT mS mX mL mB mD m1 m2 mR x1 x2 x3 mH mY mE mW mO y1 y2 y3 y4 mZ 300 zt zp zf zh zrb zc zy za zb zs zq (-1) 0 zn_8 zm_8 zl_8 zk_8 zd_8 ec1 ec2 ec3 eW_8 0 zk_8 (g_zt) (g_zp) (g_zf) (g_zh) (g_zrb) (g_zc) (g_zy) (g_za) (g_zb) (g_zs) (g_zq) (hf8_0) (hf8_2) (hf8_4) (by decide) (hf8_4) (by omega) (by omega) (hV) (prg_of hf8_5)) kc_X12_costOf_ gX12_rows_X12_costOf_ rfl rfl rfl ⟨Nat.le_of_ble_eq_true rfl, Nat.le_of_ble_eq_true rfl⟩ kX_t hK hP hD hS hA ([0, 2, 3, 4, 1].filterMap (fun j => (posT mk_174 0)[j]?)) (posF mk_174 0) (kCp (ws := [(oM, .inr (12, [.ref mT, .int zt, .ref mS, .ref mX, .int zp, .int zf, .ref mL, .ref mB, .ref mD, .ref m1, .ref m2, .int zh, .ref mR, .int zrb, .ref x1, .ref x2, .ref x3, .int zc, .ref mH, .int zy, .int za, .int zb, .int zs, .int zq, .int (-1), .int 0, .ref mY, .int zn_8, .ref mE, .int zm_8, .int zl_8, .ref mW, .int zk_8, .ref mO, .int zd_8, .ref y1, .ref y2, .ref y3, .ref y4, .ref mZ])), (mW, .inl (cI, 300, .inl eW_8)), (x1, .inl (cI, 300, .inl ec1)), (x2, .inl (cI, 300, .inl ec2)), (x3, .inl (cI, 300, .inl ec3))]) (kC_of mk_174 rfl rfl) rfl) (by decide +kernel) rfl rfl rfl hl rfl (Nat.le_of_ble_eq_true rfl) dX12_rows_169 ⟨Nat.le_of_ble_eq_true rfl, Nat.le_of_ble_eq_true rfl⟩ (fun r_14 H locs hB hJ hSn => ?_)
                            refine hB _ (fun hPD9 hf14_0 hf14_1 => ?_)
                            clear hB
                            obtain ⟨hPn, hDn⟩ := kJm (m := mk_174) hJ rfl hPD9.1 hPD9.2 [0, 4, 1, 2, 3] (by decide +kernel) (ws := [(oM, .inr (12, [.ref mT, .int zt, .ref mS, .ref mX, .int zp, .int zf, .ref mL, .ref mB, .ref mD, .ref m1, .ref m2, .int zh, .ref mR, .int zrb, .ref x1, .ref x2, .ref x3, .int zc, .ref mH, .int zy, .int za, .int zb, .int zs, .int zq, .int (-1), .int 0, .ref mY, .int zn_8, .ref mE, .int zm_8, .int zl_8, .ref mW, .int zk_8, .ref mO, .int zd_8, .ref y1, .ref y2, .ref y3, .ref y4, .ref mZ])), (mW, .inl (cI, 300, .inl eW_8)), (x1, .inl (cI, 300, .inl ec1)), (x2, .inl (cI, 300, .inl ec2)), (x3, .inl (cI, 300, .inl ec3))]) rfl (wn := [(oM, .inr (12, [.ref mT, .int zt, .ref mS, .ref mX, .int zp, .int zf, .ref mL, .ref mB, .ref mD, .ref m1, .ref m2, .int zh, .ref mR, .int zrb, .ref x1, .ref x2, .ref x3, .int zc, .ref mH, .int zy, .int za, .int zb, .int zs, .int zq, .int (-1), .int 0, .ref mY, .int zn_8, .ref mE, .int zm_8, .int zl_8, .ref mW, .int zk_8, .ref mO, .int zd_8, .ref y1, .ref y2, .ref y3, .ref y4, .ref mZ])), (mY, .inl (cI, 2600, .inl eY_8)), (mB, .inl (cS, 131072, .inl eB)), (mL, .inl (cI, 512, .inl eL)), (mE, .inl (cI, 2600, .inl eE_8)), (mW, .inl (cI, 300, .inl eW_8)), (mO, .inl (cI, 300, .inl eO_8)), (mS, .inl (cI, 21, .inl eS)), (mX, .inl (cI, 6300, .inl eX)), (m1, .inl (cI, 6, .inl e1)), (m2, .inl (cI, 6, .inl e2)), (mR, .inl (cI, 1548, .inl eRc)), (x1, .inl (cI, 300, .inl ec1)), (x2, .inl (cI, 300, .inl ec2)), (x3, .inl (cI, 300, .inl ec3))]) rfl
                            clear hP hD hS hJ hPD9
                            have hP := hPn
                            have hD := hDn
                            have hS := hSn
                            clear hPn hDn hSn
                            obtain ⟨f_15, ef_15⟩ : ∃ g : Nat → Int32, g = upd eRc (x_13 : Int32).toNatClampNeg r_14 := ⟨_, rfl⟩
                            refine va_iast hx hb hK hP hD hS 11 0 rfl rfl (v_in (by omega)) dX12_rows_172 (kWf (g := f_15) (F := fun f_15 => [(oM, .inr (12, [.ref mT, .int zt, .ref mS, .ref mX, .int zp, .int zf, .ref mL, .ref mB, .ref mD, .ref m1, .ref m2, .int zh, .ref mR, .int zrb, .ref x1, .ref x2, .ref x3, .int zc, .ref mH, .int zy, .int za, .int zb, .int zs, .int zq, .int (-1), .int 0, .ref mY, .int zn_8, .ref mE, .int zm_8, .int zl_8, .ref mW, .int zk_8, .ref mO, .int zd_8, .ref y1, .ref y2, .ref y3, .ref y4, .ref mZ])), (mY, .inl (cI, 2600, .inl eY_8)), (mB, .inl (cS, 131072, .inl eB)), (mL, .inl (cI, 512, .inl eL)), (mE, .inl (cI, 2600, .inl eE_8)), (mW, .inl (cI, 300, .inl eW_8)), (mO, .inl (cI, 300, .inl eO_8)), (mS, .inl (cI, 21, .inl eS)), (mX, .inl (cI, 6300, .inl eX)), (m1, .inl (cI, 6, .inl e1)), (m2, .inl (cI, 6, .inl e2)), (mR, .inl (cI, 1548, .inl f_15)), (x1, .inl (cI, 300, .inl ec1)), (x2, .inl (cI, 300, .inl ec2)), (x3, .inl (cI, 300, .inl ec3))]) ef_15 rfl (fun H locs hPn hDn hSn => ?_))
                            clear hP hD hS
                            have hP := hPn
                            have hD := hDn
                            have hS := hSn
                            clear hPn hDn hSn
                            refine lv_aload_n hx hb dX12_rows_173 rfl (lv_at hl 5 rfl) ?_
                            refine va_get (D := (dC, dI)) (ci := 12) (v := .ref mR) (C := RX12) (T := TX12) (N := 40) hx hb hts in_X12 hown hK hP 0 rfl rfl 12 (Nat.le_of_ble_eq_true rfl) (hts (.fieldLink RX12 36 "TextMenderModel" "rows" "[I") (List.mem_of_getElem? (i := 5) rfl)) (fun _ h9 => h9) rfl dX12_rows_174 ?_
                            refine lv_iload hx hb dX12_rows_177 (lv_at hl 1 rfl) ?_
                            refine lv_iconst (v := 5) hx hb dX12_rows_179 (by decide) ?_
                            refine lv_iadd hx hb dX12_rows_180 ?_
                            refine lv_topi (fun x_16 ex_16 => ?_)
                            have tx_16 : x_16.toInt = x_10.toInt + 5 := v_add ex_16 (by show -2147483648 ≤ x_10.toInt + 5; omega) (by show x_10.toInt + 5 < 2147483648; omega)
                            refine lv_aload_n hx hb dX12_rows_181 rfl (lv_at hl 5 rfl) ?_
                            refine va_get (D := (dC, dI)) (ci := 12) (v := .int zk_8) (C := RX12) (T := TX12) (N := 40) hx hb hts in_X12 hown hK hP 0 rfl rfl 32 (Nat.le_of_ble_eq_true rfl) (hts (.fieldLink RX12 135 "TextMenderModel" "workMany" "I") (List.mem_of_getElem? (i := 7) rfl)) (fun _ h9 => h9) rfl dX12_rows_182 ?_
                            obtain ⟨f_17, ef_17⟩ : ∃ g : Nat → Int32, g = upd f_15 (x_16 : Int32).toNatClampNeg zk_8 := ⟨_, rfl⟩
                            refine va_iast hx hb hK hP hD hS 11 0 rfl rfl (v_in (by omega)) dX12_rows_185 (kWf (g := f_17) (F := fun f_17 => [(oM, .inr (12, [.ref mT, .int zt, .ref mS, .ref mX, .int zp, .int zf, .ref mL, .ref mB, .ref mD, .ref m1, .ref m2, .int zh, .ref mR, .int zrb, .ref x1, .ref x2, .ref x3, .int zc, .ref mH, .int zy, .int za, .int zb, .int zs, .int zq, .int (-1), .int 0, .ref mY, .int zn_8, .ref mE, .int zm_8, .int zl_8, .ref mW, .int zk_8, .ref mO, .int zd_8, .ref y1, .ref y2, .ref y3, .ref y4, .ref mZ])), (mY, .inl (cI, 2600, .inl eY_8)), (mB, .inl (cS, 131072, .inl eB)), (mL, .inl (cI, 512, .inl eL)), (mE, .inl (cI, 2600, .inl eE_8)), (mW, .inl (cI, 300, .inl eW_8)), (mO, .inl (cI, 300, .inl eO_8)), (mS, .inl (cI, 21, .inl eS)), (mX, .inl (cI, 6300, .inl eX)), (m1, .inl (cI, 6, .inl e1)), (m2, .inl (cI, 6, .inl e2)), (mR, .inl (cI, 1548, .inl f_17)), (x1, .inl (cI, 300, .inl ec1)), (x2, .inl (cI, 300, .inl ec2)), (x3, .inl (cI, 300, .inl ec3))]) ef_17 rfl (fun H locs hPn hDn hSn => ?_))
                            clear hP hD hS
                            have hP := hPn
                            have hD := hDn
                            have hS := hSn
                            clear hPn hDn hSn
                            refine lv_aload_n hx hb dX12_rows_186 rfl (lv_at hl 5 rfl) ?_
                            refine lv_dup hx hb dX12_rows_187 rfl ?_
                            refine va_get (D := (dC, dI)) (ci := 12) (v := .int zrb) (C := RX12) (T := TX12) (N := 40) hx hb hts in_X12 hown hK hP 0 rfl rfl 13 (Nat.le_of_ble_eq_true rfl) (hts (.fieldLink RX12 180 "TextMenderModel" "rowMany" "I") (List.mem_of_getElem? (i := 3) rfl)) (fun _ h9 => h9) rfl dX12_rows_188 ?_
                            refine lv_iconst (v := 1) hx hb dX12_rows_191 (by decide) ?_
                            refine lv_iadd hx hb dX12_rows_192 ?_
                            refine lv_topi (fun x_18 ex_18 => ?_)
                            have tx_18 : x_18.toInt = zrb.toInt + 1 := v_addR (l2 := 1) (h2 := 1) ex_18 g_zrb (by decide) (by decide) (by decide)
                            refine va_put (D := (dC, dI)) (ci := 12) (v := .int x_18) (ty := .int) (C := RX12) (T := TX12) (N := 40) hx hb hts in_X12 tyX12 tyX12_ok nmX12 hown hK hP hD hS 0 rfl rfl 13 (Nat.le_of_ble_eq_true rfl) (hts (.fieldLink RX12 180 "TextMenderModel" "rowMany" "I") (List.mem_of_getElem? (i := 3) rfl)) (fun _ h9 => h9) rfl (tyX12_ok 13 (Nat.le_of_ble_eq_true rfl)) rfl rfl (Nat.le_of_ble_eq_true rfl) dX12_rows_193 (kW (wn := [(oM, .inr (12, [.ref mT, .int zt, .ref mS, .ref mX, .int zp, .int zf, .ref mL, .ref mB, .ref mD, .ref m1, .ref m2, .int zh, .ref mR, .int x_18, .ref x1, .ref x2, .ref x3, .int zc, .ref mH, .int zy, .int za, .int zb, .int zs, .int zq, .int (-1), .int 0, .ref mY, .int zn_8, .ref mE, .int zm_8, .int zl_8, .ref mW, .int zk_8, .ref mO, .int zd_8, .ref y1, .ref y2, .ref y3, .ref y4, .ref mZ])), (mY, .inl (cI, 2600, .inl eY_8)), (mB, .inl (cS, 131072, .inl eB)), (mL, .inl (cI, 512, .inl eL)), (mE, .inl (cI, 2600, .inl eE_8)), (mW, .inl (cI, 300, .inl eW_8)), (mO, .inl (cI, 300, .inl eO_8)), (mS, .inl (cI, 21, .inl eS)), (mX, .inl (cI, 6300, .inl eX)), (m1, .inl (cI, 6, .inl e1)), (m2, .inl (cI, 6, .inl e2)), (mR, .inl (cI, 1548, .inl f_17)), (x1, .inl (cI, 300, .inl ec1)), (x2, .inl (cI, 300, .inl ec2)), (x3, .inl (cI, 300, .inl ec3))]) rfl (fun H locs hPn hDn hSn => ?_))
                            clear hP hD hS
                            have hP := hPn
                            have hD := hDn
                            have hS := hSn
                            clear hPn hDn hSn
                            obtain ⟨x_19, ex_19⟩ : ∃ y : Int32, y = co + 1 := ⟨_, rfl⟩
                            have tx_19 : x_19.toInt = co.toInt + 1 := v_add ex_19 (by show -2147483648 ≤ co.toInt + 1; omega) (by show co.toInt + 1 < 2147483648; omega)
                            refine lv_iinc (v := x_19) (lv' := [(4, .int x_19), (6, .int k), (5, .int x_10), (3, .int r_5), (2, .int my), (0, .ref oM), (1, .int n)]) hx hb dX12_rows_196 hl (k := 2) rfl (by rw [ex_19]; rfl) (by decide) rfl (fun ls hl => ?_)
                            refine lv_goto (tgt := 57) hx hb dX12_rows_199 (by decide) ?_
                            exact ih_57 x_19 zn_8 zd_8 zm_8 zl_8 zk_8 x_18 eY_8 eE_8 eW_8 eO_8 f_17 _ _ _ (ms_lt hm_57 (by show ((r_5.toInt - x_19.toInt : Int)) < r_5.toInt - co.toInt; omega) (by show (0 : Int) < r_5.toInt - co.toInt; omega)) (by show 0 ≤ x_19.toInt ∧ x_19.toInt ≤ r_5.toInt; omega) (hf8_0) (hf8_2) (hf8_4) (by show 0 ≤ x_18.toInt ∧ x_18.toInt ≤ 258; omega) (hf8_1) (hf8_3) (hf8_5) (hf8_6) (by show (my.toInt = 1 ∧ x_18.toInt ≤ x_19.toInt) ∨ (my.toInt = 2 ∧ x_18.toInt ≤ 6 + x_19.toInt) ∨ (my.toInt = 3 ∧ x_18.toInt ≤ 42 + x_19.toInt); omega) (fun R1 R2 R3 hR => RWT_y hU hR rfl hs3 hx9 hf8_8 (by omega) (by omega) (by omega) (by omega) (by omega) (hmi R1 R2 R3 hR) rfl (by rw [ix_eq (x := x_19) (N := co.toNatClampNeg + 1) (by omega)]; omega) (by omega) (by omega) ef_11 (by omega) (by omega) hcr (by omega) ef_15 (by omega) hf14_1 ef_17 (by omega)) hP hD hS (lv_sub hl [0, 3, 4, 5, 6] rfl)
                          · have tc_12 : k.toInt < 3 := v_nle c_12
                            have ck9 := v_clamp (x := k) (by omega)
                            refine lv_aload_n hx hb dX12_rows_102 rfl (lv_at hl 5 rfl) ?_
                            refine va_get (D := (dC, dI)) (ci := 12) (v := .ref mR) (C := RX12) (T := TX12) (N := 40) hx hb hts in_X12 hown hK hP 0 rfl rfl 12 (Nat.le_of_ble_eq_true rfl) (hts (.fieldLink RX12 36 "TextMenderModel" "rows" "[I") (List.mem_of_getElem? (i := 5) rfl)) (fun _ h9 => h9) rfl dX12_rows_103 ?_
                            refine lv_iload hx hb dX12_rows_106 (lv_at hl 1 rfl) ?_
                            refine lv_iconst (v := 1) hx hb dX12_rows_108 (by decide) ?_
                            refine lv_iadd hx hb dX12_rows_109 ?_
                            refine lv_topi (fun x_20 ex_20 => ?_)
                            have tx_20 : x_20.toInt = x_10.toInt + 1 := v_add ex_20 (by show -2147483648 ≤ x_10.toInt + 1; omega) (by show x_10.toInt + 1 < 2147483648; omega)
                            refine lv_iload hx hb dX12_rows_110 (lv_at hl 0 rfl) ?_
                            refine lv_iadd hx hb dX12_rows_112 ?_
                            refine lv_topi (fun x_21 ex_21 => ?_)
                            have tx_21 : x_21.toInt = x_20.toInt + k.toInt := v_add ex_21 (by show -2147483648 ≤ x_20.toInt + k.toInt; omega) (by show x_20.toInt + k.toInt < 2147483648; omega)
                            refine lv_iload hx hb dX12_rows_113 (lv_at hl 0 rfl) ?_
                            refine lv_iload_n hx hb dX12_rows_115 rfl (lv_at hl 4 rfl) ?_
                            refine lv_icmp_ge (tgt := 143) hx hb dX12_rows_116 (by decide) (fun c_22 => ?_) (fun c_22 => ?_)
                            · have tc_22 : my.toInt ≤ k.toInt := v_le c_22
                              refine lv_iconst (v := (-1)) hx hb dX12_rows_143 (by decide) ?_
                              obtain ⟨f_23, ef_23⟩ : ∃ g : Nat → Int32, g = upd eRc (x_21 : Int32).toNatClampNeg (-1) := ⟨_, rfl⟩
                              refine va_iast hx hb hK hP hD hS 11 0 rfl rfl (v_in (by omega)) dX12_rows_144 (kWf (g := f_23) (F := fun f_23 => [(oM, .inr (12, [.ref mT, .int zt, .ref mS, .ref mX, .int zp, .int zf, .ref mL, .ref mB, .ref mD, .ref m1, .ref m2, .int zh, .ref mR, .int zrb, .ref x1, .ref x2, .ref x3, .int zc, .ref mH, .int zy, .int za, .int zb, .int zs, .int zq, .int (-1), .int 0, .ref mY, .int zn_8, .ref mE, .int zm_8, .int zl_8, .ref mW, .int zk_8, .ref mO, .int zd_8, .ref y1, .ref y2, .ref y3, .ref y4, .ref mZ])), (mY, .inl (cI, 2600, .inl eY_8)), (mB, .inl (cS, 131072, .inl eB)), (mL, .inl (cI, 512, .inl eL)), (mE, .inl (cI, 2600, .inl eE_8)), (mW, .inl (cI, 300, .inl eW_8)), (mO, .inl (cI, 300, .inl eO_8)), (mS, .inl (cI, 21, .inl eS)), (mX, .inl (cI, 6300, .inl eX)), (m1, .inl (cI, 6, .inl e1)), (m2, .inl (cI, 6, .inl e2)), (mR, .inl (cI, 1548, .inl f_23)), (x1, .inl (cI, 300, .inl ec1)), (x2, .inl (cI, 300, .inl ec2)), (x3, .inl (cI, 300, .inl ec3))]) ef_23 rfl (fun H locs hPn hDn hSn => ?_))
                              clear hP hD hS
                              have hP := hPn
                              have hD := hDn
                              have hS := hSn
                              clear hPn hDn hSn
                              obtain ⟨x_24, ex_24⟩ : ∃ y : Int32, y = k + 1 := ⟨_, rfl⟩
                              have tx_24 : x_24.toInt = k.toInt + 1 := v_addR (l2 := 1) (h2 := 1) ex_24 g_k (by decide) (by decide) (by decide)
                              refine lv_iinc (v := x_24) (lv' := [(6, .int x_24), (5, .int x_10), (4, .int co), (3, .int r_5), (2, .int my), (0, .ref oM), (1, .int n)]) hx hb dX12_rows_145 hl (k := 0) rfl (by rw [ex_24]; rfl) (by decide) rfl (fun ls hl => ?_)
                              refine lv_goto (tgt := 96) hx hb dX12_rows_148 (by decide) ?_
                              exact ih_96 x_24 f_23 _ _ _ (ms_lt hm_96 (by show ((3 - x_24.toInt : Int)) < 3 - k.toInt; omega) (by show (0 : Int) < 3 - k.toInt; omega)) (by show 0 ≤ x_24.toInt ∧ x_24.toInt ≤ 3; omega) (CPR_s hcr (by omega) (by omega) (by omega) (show (-1 : Int32).toInt = _ from (by rw [nm_out (by omega)]; rfl)) ef_23 (by omega)) hP hD hS (lv_sub hl [0, 1, 2, 3, 4, 5, 6] rfl)
                            · have tc_22 : k.toInt < my.toInt := v_nle c_22
                              refine lv_iload hx hb dX12_rows_119 (lv_at hl 2 rfl) ?_
                              refine lv_aload_n hx hb dX12_rows_121 rfl (lv_at hl 5 rfl) ?_
                              refine va_get (D := (dC, dI)) (ci := 12) (v := .int zh) (C := RX12) (T := TX12) (N := 40) hx hb hts in_X12 hown hK hP 0 rfl rfl 11 (Nat.le_of_ble_eq_true rfl) (hts (.fieldLink RX12 161 "TextMenderModel" "harms" "I") (List.mem_of_getElem? (i := 4) rfl)) (fun _ h9 => h9) rfl dX12_rows_122 ?_
                              refine lv_iload_n hx hb dX12_rows_125 rfl (lv_at hl 4 rfl) ?_
                              refine lv_iconst (v := 1) hx hb dX12_rows_126 (by decide) ?_
                              refine lv_isub hx hb dX12_rows_127 ?_
                              refine lv_topi (fun x_25 ex_25 => ?_)
                              have tx_25 : x_25.toInt = my.toInt - 1 := v_subR (l2 := 1) (h2 := 1) ex_25 g_my (by decide) (by decide) (by decide)
                              refine lv_iload hx hb dX12_rows_128 (lv_at hl 0 rfl) ?_
                              refine lv_isub hx hb dX12_rows_130 ?_
                              refine lv_topi (fun x_26 ex_26 => ?_)
                              have tx_26 : x_26.toInt = x_25.toInt - k.toInt := v_subR ex_26 (v_difR (l := 0) (h := 3) (l2 := 1) (h2 := 1) tx_25 g_my (by decide) (by decide) (by decide)) g_k (by decide) (by decide)
                              refine kS_i (rest := [.int co, .int x_21, .ref mR]) hcf (f_X12_power l dC dI cI cS H.size zh x_26 (by omega) (by omega)) kc_X12_power gX12_rows_X12_power rfl rfl ⟨Nat.le_of_ble_eq_true rfl, Nat.le_of_ble_eq_true rfl⟩ kX_t hK hP hD hS hA (posT mk_172 0) (posF mk_172 0) (kC_of mk_172 rfl rfl) (by decide +kernel) rfl hl rfl (Nat.le_of_ble_eq_true rfl) dX12_rows_131 ⟨Nat.le_of_ble_eq_true rfl, Nat.le_of_ble_eq_true rfl⟩ (fun r_27 H locs hB hJ hSn => ?_)
                              refine hB _ (fun hPD9 hf27_0 hf27_1 hf27_2 => ?_)
                              clear hB
                              obtain ⟨hPn, hDn⟩ := kJi (m := mk_172) hJ rfl hPD9.1 hPD9.2 (wn := [(oM, .inr (12, [.ref mT, .int zt, .ref mS, .ref mX, .int zp, .int zf, .ref mL, .ref mB, .ref mD, .ref m1, .ref m2, .int zh, .ref mR, .int zrb, .ref x1, .ref x2, .ref x3, .int zc, .ref mH, .int zy, .int za, .int zb, .int zs, .int zq, .int (-1), .int 0, .ref mY, .int zn_8, .ref mE, .int zm_8, .int zl_8, .ref mW, .int zk_8, .ref mO, .int zd_8, .ref y1, .ref y2, .ref y3, .ref y4, .ref mZ])), (mY, .inl (cI, 2600, .inl eY_8)), (mB, .inl (cS, 131072, .inl eB)), (mL, .inl (cI, 512, .inl eL)), (mE, .inl (cI, 2600, .inl eE_8)), (mW, .inl (cI, 300, .inl eW_8)), (mO, .inl (cI, 300, .inl eO_8)), (mS, .inl (cI, 21, .inl eS)), (mX, .inl (cI, 6300, .inl eX)), (m1, .inl (cI, 6, .inl e1)), (m2, .inl (cI, 6, .inl e2)), (mR, .inl (cI, 1548, .inl eRc)), (x1, .inl (cI, 300, .inl ec1)), (x2, .inl (cI, 300, .inl ec2)), (x3, .inl (cI, 300, .inl ec3))]) rfl
                              clear hP hD hS hJ hPD9
                              have hP := hPn
                              have hD := hDn
                              have hS := hSn
                              clear hPn hDn hSn
                              refine lv_idiv hx hb dX12_rows_134 (v_nz (by omega)) ?_
                              refine lv_topi (fun x_28 ex_28 => ?_)
                              have tx_28 : 0 ≤ x_28.toInt ∧ x_28.toInt ≤ co.toInt := v_divr ex_28 (by show 0 ≤ co.toInt; omega) (by show 1 ≤ r_27.toInt; omega)
                              refine lv_aload_n hx hb dX12_rows_135 rfl (lv_at hl 5 rfl) ?_
                              refine va_get (D := (dC, dI)) (ci := 12) (v := .int zh) (C := RX12) (T := TX12) (N := 40) hx hb hts in_X12 hown hK hP 0 rfl rfl 11 (Nat.le_of_ble_eq_true rfl) (hts (.fieldLink RX12 161 "TextMenderModel" "harms" "I") (List.mem_of_getElem? (i := 4) rfl)) (fun _ h9 => h9) rfl dX12_rows_136 ?_
                              refine lv_irem hx hb dX12_rows_139 (v_nz (by omega)) ?_
                              refine lv_topi (fun x_29 ex_29 => ?_)
                              have tx_29 : 0 ≤ x_29.toInt ∧ x_29.toInt < zh.toInt := v_remr ex_29 (by show 0 ≤ x_28.toInt; omega) (by show 1 ≤ zh.toInt; omega)
                              refine lv_goto (tgt := 144) hx hb dX12_rows_140 (by decide) ?_
                              obtain ⟨f_30, ef_30⟩ : ∃ g : Nat → Int32, g = upd eRc (x_21 : Int32).toNatClampNeg x_29 := ⟨_, rfl⟩
                              refine va_iast hx hb hK hP hD hS 11 0 rfl rfl (v_in (by omega)) dX12_rows_144 (kWf (g := f_30) (F := fun f_30 => [(oM, .inr (12, [.ref mT, .int zt, .ref mS, .ref mX, .int zp, .int zf, .ref mL, .ref mB, .ref mD, .ref m1, .ref m2, .int zh, .ref mR, .int zrb, .ref x1, .ref x2, .ref x3, .int zc, .ref mH, .int zy, .int za, .int zb, .int zs, .int zq, .int (-1), .int 0, .ref mY, .int zn_8, .ref mE, .int zm_8, .int zl_8, .ref mW, .int zk_8, .ref mO, .int zd_8, .ref y1, .ref y2, .ref y3, .ref y4, .ref mZ])), (mY, .inl (cI, 2600, .inl eY_8)), (mB, .inl (cS, 131072, .inl eB)), (mL, .inl (cI, 512, .inl eL)), (mE, .inl (cI, 2600, .inl eE_8)), (mW, .inl (cI, 300, .inl eW_8)), (mO, .inl (cI, 300, .inl eO_8)), (mS, .inl (cI, 21, .inl eS)), (mX, .inl (cI, 6300, .inl eX)), (m1, .inl (cI, 6, .inl e1)), (m2, .inl (cI, 6, .inl e2)), (mR, .inl (cI, 1548, .inl f_30)), (x1, .inl (cI, 300, .inl ec1)), (x2, .inl (cI, 300, .inl ec2)), (x3, .inl (cI, 300, .inl ec3))]) ef_30 rfl (fun H locs hPn hDn hSn => ?_))
                              clear hP hD hS
                              have hP := hPn
                              have hD := hDn
                              have hS := hSn
                              clear hPn hDn hSn
                              obtain ⟨x_31, ex_31⟩ : ∃ y : Int32, y = k + 1 := ⟨_, rfl⟩
                              have tx_31 : x_31.toInt = k.toInt + 1 := v_addR (l2 := 1) (h2 := 1) ex_31 g_k (by decide) (by decide) (by decide)
                              refine lv_iinc (v := x_31) (lv' := [(6, .int x_31), (5, .int x_10), (4, .int co), (3, .int r_5), (2, .int my), (0, .ref oM), (1, .int n)]) hx hb dX12_rows_145 hl (k := 0) rfl (by rw [ex_31]; rfl) (by decide) rfl (fun ls hl => ?_)
                              refine lv_goto (tgt := 96) hx hb dX12_rows_148 (by decide) ?_
                              exact ih_96 x_31 f_30 _ _ _ (ms_lt hm_96 (by show ((3 - x_31.toInt : Int)) < 3 - k.toInt; omega) (by show (0 : Int) < 3 - k.toInt; omega)) (by show 0 ≤ x_31.toInt ∧ x_31.toInt ≤ 3; omega) (CPR_s hcr (by omega) (by omega) (by omega) (nm_v rfl ex_28 ex_29 hf27_2 (by omega) (by omega) (by omega) (by omega) (by omega) (by omega)) ef_30 (by omega)) hP hD hS (lv_sub hl [0, 1, 2, 3, 4, 5, 6] rfl)
                      exact LOOP_96 _ 0 f_11 _ _ _ (ms_s _) (by decide) (CPR_0 rfl) hP hD hS (lv_sub hl [0, 1, 2, 3, 4, 5, 6] rfl)
                    · have tc_9 : r_8.toInt = 0 := v_eq c_9
                      refine lv_goto (tgt := 196) hx hb dX12_rows_73 (by decide) ?_
                      obtain ⟨x_32, ex_32⟩ : ∃ y : Int32, y = co + 1 := ⟨_, rfl⟩
                      have tx_32 : x_32.toInt = co.toInt + 1 := v_add ex_32 (by show -2147483648 ≤ co.toInt + 1; omega) (by show co.toInt + 1 < 2147483648; omega)
                      refine lv_iinc (v := x_32) (lv' := [(4, .int x_32), (3, .int r_5), (2, .int my), (0, .ref oM), (1, .int n)]) hx hb dX12_rows_196 hl (k := 0) rfl (by rw [ex_32]; rfl) (by decide) rfl (fun ls hl => ?_)
                      refine lv_goto (tgt := 57) hx hb dX12_rows_199 (by decide) ?_
                      exact ih_57 x_32 zn_8 zd_8 zm_8 zl_8 zk_8 zrb eY_8 eE_8 eW_8 eO_8 eRb _ _ _ (ms_lt hm_57 (by show ((r_5.toInt - x_32.toInt : Int)) < r_5.toInt - co.toInt; omega) (by show (0 : Int) < r_5.toInt - co.toInt; omega)) (by show 0 ≤ x_32.toInt ∧ x_32.toInt ≤ r_5.toInt; omega) (hf8_0) (hf8_2) (hf8_4) (g_zrb) (hf8_1) (hf8_3) (hf8_5) (hf8_6) (by show (my.toInt = 1 ∧ zrb.toInt ≤ x_32.toInt) ∨ (my.toInt = 2 ∧ zrb.toInt ≤ 6 + x_32.toInt) ∨ (my.toInt = 3 ∧ zrb.toInt ≤ 42 + x_32.toInt); omega) (fun R1 R2 R3 hR => RWT_n (hmi R1 R2 R3 hR) (bd_gn hR rfl hf8_8 (by omega) (by omega) (by omega) (by omega)) (by rw [ix_eq (x := x_32) (N := co.toNatClampNeg + 1) (by omega)]; omega)) hP hD hS (lv_sub hl [0, 1, 2, 3, 4] rfl)
              exact LOOP_57 _ 0 zna zda zma zla zka zra eYa eEa eWa eOa eRa _ _ _ (ms_s _) (by show 0 ≤ (0 : Int) ∧ (0 : Int) ≤ r_5.toInt; omega) (g_zna) (g_zma) (g_zka) (g_zra) (g_eYa) (g_eEa) (g_eWa) (g_eOa) (by show (my.toInt = 1 ∧ zra.toInt ≤ 0) ∨ (my.toInt = 2 ∧ zra.toInt ≤ 6 + 0) ∨ (my.toInt = 3 ∧ zra.toInt ≤ 42 + 0); omega) (fun R1 R2 R3 hR => RWT_e (hmo R1 R2 R3 hR) rfl) hP hD hS (lv_sub hl [0, 1, 2, 3, 4] rfl)
            · have tc_4 : zh.toInt = 0 := v_eq c_4
              refine lv_iconst (v := 0) hx hb dX12_rows_41 (by decide) ?_
              refine lv_goto (tgt := 53) hx hb dX12_rows_42 (by decide) ?_
              refine lv_istore_n (lv' := [(3, .int 0), (2, .int my), (0, .ref oM), (1, .int n)]) hx hb dX12_rows_53 rfl hl (by decide) rfl (fun ls hl => ?_)
              refine lv_iconst (v := 0) hx hb dX12_rows_54 (by decide) ?_
              refine lv_istore (lv' := [(4, .int 0), (3, .int 0), (2, .int my), (0, .ref oM), (1, .int n)]) hx hb dX12_rows_55 hl (by decide) rfl (fun ls hl => ?_)
              have LOOP_57 : ∀ (k_57 : Nat) (co : Int32) (znb : Int32) (zdb : Int32) (zmb : Int32) (zlb : Int32) (zkb : Int32) (zrb : Int32) (eYb : Nat → Int32) (eEb : Nat → Int32) (eWb : Nat → Int32) (eOb : Nat → Int32) (eRb : Nat → Int32) (H : Heap) (locs : List Loc) (ls : Array Slot), MSd (0 - co.toInt : Int) k_57 → (0 ≤ co.toInt ∧ co.toInt ≤ 0) → (0 ≤ znb.toInt ∧ znb.toInt ≤ 2600) → (0 ≤ zmb.toInt ∧ zmb.toInt ≤ 2600) → (0 ≤ zkb.toInt ∧ zkb.toInt ≤ 300) → (0 ≤ zrb.toInt ∧ zrb.toInt ≤ 258) → (rg 0 255 eYb) → (rg 0 65535 eEb) → (rg 0 65535 eWb) → (rg 0 65535 eOb) → ((my.toInt = 1 ∧ zrb.toInt ≤ co.toInt) ∨ (my.toInt = 2 ∧ zrb.toInt ≤ 6 + co.toInt) ∨ (my.toInt = 3 ∧ zrb.toInt ≤ 42 + co.toInt)) → (∀ R1 R2 R3 : Nat → Int32, rGE (UR e1 e2 eL eB) (tcR zc.toInt ec1 ec2 ec3) zh.toNatClampNeg (eS 0).toInt.toNat eX n.toInt R1 R2 R3 → RWT R1 R2 R3 eRb (roff zh.toNatClampNeg my.toNatClampNeg + co.toNatClampNeg) zrb.toInt) → va_P (dC, dI) vwCl [(oM, .inr (12, [.ref mT, .int zt, .ref mS, .ref mX, .int zp, .int zf, .ref mL, .ref mB, .ref mD, .ref m1, .ref m2, .int zh, .ref mR, .int zrb, .ref x1, .ref x2, .ref x3, .int zc, .ref mH, .int zy, .int za, .int zb, .int zs, .int zq, .int (-1), .int 0, .ref mY, .int znb, .ref mE, .int zmb, .int zlb, .ref mW, .int zkb, .ref mO, .int zdb, .ref y1, .ref y2, .ref y3, .ref y4, .ref mZ])), (mY, .inl (cI, 2600, .inl eYb)), (mB, .inl (cS, 131072, .inl eB)), (mL, .inl (cI, 512, .inl eL)), (mE, .inl (cI, 2600, .inl eEb)), (mW, .inl (cI, 300, .inl eWb)), (mO, .inl (cI, 300, .inl eOb)), (mS, .inl (cI, 21, .inl eS)), (mX, .inl (cI, 6300, .inl eX)), (m1, .inl (cI, 6, .inl e1)), (m2, .inl (cI, 6, .inl e2)), (mR, .inl (cI, 1548, .inl eRb)), (x1, .inl (cI, 300, .inl ec1)), (x2, .inl (cI, 300, .inl ec2)), (x3, .inl (cI, 300, .inl ec3))] H → va_D A [(oM, .inr (12, [.ref mT, .int zt, .ref mS, .ref mX, .int zp, .int zf, .ref mL, .ref mB, .ref mD, .ref m1, .ref m2, .int zh, .ref mR, .int zrb, .ref x1, .ref x2, .ref x3, .int zc, .ref mH, .int zy, .int za, .int zb, .int zs, .int zq, .int (-1), .int 0, .ref mY, .int znb, .ref mE, .int zmb, .int zlb, .ref mW, .int zkb, .ref mO, .int zdb, .ref y1, .ref y2, .ref y3, .ref y4, .ref mZ])), (mY, .inl (cI, 2600, .inl eYb)), (mB, .inl (cS, 131072, .inl eB)), (mL, .inl (cI, 512, .inl eL)), (mE, .inl (cI, 2600, .inl eEb)), (mW, .inl (cI, 300, .inl eWb)), (mO, .inl (cI, 300, .inl eOb)), (mS, .inl (cI, 21, .inl eS)), (mX, .inl (cI, 6300, .inl eX)), (m1, .inl (cI, 6, .inl e1)), (m2, .inl (cI, 6, .inl e2)), (mR, .inl (cI, 1548, .inl eRb)), (x1, .inl (cI, 300, .inl ec1)), (x2, .inl (cI, 300, .inl ec2)), (x3, .inl (cI, 300, .inl ec3))] → va_S A s.heap H locs → lv_has ls 7 [(4, .int co), (3, .int 0), (2, .int my), (0, .ref oM), (1, .int n)] → W p l e (headSpec wsX12_rows ({ frames := 6, cells := 0, slots := 0, locals := 145 } : Room)).room s m ([.ref oM, .int n] : List Value).toArray below meth c H locs 0 0 (MQ below QQ ([.ref oM, .int n] : List Value).toArray s 0 0 A) (F0 m 57 ls []) := by
                clear hP hD hS hl
                try (clear g_zna g_zma g_zka g_zr hzs)
                intro k_57
                induction k_57 with
                | zero =>
                  intro co znb zdb zmb zlb zkb zrb eYb eEb eWb eOb eRb H locs ls hm_57 g_co g_znb g_zmb g_zkb g_zrb g_eYb g_eEb g_eWb g_eOb hco hmi hP hD hS hl
                  exact ms_0 hm_57
                | succ k_57 ih_57 =>
                  intro co znb zdb zmb zlb zkb zrb eYb eEb eWb eOb eRb H locs ls hm_57 g_co g_znb g_zmb g_zkb g_zrb g_eYb g_eEb g_eWb g_eOb hco hmi hP hD hS hl
                  refine lv_iload hx hb dX12_rows_57 (lv_at hl 0 rfl) ?_
                  refine lv_iload_n hx hb dX12_rows_59 rfl (lv_at hl 1 rfl) ?_
                  refine lv_icmp_ge (tgt := 202) hx hb dX12_rows_60 (by decide) (fun c_33 => ?_) (fun c_33 => by exfalso; have tc_33 : co.toInt < 0 := v_nle c_33; omega)
                  have tc_33 : 0 ≤ co.toInt := v_le c_33
                  obtain ⟨x_34, ex_34⟩ : ∃ y : Int32, y = my + 1 := ⟨_, rfl⟩
                  have tx_34 : x_34.toInt = my.toInt + 1 := v_addR (l2 := 1) (h2 := 1) ex_34 g_my (by decide) (by decide) (by decide)
                  refine lv_iinc (v := x_34) (lv' := [(2, .int x_34), (4, .int co), (3, .int 0), (0, .ref oM), (1, .int n)]) hx hb dX12_rows_202 hl (k := 2) rfl (by rw [ex_34]; rfl) (by decide) rfl (fun ls hl => ?_)
                  refine lv_goto (tgt := 29) hx hb dX12_rows_205 (by decide) ?_
                  exact ih_29 x_34 znb zdb zmb zlb zkb zrb eYb eEb eWb eOb eRb _ _ _ (ms_lt hm_29 (by show ((4 - x_34.toInt : Int)) < 4 - my.toInt; omega) (by show (0 : Int) < 4 - my.toInt; omega)) (by show 1 ≤ x_34.toInt ∧ x_34.toInt ≤ 4; omega) (g_znb) (g_zmb) (g_zkb) (g_zrb) (g_eYb) (g_eEb) (g_eWb) (g_eOb) (by show (x_34.toInt = 1 ∧ zrb.toInt = 0) ∨ (x_34.toInt = 2 ∧ zrb.toInt ≤ 6) ∨ (x_34.toInt = 3 ∧ zrb.toInt ≤ 42) ∨ (x_34.toInt = 4 ∧ zrb.toInt ≤ 258); omega) (by show x_34.toInt ≤ n.toInt + 1; omega) (fun R1 R2 R3 hR => RWT_e (hmi R1 R2 R3 hR) (by rw [ix_eq (x := x_34) (N := my.toNatClampNeg + 1) (by omega), hmy3]; have cco := v_clamp (x := co) (by omega); have hal9 := (show ((0 : Int32).toInt) = (rpz zh.toNatClampNeg my.toNatClampNeg : Int) from (by rw [ix_eq (x := zh) (N := 0) (by omega), rpz_0 (by omega)]; rfl)); omega)) hP hD hS (lv_sub hl [0, 3, 4] rfl)
              exact LOOP_57 _ 0 zna zda zma zla zka zra eYa eEa eWa eOa eRa _ _ _ (ms_s _) (by show 0 ≤ (0 : Int) ∧ (0 : Int) ≤ 0; omega) (g_zna) (g_zma) (g_zka) (g_zra) (g_eYa) (g_eEa) (g_eWa) (g_eOa) (by show (my.toInt = 1 ∧ zra.toInt ≤ 0) ∨ (my.toInt = 2 ∧ zra.toInt ≤ 6 + 0) ∨ (my.toInt = 3 ∧ zra.toInt ≤ 42 + 0); omega) (fun R1 R2 R3 hR => RWT_e (hmo R1 R2 R3 hR) rfl) hP hD hS (lv_sub hl [0, 1, 2, 3, 4] rfl)
      exact LOOP_29 _ 1 zn zd zm zl zk 0 eY eE eW eO eR _ _ _ (ms_s _) (by decide) (g_zn) (g_zm) (g_zk) (by decide) (g_eY) (g_eE) (g_eW) (g_eO) (by show (1 = 1 ∧ 0 = 0) ∨ (1 = 2 ∧ 0 ≤ 6) ∨ (1 = 3 ∧ 0 ≤ 42) ∨ (1 = 4 ∧ 0 ≤ 258); omega) (by show 1 ≤ n.toInt + 1; omega) (fun R1 R2 R3 hR => RWT_0 rfl rfl) hP hD hS (lv_sub hl [0, 1, 2] rfl)
    · have tc_2 : 3 < n.toInt := v_nle c_2
      refine lv_iconst (v := (-1)) hx hb dX12_rows_20 (by decide) ?_
      exact kl_i (v := (-1)) hQQ hx hb hr hlocks hS dX12_rows_21 (fun PZ9 kZ9 => kZ9 0 (-1) zr eR zn eY zd zm zl eE zk eW eO (⟨hP, hD⟩) (g_zr) (g_zn) (g_eY) (g_zm) (g_eE) (g_zk) (g_eW) (g_eO) (fun R1 R2 R3 hR => Or.inr ⟨by omega, rfl, rfl, rfl⟩))

end
