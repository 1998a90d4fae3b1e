/-! 59r.rows -/
section
theorem rp_max {z a b c : Nat} (hz : z ≤ 6) (ha : a < z) (hb : b < z) (hc : c < z) : z + z * z + (c * z + b) * z + a ≤ 257 := by
  rcases rz7 hz with e | e | e | e | e | e | e <;> subst e <;> omega

set_option maxHeartbeats 40000000 in
set_option maxRecDepth 100000 in
theorem f_X9_find (l : Launch) (dC : Nat → ClassId) (dI : Nat → Nat → Nat) (cI cS : ClassId) (sz : Nat) (oR : Nat) (nx : Nat) (oH : Nat) (oK : Nat) (n1 : Nat) (n2 : Nat) (n3 : Nat) (r1 : Nat) (r2 : Nat) (r3 : Nat) (r4 : Nat) (r5 : Nat) (r6 : Nat) (a1 : Nat) (a2 : Nat) (a3 : Nat) (oP : Nat) (h1 : Nat) (h2 : Nat) (oC : Nat) (nB : Nat) (aB : Nat) (o4 : Nat) (o5 : Nat) (a41 : Nat) (a42 : Nat) (a43 : Nat) (a51 : Nat) (a52 : Nat) (a53 : Nat) (k1 : Nat) (k2 : Nat) (ax : Nat) (lR : Int32) (fR1 : Nat → Int32) (fR2 : Nat → Int32) (fR3 : Nat → Int32) (l1 : Int32) (f1 : Nat → Int32) (l2 : Int32) (f2 : Nat → Int32) (l3 : Int32) (f3 : Nat → Int32) (lH : Int32) (fH1 : Nat → Int32) (fH2 : Nat → Int32) (ft : Int32) (lB : Int32) (fB : Nat → Int32) (l4 : Int32) (f41 : Nat → Int32) (f42 : Nat → Int32) (f43 : Nat → Int32) (l5 : Int32) (f51 : Nat → Int32) (f52 : Nat → Int32) (f53 : Nat → Int32) (lK : Int32) (fK1 : Nat → Int32) (fK2 : Nat → Int32) (lx : Int32) (fx : Nat → Int32) (n : Int32) (g_lR : 0 ≤ lR.toInt ∧ lR.toInt ≤ 258) (g_l1 : 0 ≤ l1.toInt ∧ l1.toInt ≤ 300) (g_l2 : 0 ≤ l2.toInt ∧ l2.toInt ≤ 300) (g_l3 : 0 ≤ l3.toInt ∧ l3.toInt ≤ 300) (g_lH : 0 ≤ lH.toInt ∧ lH.toInt ≤ 6) (g_lB : 0 ≤ lB.toInt ∧ lB.toInt ≤ 2400) (g_lK : 0 ≤ lK.toInt ∧ lK.toInt ≤ 300) (g_lx : 0 ≤ lx.toInt ∧ lx.toInt ≤ 300) (g_n : 1 ≤ n.toInt ∧ n.toInt ≤ 3) (hlt : prg lx.toInt 0 65535 fx) (hT4 : HT 512 511 hsT f42 f43) (ho4 : (occ f43 512 : Int) ≤ 511) (hT5 : HT 512 511 hsT f52 f53) (ho5 : (occ f53 512 : Int) ≤ 511) (hL4 : prg 256 (-1) 65535 f41) (hL5 : prg 256 (-1) 65535 f51) (hBr : ∀ cd : Int32, okB (Bc cd f42 f43 f52 f53)) (hT : HT 1024 1023 hsK fK1 fK2) (ho : (occ fK2 1024 : Int) ≤ lK.toInt) (hV : prg 1024 (-1) 200 fK2) : kMv l yX9_find wsX9_find ({ frames := 6, cells := 0, slots := 0, locals := 147 } : Room) [.ref oR, .int n, .ref nx] sz (dC, dI) vwCl [(cI, .int), (cS, .short)] [(oR, .inr (9, [.ref oH, .ref oK, .ref n1, .ref n2, .ref n3, .ref r1, .ref r2, .ref r3, .ref r4, .ref r5, .ref r6, .int lR])), (r1, .inl (cI, 258, .inl fR1)), (r2, .inl (cI, 258, .inl fR2)), (r3, .inl (cI, 774, .inl fR3)), (n1, .inr (5, [.ref a1, .int l1])), (a1, .inl (cI, 300, .inl f1)), (n2, .inr (5, [.ref a2, .int l2])), (a2, .inl (cI, 300, .inl f2)), (n3, .inr (5, [.ref a3, .int l3])), (a3, .inl (cI, 300, .inl f3)), (oH, .inr (4, [.ref oP, .ref h1, .ref h2, .int lH])), (h1, .inl (cI, 6, .inl fH1)), (h2, .inl (cI, 6, .inl fH2)), (oP, .inr (7, [.ref oC, .ref nB, .int ft])), (nB, .inr (5, [.ref aB, .int lB])), (aB, .inl (cI, 2400, .inl fB)), (oC, .inr (2, [.ref o4, .ref o5])), (o4, .inr (10, [.ref a41, .ref a42, .ref a43, .int l4])), (a41, .inl (cI, 256, .inl f41)), (a42, .inl (cI, 512, .inl f42)), (a43, .inl (cI, 512, .inl f43)), (o5, .inr (10, [.ref a51, .ref a52, .ref a53, .int l5])), (a51, .inl (cI, 256, .inl f51)), (a52, .inl (cI, 512, .inl f52)), (a53, .inl (cI, 512, .inl f53)), (oK, .inr (3, [.ref k1, .ref k2, .int lK])), (k1, .inl (cI, 1024, .inl fK1)), (k2, .inl (cI, 1024, .inl fK2)), (nx, .inr (5, [.ref ax, .int lx])), (ax, .inl (cI, 300, .inl fx))] (va_Nw (.methodLinkNest RX2 52 yX11_isLetter "TextMender")) 0 0 (fun (A : Nat → Prop) (hh9 : Heap) => ∃ (ft' : Int32) (lB' : Int32) (fB' : Nat → Int32) (l1' : Int32) (f1' : Nat → Int32) (l2' : Int32) (f2' : Nat → Int32) (l3' : Int32) (f3' : Nat → Int32) (fR1' : Nat → Int32) (fR2' : Nat → Int32) (fR3' : Nat → Int32), kPD (dC, dI) vwCl A [(oR, .inr (9, [.ref oH, .ref oK, .ref n1, .ref n2, .ref n3, .ref r1, .ref r2, .ref r3, .ref r4, .ref r5, .ref r6, .int lR])), (r1, .inl (cI, 258, .inl fR1')), (r2, .inl (cI, 258, .inl fR2')), (r3, .inl (cI, 774, .inl fR3')), (n1, .inr (5, [.ref a1, .int l1'])), (a1, .inl (cI, 300, .inl f1')), (n2, .inr (5, [.ref a2, .int l2'])), (a2, .inl (cI, 300, .inl f2')), (n3, .inr (5, [.ref a3, .int l3'])), (a3, .inl (cI, 300, .inl f3')), (oH, .inr (4, [.ref oP, .ref h1, .ref h2, .int lH])), (h1, .inl (cI, 6, .inl fH1)), (h2, .inl (cI, 6, .inl fH2)), (oP, .inr (7, [.ref oC, .ref nB, .int ft'])), (nB, .inr (5, [.ref aB, .int lB'])), (aB, .inl (cI, 2400, .inl fB')), (oC, .inr (2, [.ref o4, .ref o5])), (o4, .inr (10, [.ref a41, .ref a42, .ref a43, .int l4])), (a41, .inl (cI, 256, .inl f41)), (a42, .inl (cI, 512, .inl f42)), (a43, .inl (cI, 512, .inl f43)), (o5, .inr (10, [.ref a51, .ref a52, .ref a53, .int l5])), (a51, .inl (cI, 256, .inl f51)), (a52, .inl (cI, 512, .inl f52)), (a53, .inl (cI, 512, .inl f53)), (oK, .inr (3, [.ref k1, .ref k2, .int lK])), (k1, .inl (cI, 1024, .inl fK1)), (k2, .inl (cI, 1024, .inl fK2)), (nx, .inr (5, [.ref ax, .int lx])), (ax, .inl (cI, 300, .inl fx))] hh9 ∧ (0 ≤ lB'.toInt ∧ lB'.toInt ≤ 2400) ∧ (0 ≤ l1'.toInt ∧ l1'.toInt ≤ 300) ∧ (0 ≤ l2'.toInt ∧ l2'.toInt ≤ 300) ∧ (0 ≤ l3'.toInt ∧ l3'.toInt ≤ 300) ∧ (rGE (UC fH1 fH2 f41 f42 f43 f51 f52 f53) (tcC fK1 fK2) lH.toNatClampNeg lx.toInt.toNat fx n.toInt fR1' fR2' fR3')) := by
  refine kMv_of (cc := cX9_find) (maxL := 9) (ret := none) (lv := [(0, .ref oR), (1, .int n), (2, .ref nx)]) (by decide +kernel) rfl rfl (Nat.le_of_ble_eq_true rfl) ?_
  intro p e s m below meth c A QQ ls hx hb hr hts hml hown hlocks hA hQQ hK hX hP hD hS hl
  have hown : s.vm.findClass RX9 = some m.cls := hown
  have hcf := k_cf hx hb hml hown hts
  have hN52 := hX
  have in_X9 : ∀ w ∈ wsX90, w ∈ wsX9_find := fun _ h => List.mem_cons_of_mem _ (List.mem_append_left _ (List.mem_append_left _ (List.mem_append_left _ (List.mem_append_left _ (List.mem_append_left _ (List.mem_append_left _ (List.mem_append_right _ (h))))))))
  replace g_lR := hid g_lR
  replace g_l1 := hid g_l1
  replace g_l2 := hid g_l2
  replace g_l3 := hid g_l3
  replace g_lB := hid g_lB
  have hU : okU (UC fH1 fH2 f41 f42 f43 f51 f52 f53) := okU_C hBr hL4 hL5
  have cz := v_clamp (x := lH) (by omega)
  refine lv_aload_n hx hb dX9_find_0 rfl (lv_at hl 0 rfl) ?_
  refine va_get (D := (dC, dI)) (ci := 9) (v := .ref r1) (C := RX9) (T := TX9) (N := 12) hx hb hts in_X9 hown hK hP 0 rfl rfl 5 (by decide) (hts (.fieldLink RX9 26 "TextMender$Rows" "foundCost" "[I") (List.mem_of_getElem? (i := 1) rfl)) (fun _ h9 => h9) rfl dX9_find_1 ?_
  refine lv_iconst (v := (-1)) hx hb dX9_find_4 (by decide) ?_
  refine kS_v (rest := []) hcf (m_J7_fill_53178 l dC dI cI cS s.heap.size r1 258 fR1 (-1) (by omega)) kc_J7_fill_53178 gX9_find_J7_fill_53178 rfl rfl ⟨Nat.le_of_ble_eq_true rfl, Nat.le_of_ble_eq_true rfl⟩ kX_t hK hP hD hS hA [1] [0, 2, 3, 4, 5, 6, 7, 8, 9, 10, 11, 12, 13, 14, 15, 16, 17, 18, 19, 20, 21, 22, 23, 24, 25, 26, 27, 28, 29] rfl (by decide +kernel) rfl hl rfl (Nat.le_of_ble_eq_true rfl) dX9_find_5 ⟨Nat.le_of_ble_eq_true rfl, Nat.le_of_ble_eq_true rfl⟩ (fun H locs hB hJ hSn => ?_)
  obtain ⟨f_1, ⟨hP1, hD1⟩, hf1_0⟩ := hB
  obtain ⟨hPn, hDn⟩ := hJ _ hP1 hD1 [(oR, .inr (9, [.ref oH, .ref oK, .ref n1, .ref n2, .ref n3, .ref r1, .ref r2, .ref r3, .ref r4, .ref r5, .ref r6, .int lR])), (r2, .inl (cI, 258, .inl fR2)), (r3, .inl (cI, 774, .inl fR3)), (n1, .inr (5, [.ref a1, .int l1])), (a1, .inl (cI, 300, .inl f1)), (n2, .inr (5, [.ref a2, .int l2])), (a2, .inl (cI, 300, .inl f2)), (n3, .inr (5, [.ref a3, .int l3])), (a3, .inl (cI, 300, .inl f3)), (oH, .inr (4, [.ref oP, .ref h1, .ref h2, .int lH])), (h1, .inl (cI, 6, .inl fH1)), (h2, .inl (cI, 6, .inl fH2)), (oP, .inr (7, [.ref oC, .ref nB, .int ft])), (nB, .inr (5, [.ref aB, .int lB])), (aB, .inl (cI, 2400, .inl fB)), (oC, .inr (2, [.ref o4, .ref o5])), (o4, .inr (10, [.ref a41, .ref a42, .ref a43, .int l4])), (a41, .inl (cI, 256, .inl f41)), (a42, .inl (cI, 512, .inl f42)), (a43, .inl (cI, 512, .inl f43)), (o5, .inr (10, [.ref a51, .ref a52, .ref a53, .int l5])), (a51, .inl (cI, 256, .inl f51)), (a52, .inl (cI, 512, .inl f52)), (a53, .inl (cI, 512, .inl f53)), (oK, .inr (3, [.ref k1, .ref k2, .int lK])), (k1, .inl (cI, 1024, .inl fK1)), (k2, .inl (cI, 1024, .inl fK2)), (nx, .inr (5, [.ref ax, .int lx])), (ax, .inl (cI, 300, .inl fx)), (r1, .inl (cI, 258, .inl f_1))] rfl
  clear hP hD hS hJ hP1 hD1
  have hP := hPn
  have hD := hDn
  have hS := hSn
  clear hPn hDn hSn
  refine lv_aload_n hx hb dX9_find_8 rfl (lv_at hl 0 rfl) ?_
  refine va_get (D := (dC, dI)) (ci := 9) (v := .ref oH) (C := RX9) (T := TX9) (N := 12) hx hb hts in_X9 hown hK hP 0 rfl rfl 0 (by decide) (hts (.fieldLink RX9 45 "TextMender$Rows" "harms" "LTextMender$Harms;") (List.mem_of_getElem? (i := 2) rfl)) (fun _ h9 => h9) rfl dX9_find_9 ?_
  refine kV_i (rest := []) (q0 := 0) (ci := 4) hcf (m_X4_length l dC dI cI cS H.size oH oP h1 h2 lH (g_lH)) kc_X4_length gX9_find_X4_length rfl rfl rfl ⟨Nat.le_of_ble_eq_true rfl, Nat.le_of_ble_eq_true rfl⟩ kX_t hK hP hD hS hA [9] [0, 1, 2, 3, 4, 5, 6, 7, 8, 10, 11, 12, 13, 14, 15, 16, 17, 18, 19, 20, 21, 22, 23, 24, 25, 26, 27, 28, 29] rfl (by decide +kernel) rfl rfl rfl hl rfl (Nat.le_of_ble_eq_true rfl) dX9_find_12 ⟨Nat.le_of_ble_eq_true rfl, Nat.le_of_ble_eq_true rfl⟩ (fun r_2 H locs hB hJ hSn => ?_)
  obtain ⟨⟨hP1, hD1⟩, hf2_0⟩ := hB
  obtain ⟨hPn, hDn⟩ := hJ _ hP1 hD1 [(oR, .inr (9, [.ref oH, .ref oK, .ref n1, .ref n2, .ref n3, .ref r1, .ref r2, .ref r3, .ref r4, .ref r5, .ref r6, .int lR])), (r2, .inl (cI, 258, .inl fR2)), (r3, .inl (cI, 774, .inl fR3)), (n1, .inr (5, [.ref a1, .int l1])), (a1, .inl (cI, 300, .inl f1)), (n2, .inr (5, [.ref a2, .int l2])), (a2, .inl (cI, 300, .inl f2)), (n3, .inr (5, [.ref a3, .int l3])), (a3, .inl (cI, 300, .inl f3)), (h1, .inl (cI, 6, .inl fH1)), (h2, .inl (cI, 6, .inl fH2)), (oP, .inr (7, [.ref oC, .ref nB, .int ft])), (nB, .inr (5, [.ref aB, .int lB])), (aB, .inl (cI, 2400, .inl fB)), (oC, .inr (2, [.ref o4, .ref o5])), (o4, .inr (10, [.ref a41, .ref a42, .ref a43, .int l4])), (a41, .inl (cI, 256, .inl f41)), (a42, .inl (cI, 512, .inl f42)), (a43, .inl (cI, 512, .inl f43)), (o5, .inr (10, [.ref a51, .ref a52, .ref a53, .int l5])), (a51, .inl (cI, 256, .inl f51)), (a52, .inl (cI, 512, .inl f52)), (a53, .inl (cI, 512, .inl f53)), (oK, .inr (3, [.ref k1, .ref k2, .int lK])), (k1, .inl (cI, 1024, .inl fK1)), (k2, .inl (cI, 1024, .inl fK2)), (nx, .inr (5, [.ref ax, .int lx])), (ax, .inl (cI, 300, .inl fx)), (r1, .inl (cI, 258, .inl f_1)), (oH, .inr (4, [.ref oP, .ref h1, .ref h2, .int lH]))] rfl
  clear hP hD hS hJ hP1 hD1
  have hP := hPn
  have hD := hDn
  have hS := hSn
  clear hPn hDn hSn
  rw [hf2_0]
  refine lv_istore_n (lv' := [(3, .int lH), (0, .ref oR), (1, .int n), (2, .ref nx)]) hx hb dX9_find_15 rfl hl (by decide) rfl (fun ls hl => ?_)
  refine lv_iconst (v := 0) hx hb dX9_find_16 (by decide) ?_
  refine lv_istore (lv' := [(4, .int 0), (3, .int lH), (0, .ref oR), (1, .int n), (2, .ref nx)]) hx hb dX9_find_17 hl (by decide) rfl (fun ls hl => ?_)
  have LOOP_19 : ∀ (k_19 : Nat) (la : Int32) (fta : Int32) (lBa : Int32) (loa : Int32) (lta : Int32) (lha : Int32) (fBa : Nat → Int32) (foa : Nat → Int32) (ft_a : Nat → Int32) (fha : Nat → Int32) (fxa : Nat → Int32) (fya : Nat → Int32) (fza : Nat → Int32) (H : Heap) (locs : List Loc) (ls : Array Slot), MSd (6 - la.toInt : Int) k_19 → (0 ≤ la.toInt ∧ la.toInt ≤ 6) → (0 ≤ lBa.toInt ∧ lBa.toInt ≤ 2400) → (0 ≤ loa.toInt ∧ loa.toInt ≤ 300) → (0 ≤ lta.toInt ∧ lta.toInt ≤ 300) → (0 ≤ lha.toInt ∧ lha.toInt ≤ 300) → (la.toInt ≤ lH.toInt) → (rG1 (UC fH1 fH2 f41 f42 f43 f51 f52 f53) (tcC fK1 fK2) lH.toNatClampNeg lx.toInt.toNat fx n.toInt (la.toInt) (la.toInt) (0) (0) (0) fxa fya fza) → va_P (dC, dI) vwCl [(oR, .inr (9, [.ref oH, .ref oK, .ref n1, .ref n2, .ref n3, .ref r1, .ref r2, .ref r3, .ref r4, .ref r5, .ref r6, .int lR])), (r2, .inl (cI, 258, .inl fya)), (r3, .inl (cI, 774, .inl fza)), (n1, .inr (5, [.ref a1, .int loa])), (a1, .inl (cI, 300, .inl foa)), (n2, .inr (5, [.ref a2, .int lta])), (a2, .inl (cI, 300, .inl ft_a)), (n3, .inr (5, [.ref a3, .int lha])), (a3, .inl (cI, 300, .inl fha)), (h1, .inl (cI, 6, .inl fH1)), (h2, .inl (cI, 6, .inl fH2)), (oP, .inr (7, [.ref oC, .ref nB, .int fta])), (nB, .inr (5, [.ref aB, .int lBa])), (aB, .inl (cI, 2400, .inl fBa)), (oC, .inr (2, [.ref o4, .ref o5])), (o4, .inr (10, [.ref a41, .ref a42, .ref a43, .int l4])), (a41, .inl (cI, 256, .inl f41)), (a42, .inl (cI, 512, .inl f42)), (a43, .inl (cI, 512, .inl f43)), (o5, .inr (10, [.ref a51, .ref a52, .ref a53, .int l5])), (a51, .inl (cI, 256, .inl f51)), (a52, .inl (cI, 512, .inl f52)), (a53, .inl (cI, 512, .inl f53)), (oK, .inr (3, [.ref k1, .ref k2, .int lK])), (k1, .inl (cI, 1024, .inl fK1)), (k2, .inl (cI, 1024, .inl fK2)), (nx, .inr (5, [.ref ax, .int lx])), (ax, .inl (cI, 300, .inl fx)), (r1, .inl (cI, 258, .inl fxa)), (oH, .inr (4, [.ref oP, .ref h1, .ref h2, .int lH]))] H → va_D A [(oR, .inr (9, [.ref oH, .ref oK, .ref n1, .ref n2, .ref n3, .ref r1, .ref r2, .ref r3, .ref r4, .ref r5, .ref r6, .int lR])), (r2, .inl (cI, 258, .inl fya)), (r3, .inl (cI, 774, .inl fza)), (n1, .inr (5, [.ref a1, .int loa])), (a1, .inl (cI, 300, .inl foa)), (n2, .inr (5, [.ref a2, .int lta])), (a2, .inl (cI, 300, .inl ft_a)), (n3, .inr (5, [.ref a3, .int lha])), (a3, .inl (cI, 300, .inl fha)), (h1, .inl (cI, 6, .inl fH1)), (h2, .inl (cI, 6, .inl fH2)), (oP, .inr (7, [.ref oC, .ref nB, .int fta])), (nB, .inr (5, [.ref aB, .int lBa])), (aB, .inl (cI, 2400, .inl fBa)), (oC, .inr (2, [.ref o4, .ref o5])), (o4, .inr (10, [.ref a41, .ref a42, .ref a43, .int l4])), (a41, .inl (cI, 256, .inl f41)), (a42, .inl (cI, 512, .inl f42)), (a43, .inl (cI, 512, .inl f43)), (o5, .inr (10, [.ref a51, .ref a52, .ref a53, .int l5])), (a51, .inl (cI, 256, .inl f51)), (a52, .inl (cI, 512, .inl f52)), (a53, .inl (cI, 512, .inl f53)), (oK, .inr (3, [.ref k1, .ref k2, .int lK])), (k1, .inl (cI, 1024, .inl fK1)), (k2, .inl (cI, 1024, .inl fK2)), (nx, .inr (5, [.ref ax, .int lx])), (ax, .inl (cI, 300, .inl fx)), (r1, .inl (cI, 258, .inl fxa)), (oH, .inr (4, [.ref oP, .ref h1, .ref h2, .int lH]))] → va_S A s.heap H locs → lv_has ls 9 [(4, .int la), (3, .int lH), (0, .ref oR), (1, .int n), (2, .ref nx)] → W p l e (headSpec wsX9_find ({ frames := 6, cells := 0, slots := 0, locals := 147 } : Room)).room s m ([.ref oR, .int n, .ref nx] : List Value).toArray below meth c H locs 0 0 (MQ below QQ ([.ref oR, .int n, .ref nx] : List Value).toArray s 0 0 A) (F0 m 19 ls []) := by
    clear hP hD hS hl
    try (clear hf1_0)
    intro k_19
    induction k_19 with
    | zero =>
      intro la fta lBa loa lta lha fBa foa ft_a fha fxa fya fza H locs ls hm_19 g_la g_lBa g_loa g_lta g_lha hlz hG hP hD hS hl
      exact ms_0 hm_19
    | succ k_19 ih_19 =>
      intro la fta lBa loa lta lha fBa foa ft_a fha fxa fya fza H locs ls hm_19 g_la g_lBa g_loa g_lta g_lha hlz hG hP hD hS hl
      refine lv_iload hx hb dX9_find_19 (lv_at hl 0 rfl) ?_
      refine lv_iload_n hx hb dX9_find_21 rfl (lv_at hl 1 rfl) ?_
      refine lv_icmp_ge (tgt := 228) hx hb dX9_find_22 (by decide) (fun c_3 => ?_) (fun c_3 => ?_)
      · have tc_3 : lH.toInt ≤ la.toInt := v_le c_3
        exact kl_v hQQ hx hb hr hlocks hS dX9_find_228 ⟨fta, lBa, fBa, loa, foa, lta, ft_a, lha, fha, fxa, fya, fza, kPD_sub hP hD [0, 28, 1, 2, 3, 4, 5, 6, 7, 8, 29, 9, 10, 11, 12, 13, 14, 15, 16, 17, 18, 19, 20, 21, 22, 23, 24, 25, 26, 27] (by decide +kernel) rfl, g_lBa, g_loa, g_lta, g_lha, rG1_GE hG (by omega) (by omega) (by omega)⟩
      · have tc_3 : la.toInt < lH.toInt := v_nle c_3
        have cla := v_clamp (x := la) (by omega)
        refine lv_aload_n hx hb dX9_find_25 rfl (lv_at hl 2 rfl) ?_
        refine va_get (D := (dC, dI)) (ci := 9) (v := .ref oH) (C := RX9) (T := TX9) (N := 12) hx hb hts in_X9 hown hK hP 0 rfl rfl 0 (by decide) (hts (.fieldLink RX9 45 "TextMender$Rows" "harms" "LTextMender$Harms;") (List.mem_of_getElem? (i := 2) rfl)) (fun _ h9 => h9) rfl dX9_find_26 ?_
        refine lv_iload hx hb dX9_find_29 (lv_at hl 0 rfl) ?_
        refine lv_aload_n hx hb dX9_find_31 rfl (lv_at hl 4 rfl) ?_
        refine lv_aload_n hx hb dX9_find_32 rfl (lv_at hl 2 rfl) ?_
        refine va_get (D := (dC, dI)) (ci := 9) (v := .ref n1) (C := RX9) (T := TX9) (N := 12) hx hb hts in_X9 hown hK hP 0 rfl rfl 2 (by decide) (hts (.fieldLink RX9 14 "TextMender$Rows" "one" "LTextMender$Numbers;") (List.mem_of_getElem? (i := 3) rfl)) (fun _ h9 => h9) rfl dX9_find_33 ?_
        refine kV_i (rest := []) (q0 := 0) (ci := 4) hcf (f_X4_takeOff l dC dI cI cS H.size oH nx n1 oP h1 h2 oC nB aB ax a1 o4 o5 a41 a42 a43 a51 a52 a53 lH fH1 fH2 fta lBa fBa lx fx loa foa l4 f41 f42 f43 l5 f51 f52 f53 la (g_lH) (g_lBa) (g_lx) (g_loa) (by omega) (by omega) (hlt) (hT4) (ho4) (hT5) (ho5) (hL4) (hL5) (hBr)) kc_X4_takeOff gX9_find_X4_takeOff rfl rfl rfl ⟨Nat.le_of_ble_eq_true rfl, Nat.le_of_ble_eq_true rfl⟩ (kX_1 hN52) hK hP hD hS hA [29, 9, 10, 11, 12, 13, 26, 27, 3, 4, 14, 15, 16, 17, 18, 19, 20, 21, 22] [0, 1, 2, 5, 6, 7, 8, 23, 24, 25, 28] rfl (by decide +kernel) rfl rfl rfl hl rfl (Nat.le_of_ble_eq_true rfl) dX9_find_36 ⟨Nat.le_of_ble_eq_true rfl, Nat.le_of_ble_eq_true rfl⟩ (fun r_4 H locs hB hJ hSn => ?_)
        obtain ⟨ft_4, lB_4, fB_4, ld_4, fd_4, ⟨hP1, hD1⟩, hf4_0, hf4_1, hf4_2, hf4_3⟩ := hB
        obtain ⟨hPn, hDn⟩ := hJ _ hP1 hD1 [(oR, .inr (9, [.ref oH, .ref oK, .ref n1, .ref n2, .ref n3, .ref r1, .ref r2, .ref r3, .ref r4, .ref r5, .ref r6, .int lR])), (r2, .inl (cI, 258, .inl fya)), (r3, .inl (cI, 774, .inl fza)), (n2, .inr (5, [.ref a2, .int lta])), (a2, .inl (cI, 300, .inl ft_a)), (n3, .inr (5, [.ref a3, .int lha])), (a3, .inl (cI, 300, .inl fha)), (oK, .inr (3, [.ref k1, .ref k2, .int lK])), (k1, .inl (cI, 1024, .inl fK1)), (k2, .inl (cI, 1024, .inl fK2)), (r1, .inl (cI, 258, .inl fxa)), (oH, .inr (4, [.ref oP, .ref h1, .ref h2, .int lH])), (h1, .inl (cI, 6, .inl fH1)), (h2, .inl (cI, 6, .inl fH2)), (oP, .inr (7, [.ref oC, .ref nB, .int ft_4])), (nB, .inr (5, [.ref aB, .int lB_4])), (aB, .inl (cI, 2400, .inl fB_4)), (nx, .inr (5, [.ref ax, .int lx])), (ax, .inl (cI, 300, .inl fx)), (n1, .inr (5, [.ref a1, .int ld_4])), (a1, .inl (cI, 300, .inl fd_4)), (oC, .inr (2, [.ref o4, .ref o5])), (o4, .inr (10, [.ref a41, .ref a42, .ref a43, .int l4])), (a41, .inl (cI, 256, .inl f41)), (a42, .inl (cI, 512, .inl f42)), (a43, .inl (cI, 512, .inl f43)), (o5, .inr (10, [.ref a51, .ref a52, .ref a53, .int l5])), (a51, .inl (cI, 256, .inl f51)), (a52, .inl (cI, 512, .inl f52)), (a53, .inl (cI, 512, .inl f53))] rfl
        clear hP hD hS hJ hP1 hD1
        have hP := hPn
        have hD := hDn
        have hS := hSn
        clear hPn hDn hSn
        refine lv_if_ne (tgt := 45) hx hb dX9_find_39 (by decide) (fun c_5 => ?_) (fun c_5 => ?_)
        · have tc_5 : ¬ r_4.toInt = 0 := v_ne c_5
          have hUa := to_1n hf4_3 (by omega)
          have hpa := to_p hU hf4_3 (by omega) hlt
          refine lv_aload_n hx hb dX9_find_45 rfl (lv_at hl 2 rfl) ?_
          refine lv_iload hx hb dX9_find_46 (lv_at hl 0 rfl) ?_
          refine lv_aload_n hx hb dX9_find_48 rfl (lv_at hl 2 rfl) ?_
          refine va_get (D := (dC, dI)) (ci := 9) (v := .ref n1) (C := RX9) (T := TX9) (N := 12) hx hb hts in_X9 hown hK hP 0 rfl rfl 2 (by decide) (hts (.fieldLink RX9 14 "TextMender$Rows" "one" "LTextMender$Numbers;") (List.mem_of_getElem? (i := 3) rfl)) (fun _ h9 => h9) rfl dX9_find_49 ?_
          refine kV_v (rest := []) (q0 := 0) (ci := 9) hcf (f_X9_note l dC dI cI cS H.size oR n1 oH oK n1 n2 n3 r1 r2 r3 r4 r5 r6 k1 k2 a1 lR fxa fya lK fK1 fK2 ld_4 fd_4 la (g_lR) (g_lK) (hf4_1) (v_rr g_la (by decide) (by decide)) (hT) (ho) (hV) (hpa)) kc_X9_note gX9_find_X9_note rfl rfl rfl ⟨Nat.le_of_ble_eq_true rfl, Nat.le_of_ble_eq_true rfl⟩ kX_t hK hP hD hS hA [0, 10, 1, 7, 8, 9, 19, 20] [2, 3, 4, 5, 6, 11, 12, 13, 14, 15, 16, 17, 18, 21, 22, 23, 24, 25, 26, 27, 28, 29] rfl (by decide +kernel) rfl rfl rfl hl rfl (Nat.le_of_ble_eq_true rfl) dX9_find_52 ⟨Nat.le_of_ble_eq_true rfl, Nat.le_of_ble_eq_true rfl⟩ (fun H locs hB hJ hSn => ?_)
          obtain ⟨fR1_6, fR2_6, ⟨hP1, hD1⟩, hf6_0⟩ := hB
          obtain ⟨hPn, hDn⟩ := hJ _ hP1 hD1 [(r3, .inl (cI, 774, .inl fza)), (n2, .inr (5, [.ref a2, .int lta])), (a2, .inl (cI, 300, .inl ft_a)), (n3, .inr (5, [.ref a3, .int lha])), (a3, .inl (cI, 300, .inl fha)), (oH, .inr (4, [.ref oP, .ref h1, .ref h2, .int lH])), (h1, .inl (cI, 6, .inl fH1)), (h2, .inl (cI, 6, .inl fH2)), (oP, .inr (7, [.ref oC, .ref nB, .int ft_4])), (nB, .inr (5, [.ref aB, .int lB_4])), (aB, .inl (cI, 2400, .inl fB_4)), (nx, .inr (5, [.ref ax, .int lx])), (ax, .inl (cI, 300, .inl fx)), (oC, .inr (2, [.ref o4, .ref o5])), (o4, .inr (10, [.ref a41, .ref a42, .ref a43, .int l4])), (a41, .inl (cI, 256, .inl f41)), (a42, .inl (cI, 512, .inl f42)), (a43, .inl (cI, 512, .inl f43)), (o5, .inr (10, [.ref a51, .ref a52, .ref a53, .int l5])), (a51, .inl (cI, 256, .inl f51)), (a52, .inl (cI, 512, .inl f52)), (a53, .inl (cI, 512, .inl f53)), (oR, .inr (9, [.ref oH, .ref oK, .ref n1, .ref n2, .ref n3, .ref r1, .ref r2, .ref r3, .ref r4, .ref r5, .ref r6, .int lR])), (r1, .inl (cI, 258, .inl fR1_6)), (r2, .inl (cI, 258, .inl fR2_6)), (oK, .inr (3, [.ref k1, .ref k2, .int lK])), (k1, .inl (cI, 1024, .inl fK1)), (k2, .inl (cI, 1024, .inl fK2)), (n1, .inr (5, [.ref a1, .int ld_4])), (a1, .inl (cI, 300, .inl fd_4))] rfl
          clear hP hD hS hJ hP1 hD1
          have hP := hPn
          have hD := hDn
          have hS := hSn
          clear hPn hDn hSn
          refine lv_aload_n hx hb dX9_find_55 rfl (lv_at hl 2 rfl) ?_
          refine lv_iload hx hb dX9_find_56 (lv_at hl 0 rfl) ?_
          refine lv_iload hx hb dX9_find_58 (lv_at hl 0 rfl) ?_
          refine lv_iconst (v := (-1)) hx hb dX9_find_60 (by decide) ?_
          refine lv_iconst (v := (-1)) hx hb dX9_find_61 (by decide) ?_
          refine kV_v (rest := []) (q0 := 0) (ci := 9) hcf (f_X9_nameHarms l dC dI cI cS H.size oR oH oK n1 n2 n3 r1 r2 r3 r4 r5 r6 lR fza la la (-1) (-1) (g_lR) (v_rr g_la (by decide) (by decide))) kc_X9_nameHarms gX9_find_X9_nameHarms rfl rfl rfl ⟨Nat.le_of_ble_eq_true rfl, Nat.le_of_ble_eq_true rfl⟩ kX_t hK hP hD hS hA [22, 0] [1, 2, 3, 4, 5, 6, 7, 8, 9, 10, 11, 12, 13, 14, 15, 16, 17, 18, 19, 20, 21, 23, 24, 25, 26, 27, 28, 29] rfl (by decide +kernel) rfl rfl rfl hl rfl (Nat.le_of_ble_eq_true rfl) dX9_find_62 ⟨Nat.le_of_ble_eq_true rfl, Nat.le_of_ble_eq_true rfl⟩ (fun H locs hB hJ hSn => ?_)
          obtain ⟨fR3_7, ⟨hP1, hD1⟩, hf7_0⟩ := hB
          obtain ⟨hPn, hDn⟩ := hJ _ hP1 hD1 [(n2, .inr (5, [.ref a2, .int lta])), (a2, .inl (cI, 300, .inl ft_a)), (n3, .inr (5, [.ref a3, .int lha])), (a3, .inl (cI, 300, .inl fha)), (oH, .inr (4, [.ref oP, .ref h1, .ref h2, .int lH])), (h1, .inl (cI, 6, .inl fH1)), (h2, .inl (cI, 6, .inl fH2)), (oP, .inr (7, [.ref oC, .ref nB, .int ft_4])), (nB, .inr (5, [.ref aB, .int lB_4])), (aB, .inl (cI, 2400, .inl fB_4)), (nx, .inr (5, [.ref ax, .int lx])), (ax, .inl (cI, 300, .inl fx)), (oC, .inr (2, [.ref o4, .ref o5])), (o4, .inr (10, [.ref a41, .ref a42, .ref a43, .int l4])), (a41, .inl (cI, 256, .inl f41)), (a42, .inl (cI, 512, .inl f42)), (a43, .inl (cI, 512, .inl f43)), (o5, .inr (10, [.ref a51, .ref a52, .ref a53, .int l5])), (a51, .inl (cI, 256, .inl f51)), (a52, .inl (cI, 512, .inl f52)), (a53, .inl (cI, 512, .inl f53)), (r1, .inl (cI, 258, .inl fR1_6)), (r2, .inl (cI, 258, .inl fR2_6)), (oK, .inr (3, [.ref k1, .ref k2, .int lK])), (k1, .inl (cI, 1024, .inl fK1)), (k2, .inl (cI, 1024, .inl fK2)), (n1, .inr (5, [.ref a1, .int ld_4])), (a1, .inl (cI, 300, .inl fd_4)), (oR, .inr (9, [.ref oH, .ref oK, .ref n1, .ref n2, .ref n3, .ref r1, .ref r2, .ref r3, .ref r4, .ref r5, .ref r6, .int lR])), (r3, .inl (cI, 774, .inl fR3_7))] rfl
          clear hP hD hS hJ hP1 hD1
          have hP := hPn
          have hD := hDn
          have hS := hSn
          clear hPn hDn hSn
          obtain ⟨wa, hwa, hxa, hya⟩ := wp_of hf6_0 hf7_0 (by omega)
          refine lv_iconst (v := 0) hx hb dX9_find_65 (by decide) ?_
          refine lv_istore (lv' := [(5, .int 0), (4, .int la), (3, .int lH), (0, .ref oR), (1, .int n), (2, .ref nx)]) hx hb dX9_find_66 hl (by decide) rfl (fun ls hl => ?_)
          have LOOP_68 : ∀ (k_68 : Nat) (mi : Int32) (ftb : Int32) (lBb : Int32) (ltb : Int32) (lhb : Int32) (fBb : Nat → Int32) (ft_b : Nat → Int32) (fhb : Nat → Int32) (fxb : Nat → Int32) (fyb : Nat → Int32) (fzb : Nat → Int32) (H : Heap) (locs : List Loc) (ls : Array Slot), MSd (6 - mi.toInt : Int) k_68 → (0 ≤ mi.toInt ∧ mi.toInt ≤ 6) → (0 ≤ lBb.toInt ∧ lBb.toInt ≤ 2400) → (0 ≤ ltb.toInt ∧ ltb.toInt ≤ 300) → (0 ≤ lhb.toInt ∧ lhb.toInt ≤ 300) → (mi.toInt ≤ lH.toInt) → (rG1 (UC fH1 fH2 f41 f42 f43 f51 f52 f53) (tcC fK1 fK2) lH.toNatClampNeg lx.toInt.toNat fx n.toInt (la.toInt + 1) (la.toInt) (mi.toInt) (mi.toInt) (0) fxb fyb fzb) → va_P (dC, dI) vwCl [(n2, .inr (5, [.ref a2, .int ltb])), (a2, .inl (cI, 300, .inl ft_b)), (n3, .inr (5, [.ref a3, .int lhb])), (a3, .inl (cI, 300, .inl fhb)), (oH, .inr (4, [.ref oP, .ref h1, .ref h2, .int lH])), (h1, .inl (cI, 6, .inl fH1)), (h2, .inl (cI, 6, .inl fH2)), (oP, .inr (7, [.ref oC, .ref nB, .int ftb])), (nB, .inr (5, [.ref aB, .int lBb])), (aB, .inl (cI, 2400, .inl fBb)), (nx, .inr (5, [.ref ax, .int lx])), (ax, .inl (cI, 300, .inl fx)), (oC, .inr (2, [.ref o4, .ref o5])), (o4, .inr (10, [.ref a41, .ref a42, .ref a43, .int l4])), (a41, .inl (cI, 256, .inl f41)), (a42, .inl (cI, 512, .inl f42)), (a43, .inl (cI, 512, .inl f43)), (o5, .inr (10, [.ref a51, .ref a52, .ref a53, .int l5])), (a51, .inl (cI, 256, .inl f51)), (a52, .inl (cI, 512, .inl f52)), (a53, .inl (cI, 512, .inl f53)), (r1, .inl (cI, 258, .inl fxb)), (r2, .inl (cI, 258, .inl fyb)), (oK, .inr (3, [.ref k1, .ref k2, .int lK])), (k1, .inl (cI, 1024, .inl fK1)), (k2, .inl (cI, 1024, .inl fK2)), (n1, .inr (5, [.ref a1, .int ld_4])), (a1, .inl (cI, 300, .inl fd_4)), (oR, .inr (9, [.ref oH, .ref oK, .ref n1, .ref n2, .ref n3, .ref r1, .ref r2, .ref r3, .ref r4, .ref r5, .ref r6, .int lR])), (r3, .inl (cI, 774, .inl fzb))] H → va_D A [(n2, .inr (5, [.ref a2, .int ltb])), (a2, .inl (cI, 300, .inl ft_b)), (n3, .inr (5, [.ref a3, .int lhb])), (a3, .inl (cI, 300, .inl fhb)), (oH, .inr (4, [.ref oP, .ref h1, .ref h2, .int lH])), (h1, .inl (cI, 6, .inl fH1)), (h2, .inl (cI, 6, .inl fH2)), (oP, .inr (7, [.ref oC, .ref nB, .int ftb])), (nB, .inr (5, [.ref aB, .int lBb])), (aB, .inl (cI, 2400, .inl fBb)), (nx, .inr (5, [.ref ax, .int lx])), (ax, .inl (cI, 300, .inl fx)), (oC, .inr (2, [.ref o4, .ref o5])), (o4, .inr (10, [.ref a41, .ref a42, .ref a43, .int l4])), (a41, .inl (cI, 256, .inl f41)), (a42, .inl (cI, 512, .inl f42)), (a43, .inl (cI, 512, .inl f43)), (o5, .inr (10, [.ref a51, .ref a52, .ref a53, .int l5])), (a51, .inl (cI, 256, .inl f51)), (a52, .inl (cI, 512, .inl f52)), (a53, .inl (cI, 512, .inl f53)), (r1, .inl (cI, 258, .inl fxb)), (r2, .inl (cI, 258, .inl fyb)), (oK, .inr (3, [.ref k1, .ref k2, .int lK])), (k1, .inl (cI, 1024, .inl fK1)), (k2, .inl (cI, 1024, .inl fK2)), (n1, .inr (5, [.ref a1, .int ld_4])), (a1, .inl (cI, 300, .inl fd_4)), (oR, .inr (9, [.ref oH, .ref oK, .ref n1, .ref n2, .ref n3, .ref r1, .ref r2, .ref r3, .ref r4, .ref r5, .ref r6, .int lR])), (r3, .inl (cI, 774, .inl fzb))] → va_S A s.heap H locs → lv_has ls 9 [(5, .int mi), (4, .int la), (3, .int lH), (0, .ref oR), (1, .int n), (2, .ref nx)] → W p l e (headSpec wsX9_find ({ frames := 6, cells := 0, slots := 0, locals := 147 } : Room)).room s m ([.ref oR, .int n, .ref nx] : List Value).toArray below meth c H locs 0 0 (MQ below QQ ([.ref oR, .int n, .ref nx] : List Value).toArray s 0 0 A) (F0 m 68 ls []) := by
            clear hP hD hS hl
            try (clear hf4_0 g_lBa g_loa g_lta g_lha hf1_0)
            intro k_68
            induction k_68 with
            | zero =>
              intro mi ftb lBb ltb lhb fBb ft_b fhb fxb fyb fzb H locs ls hm_68 g_mi g_lBb g_ltb g_lhb hmz hGb hP hD hS hl
              exact ms_0 hm_68
            | succ k_68 ih_68 =>
              intro mi ftb lBb ltb lhb fBb ft_b fhb fxb fyb fzb H locs ls hm_68 g_mi g_lBb g_ltb g_lhb hmz hGb hP hD hS hl
              refine lv_iload_n hx hb dX9_find_68 rfl (lv_at hl 4 rfl) ?_
              refine lv_iconst (v := 1) hx hb dX9_find_69 (by decide) ?_
              refine lv_icmp_le (tgt := 222) hx hb dX9_find_70 (by decide) (fun c_8 => ?_) (fun c_8 => ?_)
              · have tc_8 : n.toInt ≤ 1 := v_le c_8
                obtain ⟨x_9, ex_9⟩ : ∃ y : Int32, y = la + 1 := ⟨_, rfl⟩
                have tx_9 : x_9.toInt = la.toInt + 1 := v_addR (l2 := 1) (h2 := 1) ex_9 g_la (by decide) (by decide) (by decide)
                refine lv_iinc (v := x_9) (lv' := [(4, .int x_9), (5, .int mi), (3, .int lH), (0, .ref oR), (1, .int n), (2, .ref nx)]) hx hb dX9_find_222 hl (k := 1) rfl (by rw [ex_9]; rfl) (by decide) rfl (fun ls hl => ?_)
                refine lv_goto (tgt := 19) hx hb dX9_find_225 (by decide) ?_
                exact ih_19 x_9 ftb lBb ld_4 ltb lhb fBb fd_4 ft_b fhb fxb fyb fzb _ _ _ (ms_lt hm_19 (by show ((6 - x_9.toInt : Int)) < 6 - la.toInt; omega) (by show (0 : Int) < 6 - la.toInt; omega)) (by show 0 ≤ x_9.toInt ∧ x_9.toInt ≤ 6; omega) (g_lBb) (hf4_1) (g_ltb) (g_lhb) (by show x_9.toInt ≤ lH.toInt; omega) (rG1_cg (rG1_e2 hGb rfl (by omega)) (by omega) (by omega) rfl rfl rfl) (hP.sub [28, 22, 29, 26, 27, 0, 1, 2, 3, 5, 6, 7, 8, 9, 12, 13, 14, 15, 16, 17, 18, 19, 20, 23, 24, 25, 10, 11, 21, 4] rfl) (hD.sub [28, 22, 29, 26, 27, 0, 1, 2, 3, 5, 6, 7, 8, 9, 12, 13, 14, 15, 16, 17, 18, 19, 20, 23, 24, 25, 10, 11, 21, 4] (by decide +kernel) rfl) hS (lv_sub hl [0, 2, 3, 4, 5] rfl)
              · have tc_8 : 1 < n.toInt := v_nle c_8
                refine lv_iload hx hb dX9_find_73 (lv_at hl 0 rfl) ?_
                refine lv_iload_n hx hb dX9_find_75 rfl (lv_at hl 2 rfl) ?_
                refine lv_icmp_ge (tgt := 222) hx hb dX9_find_76 (by decide) (fun c_10 => ?_) (fun c_10 => ?_)
                · have tc_10 : lH.toInt ≤ mi.toInt := v_le c_10
                  obtain ⟨x_11, ex_11⟩ : ∃ y : Int32, y = la + 1 := ⟨_, rfl⟩
                  have tx_11 : x_11.toInt = la.toInt + 1 := v_addR (l2 := 1) (h2 := 1) ex_11 g_la (by decide) (by decide) (by decide)
                  refine lv_iinc (v := x_11) (lv' := [(4, .int x_11), (5, .int mi), (3, .int lH), (0, .ref oR), (1, .int n), (2, .ref nx)]) hx hb dX9_find_222 hl (k := 1) rfl (by rw [ex_11]; rfl) (by decide) rfl (fun ls hl => ?_)
                  refine lv_goto (tgt := 19) hx hb dX9_find_225 (by decide) ?_
                  exact ih_19 x_11 ftb lBb ld_4 ltb lhb fBb fd_4 ft_b fhb fxb fyb fzb _ _ _ (ms_lt hm_19 (by show ((6 - x_11.toInt : Int)) < 6 - la.toInt; omega) (by show (0 : Int) < 6 - la.toInt; omega)) (by show 0 ≤ x_11.toInt ∧ x_11.toInt ≤ 6; omega) (g_lBb) (hf4_1) (g_ltb) (g_lhb) (by show x_11.toInt ≤ lH.toInt; omega) (rG1_cg (rG1_e2 hGb rfl (by omega)) (by omega) (by omega) rfl rfl rfl) (hP.sub [28, 22, 29, 26, 27, 0, 1, 2, 3, 5, 6, 7, 8, 9, 12, 13, 14, 15, 16, 17, 18, 19, 20, 23, 24, 25, 10, 11, 21, 4] rfl) (hD.sub [28, 22, 29, 26, 27, 0, 1, 2, 3, 5, 6, 7, 8, 9, 12, 13, 14, 15, 16, 17, 18, 19, 20, 23, 24, 25, 10, 11, 21, 4] (by decide +kernel) rfl) hS (lv_sub hl [0, 2, 3, 4, 5] rfl)
                · have tc_10 : mi.toInt < lH.toInt := v_nle c_10
                  have cmi := v_clamp (x := mi) (by omega)
                  refine lv_aload_n hx hb dX9_find_79 rfl (lv_at hl 3 rfl) ?_
                  refine va_get (D := (dC, dI)) (ci := 9) (v := .ref oH) (C := RX9) (T := TX9) (N := 12) hx hb hts in_X9 hown hK hP 28 rfl rfl 0 (by decide) (hts (.fieldLink RX9 45 "TextMender$Rows" "harms" "LTextMender$Harms;") (List.mem_of_getElem? (i := 2) rfl)) (fun _ h9 => h9) rfl dX9_find_80 ?_
                  refine lv_iload hx hb dX9_find_83 (lv_at hl 0 rfl) ?_
                  refine lv_aload_n hx hb dX9_find_85 rfl (lv_at hl 3 rfl) ?_
                  refine va_get (D := (dC, dI)) (ci := 9) (v := .ref n1) (C := RX9) (T := TX9) (N := 12) hx hb hts in_X9 hown hK hP 28 rfl rfl 2 (by decide) (hts (.fieldLink RX9 14 "TextMender$Rows" "one" "LTextMender$Numbers;") (List.mem_of_getElem? (i := 3) rfl)) (fun _ h9 => h9) rfl dX9_find_86 ?_
                  refine lv_aload_n hx hb dX9_find_89 rfl (lv_at hl 3 rfl) ?_
                  refine va_get (D := (dC, dI)) (ci := 9) (v := .ref n2) (C := RX9) (T := TX9) (N := 12) hx hb hts in_X9 hown hK hP 28 rfl rfl 3 (by decide) (hts (.fieldLink RX9 20 "TextMender$Rows" "two" "LTextMender$Numbers;") (List.mem_of_getElem? (i := 4) rfl)) (fun _ h9 => h9) rfl dX9_find_90 ?_
                  refine kV_i (rest := []) (q0 := 0) (ci := 4) hcf (f_X4_takeOff l dC dI cI cS H.size oH n1 n2 oP h1 h2 oC nB aB a1 a2 o4 o5 a41 a42 a43 a51 a52 a53 lH fH1 fH2 ftb lBb fBb ld_4 fd_4 ltb ft_b l4 f41 f42 f43 l5 f51 f52 f53 mi (g_lH) (g_lBb) (hf4_1) (g_ltb) (by omega) (by omega) (hpa) (hT4) (ho4) (hT5) (ho5) (hL4) (hL5) (hBr)) kc_X4_takeOff gX9_find_X4_takeOff rfl rfl rfl ⟨Nat.le_of_ble_eq_true rfl, Nat.le_of_ble_eq_true rfl⟩ (kX_1 hN52) hK hP hD hS hA [4, 5, 6, 7, 8, 9, 26, 27, 0, 1, 12, 13, 14, 15, 16, 17, 18, 19, 20] [2, 3, 10, 11, 21, 22, 23, 24, 25, 28, 29] rfl (by decide +kernel) rfl rfl rfl hl rfl (Nat.le_of_ble_eq_true rfl) dX9_find_93 ⟨Nat.le_of_ble_eq_true rfl, Nat.le_of_ble_eq_true rfl⟩ (fun r_12 H locs hB hJ hSn => ?_)
                  obtain ⟨ft_12, lB_12, fB_12, ld_12, fd_12, ⟨hP1, hD1⟩, hf12_0, hf12_1, hf12_2, hf12_3⟩ := hB
                  obtain ⟨hPn, hDn⟩ := hJ _ hP1 hD1 [(n3, .inr (5, [.ref a3, .int lhb])), (a3, .inl (cI, 300, .inl fhb)), (nx, .inr (5, [.ref ax, .int lx])), (ax, .inl (cI, 300, .inl fx)), (r1, .inl (cI, 258, .inl fxb)), (r2, .inl (cI, 258, .inl fyb)), (oK, .inr (3, [.ref k1, .ref k2, .int lK])), (k1, .inl (cI, 1024, .inl fK1)), (k2, .inl (cI, 1024, .inl fK2)), (oR, .inr (9, [.ref oH, .ref oK, .ref n1, .ref n2, .ref n3, .ref r1, .ref r2, .ref r3, .ref r4, .ref r5, .ref r6, .int lR])), (r3, .inl (cI, 774, .inl fzb)), (oH, .inr (4, [.ref oP, .ref h1, .ref h2, .int lH])), (h1, .inl (cI, 6, .inl fH1)), (h2, .inl (cI, 6, .inl fH2)), (oP, .inr (7, [.ref oC, .ref nB, .int ft_12])), (nB, .inr (5, [.ref aB, .int lB_12])), (aB, .inl (cI, 2400, .inl fB_12)), (n1, .inr (5, [.ref a1, .int ld_4])), (a1, .inl (cI, 300, .inl fd_4)), (n2, .inr (5, [.ref a2, .int ld_12])), (a2, .inl (cI, 300, .inl fd_12)), (oC, .inr (2, [.ref o4, .ref o5])), (o4, .inr (10, [.ref a41, .ref a42, .ref a43, .int l4])), (a41, .inl (cI, 256, .inl f41)), (a42, .inl (cI, 512, .inl f42)), (a43, .inl (cI, 512, .inl f43)), (o5, .inr (10, [.ref a51, .ref a52, .ref a53, .int l5])), (a51, .inl (cI, 256, .inl f51)), (a52, .inl (cI, 512, .inl f52)), (a53, .inl (cI, 512, .inl f53))] rfl
                  clear hP hD hS hJ hP1 hD1
                  have hP := hPn
                  have hD := hDn
                  have hS := hSn
                  clear hPn hDn hSn
                  refine lv_if_ne (tgt := 102) hx hb dX9_find_96 (by decide) (fun c_13 => ?_) (fun c_13 => ?_)
                  · have tc_13 : ¬ r_12.toInt = 0 := v_ne c_13
                    have hUb := to_1n hf12_3 (by omega)
                    have hpb := to_p hU hf12_3 (by omega) hpa
                    refine lv_iload_n hx hb dX9_find_102 rfl (lv_at hl 2 rfl) ?_
                    refine lv_iload hx hb dX9_find_103 (lv_at hl 0 rfl) ?_
                    refine lv_iload_n hx hb dX9_find_105 rfl (lv_at hl 2 rfl) ?_
                    refine lv_imul hx hb dX9_find_106 ?_
                    refine lv_topi (fun x_14 ex_14 => ?_)
                    have tm_x_14 := v_mulz ex_14 (by omega) (by omega)
                    have tn_x_14 := v_mulz5 ex_14 (by omega) (by omega)
                    refine lv_iadd hx hb dX9_find_107 ?_
                    refine lv_topi (fun x_15 ex_15 => ?_)
                    have tx_15 : x_15.toInt = lH.toInt + x_14.toInt := v_add ex_15 (by show -2147483648 ≤ lH.toInt + x_14.toInt; omega) (by show lH.toInt + x_14.toInt < 2147483648; omega)
                    refine lv_iload hx hb dX9_find_108 (lv_at hl 1 rfl) ?_
                    refine lv_iadd hx hb dX9_find_110 ?_
                    refine lv_topi (fun x_16 ex_16 => ?_)
                    have tx_16 : x_16.toInt = x_15.toInt + la.toInt := v_add ex_16 (by show -2147483648 ≤ x_15.toInt + la.toInt; omega) (by show x_15.toInt + la.toInt < 2147483648; omega)
                    refine lv_istore (lv' := [(6, .int x_16), (5, .int mi), (4, .int la), (3, .int lH), (0, .ref oR), (1, .int n), (2, .ref nx)]) hx hb dX9_find_111 hl (by decide) rfl (fun ls hl => ?_)
                    have hp2_x_16 := pl2_of (la := la) (p := x_16) ex_14 (by omega) (by omega) (by omega) (by omega)
                    refine lv_aload_n hx hb dX9_find_113 rfl (lv_at hl 4 rfl) ?_
                    refine lv_iload hx hb dX9_find_114 (lv_at hl 0 rfl) ?_
                    refine lv_aload_n hx hb dX9_find_116 rfl (lv_at hl 4 rfl) ?_
                    refine va_get (D := (dC, dI)) (ci := 9) (v := .ref n2) (C := RX9) (T := TX9) (N := 12) hx hb hts in_X9 hown hK hP 9 rfl rfl 3 (by decide) (hts (.fieldLink RX9 20 "TextMender$Rows" "two" "LTextMender$Numbers;") (List.mem_of_getElem? (i := 4) rfl)) (fun _ h9 => h9) rfl dX9_find_117 ?_
                    refine kV_v (rest := []) (q0 := 0) (ci := 9) hcf (f_X9_note l dC dI cI cS H.size oR n2 oH oK n1 n2 n3 r1 r2 r3 r4 r5 r6 k1 k2 a2 lR fxb fyb lK fK1 fK2 ld_12 fd_12 x_16 (g_lR) (g_lK) (hf12_1) (by omega) (hT) (ho) (hV) (hpb)) kc_X9_note gX9_find_X9_note rfl rfl rfl ⟨Nat.le_of_ble_eq_true rfl, Nat.le_of_ble_eq_true rfl⟩ kX_t hK hP hD hS hA [9, 4, 5, 6, 7, 8, 19, 20] [0, 1, 2, 3, 10, 11, 12, 13, 14, 15, 16, 17, 18, 21, 22, 23, 24, 25, 26, 27, 28, 29] rfl (by decide +kernel) rfl rfl rfl hl rfl (Nat.le_of_ble_eq_true rfl) dX9_find_120 ⟨Nat.le_of_ble_eq_true rfl, Nat.le_of_ble_eq_true rfl⟩ (fun H locs hB hJ hSn => ?_)
                    obtain ⟨fR1_17, fR2_17, ⟨hP1, hD1⟩, hf17_0⟩ := hB
                    obtain ⟨hPn, hDn⟩ := hJ _ hP1 hD1 [(n3, .inr (5, [.ref a3, .int lhb])), (a3, .inl (cI, 300, .inl fhb)), (nx, .inr (5, [.ref ax, .int lx])), (ax, .inl (cI, 300, .inl fx)), (r3, .inl (cI, 774, .inl fzb)), (oH, .inr (4, [.ref oP, .ref h1, .ref h2, .int lH])), (h1, .inl (cI, 6, .inl fH1)), (h2, .inl (cI, 6, .inl fH2)), (oP, .inr (7, [.ref oC, .ref nB, .int ft_12])), (nB, .inr (5, [.ref aB, .int lB_12])), (aB, .inl (cI, 2400, .inl fB_12)), (n1, .inr (5, [.ref a1, .int ld_4])), (a1, .inl (cI, 300, .inl fd_4)), (oC, .inr (2, [.ref o4, .ref o5])), (o4, .inr (10, [.ref a41, .ref a42, .ref a43, .int l4])), (a41, .inl (cI, 256, .inl f41)), (a42, .inl (cI, 512, .inl f42)), (a43, .inl (cI, 512, .inl f43)), (o5, .inr (10, [.ref a51, .ref a52, .ref a53, .int l5])), (a51, .inl (cI, 256, .inl f51)), (a52, .inl (cI, 512, .inl f52)), (a53, .inl (cI, 512, .inl f53)), (oR, .inr (9, [.ref oH, .ref oK, .ref n1, .ref n2, .ref n3, .ref r1, .ref r2, .ref r3, .ref r4, .ref r5, .ref r6, .int lR])), (r1, .inl (cI, 258, .inl fR1_17)), (r2, .inl (cI, 258, .inl fR2_17)), (oK, .inr (3, [.ref k1, .ref k2, .int lK])), (k1, .inl (cI, 1024, .inl fK1)), (k2, .inl (cI, 1024, .inl fK2)), (n2, .inr (5, [.ref a2, .int ld_12])), (a2, .inl (cI, 300, .inl fd_12))] rfl
                    clear hP hD hS hJ hP1 hD1
                    have hP := hPn
                    have hD := hDn
                    have hS := hSn
                    clear hPn hDn hSn
                    refine lv_aload_n hx hb dX9_find_123 rfl (lv_at hl 4 rfl) ?_
                    refine lv_iload hx hb dX9_find_124 (lv_at hl 0 rfl) ?_
                    refine lv_iload hx hb dX9_find_126 (lv_at hl 1 rfl) ?_
                    refine lv_iload hx hb dX9_find_128 (lv_at hl 2 rfl) ?_
                    refine lv_iconst (v := (-1)) hx hb dX9_find_130 (by decide) ?_
                    refine kV_v (rest := []) (q0 := 0) (ci := 9) hcf (f_X9_nameHarms l dC dI cI cS H.size oR oH oK n1 n2 n3 r1 r2 r3 r4 r5 r6 lR fzb x_16 mi la (-1) (g_lR) (by omega)) kc_X9_nameHarms gX9_find_X9_nameHarms rfl rfl rfl ⟨Nat.le_of_ble_eq_true rfl, Nat.le_of_ble_eq_true rfl⟩ kX_t hK hP hD hS hA [22, 4] [0, 1, 2, 3, 5, 6, 7, 8, 9, 10, 11, 12, 13, 14, 15, 16, 17, 18, 19, 20, 21, 23, 24, 25, 26, 27, 28, 29] rfl (by decide +kernel) rfl rfl rfl hl rfl (Nat.le_of_ble_eq_true rfl) dX9_find_131 ⟨Nat.le_of_ble_eq_true rfl, Nat.le_of_ble_eq_true rfl⟩ (fun H locs hB hJ hSn => ?_)
                    obtain ⟨fR3_18, ⟨hP1, hD1⟩, hf18_0⟩ := hB
                    obtain ⟨hPn, hDn⟩ := hJ _ hP1 hD1 [(n3, .inr (5, [.ref a3, .int lhb])), (a3, .inl (cI, 300, .inl fhb)), (nx, .inr (5, [.ref ax, .int lx])), (ax, .inl (cI, 300, .inl fx)), (oH, .inr (4, [.ref oP, .ref h1, .ref h2, .int lH])), (h1, .inl (cI, 6, .inl fH1)), (h2, .inl (cI, 6, .inl fH2)), (oP, .inr (7, [.ref oC, .ref nB, .int ft_12])), (nB, .inr (5, [.ref aB, .int lB_12])), (aB, .inl (cI, 2400, .inl fB_12)), (n1, .inr (5, [.ref a1, .int ld_4])), (a1, .inl (cI, 300, .inl fd_4)), (oC, .inr (2, [.ref o4, .ref o5])), (o4, .inr (10, [.ref a41, .ref a42, .ref a43, .int l4])), (a41, .inl (cI, 256, .inl f41)), (a42, .inl (cI, 512, .inl f42)), (a43, .inl (cI, 512, .inl f43)), (o5, .inr (10, [.ref a51, .ref a52, .ref a53, .int l5])), (a51, .inl (cI, 256, .inl f51)), (a52, .inl (cI, 512, .inl f52)), (a53, .inl (cI, 512, .inl f53)), (r1, .inl (cI, 258, .inl fR1_17)), (r2, .inl (cI, 258, .inl fR2_17)), (oK, .inr (3, [.ref k1, .ref k2, .int lK])), (k1, .inl (cI, 1024, .inl fK1)), (k2, .inl (cI, 1024, .inl fK2)), (n2, .inr (5, [.ref a2, .int ld_12])), (a2, .inl (cI, 300, .inl fd_12)), (oR, .inr (9, [.ref oH, .ref oK, .ref n1, .ref n2, .ref n3, .ref r1, .ref r2, .ref r3, .ref r4, .ref r5, .ref r6, .int lR])), (r3, .inl (cI, 774, .inl fR3_18))] rfl
                    clear hP hD hS hJ hP1 hD1
                    have hP := hPn
                    have hD := hDn
                    have hS := hSn
                    clear hPn hDn hSn
                    obtain ⟨wb, hwb, hxb, hyb⟩ := wp_of hf17_0 hf18_0 (by omega)
                    refine lv_iconst (v := 0) hx hb dX9_find_134 (by decide) ?_
                    refine lv_istore (lv' := [(7, .int 0), (6, .int x_16), (5, .int mi), (4, .int la), (3, .int lH), (0, .ref oR), (1, .int n), (2, .ref nx)]) hx hb dX9_find_135 hl (by decide) rfl (fun ls hl => ?_)
                    have LOOP_137 : ∀ (k_137 : Nat) (fi : Int32) (ftc : Int32) (lBc : Int32) (lhc : Int32) (fBc : Nat → Int32) (fhc : Nat → Int32) (fxc : Nat → Int32) (fyc : Nat → Int32) (fzc : Nat → Int32) (H : Heap) (locs : List Loc) (ls : Array Slot), MSd (6 - fi.toInt : Int) k_137 → (0 ≤ fi.toInt ∧ fi.toInt ≤ 6) → (0 ≤ lBc.toInt ∧ lBc.toInt ≤ 2400) → (0 ≤ lhc.toInt ∧ lhc.toInt ≤ 300) → (fi.toInt ≤ lH.toInt) → (rG1 (UC fH1 fH2 f41 f42 f43 f51 f52 f53) (tcC fK1 fK2) lH.toNatClampNeg lx.toInt.toNat fx n.toInt (la.toInt + 1) (la.toInt) (mi.toInt + 1) (mi.toInt) (fi.toInt) fxc fyc fzc) → va_P (dC, dI) vwCl [(n3, .inr (5, [.ref a3, .int lhc])), (a3, .inl (cI, 300, .inl fhc)), (nx, .inr (5, [.ref ax, .int lx])), (ax, .inl (cI, 300, .inl fx)), (oH, .inr (4, [.ref oP, .ref h1, .ref h2, .int lH])), (h1, .inl (cI, 6, .inl fH1)), (h2, .inl (cI, 6, .inl fH2)), (oP, .inr (7, [.ref oC, .ref nB, .int ftc])), (nB, .inr (5, [.ref aB, .int lBc])), (aB, .inl (cI, 2400, .inl fBc)), (n1, .inr (5, [.ref a1, .int ld_4])), (a1, .inl (cI, 300, .inl fd_4)), (oC, .inr (2, [.ref o4, .ref o5])), (o4, .inr (10, [.ref a41, .ref a42, .ref a43, .int l4])), (a41, .inl (cI, 256, .inl f41)), (a42, .inl (cI, 512, .inl f42)), (a43, .inl (cI, 512, .inl f43)), (o5, .inr (10, [.ref a51, .ref a52, .ref a53, .int l5])), (a51, .inl (cI, 256, .inl f51)), (a52, .inl (cI, 512, .inl f52)), (a53, .inl (cI, 512, .inl f53)), (r1, .inl (cI, 258, .inl fxc)), (r2, .inl (cI, 258, .inl fyc)), (oK, .inr (3, [.ref k1, .ref k2, .int lK])), (k1, .inl (cI, 1024, .inl fK1)), (k2, .inl (cI, 1024, .inl fK2)), (n2, .inr (5, [.ref a2, .int ld_12])), (a2, .inl (cI, 300, .inl fd_12)), (oR, .inr (9, [.ref oH, .ref oK, .ref n1, .ref n2, .ref n3, .ref r1, .ref r2, .ref r3, .ref r4, .ref r5, .ref r6, .int lR])), (r3, .inl (cI, 774, .inl fzc))] H → va_D A [(n3, .inr (5, [.ref a3, .int lhc])), (a3, .inl (cI, 300, .inl fhc)), (nx, .inr (5, [.ref ax, .int lx])), (ax, .inl (cI, 300, .inl fx)), (oH, .inr (4, [.ref oP, .ref h1, .ref h2, .int lH])), (h1, .inl (cI, 6, .inl fH1)), (h2, .inl (cI, 6, .inl fH2)), (oP, .inr (7, [.ref oC, .ref nB, .int ftc])), (nB, .inr (5, [.ref aB, .int lBc])), (aB, .inl (cI, 2400, .inl fBc)), (n1, .inr (5, [.ref a1, .int ld_4])), (a1, .inl (cI, 300, .inl fd_4)), (oC, .inr (2, [.ref o4, .ref o5])), (o4, .inr (10, [.ref a41, .ref a42, .ref a43, .int l4])), (a41, .inl (cI, 256, .inl f41)), (a42, .inl (cI, 512, .inl f42)), (a43, .inl (cI, 512, .inl f43)), (o5, .inr (10, [.ref a51, .ref a52, .ref a53, .int l5])), (a51, .inl (cI, 256, .inl f51)), (a52, .inl (cI, 512, .inl f52)), (a53, .inl (cI, 512, .inl f53)), (r1, .inl (cI, 258, .inl fxc)), (r2, .inl (cI, 258, .inl fyc)), (oK, .inr (3, [.ref k1, .ref k2, .int lK])), (k1, .inl (cI, 1024, .inl fK1)), (k2, .inl (cI, 1024, .inl fK2)), (n2, .inr (5, [.ref a2, .int ld_12])), (a2, .inl (cI, 300, .inl fd_12)), (oR, .inr (9, [.ref oH, .ref oK, .ref n1, .ref n2, .ref n3, .ref r1, .ref r2, .ref r3, .ref r4, .ref r5, .ref r6, .int lR])), (r3, .inl (cI, 774, .inl fzc))] → va_S A s.heap H locs → lv_has ls 9 [(7, .int fi), (5, .int mi), (4, .int la), (3, .int lH), (0, .ref oR), (1, .int n), (2, .ref nx)] → W p l e (headSpec wsX9_find ({ frames := 6, cells := 0, slots := 0, locals := 147 } : Room)).room s m ([.ref oR, .int n, .ref nx] : List Value).toArray below meth c H locs 0 0 (MQ below QQ ([.ref oR, .int n, .ref nx] : List Value).toArray s 0 0 A) (F0 m 137 ls []) := by
                      clear hP hD hS hl
                      try (clear hf12_0 g_lBb g_ltb g_lhb hf4_0 g_lBa g_loa g_lta g_lha hf1_0)
                      intro k_137
                      induction k_137 with
                      | zero =>
                        intro fi ftc lBc lhc fBc fhc fxc fyc fzc H locs ls hm_137 g_fi g_lBc g_lhc hfz hGc hP hD hS hl
                        exact ms_0 hm_137
                      | succ k_137 ih_137 =>
                        intro fi ftc lBc lhc fBc fhc fxc fyc fzc H locs ls hm_137 g_fi g_lBc g_lhc hfz hGc hP hD hS hl
                        refine lv_iload_n hx hb dX9_find_137 rfl (lv_at hl 5 rfl) ?_
                        refine lv_iconst (v := 2) hx hb dX9_find_138 (by decide) ?_
                        refine lv_icmp_le (tgt := 216) hx hb dX9_find_139 (by decide) (fun c_19 => ?_) (fun c_19 => ?_)
                        · have tc_19 : n.toInt ≤ 2 := v_le c_19
                          obtain ⟨x_20, ex_20⟩ : ∃ y : Int32, y = mi + 1 := ⟨_, rfl⟩
                          have tx_20 : x_20.toInt = mi.toInt + 1 := v_addR (l2 := 1) (h2 := 1) ex_20 g_mi (by decide) (by decide) (by decide)
                          refine lv_iinc (v := x_20) (lv' := [(5, .int x_20), (7, .int fi), (4, .int la), (3, .int lH), (0, .ref oR), (1, .int n), (2, .ref nx)]) hx hb dX9_find_216 hl (k := 1) rfl (by rw [ex_20]; rfl) (by decide) rfl (fun ls hl => ?_)
                          refine lv_goto (tgt := 68) hx hb dX9_find_219 (by decide) ?_
                          exact ih_68 x_20 ftc lBc ld_12 lhc fBc fd_12 fhc fxc fyc fzc _ _ _ (ms_lt hm_68 (by show ((6 - x_20.toInt : Int)) < 6 - mi.toInt; omega) (by show (0 : Int) < 6 - mi.toInt; omega)) (by show 0 ≤ x_20.toInt ∧ x_20.toInt ≤ 6; omega) (g_lBc) (hf12_1) (g_lhc) (by show x_20.toInt ≤ lH.toInt; omega) (rG1_cg (rG1_e3 hGc rfl (by omega)) rfl rfl (by omega) (by omega) rfl) (hP.sub [26, 27, 0, 1, 4, 5, 6, 7, 8, 9, 2, 3, 12, 13, 14, 15, 16, 17, 18, 19, 20, 21, 22, 23, 24, 25, 10, 11, 28, 29] rfl) (hD.sub [26, 27, 0, 1, 4, 5, 6, 7, 8, 9, 2, 3, 12, 13, 14, 15, 16, 17, 18, 19, 20, 21, 22, 23, 24, 25, 10, 11, 28, 29] (by decide +kernel) rfl) hS (lv_sub hl [0, 2, 3, 4, 5, 6] rfl)
                        · have tc_19 : 2 < n.toInt := v_nle c_19
                          refine lv_iload hx hb dX9_find_142 (lv_at hl 0 rfl) ?_
                          refine lv_iload_n hx hb dX9_find_144 rfl (lv_at hl 3 rfl) ?_
                          refine lv_icmp_ge (tgt := 216) hx hb dX9_find_145 (by decide) (fun c_21 => ?_) (fun c_21 => ?_)
                          · have tc_21 : lH.toInt ≤ fi.toInt := v_le c_21
                            obtain ⟨x_22, ex_22⟩ : ∃ y : Int32, y = mi + 1 := ⟨_, rfl⟩
                            have tx_22 : x_22.toInt = mi.toInt + 1 := v_addR (l2 := 1) (h2 := 1) ex_22 g_mi (by decide) (by decide) (by decide)
                            refine lv_iinc (v := x_22) (lv' := [(5, .int x_22), (7, .int fi), (4, .int la), (3, .int lH), (0, .ref oR), (1, .int n), (2, .ref nx)]) hx hb dX9_find_216 hl (k := 1) rfl (by rw [ex_22]; rfl) (by decide) rfl (fun ls hl => ?_)
                            refine lv_goto (tgt := 68) hx hb dX9_find_219 (by decide) ?_
                            exact ih_68 x_22 ftc lBc ld_12 lhc fBc fd_12 fhc fxc fyc fzc _ _ _ (ms_lt hm_68 (by show ((6 - x_22.toInt : Int)) < 6 - mi.toInt; omega) (by show (0 : Int) < 6 - mi.toInt; omega)) (by show 0 ≤ x_22.toInt ∧ x_22.toInt ≤ 6; omega) (g_lBc) (hf12_1) (g_lhc) (by show x_22.toInt ≤ lH.toInt; omega) (rG1_cg (rG1_e3 hGc rfl (by omega)) rfl rfl (by omega) (by omega) rfl) (hP.sub [26, 27, 0, 1, 4, 5, 6, 7, 8, 9, 2, 3, 12, 13, 14, 15, 16, 17, 18, 19, 20, 21, 22, 23, 24, 25, 10, 11, 28, 29] rfl) (hD.sub [26, 27, 0, 1, 4, 5, 6, 7, 8, 9, 2, 3, 12, 13, 14, 15, 16, 17, 18, 19, 20, 21, 22, 23, 24, 25, 10, 11, 28, 29] (by decide +kernel) rfl) hS (lv_sub hl [0, 2, 3, 4, 5, 6] rfl)
                          · have tc_21 : fi.toInt < lH.toInt := v_nle c_21
                            have cfi := v_clamp (x := fi) (by omega)
                            refine lv_aload_n hx hb dX9_find_148 rfl (lv_at hl 4 rfl) ?_
                            refine va_get (D := (dC, dI)) (ci := 9) (v := .ref oH) (C := RX9) (T := TX9) (N := 12) hx hb hts in_X9 hown hK hP 28 rfl rfl 0 (by decide) (hts (.fieldLink RX9 45 "TextMender$Rows" "harms" "LTextMender$Harms;") (List.mem_of_getElem? (i := 2) rfl)) (fun _ h9 => h9) rfl dX9_find_149 ?_
                            refine lv_iload hx hb dX9_find_152 (lv_at hl 0 rfl) ?_
                            refine lv_aload_n hx hb dX9_find_154 rfl (lv_at hl 4 rfl) ?_
                            refine va_get (D := (dC, dI)) (ci := 9) (v := .ref n2) (C := RX9) (T := TX9) (N := 12) hx hb hts in_X9 hown hK hP 28 rfl rfl 3 (by decide) (hts (.fieldLink RX9 20 "TextMender$Rows" "two" "LTextMender$Numbers;") (List.mem_of_getElem? (i := 4) rfl)) (fun _ h9 => h9) rfl dX9_find_155 ?_
                            refine lv_aload_n hx hb dX9_find_158 rfl (lv_at hl 4 rfl) ?_
                            refine va_get (D := (dC, dI)) (ci := 9) (v := .ref n3) (C := RX9) (T := TX9) (N := 12) hx hb hts in_X9 hown hK hP 28 rfl rfl 4 (by decide) (hts (.fieldLink RX9 23 "TextMender$Rows" "three" "LTextMender$Numbers;") (List.mem_of_getElem? (i := 5) rfl)) (fun _ h9 => h9) rfl dX9_find_159 ?_
                            refine kV_i (rest := []) (q0 := 0) (ci := 4) hcf (f_X4_takeOff l dC dI cI cS H.size oH n2 n3 oP h1 h2 oC nB aB a2 a3 o4 o5 a41 a42 a43 a51 a52 a53 lH fH1 fH2 ftc lBc fBc ld_12 fd_12 lhc fhc l4 f41 f42 f43 l5 f51 f52 f53 fi (g_lH) (g_lBc) (hf12_1) (g_lhc) (by omega) (by omega) (hpb) (hT4) (ho4) (hT5) (ho5) (hL4) (hL5) (hBr)) kc_X4_takeOff gX9_find_X4_takeOff rfl rfl rfl ⟨Nat.le_of_ble_eq_true rfl, Nat.le_of_ble_eq_true rfl⟩ (kX_1 hN52) hK hP hD hS hA [4, 5, 6, 7, 8, 9, 26, 27, 0, 1, 12, 13, 14, 15, 16, 17, 18, 19, 20] [2, 3, 10, 11, 21, 22, 23, 24, 25, 28, 29] rfl (by decide +kernel) rfl rfl rfl hl rfl (Nat.le_of_ble_eq_true rfl) dX9_find_162 ⟨Nat.le_of_ble_eq_true rfl, Nat.le_of_ble_eq_true rfl⟩ (fun r_23 H locs hB hJ hSn => ?_)
                            obtain ⟨ft_23, lB_23, fB_23, ld_23, fd_23, ⟨hP1, hD1⟩, hf23_0, hf23_1, hf23_2, hf23_3⟩ := hB
                            obtain ⟨hPn, hDn⟩ := hJ _ hP1 hD1 [(nx, .inr (5, [.ref ax, .int lx])), (ax, .inl (cI, 300, .inl fx)), (n1, .inr (5, [.ref a1, .int ld_4])), (a1, .inl (cI, 300, .inl fd_4)), (r1, .inl (cI, 258, .inl fxc)), (r2, .inl (cI, 258, .inl fyc)), (oK, .inr (3, [.ref k1, .ref k2, .int lK])), (k1, .inl (cI, 1024, .inl fK1)), (k2, .inl (cI, 1024, .inl fK2)), (oR, .inr (9, [.ref oH, .ref oK, .ref n1, .ref n2, .ref n3, .ref r1, .ref r2, .ref r3, .ref r4, .ref r5, .ref r6, .int lR])), (r3, .inl (cI, 774, .inl fzc)), (oH, .inr (4, [.ref oP, .ref h1, .ref h2, .int lH])), (h1, .inl (cI, 6, .inl fH1)), (h2, .inl (cI, 6, .inl fH2)), (oP, .inr (7, [.ref oC, .ref nB, .int ft_23])), (nB, .inr (5, [.ref aB, .int lB_23])), (aB, .inl (cI, 2400, .inl fB_23)), (n2, .inr (5, [.ref a2, .int ld_12])), (a2, .inl (cI, 300, .inl fd_12)), (n3, .inr (5, [.ref a3, .int ld_23])), (a3, .inl (cI, 300, .inl fd_23)), (oC, .inr (2, [.ref o4, .ref o5])), (o4, .inr (10, [.ref a41, .ref a42, .ref a43, .int l4])), (a41, .inl (cI, 256, .inl f41)), (a42, .inl (cI, 512, .inl f42)), (a43, .inl (cI, 512, .inl f43)), (o5, .inr (10, [.ref a51, .ref a52, .ref a53, .int l5])), (a51, .inl (cI, 256, .inl f51)), (a52, .inl (cI, 512, .inl f52)), (a53, .inl (cI, 512, .inl f53))] rfl
                            clear hP hD hS hJ hP1 hD1
                            have hP := hPn
                            have hD := hDn
                            have hS := hSn
                            clear hPn hDn hSn
                            refine lv_if_eq (tgt := 210) hx hb dX9_find_165 (by decide) (fun c_24 => ?_) (fun c_24 => ?_)
                            · have tc_24 : r_23.toInt = 0 := v_eq c_24
                              obtain ⟨x_25, ex_25⟩ : ∃ y : Int32, y = fi + 1 := ⟨_, rfl⟩
                              have tx_25 : x_25.toInt = fi.toInt + 1 := v_addR (l2 := 1) (h2 := 1) ex_25 g_fi (by decide) (by decide) (by decide)
                              refine lv_iinc (v := x_25) (lv' := [(7, .int x_25), (5, .int mi), (4, .int la), (3, .int lH), (0, .ref oR), (1, .int n), (2, .ref nx)]) hx hb dX9_find_210 hl (k := 0) rfl (by rw [ex_25]; rfl) (by decide) rfl (fun ls hl => ?_)
                              refine lv_goto (tgt := 137) hx hb dX9_find_213 (by decide) ?_
                              exact ih_137 x_25 ft_23 lB_23 ld_23 fB_23 fd_23 fxc fyc fzc _ _ _ (ms_lt hm_137 (by show ((6 - x_25.toInt : Int)) < 6 - fi.toInt; omega) (by show (0 : Int) < 6 - fi.toInt; omega)) (by show 0 ≤ x_25.toInt ∧ x_25.toInt ≤ 6; omega) (hf23_0) (hf23_1) (by show x_25.toInt ≤ lH.toInt; omega) (rG1_f3 hU (c0 := fi.toNatClampNeg) hGc (fun j hj => hlt j (by omega)) (by omega) (by omega) (by omega) (by omega) hUa hUb (to_0 hf23_3 (by omega))) (hP.sub [19, 20, 0, 1, 11, 12, 13, 14, 15, 16, 2, 3, 21, 22, 23, 24, 25, 26, 27, 28, 29, 4, 5, 6, 7, 8, 17, 18, 9, 10] rfl) (hD.sub [19, 20, 0, 1, 11, 12, 13, 14, 15, 16, 2, 3, 21, 22, 23, 24, 25, 26, 27, 28, 29, 4, 5, 6, 7, 8, 17, 18, 9, 10] (by decide +kernel) rfl) hS (lv_sub hl [0, 1, 2, 3, 4, 5, 6] rfl)
                            · have tc_24 : ¬ r_23.toInt = 0 := v_ne c_24
                              have hUc := to_1n hf23_3 (by omega)
                              have hpc := to_p hU hf23_3 (by omega) hpb
                              refine lv_iload_n hx hb dX9_find_168 rfl (lv_at hl 3 rfl) ?_
                              refine lv_iload_n hx hb dX9_find_169 rfl (lv_at hl 3 rfl) ?_
                              refine lv_iload_n hx hb dX9_find_170 rfl (lv_at hl 3 rfl) ?_
                              refine lv_imul hx hb dX9_find_171 ?_
                              refine lv_topi (fun x_26 ex_26 => ?_)
                              have tm_x_26 := v_mulz ex_26 (by omega) (by omega)
                              refine lv_iadd hx hb dX9_find_172 ?_
                              refine lv_topi (fun x_27 ex_27 => ?_)
                              have tx_27 : x_27.toInt = lH.toInt + x_26.toInt := v_add ex_27 (by show -2147483648 ≤ lH.toInt + x_26.toInt; omega) (by show lH.toInt + x_26.toInt < 2147483648; omega)
                              refine lv_iload hx hb dX9_find_173 (lv_at hl 0 rfl) ?_
                              refine lv_iload_n hx hb dX9_find_175 rfl (lv_at hl 3 rfl) ?_
                              refine lv_imul hx hb dX9_find_176 ?_
                              refine lv_topi (fun x_28 ex_28 => ?_)
                              have tm_x_28 := v_mulz ex_28 (by omega) (by omega)
                              have tn_x_28 := v_mulz5 ex_28 (by omega) (by omega)
                              refine lv_iload hx hb dX9_find_177 (lv_at hl 1 rfl) ?_
                              refine lv_iadd hx hb dX9_find_179 ?_
                              refine lv_topi (fun x_29 ex_29 => ?_)
                              have tx_29 : x_29.toInt = x_28.toInt + mi.toInt := v_add ex_29 (by show -2147483648 ≤ x_28.toInt + mi.toInt; omega) (by show x_28.toInt + mi.toInt < 2147483648; omega)
                              refine lv_iload_n hx hb dX9_find_180 rfl (lv_at hl 3 rfl) ?_
                              refine lv_imul hx hb dX9_find_181 ?_
                              refine lv_topi (fun x_30 ex_30 => ?_)
                              have tm_x_30 := v_mulz ex_30 (by omega) (by omega)
                              refine lv_iadd hx hb dX9_find_182 ?_
                              refine lv_topi (fun x_31 ex_31 => ?_)
                              have tx_31 : x_31.toInt = x_27.toInt + x_30.toInt := v_add ex_31 (by show -2147483648 ≤ x_27.toInt + x_30.toInt; omega) (by show x_27.toInt + x_30.toInt < 2147483648; omega)
                              refine lv_iload hx hb dX9_find_183 (lv_at hl 2 rfl) ?_
                              refine lv_iadd hx hb dX9_find_185 ?_
                              refine lv_topi (fun x_32 ex_32 => ?_)
                              have tx_32 : x_32.toInt = x_31.toInt + la.toInt := v_add ex_32 (by show -2147483648 ≤ x_31.toInt + la.toInt; omega) (by show x_31.toInt + la.toInt < 2147483648; omega)
                              refine lv_istore (lv' := [(8, .int x_32), (7, .int fi), (5, .int mi), (4, .int la), (3, .int lH), (0, .ref oR), (1, .int n), (2, .ref nx)]) hx hb dX9_find_186 hl (by decide) rfl (fun ls hl => ?_)
                              have hp3_x_32 := pl3_of (la := la) (mi := mi) (p := x_32) ex_26 ex_28 (by omega) ex_30 (by omega) (by omega) (by omega) (by omega) (by omega) (by omega)
                              have hb3_x_32 : x_32.toInt ≤ 257 := by have q9 := rp_max (z := lH.toNatClampNeg) (a := la.toNatClampNeg) (b := mi.toNatClampNeg) (c := fi.toNatClampNeg) (by omega) (by omega) (by omega) (by omega); rw [← hp3_x_32] at q9; have c9 := v_clamp (x := x_32) (by omega); omega
                              refine lv_aload_n hx hb dX9_find_188 rfl (lv_at hl 5 rfl) ?_
                              refine lv_iload hx hb dX9_find_189 (lv_at hl 0 rfl) ?_
                              refine lv_aload_n hx hb dX9_find_191 rfl (lv_at hl 5 rfl) ?_
                              refine va_get (D := (dC, dI)) (ci := 9) (v := .ref n3) (C := RX9) (T := TX9) (N := 12) hx hb hts in_X9 hown hK hP 9 rfl rfl 4 (by decide) (hts (.fieldLink RX9 23 "TextMender$Rows" "three" "LTextMender$Numbers;") (List.mem_of_getElem? (i := 5) rfl)) (fun _ h9 => h9) rfl dX9_find_192 ?_
                              refine kV_v (rest := []) (q0 := 0) (ci := 9) hcf (f_X9_note l dC dI cI cS H.size oR n3 oH oK n1 n2 n3 r1 r2 r3 r4 r5 r6 k1 k2 a3 lR fxc fyc lK fK1 fK2 ld_23 fd_23 x_32 (g_lR) (g_lK) (hf23_1) (by omega) (hT) (ho) (hV) (hpc)) kc_X9_note gX9_find_X9_note rfl rfl rfl ⟨Nat.le_of_ble_eq_true rfl, Nat.le_of_ble_eq_true rfl⟩ kX_t hK hP hD hS hA [9, 4, 5, 6, 7, 8, 19, 20] [0, 1, 2, 3, 10, 11, 12, 13, 14, 15, 16, 17, 18, 21, 22, 23, 24, 25, 26, 27, 28, 29] rfl (by decide +kernel) rfl rfl rfl hl rfl (Nat.le_of_ble_eq_true rfl) dX9_find_195 ⟨Nat.le_of_ble_eq_true rfl, Nat.le_of_ble_eq_true rfl⟩ (fun H locs hB hJ hSn => ?_)
                              obtain ⟨fR1_33, fR2_33, ⟨hP1, hD1⟩, hf33_0⟩ := hB
                              obtain ⟨hPn, hDn⟩ := hJ _ hP1 hD1 [(nx, .inr (5, [.ref ax, .int lx])), (ax, .inl (cI, 300, .inl fx)), (n1, .inr (5, [.ref a1, .int ld_4])), (a1, .inl (cI, 300, .inl fd_4)), (r3, .inl (cI, 774, .inl fzc)), (oH, .inr (4, [.ref oP, .ref h1, .ref h2, .int lH])), (h1, .inl (cI, 6, .inl fH1)), (h2, .inl (cI, 6, .inl fH2)), (oP, .inr (7, [.ref oC, .ref nB, .int ft_23])), (nB, .inr (5, [.ref aB, .int lB_23])), (aB, .inl (cI, 2400, .inl fB_23)), (n2, .inr (5, [.ref a2, .int ld_12])), (a2, .inl (cI, 300, .inl fd_12)), (oC, .inr (2, [.ref o4, .ref o5])), (o4, .inr (10, [.ref a41, .ref a42, .ref a43, .int l4])), (a41, .inl (cI, 256, .inl f41)), (a42, .inl (cI, 512, .inl f42)), (a43, .inl (cI, 512, .inl f43)), (o5, .inr (10, [.ref a51, .ref a52, .ref a53, .int l5])), (a51, .inl (cI, 256, .inl f51)), (a52, .inl (cI, 512, .inl f52)), (a53, .inl (cI, 512, .inl f53)), (oR, .inr (9, [.ref oH, .ref oK, .ref n1, .ref n2, .ref n3, .ref r1, .ref r2, .ref r3, .ref r4, .ref r5, .ref r6, .int lR])), (r1, .inl (cI, 258, .inl fR1_33)), (r2, .inl (cI, 258, .inl fR2_33)), (oK, .inr (3, [.ref k1, .ref k2, .int lK])), (k1, .inl (cI, 1024, .inl fK1)), (k2, .inl (cI, 1024, .inl fK2)), (n3, .inr (5, [.ref a3, .int ld_23])), (a3, .inl (cI, 300, .inl fd_23))] rfl
                              clear hP hD hS hJ hP1 hD1
                              have hP := hPn
                              have hD := hDn
                              have hS := hSn
                              clear hPn hDn hSn
                              refine lv_aload_n hx hb dX9_find_198 rfl (lv_at hl 5 rfl) ?_
                              refine lv_iload hx hb dX9_find_199 (lv_at hl 0 rfl) ?_
                              refine lv_iload hx hb dX9_find_201 (lv_at hl 1 rfl) ?_
                              refine lv_iload hx hb dX9_find_203 (lv_at hl 2 rfl) ?_
                              refine lv_iload hx hb dX9_find_205 (lv_at hl 3 rfl) ?_
                              refine kV_v (rest := []) (q0 := 0) (ci := 9) hcf (f_X9_nameHarms l dC dI cI cS H.size oR oH oK n1 n2 n3 r1 r2 r3 r4 r5 r6 lR fzc x_32 fi mi la (g_lR) (by omega)) kc_X9_nameHarms gX9_find_X9_nameHarms rfl rfl rfl ⟨Nat.le_of_ble_eq_true rfl, Nat.le_of_ble_eq_true rfl⟩ kX_t hK hP hD hS hA [22, 4] [0, 1, 2, 3, 5, 6, 7, 8, 9, 10, 11, 12, 13, 14, 15, 16, 17, 18, 19, 20, 21, 23, 24, 25, 26, 27, 28, 29] rfl (by decide +kernel) rfl rfl rfl hl rfl (Nat.le_of_ble_eq_true rfl) dX9_find_207 ⟨Nat.le_of_ble_eq_true rfl, Nat.le_of_ble_eq_true rfl⟩ (fun H locs hB hJ hSn => ?_)
                              obtain ⟨fR3_34, ⟨hP1, hD1⟩, hf34_0⟩ := hB
                              obtain ⟨hPn, hDn⟩ := hJ _ hP1 hD1 [(nx, .inr (5, [.ref ax, .int lx])), (ax, .inl (cI, 300, .inl fx)), (n1, .inr (5, [.ref a1, .int ld_4])), (a1, .inl (cI, 300, .inl fd_4)), (oH, .inr (4, [.ref oP, .ref h1, .ref h2, .int lH])), (h1, .inl (cI, 6, .inl fH1)), (h2, .inl (cI, 6, .inl fH2)), (oP, .inr (7, [.ref oC, .ref nB, .int ft_23])), (nB, .inr (5, [.ref aB, .int lB_23])), (aB, .inl (cI, 2400, .inl fB_23)), (n2, .inr (5, [.ref a2, .int ld_12])), (a2, .inl (cI, 300, .inl fd_12)), (oC, .inr (2, [.ref o4, .ref o5])), (o4, .inr (10, [.ref a41, .ref a42, .ref a43, .int l4])), (a41, .inl (cI, 256, .inl f41)), (a42, .inl (cI, 512, .inl f42)), (a43, .inl (cI, 512, .inl f43)), (o5, .inr (10, [.ref a51, .ref a52, .ref a53, .int l5])), (a51, .inl (cI, 256, .inl f51)), (a52, .inl (cI, 512, .inl f52)), (a53, .inl (cI, 512, .inl f53)), (r1, .inl (cI, 258, .inl fR1_33)), (r2, .inl (cI, 258, .inl fR2_33)), (oK, .inr (3, [.ref k1, .ref k2, .int lK])), (k1, .inl (cI, 1024, .inl fK1)), (k2, .inl (cI, 1024, .inl fK2)), (n3, .inr (5, [.ref a3, .int ld_23])), (a3, .inl (cI, 300, .inl fd_23)), (oR, .inr (9, [.ref oH, .ref oK, .ref n1, .ref n2, .ref n3, .ref r1, .ref r2, .ref r3, .ref r4, .ref r5, .ref r6, .int lR])), (r3, .inl (cI, 774, .inl fR3_34))] rfl
                              clear hP hD hS hJ hP1 hD1
                              have hP := hPn
                              have hD := hDn
                              have hS := hSn
                              clear hPn hDn hSn
                              obtain ⟨wc, hwc, hxc, hyc⟩ := wp_of hf33_0 hf34_0 (by omega)
                              obtain ⟨x_35, ex_35⟩ : ∃ y : Int32, y = fi + 1 := ⟨_, rfl⟩
                              have tx_35 : x_35.toInt = fi.toInt + 1 := v_addR (l2 := 1) (h2 := 1) ex_35 g_fi (by decide) (by decide) (by decide)
                              refine lv_iinc (v := x_35) (lv' := [(7, .int x_35), (8, .int x_32), (5, .int mi), (4, .int la), (3, .int lH), (0, .ref oR), (1, .int n), (2, .ref nx)]) hx hb dX9_find_210 hl (k := 1) rfl (by rw [ex_35]; rfl) (by decide) rfl (fun ls hl => ?_)
                              refine lv_goto (tgt := 137) hx hb dX9_find_213 (by decide) ?_
                              exact ih_137 x_35 ft_23 lB_23 ld_23 fB_23 fd_23 fR1_33 fR2_33 fR3_34 _ _ _ (ms_lt hm_137 (by show ((6 - x_35.toInt : Int)) < 6 - fi.toInt; omega) (by show (0 : Int) < 6 - fi.toInt; omega)) (by show 0 ≤ x_35.toInt ∧ x_35.toInt ≤ 6; omega) (hf23_0) (hf23_1) (by show x_35.toInt ≤ lH.toInt; omega) (rG1_w3 hGc (by omega) (by omega) (by omega) (by omega) (by omega) (by omega) (by omega) (by omega) (by omega) hp3_x_32 hwc hUa hUb hUc hxc hyc (by omega) (by omega) (by omega) (by omega)) (hP.sub [26, 27, 0, 1, 4, 5, 6, 7, 8, 9, 2, 3, 12, 13, 14, 15, 16, 17, 18, 19, 20, 21, 22, 23, 24, 25, 10, 11, 28, 29] rfl) (hD.sub [26, 27, 0, 1, 4, 5, 6, 7, 8, 9, 2, 3, 12, 13, 14, 15, 16, 17, 18, 19, 20, 21, 22, 23, 24, 25, 10, 11, 28, 29] (by decide +kernel) rfl) hS (lv_sub hl [0, 2, 3, 4, 5, 6, 7] rfl)
                    exact LOOP_137 _ 0 ft_12 lB_12 lhb fB_12 fhb fR1_17 fR2_17 fR3_18 _ _ _ (ms_s _) (by decide) (hf12_0) (g_lhb) (by show 0 ≤ lH.toInt; omega) (rG1_w2 hGb (by omega) (by omega) (by omega) (by omega) (by omega) (by omega) rfl hp2_x_16 hwb hUa hUb hxb hyb (by omega) (by omega) (by omega) rfl) hP hD hS (lv_sub hl [0, 2, 3, 4, 5, 6, 7] rfl)
                  · have tc_13 : r_12.toInt = 0 := v_eq c_13
                    refine lv_goto (tgt := 216) hx hb dX9_find_99 (by decide) ?_
                    obtain ⟨x_36, ex_36⟩ : ∃ y : Int32, y = mi + 1 := ⟨_, rfl⟩
                    have tx_36 : x_36.toInt = mi.toInt + 1 := v_addR (l2 := 1) (h2 := 1) ex_36 g_mi (by decide) (by decide) (by decide)
                    refine lv_iinc (v := x_36) (lv' := [(5, .int x_36), (4, .int la), (3, .int lH), (0, .ref oR), (1, .int n), (2, .ref nx)]) hx hb dX9_find_216 hl (k := 0) rfl (by rw [ex_36]; rfl) (by decide) rfl (fun ls hl => ?_)
                    refine lv_goto (tgt := 68) hx hb dX9_find_219 (by decide) ?_
                    exact ih_68 x_36 ft_12 lB_12 ld_12 lhb fB_12 fd_12 fhb fxb fyb fzb _ _ _ (ms_lt hm_68 (by show ((6 - x_36.toInt : Int)) < 6 - mi.toInt; omega) (by show (0 : Int) < 6 - mi.toInt; omega)) (by show 0 ≤ x_36.toInt ∧ x_36.toInt ≤ 6; omega) (hf12_0) (hf12_1) (g_lhb) (by show x_36.toInt ≤ lH.toInt; omega) (rG1_f2 hU (b0 := mi.toNatClampNeg) hGb (fun j hj => hlt j (by omega)) (by omega) (by omega) (by omega) hUa (to_0 hf12_3 (by omega))) (hP.sub [19, 20, 0, 1, 11, 12, 13, 14, 15, 16, 2, 3, 21, 22, 23, 24, 25, 26, 27, 28, 29, 4, 5, 6, 7, 8, 17, 18, 9, 10] rfl) (hD.sub [19, 20, 0, 1, 11, 12, 13, 14, 15, 16, 2, 3, 21, 22, 23, 24, 25, 26, 27, 28, 29, 4, 5, 6, 7, 8, 17, 18, 9, 10] (by decide +kernel) rfl) hS (lv_sub hl [0, 1, 2, 3, 4, 5] rfl)
          exact LOOP_68 _ 0 ft_4 lB_4 lta lha fB_4 ft_a fha fR1_6 fR2_6 fR3_7 _ _ _ (ms_s _) (by decide) (hf4_0) (g_lta) (g_lha) (by show 0 ≤ lH.toInt; omega) (rG1_w1 hG (by omega) (by omega) (by omega) rfl rfl hwa hUa hxa hya (by omega) (by omega) rfl rfl) hP hD hS (lv_sub hl [0, 1, 2, 3, 4, 5] rfl)
        · have tc_5 : r_4.toInt = 0 := v_eq c_5
          refine lv_goto (tgt := 222) hx hb dX9_find_42 (by decide) ?_
          obtain ⟨x_37, ex_37⟩ : ∃ y : Int32, y = la + 1 := ⟨_, rfl⟩
          have tx_37 : x_37.toInt = la.toInt + 1 := v_addR (l2 := 1) (h2 := 1) ex_37 g_la (by decide) (by decide) (by decide)
          refine lv_iinc (v := x_37) (lv' := [(4, .int x_37), (3, .int lH), (0, .ref oR), (1, .int n), (2, .ref nx)]) hx hb dX9_find_222 hl (k := 0) rfl (by rw [ex_37]; rfl) (by decide) rfl (fun ls hl => ?_)
          refine lv_goto (tgt := 19) hx hb dX9_find_225 (by decide) ?_
          exact ih_19 x_37 ft_4 lB_4 ld_4 lta lha fB_4 fd_4 ft_a fha fxa fya fza _ _ _ (ms_lt hm_19 (by show ((6 - x_37.toInt : Int)) < 6 - la.toInt; omega) (by show (0 : Int) < 6 - la.toInt; omega)) (by show 0 ≤ x_37.toInt ∧ x_37.toInt ≤ 6; omega) (hf4_0) (hf4_1) (g_lta) (g_lha) (by show x_37.toInt ≤ lH.toInt; omega) (rG1_f1 (a0 := la.toNatClampNeg) hG (by omega) (by omega) (to_0 hf4_3 (by omega))) (hP.sub [0, 1, 2, 19, 20, 3, 4, 5, 6, 12, 13, 14, 15, 16, 21, 22, 23, 24, 25, 26, 27, 28, 29, 7, 8, 9, 17, 18, 10, 11] rfl) (hD.sub [0, 1, 2, 19, 20, 3, 4, 5, 6, 12, 13, 14, 15, 16, 21, 22, 23, 24, 25, 26, 27, 28, 29, 7, 8, 9, 17, 18, 10, 11] (by decide +kernel) rfl) hS (lv_sub hl [0, 1, 2, 3, 4] rfl)
  exact LOOP_19 _ 0 ft lB l1 l2 l3 fB f1 f2 f3 f_1 fR2 fR3 _ _ _ (ms_s _) (by decide) (g_lB) (g_l1) (g_l2) (g_l3) (by show 0 ≤ lH.toInt; omega) (rG1_0 (by omega) rfl (fun j hj => hf1_0 j (by omega))) hP hD hS (lv_sub hl [0, 1, 2, 3, 4] rfl)

end

/-! 59s.a.rows -/
section
set_option maxRecDepth 100000 in
theorem dA281_cX9_cheapest : kDec cX9_cheapest [(0, .iconst (-1), 1), (1, .istore_n 1, 1), (2, .iconst 0, 1), (3, .istore_n 2, 1), (4, .iload_n 2, 1), (5, .sipush 258, 3), (8, .if_icmp .ge 41, 3), (49, .iload_n 1, 1), (50, .ireturn, 1), (11, .aload_n 0, 1), (12, .getfield 26, 3), (15, .iload_n 2, 1), (16, .iaload, 1), (17, .iconst (-1), 1), (18, .if_icmp .eq 25, 3), (43, .iinc 2 1, 3), (46, .goto (-42), 3), (21, .iload_n 1, 1), (22, .iconst (-1), 1), (23, .if_icmp .eq 18, 3), (41, .iload_n 2, 1), (42, .istore_n 1, 1), (26, .aload_n 0, 1), (27, .getfield 26, 3)] = true := by decide +kernel
theorem dX9_cheapest_0 : decode cX9_cheapest 0 = .ok (.iconst (-1), 1) := kDec_at dA281_cX9_cheapest 0 rfl
theorem dX9_cheapest_1 : decode cX9_cheapest 1 = .ok (.istore_n 1, 1) := kDec_at dA281_cX9_cheapest 1 rfl
theorem dX9_cheapest_2 : decode cX9_cheapest 2 = .ok (.iconst 0, 1) := kDec_at dA281_cX9_cheapest 2 rfl
theorem dX9_cheapest_3 : decode cX9_cheapest 3 = .ok (.istore_n 2, 1) := kDec_at dA281_cX9_cheapest 3 rfl
theorem dX9_cheapest_4 : decode cX9_cheapest 4 = .ok (.iload_n 2, 1) := kDec_at dA281_cX9_cheapest 4 rfl
theorem dX9_cheapest_5 : decode cX9_cheapest 5 = .ok (.sipush 258, 3) := kDec_at dA281_cX9_cheapest 5 rfl
theorem dX9_cheapest_8 : decode cX9_cheapest 8 = .ok (.if_icmp .ge 41, 3) := kDec_at dA281_cX9_cheapest 6 rfl
theorem dX9_cheapest_49 : decode cX9_cheapest 49 = .ok (.iload_n 1, 1) := kDec_at dA281_cX9_cheapest 7 rfl
theorem dX9_cheapest_50 : decode cX9_cheapest 50 = .ok (.ireturn, 1) := kDec_at dA281_cX9_cheapest 8 rfl
theorem dX9_cheapest_11 : decode cX9_cheapest 11 = .ok (.aload_n 0, 1) := kDec_at dA281_cX9_cheapest 9 rfl
theorem dX9_cheapest_12 : decode cX9_cheapest 12 = .ok (.getfield 26, 3) := kDec_at dA281_cX9_cheapest 10 rfl
theorem dX9_cheapest_15 : decode cX9_cheapest 15 = .ok (.iload_n 2, 1) := kDec_at dA281_cX9_cheapest 11 rfl
theorem dX9_cheapest_16 : decode cX9_cheapest 16 = .ok (.iaload, 1) := kDec_at dA281_cX9_cheapest 12 rfl
theorem dX9_cheapest_17 : decode cX9_cheapest 17 = .ok (.iconst (-1), 1) := kDec_at dA281_cX9_cheapest 13 rfl
theorem dX9_cheapest_18 : decode cX9_cheapest 18 = .ok (.if_icmp .eq 25, 3) := kDec_at dA281_cX9_cheapest 14 rfl
theorem dX9_cheapest_43 : decode cX9_cheapest 43 = .ok (.iinc 2 1, 3) := kDec_at dA281_cX9_cheapest 15 rfl
theorem dX9_cheapest_46 : decode cX9_cheapest 46 = .ok (.goto (-42), 3) := kDec_at dA281_cX9_cheapest 16 rfl
theorem dX9_cheapest_21 : decode cX9_cheapest 21 = .ok (.iload_n 1, 1) := kDec_at dA281_cX9_cheapest 17 rfl
theorem dX9_cheapest_22 : decode cX9_cheapest 22 = .ok (.iconst (-1), 1) := kDec_at dA281_cX9_cheapest 18 rfl
theorem dX9_cheapest_23 : decode cX9_cheapest 23 = .ok (.if_icmp .eq 18, 3) := kDec_at dA281_cX9_cheapest 19 rfl
theorem dX9_cheapest_41 : decode cX9_cheapest 41 = .ok (.iload_n 2, 1) := kDec_at dA281_cX9_cheapest 20 rfl
theorem dX9_cheapest_42 : decode cX9_cheapest 42 = .ok (.istore_n 1, 1) := kDec_at dA281_cX9_cheapest 21 rfl
theorem dX9_cheapest_26 : decode cX9_cheapest 26 = .ok (.aload_n 0, 1) := kDec_at dA281_cX9_cheapest 22 rfl
theorem dX9_cheapest_27 : decode cX9_cheapest 27 = .ok (.getfield 26, 3) := kDec_at dA281_cX9_cheapest 23 rfl
set_option maxRecDepth 100000 in
theorem dA282_cX9_cheapest : kDec cX9_cheapest [(30, .iload_n 2, 1), (31, .iaload, 1), (32, .aload_n 0, 1), (33, .getfield 26, 3), (36, .iload_n 1, 1), (37, .iaload, 1), (38, .if_icmp .ge 5, 3)] = true := by decide +kernel
theorem dX9_cheapest_30 : decode cX9_cheapest 30 = .ok (.iload_n 2, 1) := kDec_at dA282_cX9_cheapest 0 rfl
theorem dX9_cheapest_31 : decode cX9_cheapest 31 = .ok (.iaload, 1) := kDec_at dA282_cX9_cheapest 1 rfl
theorem dX9_cheapest_32 : decode cX9_cheapest 32 = .ok (.aload_n 0, 1) := kDec_at dA282_cX9_cheapest 2 rfl
theorem dX9_cheapest_33 : decode cX9_cheapest 33 = .ok (.getfield 26, 3) := kDec_at dA282_cX9_cheapest 3 rfl
theorem dX9_cheapest_36 : decode cX9_cheapest 36 = .ok (.iload_n 1, 1) := kDec_at dA282_cX9_cheapest 4 rfl
theorem dX9_cheapest_37 : decode cX9_cheapest 37 = .ok (.iaload, 1) := kDec_at dA282_cX9_cheapest 5 rfl
theorem dX9_cheapest_38 : decode cX9_cheapest 38 = .ok (.if_icmp .ge 5, 3) := kDec_at dA282_cX9_cheapest 6 rfl
set_option maxRecDepth 100000 in
theorem dA283_cX9_costAt : kDec cX9_costAt [(0, .iload_n 1, 1), (1, .ifCond .lt 19, 3), (4, .iload_n 1, 1), (5, .sipush 258, 3), (8, .if_icmp .ge 12, 3), (11, .aload_n 0, 1), (12, .getfield 26, 3), (15, .iload_n 1, 1), (16, .iaload, 1), (17, .goto 4, 3), (21, .ireturn, 1)] = true := by decide +kernel
theorem dX9_costAt_0 : decode cX9_costAt 0 = .ok (.iload_n 1, 1) := kDec_at dA283_cX9_costAt 0 rfl
theorem dX9_costAt_1 : decode cX9_costAt 1 = .ok (.ifCond .lt 19, 3) := kDec_at dA283_cX9_costAt 1 rfl
theorem dX9_costAt_4 : decode cX9_costAt 4 = .ok (.iload_n 1, 1) := kDec_at dA283_cX9_costAt 2 rfl
theorem dX9_costAt_5 : decode cX9_costAt 5 = .ok (.sipush 258, 3) := kDec_at dA283_cX9_costAt 3 rfl
theorem dX9_costAt_8 : decode cX9_costAt 8 = .ok (.if_icmp .ge 12, 3) := kDec_at dA283_cX9_costAt 4 rfl
theorem dX9_costAt_11 : decode cX9_costAt 11 = .ok (.aload_n 0, 1) := kDec_at dA283_cX9_costAt 5 rfl
theorem dX9_costAt_12 : decode cX9_costAt 12 = .ok (.getfield 26, 3) := kDec_at dA283_cX9_costAt 6 rfl
theorem dX9_costAt_15 : decode cX9_costAt 15 = .ok (.iload_n 1, 1) := kDec_at dA283_cX9_costAt 7 rfl
theorem dX9_costAt_16 : decode cX9_costAt 16 = .ok (.iaload, 1) := kDec_at dA283_cX9_costAt 8 rfl
theorem dX9_costAt_17 : decode cX9_costAt 17 = .ok (.goto 4, 3) := kDec_at dA283_cX9_costAt 9 rfl
theorem dX9_costAt_21 : decode cX9_costAt 21 = .ok (.ireturn, 1) := kDec_at dA283_cX9_costAt 10 rfl
set_option maxRecDepth 100000 in
theorem dA284_cX9_numberOf : kDec cX9_numberOf [(0, .iconst 0, 1), (1, .istore_n 2, 1), (2, .iconst 0, 1), (3, .istore_n 3, 1), (4, .iload_n 3, 1), (5, .iload_n 1, 1), (6, .if_icmp .ge 29, 3), (35, .iload_n 2, 1), (36, .ireturn, 1), (9, .iload_n 3, 1), (10, .sipush 258, 3), (13, .if_icmp .ge 22, 3), (16, .aload_n 0, 1), (17, .getfield 26, 3), (20, .iload_n 3, 1), (21, .iaload, 1), (22, .iconst (-1), 1), (23, .if_icmp .eq 6, 3), (29, .iinc 3 1, 3), (32, .goto (-28), 3), (26, .iinc 2 1, 3)] = true := by decide +kernel
theorem dX9_numberOf_0 : decode cX9_numberOf 0 = .ok (.iconst 0, 1) := kDec_at dA284_cX9_numberOf 0 rfl
theorem dX9_numberOf_1 : decode cX9_numberOf 1 = .ok (.istore_n 2, 1) := kDec_at dA284_cX9_numberOf 1 rfl
theorem dX9_numberOf_2 : decode cX9_numberOf 2 = .ok (.iconst 0, 1) := kDec_at dA284_cX9_numberOf 2 rfl
theorem dX9_numberOf_3 : decode cX9_numberOf 3 = .ok (.istore_n 3, 1) := kDec_at dA284_cX9_numberOf 3 rfl
theorem dX9_numberOf_4 : decode cX9_numberOf 4 = .ok (.iload_n 3, 1) := kDec_at dA284_cX9_numberOf 4 rfl
theorem dX9_numberOf_5 : decode cX9_numberOf 5 = .ok (.iload_n 1, 1) := kDec_at dA284_cX9_numberOf 5 rfl
theorem dX9_numberOf_6 : decode cX9_numberOf 6 = .ok (.if_icmp .ge 29, 3) := kDec_at dA284_cX9_numberOf 6 rfl
theorem dX9_numberOf_35 : decode cX9_numberOf 35 = .ok (.iload_n 2, 1) := kDec_at dA284_cX9_numberOf 7 rfl
theorem dX9_numberOf_36 : decode cX9_numberOf 36 = .ok (.ireturn, 1) := kDec_at dA284_cX9_numberOf 8 rfl
theorem dX9_numberOf_9 : decode cX9_numberOf 9 = .ok (.iload_n 3, 1) := kDec_at dA284_cX9_numberOf 9 rfl
theorem dX9_numberOf_10 : decode cX9_numberOf 10 = .ok (.sipush 258, 3) := kDec_at dA284_cX9_numberOf 10 rfl
theorem dX9_numberOf_13 : decode cX9_numberOf 13 = .ok (.if_icmp .ge 22, 3) := kDec_at dA284_cX9_numberOf 11 rfl
theorem dX9_numberOf_16 : decode cX9_numberOf 16 = .ok (.aload_n 0, 1) := kDec_at dA284_cX9_numberOf 12 rfl
theorem dX9_numberOf_17 : decode cX9_numberOf 17 = .ok (.getfield 26, 3) := kDec_at dA284_cX9_numberOf 13 rfl
theorem dX9_numberOf_20 : decode cX9_numberOf 20 = .ok (.iload_n 3, 1) := kDec_at dA284_cX9_numberOf 14 rfl
theorem dX9_numberOf_21 : decode cX9_numberOf 21 = .ok (.iaload, 1) := kDec_at dA284_cX9_numberOf 15 rfl
theorem dX9_numberOf_22 : decode cX9_numberOf 22 = .ok (.iconst (-1), 1) := kDec_at dA284_cX9_numberOf 16 rfl
theorem dX9_numberOf_23 : decode cX9_numberOf 23 = .ok (.if_icmp .eq 6, 3) := kDec_at dA284_cX9_numberOf 17 rfl
theorem dX9_numberOf_29 : decode cX9_numberOf 29 = .ok (.iinc 3 1, 3) := kDec_at dA284_cX9_numberOf 18 rfl
theorem dX9_numberOf_32 : decode cX9_numberOf 32 = .ok (.goto (-28), 3) := kDec_at dA284_cX9_numberOf 19 rfl
theorem dX9_numberOf_26 : decode cX9_numberOf 26 = .ok (.iinc 2 1, 3) := kDec_at dA284_cX9_numberOf 20 rfl
set_option maxRecDepth 100000 in
theorem dA285_cX9_build : kDec cX9_build [(0, .iload_n 1, 1), (1, .ifCond .lt 10, 3), (4, .iload_n 1, 1), (5, .sipush 258, 3), (8, .if_icmp .lt 5, 3), (13, .aload_n 0, 1), (14, .getfield 14, 3), (17, .aload_n 2, 1), (18, .invokevirtual 88, 3), (21, .pop, 1), (22, .iconst 2, 1), (23, .istore 4, 2), (25, .iload 4, 2), (27, .ifCond .lt 62, 3), (89, .aload_n 3, 1), (90, .aload_n 0, 1), (91, .getfield 14, 3), (94, .invokevirtual 88, 3), (97, .ireturn, 1), (30, .aload_n 0, 1), (31, .getfield 33, 3), (34, .iload_n 1, 1), (35, .iconst 3, 1), (36, .imul, 1)] = true := by decide +kernel
theorem dX9_build_0 : decode cX9_build 0 = .ok (.iload_n 1, 1) := kDec_at dA285_cX9_build 0 rfl
theorem dX9_build_1 : decode cX9_build 1 = .ok (.ifCond .lt 10, 3) := kDec_at dA285_cX9_build 1 rfl
theorem dX9_build_4 : decode cX9_build 4 = .ok (.iload_n 1, 1) := kDec_at dA285_cX9_build 2 rfl
theorem dX9_build_5 : decode cX9_build 5 = .ok (.sipush 258, 3) := kDec_at dA285_cX9_build 3 rfl
theorem dX9_build_8 : decode cX9_build 8 = .ok (.if_icmp .lt 5, 3) := kDec_at dA285_cX9_build 4 rfl
theorem dX9_build_13 : decode cX9_build 13 = .ok (.aload_n 0, 1) := kDec_at dA285_cX9_build 5 rfl
theorem dX9_build_14 : decode cX9_build 14 = .ok (.getfield 14, 3) := kDec_at dA285_cX9_build 6 rfl
theorem dX9_build_17 : decode cX9_build 17 = .ok (.aload_n 2, 1) := kDec_at dA285_cX9_build 7 rfl
theorem dX9_build_18 : decode cX9_build 18 = .ok (.invokevirtual 88, 3) := kDec_at dA285_cX9_build 8 rfl
theorem dX9_build_21 : decode cX9_build 21 = .ok (.pop, 1) := kDec_at dA285_cX9_build 9 rfl
theorem dX9_build_22 : decode cX9_build 22 = .ok (.iconst 2, 1) := kDec_at dA285_cX9_build 10 rfl
theorem dX9_build_23 : decode cX9_build 23 = .ok (.istore 4, 2) := kDec_at dA285_cX9_build 11 rfl
theorem dX9_build_25 : decode cX9_build 25 = .ok (.iload 4, 2) := kDec_at dA285_cX9_build 12 rfl
theorem dX9_build_27 : decode cX9_build 27 = .ok (.ifCond .lt 62, 3) := kDec_at dA285_cX9_build 13 rfl
theorem dX9_build_89 : decode cX9_build 89 = .ok (.aload_n 3, 1) := kDec_at dA285_cX9_build 14 rfl
theorem dX9_build_90 : decode cX9_build 90 = .ok (.aload_n 0, 1) := kDec_at dA285_cX9_build 15 rfl
theorem dX9_build_91 : decode cX9_build 91 = .ok (.getfield 14, 3) := kDec_at dA285_cX9_build 16 rfl
theorem dX9_build_94 : decode cX9_build 94 = .ok (.invokevirtual 88, 3) := kDec_at dA285_cX9_build 17 rfl
theorem dX9_build_97 : decode cX9_build 97 = .ok (.ireturn, 1) := kDec_at dA285_cX9_build 18 rfl
theorem dX9_build_30 : decode cX9_build 30 = .ok (.aload_n 0, 1) := kDec_at dA285_cX9_build 19 rfl
theorem dX9_build_31 : decode cX9_build 31 = .ok (.getfield 33, 3) := kDec_at dA285_cX9_build 20 rfl
theorem dX9_build_34 : decode cX9_build 34 = .ok (.iload_n 1, 1) := kDec_at dA285_cX9_build 21 rfl
theorem dX9_build_35 : decode cX9_build 35 = .ok (.iconst 3, 1) := kDec_at dA285_cX9_build 22 rfl
theorem dX9_build_36 : decode cX9_build 36 = .ok (.imul, 1) := kDec_at dA285_cX9_build 23 rfl
set_option maxRecDepth 20000 in
theorem ggX9_build_X5_takeAll : GoodIn wsX9_build wsX5_takeAll := goodIn_r _ [9, 10, 11, 12, 13, 8, 14, 15, 16, 17, 18, 19, 145, 146] rfl (by decide +kernel)
set_option maxRecDepth 20000 in
theorem gX9_build_X5_takeAll : GoodIn wsX9_build (wsV RX9 88 RX5 yX5_takeAll wsX5_takeAll) := goodIn_app (goodIn_r _ [5, 6, 7, 8] rfl (by decide +kernel)) ggX9_build_X5_takeAll
set_option maxRecDepth 100000 in
theorem dA286_cX9_build : kDec cX9_build [(37, .iload 4, 2), (39, .iadd, 1), (40, .iaload, 1), (41, .istore 5, 2), (43, .iload 5, 2), (45, .iconst (-1), 1), (46, .if_icmp .eq 37, 3), (83, .iinc 4 (-1), 3), (86, .goto (-61), 3), (49, .aload_n 0, 1), (50, .getfield 45, 3), (53, .iload 5, 2), (55, .aload_n 0, 1), (56, .getfield 14, 3), (59, .aload_n 0, 1), (60, .getfield 20, 3), (63, .invokevirtual 69, 3), (66, .ifCond .ne 5, 3), (71, .aload_n 0, 1), (72, .getfield 14, 3), (75, .aload_n 0, 1), (76, .getfield 20, 3), (79, .invokevirtual 88, 3), (82, .pop, 1)] = true := by decide +kernel
theorem dX9_build_37 : decode cX9_build 37 = .ok (.iload 4, 2) := kDec_at dA286_cX9_build 0 rfl
theorem dX9_build_39 : decode cX9_build 39 = .ok (.iadd, 1) := kDec_at dA286_cX9_build 1 rfl
theorem dX9_build_40 : decode cX9_build 40 = .ok (.iaload, 1) := kDec_at dA286_cX9_build 2 rfl
theorem dX9_build_41 : decode cX9_build 41 = .ok (.istore 5, 2) := kDec_at dA286_cX9_build 3 rfl
theorem dX9_build_43 : decode cX9_build 43 = .ok (.iload 5, 2) := kDec_at dA286_cX9_build 4 rfl
theorem dX9_build_45 : decode cX9_build 45 = .ok (.iconst (-1), 1) := kDec_at dA286_cX9_build 5 rfl
theorem dX9_build_46 : decode cX9_build 46 = .ok (.if_icmp .eq 37, 3) := kDec_at dA286_cX9_build 6 rfl
theorem dX9_build_83 : decode cX9_build 83 = .ok (.iinc 4 (-1), 3) := kDec_at dA286_cX9_build 7 rfl
theorem dX9_build_86 : decode cX9_build 86 = .ok (.goto (-61), 3) := kDec_at dA286_cX9_build 8 rfl
theorem dX9_build_49 : decode cX9_build 49 = .ok (.aload_n 0, 1) := kDec_at dA286_cX9_build 9 rfl
theorem dX9_build_50 : decode cX9_build 50 = .ok (.getfield 45, 3) := kDec_at dA286_cX9_build 10 rfl
theorem dX9_build_53 : decode cX9_build 53 = .ok (.iload 5, 2) := kDec_at dA286_cX9_build 11 rfl
theorem dX9_build_55 : decode cX9_build 55 = .ok (.aload_n 0, 1) := kDec_at dA286_cX9_build 12 rfl
theorem dX9_build_56 : decode cX9_build 56 = .ok (.getfield 14, 3) := kDec_at dA286_cX9_build 13 rfl
theorem dX9_build_59 : decode cX9_build 59 = .ok (.aload_n 0, 1) := kDec_at dA286_cX9_build 14 rfl
theorem dX9_build_60 : decode cX9_build 60 = .ok (.getfield 20, 3) := kDec_at dA286_cX9_build 15 rfl
theorem dX9_build_63 : decode cX9_build 63 = .ok (.invokevirtual 69, 3) := kDec_at dA286_cX9_build 16 rfl
theorem dX9_build_66 : decode cX9_build 66 = .ok (.ifCond .ne 5, 3) := kDec_at dA286_cX9_build 17 rfl
theorem dX9_build_71 : decode cX9_build 71 = .ok (.aload_n 0, 1) := kDec_at dA286_cX9_build 18 rfl
theorem dX9_build_72 : decode cX9_build 72 = .ok (.getfield 14, 3) := kDec_at dA286_cX9_build 19 rfl
theorem dX9_build_75 : decode cX9_build 75 = .ok (.aload_n 0, 1) := kDec_at dA286_cX9_build 20 rfl
theorem dX9_build_76 : decode cX9_build 76 = .ok (.getfield 20, 3) := kDec_at dA286_cX9_build 21 rfl
theorem dX9_build_79 : decode cX9_build 79 = .ok (.invokevirtual 88, 3) := kDec_at dA286_cX9_build 22 rfl
theorem dX9_build_82 : decode cX9_build 82 = .ok (.pop, 1) := kDec_at dA286_cX9_build 23 rfl
set_option maxRecDepth 20000 in
theorem ggX9_build_X4_takeOff : GoodIn wsX9_build wsX4_takeOff := goodIn_r _ [24, 25, 26, 27, 28, 29, 30, 31, 32, 33, 34, 35, 36, 37, 38, 39, 40, 41, 42, 43, 8, 44, 10, 45, 46, 47, 48, 49, 50, 51, 52, 15, 53, 54, 55, 56, 57, 58, 59, 60, 61, 62, 63, 64, 65, 66, 67, 68, 69, 70, 71, 72, 73, 74, 75, 76, 77, 78, 79, 80, 81, 82, 83, 84, 85, 86, 87, 88, 89, 90, 91, 92, 93, 94, 95, 96, 97, 98, 99, 100, 101, 102, 103, 104, 105, 106, 107, 108, 109, 110, 111, 112, 113, 114, 115, 116, 117, 118, 119, 120, 121, 122, 123, 124, 125, 126, 127, 128, 129, 130, 131, 132, 147, 148, 149, 150, 151, 152, 153, 145, 146, 154, 155, 156, 157, 158, 159] rfl (by decide +kernel)
set_option maxRecDepth 20000 in
theorem gX9_build_X4_takeOff : GoodIn wsX9_build (wsV RX9 69 RX4 yX4_takeOff wsX4_takeOff) := goodIn_app (goodIn_r _ [20, 21, 22, 23] rfl (by decide +kernel)) ggX9_build_X4_takeOff
set_option maxRecDepth 100000 in
theorem dA287_cX9_build : kDec cX9_build [(69, .iconst 0, 1), (70, .ireturn, 1)] = true := by decide +kernel
theorem dX9_build_69 : decode cX9_build 69 = .ok (.iconst 0, 1) := kDec_at dA287_cX9_build 0 rfl
theorem dX9_build_70 : decode cX9_build 70 = .ok (.ireturn, 1) := kDec_at dA287_cX9_build 1 rfl

end

/-! 59s.rows -/
section
theorem CHq_n {R : Nat → Int32} {m m' be : Int} (h : CHq R m be) (e : m = m') : CHq R m' be := by rw [← e]; exact h

set_option maxHeartbeats 40000000 in
set_option maxRecDepth 100000 in
theorem f_X9_cheapest (l : Launch) (dC : Nat → ClassId) (dI : Nat → Nat → Nat) (cI cS : ClassId) (sz : Nat) (oR : Nat) (oH : Nat) (oK : Nat) (n1 : Nat) (n2 : Nat) (n3 : Nat) (r1 : Nat) (r2 : Nat) (r3 : Nat) (r4 : Nat) (r5 : Nat) (r6 : Nat) (lR : Int32) (fR1 : Nat → Int32) (g_lR : 0 ≤ lR.toInt ∧ lR.toInt ≤ 258) : kMi l yX9_cheapest wsX9_cheapest ({ frames := 0, cells := 0, slots := 0, locals := 0 } : Room) [.ref oR] sz (dC, dI) vwCl [(cI, .int), (cS, .short)] [(oR, .inr (9, [.ref oH, .ref oK, .ref n1, .ref n2, .ref n3, .ref r1, .ref r2, .ref r3, .ref r4, .ref r5, .ref r6, .int lR])), (r1, .inl (cI, 258, .inl fR1))] (fun _ => True) 0 0 (fun (A : Nat → Prop) (r : Int32) (hh9 : Heap) => kPD (dC, dI) vwCl A [(oR, .inr (9, [.ref oH, .ref oK, .ref n1, .ref n2, .ref n3, .ref r1, .ref r2, .ref r3, .ref r4, .ref r5, .ref r6, .int lR])), (r1, .inl (cI, 258, .inl fR1))] hh9 ∧ (-1 ≤ r.toInt ∧ r.toInt ≤ 257) ∧ (CHq fR1 258 r.toInt)) := by
  refine kMi_of (cc := cX9_cheapest) (maxL := 3) (ret := (some .int)) (lv := [(0, .ref oR)]) (by decide +kernel) rfl rfl (Nat.le_of_ble_eq_true rfl) ?_
  intro p e s m below meth c A QQ ls hx hb hr hts hml hown hlocks hA hQQ hK hX hP hD hS hl
  have hown : s.vm.findClass RX9 = some m.cls := hown
  have hcf := k_cf hx hb hml hown hts
  have in_X9 : ∀ w ∈ wsX90, w ∈ wsX9_cheapest := fun _ h => List.mem_cons_of_mem _ (List.mem_append_right _ (h))
  replace g_lR := hid g_lR
  have z0 : (0 : Int32).toInt = 0 := rfl
  have z1 : (1 : Int32).toInt = 1 := rfl
  have zm1 : (-1 : Int32).toInt = -1 := rfl
  refine lv_iconst (v := (-1)) hx hb dX9_cheapest_0 (by decide) ?_
  refine lv_istore_n (lv' := [(1, .int (-1)), (0, .ref oR)]) hx hb dX9_cheapest_1 rfl hl (by decide) rfl (fun ls hl => ?_)
  refine lv_iconst (v := 0) hx hb dX9_cheapest_2 (by decide) ?_
  refine lv_istore_n (lv' := [(2, .int 0), (1, .int (-1)), (0, .ref oR)]) hx hb dX9_cheapest_3 rfl hl (by decide) rfl (fun ls hl => ?_)
  have LOOP_4 : ∀ (k_4 : Nat) (be : Int32) (pl : Int32) (H : Heap) (locs : List Loc) (ls : Array Slot), MSd (258 - pl.toInt : Int) k_4 → (-1 ≤ be.toInt ∧ be.toInt ≤ 257) → (0 ≤ pl.toInt ∧ pl.toInt ≤ 258) → (CHq fR1 pl.toInt be.toInt) → va_P (dC, dI) vwCl [(oR, .inr (9, [.ref oH, .ref oK, .ref n1, .ref n2, .ref n3, .ref r1, .ref r2, .ref r3, .ref r4, .ref r5, .ref r6, .int lR])), (r1, .inl (cI, 258, .inl fR1))] H → va_D A [(oR, .inr (9, [.ref oH, .ref oK, .ref n1, .ref n2, .ref n3, .ref r1, .ref r2, .ref r3, .ref r4, .ref r5, .ref r6, .int lR])), (r1, .inl (cI, 258, .inl fR1))] → va_S A s.heap H locs → lv_has ls 3 [(2, .int pl), (1, .int be), (0, .ref oR)] → W p l e (headSpec wsX9_cheapest ({ frames := 0, cells := 0, slots := 0, locals := 0 } : Room)).room s m ([.ref oR] : List Value).toArray below meth c H locs 0 0 (MQ below QQ ([.ref oR] : List Value).toArray s 0 0 A) (F0 m 4 ls []) := by
    clear hP hD hS hl
    intro k_4
    induction k_4 with
    | zero =>
      intro be pl H locs ls hm_4 g_be g_pl hch hP hD hS hl
      exact ms_0 hm_4
    | succ k_4 ih_4 =>
      intro be pl H locs ls hm_4 g_be g_pl hch hP hD hS hl
      refine lv_iload_n hx hb dX9_cheapest_4 rfl (lv_at hl 0 rfl) ?_
      refine lv_sipush (v := 258) hx hb dX9_cheapest_5 (by decide) ?_
      refine lv_icmp_ge (tgt := 49) hx hb dX9_cheapest_8 (by decide) (fun c_1 => ?_) (fun c_1 => ?_)
      · have tc_1 : 258 ≤ pl.toInt := v_le c_1
        refine lv_iload_n hx hb dX9_cheapest_49 rfl (lv_at hl 1 rfl) ?_
        exact kl_i (v := be) hQQ hx hb hr hlocks hS dX9_cheapest_50 ⟨⟨hP, hD⟩, g_be, CHq_n hch (by omega)⟩
      · have tc_1 : pl.toInt < 258 := v_nle c_1
        refine lv_aload_n hx hb dX9_cheapest_11 rfl (lv_at hl 2 rfl) ?_
        refine va_get (D := (dC, dI)) (ci := 9) (v := .ref r1) (C := RX9) (T := TX9) (N := 12) hx hb hts in_X9 hown hK hP 0 rfl rfl 5 (by decide) (hts (.fieldLink RX9 26 "TextMender$Rows" "foundCost" "[I") (List.mem_of_getElem? (i := 1) rfl)) (fun _ h9 => h9) rfl dX9_cheapest_12 ?_
        refine lv_iload_n hx hb dX9_cheapest_15 rfl (lv_at hl 0 rfl) ?_
        refine va_iald hx hb hK hP 1 0 rfl rfl (v_in (by omega)) dX9_cheapest_16 ?_
        refine lv_topi (fun x_2 ex_2 => ?_)
        refine lv_iconst (v := (-1)) hx hb dX9_cheapest_17 (by decide) ?_
        refine lv_icmp_eq (tgt := 43) hx hb dX9_cheapest_18 (by decide) (fun c_3 => ?_) (fun c_3 => ?_)
        · have tc_3 : x_2.toInt = (-1) := v_eq c_3
          obtain ⟨x_4, ex_4⟩ : ∃ y : Int32, y = pl + 1 := ⟨_, rfl⟩
          have tx_4 : x_4.toInt = pl.toInt + 1 := v_addR (l2 := 1) (h2 := 1) ex_4 g_pl (by decide) (by decide) (by decide)
          refine lv_iinc (v := x_4) (lv' := [(2, .int x_4), (1, .int be), (0, .ref oR)]) hx hb dX9_cheapest_43 hl (k := 0) rfl (by rw [ex_4]; rfl) (by decide) rfl (fun ls hl => ?_)
          refine lv_goto (tgt := 4) hx hb dX9_cheapest_46 (by decide) ?_
          exact ih_4 be x_4 _ _ _ (ms_lt hm_4 (by show ((258 - x_4.toInt : Int)) < 258 - pl.toInt; omega) (by show (0 : Int) < 258 - pl.toInt; omega)) (g_be) (by show 0 ≤ x_4.toInt ∧ x_4.toInt ≤ 258; omega) (CHq_no hch ex_2 c_3 (by omega) (by omega)) hP hD hS (lv_sub hl [0, 1, 2] rfl)
        · have tc_3 : ¬ x_2.toInt = (-1) := v_ne c_3
          refine lv_iload_n hx hb dX9_cheapest_21 rfl (lv_at hl 1 rfl) ?_
          refine lv_iconst (v := (-1)) hx hb dX9_cheapest_22 (by decide) ?_
          refine lv_icmp_eq (tgt := 41) hx hb dX9_cheapest_23 (by decide) (fun c_5 => ?_) (fun c_5 => ?_)
          · have tc_5 : be.toInt = (-1) := v_eq c_5
            refine lv_iload_n hx hb dX9_cheapest_41 rfl (lv_at hl 0 rfl) ?_
            refine lv_istore_n (lv' := [(1, .int pl), (2, .int pl), (0, .ref oR)]) hx hb dX9_cheapest_42 rfl hl (by decide) rfl (fun ls hl => ?_)
            obtain ⟨x_6, ex_6⟩ : ∃ y : Int32, y = pl + 1 := ⟨_, rfl⟩
            have tx_6 : x_6.toInt = pl.toInt + 1 := v_addR (l2 := 1) (h2 := 1) ex_6 g_pl (by decide) (by decide) (by decide)
            refine lv_iinc (v := x_6) (lv' := [(2, .int x_6), (1, .int pl), (0, .ref oR)]) hx hb dX9_cheapest_43 hl (k := 1) rfl (by rw [ex_6]; rfl) (by decide) rfl (fun ls hl => ?_)
            refine lv_goto (tgt := 4) hx hb dX9_cheapest_46 (by decide) ?_
            exact ih_4 pl x_6 _ _ _ (ms_lt hm_4 (by show ((258 - x_6.toInt : Int)) < 258 - pl.toInt; omega) (by show (0 : Int) < 258 - pl.toInt; omega)) (by show -1 ≤ pl.toInt ∧ pl.toInt ≤ 257; omega) (by show 0 ≤ x_6.toInt ∧ x_6.toInt ≤ 258; omega) (CHq_new hch ex_2 c_3 (Or.inl (by omega)) (by omega) (by omega)) hP hD hS (lv_sub hl [0, 1, 2] rfl)
          · have tc_5 : ¬ be.toInt = (-1) := v_ne c_5
            refine lv_aload_n hx hb dX9_cheapest_26 rfl (lv_at hl 2 rfl) ?_
            refine va_get (D := (dC, dI)) (ci := 9) (v := .ref r1) (C := RX9) (T := TX9) (N := 12) hx hb hts in_X9 hown hK hP 0 rfl rfl 5 (by decide) (hts (.fieldLink RX9 26 "TextMender$Rows" "foundCost" "[I") (List.mem_of_getElem? (i := 1) rfl)) (fun _ h9 => h9) rfl dX9_cheapest_27 ?_
            refine lv_iload_n hx hb dX9_cheapest_30 rfl (lv_at hl 0 rfl) ?_
            refine va_iald hx hb hK hP 1 0 rfl rfl (v_in (by omega)) dX9_cheapest_31 ?_
            refine k_i (y := x_2) ex_2.symm ?_
            refine lv_aload_n hx hb dX9_cheapest_32 rfl (lv_at hl 2 rfl) ?_
            refine va_get (D := (dC, dI)) (ci := 9) (v := .ref r1) (C := RX9) (T := TX9) (N := 12) hx hb hts in_X9 hown hK hP 0 rfl rfl 5 (by decide) (hts (.fieldLink RX9 26 "TextMender$Rows" "foundCost" "[I") (List.mem_of_getElem? (i := 1) rfl)) (fun _ h9 => h9) rfl dX9_cheapest_33 ?_
            refine lv_iload_n hx hb dX9_cheapest_36 rfl (lv_at hl 1 rfl) ?_
            refine va_iald hx hb hK hP 1 0 rfl rfl (v_in (by omega)) dX9_cheapest_37 ?_
            refine lv_topi (fun x_7 ex_7 => ?_)
            refine lv_icmp_ge (tgt := 43) hx hb dX9_cheapest_38 (by decide) (fun c_8 => ?_) (fun c_8 => ?_)
            · have tc_8 : x_7.toInt ≤ x_2.toInt := v_le c_8
              have rw8_0 := v_rng x_2
              have rw8_1 := v_rng x_7
              obtain ⟨x_9, ex_9⟩ : ∃ y : Int32, y = pl + 1 := ⟨_, rfl⟩
              have tx_9 : x_9.toInt = pl.toInt + 1 := v_addR (l2 := 1) (h2 := 1) ex_9 g_pl (by decide) (by decide) (by decide)
              refine lv_iinc (v := x_9) (lv' := [(2, .int x_9), (1, .int be), (0, .ref oR)]) hx hb dX9_cheapest_43 hl (k := 0) rfl (by rw [ex_9]; rfl) (by decide) rfl (fun ls hl => ?_)
              refine lv_goto (tgt := 4) hx hb dX9_cheapest_46 (by decide) ?_
              exact ih_4 be x_9 _ _ _ (ms_lt hm_4 (by show ((258 - x_9.toInt : Int)) < 258 - pl.toInt; omega) (by show (0 : Int) < 258 - pl.toInt; omega)) (g_be) (by show 0 ≤ x_9.toInt ∧ x_9.toInt ≤ 258; omega) (CHq_keep hch ex_2 ex_7 (by omega) (by omega) (by omega) (by omega)) hP hD hS (lv_sub hl [0, 1, 2] rfl)
            · have tc_8 : x_2.toInt < x_7.toInt := v_nle c_8
              have rw8_0 := v_rng x_2
              have rw8_1 := v_rng x_7
              refine lv_iload_n hx hb dX9_cheapest_41 rfl (lv_at hl 0 rfl) ?_
              refine lv_istore_n (lv' := [(1, .int pl), (2, .int pl), (0, .ref oR)]) hx hb dX9_cheapest_42 rfl hl (by decide) rfl (fun ls hl => ?_)
              obtain ⟨x_10, ex_10⟩ : ∃ y : Int32, y = pl + 1 := ⟨_, rfl⟩
              have tx_10 : x_10.toInt = pl.toInt + 1 := v_addR (l2 := 1) (h2 := 1) ex_10 g_pl (by decide) (by decide) (by decide)
              refine lv_iinc (v := x_10) (lv' := [(2, .int x_10), (1, .int pl), (0, .ref oR)]) hx hb dX9_cheapest_43 hl (k := 1) rfl (by rw [ex_10]; rfl) (by decide) rfl (fun ls hl => ?_)
              refine lv_goto (tgt := 4) hx hb dX9_cheapest_46 (by decide) ?_
              exact ih_4 pl x_10 _ _ _ (ms_lt hm_4 (by show ((258 - x_10.toInt : Int)) < 258 - pl.toInt; omega) (by show (0 : Int) < 258 - pl.toInt; omega)) (by show -1 ≤ pl.toInt ∧ pl.toInt ≤ 257; omega) (by show 0 ≤ x_10.toInt ∧ x_10.toInt ≤ 258; omega) (CHq_new hch ex_2 c_3 (Or.inr ⟨_, ex_7, by omega⟩) (by omega) (by omega)) hP hD hS (lv_sub hl [0, 1, 2] rfl)
  exact LOOP_4 _ (-1) 0 _ _ _ (ms_s _) (by decide) (by decide) (CHq_0 rfl (by decide)) hP hD hS (lv_sub hl [0, 1, 2] rfl)

set_option maxHeartbeats 40000000 in
set_option maxRecDepth 100000 in
theorem f_X9_costAt (l : Launch) (dC : Nat → ClassId) (dI : Nat → Nat → Nat) (cI cS : ClassId) (sz : Nat) (oR : Nat) (oH : Nat) (oK : Nat) (n1 : Nat) (n2 : Nat) (n3 : Nat) (r1 : Nat) (r2 : Nat) (r3 : Nat) (r4 : Nat) (r5 : Nat) (r6 : Nat) (lR : Int32) (fR1 : Nat → Int32) (pl : Int32) (g_lR : 0 ≤ lR.toInt ∧ lR.toInt ≤ 258) (g_pl : 0 ≤ pl.toInt ∧ pl.toInt ≤ 257) : kMi l yX9_costAt wsX9_costAt ({ frames := 0, cells := 0, slots := 0, locals := 0 } : Room) [.ref oR, .int pl] sz (dC, dI) vwCl [(cI, .int), (cS, .short)] [(oR, .inr (9, [.ref oH, .ref oK, .ref n1, .ref n2, .ref n3, .ref r1, .ref r2, .ref r3, .ref r4, .ref r5, .ref r6, .int lR])), (r1, .inl (cI, 258, .inl fR1))] (fun _ => True) 0 0 (fun (A : Nat → Prop) (r : Int32) (hh9 : Heap) => kPD (dC, dI) vwCl A [(oR, .inr (9, [.ref oH, .ref oK, .ref n1, .ref n2, .ref n3, .ref r1, .ref r2, .ref r3, .ref r4, .ref r5, .ref r6, .int lR])), (r1, .inl (cI, 258, .inl fR1))] hh9 ∧ (r = fR1 pl.toNatClampNeg)) := by
  refine kMi_of (cc := cX9_costAt) (maxL := 2) (ret := (some .int)) (lv := [(0, .ref oR), (1, .int pl)]) (by decide +kernel) rfl rfl (Nat.le_of_ble_eq_true rfl) ?_
  intro p e s m below meth c A QQ ls hx hb hr hts hml hown hlocks hA hQQ hK hX hP hD hS hl
  have hown : s.vm.findClass RX9 = some m.cls := hown
  have hcf := k_cf hx hb hml hown hts
  have in_X9 : ∀ w ∈ wsX90, w ∈ wsX9_costAt := fun _ h => List.mem_cons_of_mem _ (List.mem_append_right _ (h))
  replace g_lR := hid g_lR
  refine lv_iload_n hx hb dX9_costAt_0 rfl (lv_at hl 1 rfl) ?_
  refine lv_if_lt (tgt := 20) hx hb dX9_costAt_1 (by decide) (fun c_1 => by exfalso; have tc_1 : pl.toInt < 0 := v_lt c_1; omega) (fun c_1 => ?_)
  have tc_1 : 0 ≤ pl.toInt := v_nlt c_1
  refine lv_iload_n hx hb dX9_costAt_4 rfl (lv_at hl 1 rfl) ?_
  refine lv_sipush (v := 258) hx hb dX9_costAt_5 (by decide) ?_
  refine lv_icmp_ge (tgt := 20) hx hb dX9_costAt_8 (by decide) (fun c_2 => by exfalso; have tc_2 : 258 ≤ pl.toInt := v_le c_2; omega) (fun c_2 => ?_)
  have tc_2 : pl.toInt < 258 := v_nle c_2
  refine lv_aload_n hx hb dX9_costAt_11 rfl (lv_at hl 0 rfl) ?_
  refine va_get (D := (dC, dI)) (ci := 9) (v := .ref r1) (C := RX9) (T := TX9) (N := 12) hx hb hts in_X9 hown hK hP 0 rfl rfl 5 (by decide) (hts (.fieldLink RX9 26 "TextMender$Rows" "foundCost" "[I") (List.mem_of_getElem? (i := 1) rfl)) (fun _ h9 => h9) rfl dX9_costAt_12 ?_
  refine lv_iload_n hx hb dX9_costAt_15 rfl (lv_at hl 1 rfl) ?_
  refine va_iald hx hb hK hP 1 0 rfl rfl (v_inR g_pl (by decide) (by decide)) dX9_costAt_16 ?_
  refine lv_topi (fun x_3 ex_3 => ?_)
  refine lv_goto (tgt := 21) hx hb dX9_costAt_17 (by decide) ?_
  exact kl_i (v := x_3) hQQ hx hb hr hlocks hS dX9_costAt_21 ⟨⟨hP, hD⟩, ex_3⟩

set_option maxHeartbeats 40000000 in
set_option maxRecDepth 100000 in
theorem f_X9_numberOf (l : Launch) (dC : Nat → ClassId) (dI : Nat → Nat → Nat) (cI cS : ClassId) (sz : Nat) (oR : Nat) (oH : Nat) (oK : Nat) (n1 : Nat) (n2 : Nat) (n3 : Nat) (r1 : Nat) (r2 : Nat) (r3 : Nat) (r4 : Nat) (r5 : Nat) (r6 : Nat) (lR : Int32) (fR1 : Nat → Int32) (pl : Int32) (g_lR : 0 ≤ lR.toInt ∧ lR.toInt ≤ 258) (g_pl : 0 ≤ pl.toInt ∧ pl.toInt ≤ 257) : kMi l yX9_numberOf wsX9_numberOf ({ frames := 0, cells := 0, slots := 0, locals := 0 } : Room) [.ref oR, .int pl] sz (dC, dI) vwCl [(cI, .int), (cS, .short)] [(oR, .inr (9, [.ref oH, .ref oK, .ref n1, .ref n2, .ref n3, .ref r1, .ref r2, .ref r3, .ref r4, .ref r5, .ref r6, .int lR])), (r1, .inl (cI, 258, .inl fR1))] (fun _ => True) 0 0 (fun (A : Nat → Prop) (r : Int32) (hh9 : Heap) => kPD (dC, dI) vwCl A [(oR, .inr (9, [.ref oH, .ref oK, .ref n1, .ref n2, .ref n3, .ref r1, .ref r2, .ref r3, .ref r4, .ref r5, .ref r6, .int lR])), (r1, .inl (cI, 258, .inl fR1))] hh9 ∧ (r.toInt = nF fR1 pl.toNatClampNeg)) := by
  refine kMi_of (cc := cX9_numberOf) (maxL := 4) (ret := (some .int)) (lv := [(0, .ref oR), (1, .int pl)]) (by decide +kernel) rfl rfl (Nat.le_of_ble_eq_true rfl) ?_
  intro p e s m below meth c A QQ ls hx hb hr hts hml hown hlocks hA hQQ hK hX hP hD hS hl
  have hown : s.vm.findClass RX9 = some m.cls := hown
  have hcf := k_cf hx hb hml hown hts
  have in_X9 : ∀ w ∈ wsX90, w ∈ wsX9_numberOf := fun _ h => List.mem_cons_of_mem _ (List.mem_append_right _ (h))
  replace g_lR := hid g_lR
  refine lv_iconst (v := 0) hx hb dX9_numberOf_0 (by decide) ?_
  refine lv_istore_n (lv' := [(2, .int 0), (0, .ref oR), (1, .int pl)]) hx hb dX9_numberOf_1 rfl hl (by decide) rfl (fun ls hl => ?_)
  refine lv_iconst (v := 0) hx hb dX9_numberOf_2 (by decide) ?_
  refine lv_istore_n (lv' := [(3, .int 0), (2, .int 0), (0, .ref oR), (1, .int pl)]) hx hb dX9_numberOf_3 rfl hl (by decide) rfl (fun ls hl => ?_)
  have LOOP_4 : ∀ (k_4 : Nat) (nu : Int32) (be : Int32) (H : Heap) (locs : List Loc) (ls : Array Slot), MSd (258 - be.toInt : Int) k_4 → (0 ≤ nu.toInt ∧ nu.toInt ≤ 258) → (0 ≤ be.toInt ∧ be.toInt ≤ 258) → (be.toInt ≤ pl.toInt) → (nu.toInt ≤ be.toInt) → (nu.toInt = nF fR1 be.toNatClampNeg) → va_P (dC, dI) vwCl [(oR, .inr (9, [.ref oH, .ref oK, .ref n1, .ref n2, .ref n3, .ref r1, .ref r2, .ref r3, .ref r4, .ref r5, .ref r6, .int lR])), (r1, .inl (cI, 258, .inl fR1))] H → va_D A [(oR, .inr (9, [.ref oH, .ref oK, .ref n1, .ref n2, .ref n3, .ref r1, .ref r2, .ref r3, .ref r4, .ref r5, .ref r6, .int lR])), (r1, .inl (cI, 258, .inl fR1))] → va_S A s.heap H locs → lv_has ls 4 [(3, .int be), (2, .int nu), (0, .ref oR), (1, .int pl)] → W p l e (headSpec wsX9_numberOf ({ frames := 0, cells := 0, slots := 0, locals := 0 } : Room)).room s m ([.ref oR, .int pl] : List Value).toArray below meth c H locs 0 0 (MQ below QQ ([.ref oR, .int pl] : List Value).toArray s 0 0 A) (F0 m 4 ls []) := by
    clear hP hD hS hl
    intro k_4
    induction k_4 with
    | zero =>
      intro nu be H locs ls hm_4 g_nu g_be hbp hnb hnu hP hD hS hl
      exact ms_0 hm_4
    | succ k_4 ih_4 =>
      intro nu be H locs ls hm_4 g_nu g_be hbp hnb hnu hP hD hS hl
      refine lv_iload_n hx hb dX9_numberOf_4 rfl (lv_at hl 0 rfl) ?_
      refine lv_iload_n hx hb dX9_numberOf_5 rfl (lv_at hl 3 rfl) ?_
      refine lv_icmp_ge (tgt := 35) hx hb dX9_numberOf_6 (by decide) (fun c_1 => ?_) (fun c_1 => ?_)
      · have tc_1 : pl.toInt ≤ be.toInt := v_le c_1
        refine lv_iload_n hx hb dX9_numberOf_35 rfl (lv_at hl 1 rfl) ?_
        exact kl_i (v := nu) hQQ hx hb hr hlocks hS dX9_numberOf_36 ⟨⟨hP, hD⟩, (show be = pl from v_inj (by omega)) ▸ hnu⟩
      · have tc_1 : be.toInt < pl.toInt := v_nle c_1
        refine lv_iload_n hx hb dX9_numberOf_9 rfl (lv_at hl 0 rfl) ?_
        refine lv_sipush (v := 258) hx hb dX9_numberOf_10 (by decide) ?_
        refine lv_icmp_ge (tgt := 35) hx hb dX9_numberOf_13 (by decide) (fun c_2 => by exfalso; have tc_2 : 258 ≤ be.toInt := v_le c_2; omega) (fun c_2 => ?_)
        have tc_2 : be.toInt < 258 := v_nle c_2
        refine lv_aload_n hx hb dX9_numberOf_16 rfl (lv_at hl 2 rfl) ?_
        refine va_get (D := (dC, dI)) (ci := 9) (v := .ref r1) (C := RX9) (T := TX9) (N := 12) hx hb hts in_X9 hown hK hP 0 rfl rfl 5 (by decide) (hts (.fieldLink RX9 26 "TextMender$Rows" "foundCost" "[I") (List.mem_of_getElem? (i := 1) rfl)) (fun _ h9 => h9) rfl dX9_numberOf_17 ?_
        refine lv_iload_n hx hb dX9_numberOf_20 rfl (lv_at hl 0 rfl) ?_
        refine va_iald hx hb hK hP 1 0 rfl rfl (v_in (by omega)) dX9_numberOf_21 ?_
        refine lv_topi (fun x_3 ex_3 => ?_)
        refine lv_iconst (v := (-1)) hx hb dX9_numberOf_22 (by decide) ?_
        refine lv_icmp_eq (tgt := 29) hx hb dX9_numberOf_23 (by decide) (fun c_4 => ?_) (fun c_4 => ?_)
        · have tc_4 : x_3.toInt = (-1) := v_eq c_4
          obtain ⟨x_5, ex_5⟩ : ∃ y : Int32, y = be + 1 := ⟨_, rfl⟩
          have tx_5 : x_5.toInt = be.toInt + 1 := v_addR (l2 := 1) (h2 := 1) ex_5 g_be (by decide) (by decide) (by decide)
          refine lv_iinc (v := x_5) (lv' := [(3, .int x_5), (2, .int nu), (0, .ref oR), (1, .int pl)]) hx hb dX9_numberOf_29 hl (k := 0) rfl (by rw [ex_5]; rfl) (by decide) rfl (fun ls hl => ?_)
          refine lv_goto (tgt := 4) hx hb dX9_numberOf_32 (by decide) ?_
          exact ih_4 nu x_5 _ _ _ (ms_lt hm_4 (by show ((258 - x_5.toInt : Int)) < 258 - be.toInt; omega) (by show (0 : Int) < 258 - be.toInt; omega)) (g_nu) (by show 0 ≤ x_5.toInt ∧ x_5.toInt ≤ 258; omega) (by show x_5.toInt ≤ pl.toInt; omega) (by show nu.toInt ≤ x_5.toInt; omega) (nF_st hnu ex_3 (Or.inl ⟨c_4, by omega⟩) (by omega) (by omega)) hP hD hS (lv_sub hl [0, 1, 2, 3] rfl)
        · have tc_4 : ¬ x_3.toInt = (-1) := v_ne c_4
          obtain ⟨x_6, ex_6⟩ : ∃ y : Int32, y = nu + 1 := ⟨_, rfl⟩
          have tx_6 : x_6.toInt = nu.toInt + 1 := v_addR (l2 := 1) (h2 := 1) ex_6 g_nu (by decide) (by decide) (by decide)
          refine lv_iinc (v := x_6) (lv' := [(2, .int x_6), (3, .int be), (0, .ref oR), (1, .int pl)]) hx hb dX9_numberOf_26 hl (k := 1) rfl (by rw [ex_6]; rfl) (by decide) rfl (fun ls hl => ?_)
          obtain ⟨x_7, ex_7⟩ : ∃ y : Int32, y = be + 1 := ⟨_, rfl⟩
          have tx_7 : x_7.toInt = be.toInt + 1 := v_addR (l2 := 1) (h2 := 1) ex_7 g_be (by decide) (by decide) (by decide)
          refine lv_iinc (v := x_7) (lv' := [(3, .int x_7), (2, .int x_6), (0, .ref oR), (1, .int pl)]) hx hb dX9_numberOf_29 hl (k := 1) rfl (by rw [ex_7]; rfl) (by decide) rfl (fun ls hl => ?_)
          refine lv_goto (tgt := 4) hx hb dX9_numberOf_32 (by decide) ?_
          exact ih_4 x_6 x_7 _ _ _ (ms_lt hm_4 (by show ((258 - x_7.toInt : Int)) < 258 - be.toInt; omega) (by show (0 : Int) < 258 - be.toInt; omega)) (by show 0 ≤ x_6.toInt ∧ x_6.toInt ≤ 258; omega) (by show 0 ≤ x_7.toInt ∧ x_7.toInt ≤ 258; omega) (by show x_7.toInt ≤ pl.toInt; omega) (by show x_6.toInt ≤ x_7.toInt; omega) (nF_st hnu ex_3 (Or.inr ⟨c_4, by omega⟩) (by omega) (by omega)) hP hD hS (lv_sub hl [0, 1, 2, 3] rfl)
  exact LOOP_4 _ 0 0 _ _ _ (ms_s _) (by decide) (by decide) (by show 0 ≤ pl.toInt; omega) (by show 0 ≤ 0; omega) (rfl) hP hD hS (lv_sub hl [0, 1, 2, 3] rfl)

theorem prg_cp {l l' : Int32} {f f' : Nat → Int32} (e : l'.toInt = l.toInt) (h : ∀ j : Nat, (j : Int) < l.toInt → f' j = f j) (hp : prg l.toInt 0 65535 f) : prg l'.toInt 0 65535 f' := fun j hj => by
  rw [h j (by omega)]; exact hp j (by omega)

theorem aa_1 {cap : Nat} {l' lo r : Int32} {f f' g : Nat → Int32} (h : F_addAll cap 0 l' lo r f f' g) (hl : lo.toInt ≤ cap) : r.toInt = 1 := by
  have e : (0 : Int32).toInt = 0 := rfl
  rcases h with ⟨a1, a2, a3, a4⟩ | ⟨a1, _⟩
  · rw [a3]; rfl
  · omega

set_option maxHeartbeats 40000000 in
set_option maxRecDepth 100000 in
theorem f_X9_build (l : Launch) (dC : Nat → ClassId) (dI : Nat → Nat → Nat) (cI cS : ClassId) (sz : Nat) (oR : Nat) (nx : Nat) (nd : Nat) (oH : Nat) (oK : Nat) (n1 : Nat) (n2 : Nat) (n3 : Nat) (r1 : Nat) (r2 : Nat) (r3 : Nat) (r4 : Nat) (r5 : Nat) (r6 : Nat) (a1 : Nat) (a2 : Nat) (oP : Nat) (h1 : Nat) (h2 : Nat) (oC : Nat) (nB : Nat) (aB : Nat) (o4 : Nat) (o5 : Nat) (a41 : Nat) (a42 : Nat) (a43 : Nat) (a51 : Nat) (a52 : Nat) (a53 : Nat) (ax : Nat) (ad : Nat) (lR : Int32) (fR3 : Nat → Int32) (l1 : Int32) (f1 : Nat → Int32) (l2 : Int32) (f2 : Nat → Int32) (lH : Int32) (fH1 : Nat → Int32) (fH2 : Nat → Int32) (ft : Int32) (lB : Int32) (fB : Nat → Int32) (l4 : Int32) (f41 : Nat → Int32) (f42 : Nat → Int32) (f43 : Nat → Int32) (l5 : Int32) (f51 : Nat → Int32) (f52 : Nat → Int32) (f53 : Nat → Int32) (lx : Int32) (fx : Nat → Int32) (ld : Int32) (fd : Nat → Int32) (pl : Int32) (g_lR : 0 ≤ lR.toInt ∧ lR.toInt ≤ 258) (g_l1 : 0 ≤ l1.toInt ∧ l1.toInt ≤ 300) (g_l2 : 0 ≤ l2.toInt ∧ l2.toInt ≤ 300) (g_lH : 0 ≤ lH.toInt ∧ lH.toInt ≤ 6) (g_lB : 0 ≤ lB.toInt ∧ lB.toInt ≤ 2400) (g_lx : 0 ≤ lx.toInt ∧ lx.toInt ≤ 300) (g_ld : 0 ≤ ld.toInt ∧ ld.toInt ≤ 300) (g_pl : 0 ≤ pl.toInt ∧ pl.toInt ≤ 257) (hnm : ∀ j : Nat, j < 3 → fR3 (3 * pl.toNatClampNeg + j) = -1 ∨ (0 ≤ (fR3 (3 * pl.toNatClampNeg + j)).toInt ∧ (fR3 (3 * pl.toNatClampNeg + j)).toInt < lH.toInt)) (hlt : prg lx.toInt 0 65535 fx) (hT4 : HT 512 511 hsT f42 f43) (ho4 : (occ f43 512 : Int) ≤ 511) (hT5 : HT 512 511 hsT f52 f53) (ho5 : (occ f53 512 : Int) ≤ 511) (hL4 : prg 256 (-1) 65535 f41) (hL5 : prg 256 (-1) 65535 f51) (hBr : ∀ cd : Int32, okB (Bc cd f42 f43 f52 f53)) : kMi l yX9_build wsX9_build ({ frames := 6, cells := 0, slots := 0, locals := 147 } : Room) [.ref oR, .int pl, .ref nx, .ref nd] sz (dC, dI) vwCl [(cI, .int), (cS, .short)] [(oR, .inr (9, [.ref oH, .ref oK, .ref n1, .ref n2, .ref n3, .ref r1, .ref r2, .ref r3, .ref r4, .ref r5, .ref r6, .int lR])), (r3, .inl (cI, 774, .inl fR3)), (n1, .inr (5, [.ref a1, .int l1])), (a1, .inl (cI, 300, .inl f1)), (n2, .inr (5, [.ref a2, .int l2])), (a2, .inl (cI, 300, .inl f2)), (oH, .inr (4, [.ref oP, .ref h1, .ref h2, .int lH])), (h1, .inl (cI, 6, .inl fH1)), (h2, .inl (cI, 6, .inl fH2)), (oP, .inr (7, [.ref oC, .ref nB, .int ft])), (nB, .inr (5, [.ref aB, .int lB])), (aB, .inl (cI, 2400, .inl fB)), (oC, .inr (2, [.ref o4, .ref o5])), (o4, .inr (10, [.ref a41, .ref a42, .ref a43, .int l4])), (a41, .inl (cI, 256, .inl f41)), (a42, .inl (cI, 512, .inl f42)), (a43, .inl (cI, 512, .inl f43)), (o5, .inr (10, [.ref a51, .ref a52, .ref a53, .int l5])), (a51, .inl (cI, 256, .inl f51)), (a52, .inl (cI, 512, .inl f52)), (a53, .inl (cI, 512, .inl f53)), (nx, .inr (5, [.ref ax, .int lx])), (ax, .inl (cI, 300, .inl fx)), (nd, .inr (5, [.ref ad, .int ld])), (ad, .inl (cI, 300, .inl fd))] (va_Nw (.methodLinkNest RX2 52 yX11_isLetter "TextMender")) 0 0 (fun (A : Nat → Prop) (r : Int32) (hh9 : Heap) => ∃ (ft' : Int32) (lB' : Int32) (fB' : Nat → Int32) (l1' : Int32) (f1' : Nat → Int32) (l2' : Int32) (f2' : Nat → Int32) (ld' : Int32) (fd' : Nat → Int32), kPD (dC, dI) vwCl A [(oR, .inr (9, [.ref oH, .ref oK, .ref n1, .ref n2, .ref n3, .ref r1, .ref r2, .ref r3, .ref r4, .ref r5, .ref r6, .int lR])), (r3, .inl (cI, 774, .inl fR3)), (n1, .inr (5, [.ref a1, .int l1'])), (a1, .inl (cI, 300, .inl f1')), (n2, .inr (5, [.ref a2, .int l2'])), (a2, .inl (cI, 300, .inl f2')), (oH, .inr (4, [.ref oP, .ref h1, .ref h2, .int lH])), (h1, .inl (cI, 6, .inl fH1)), (h2, .inl (cI, 6, .inl fH2)), (oP, .inr (7, [.ref oC, .ref nB, .int ft'])), (nB, .inr (5, [.ref aB, .int lB'])), (aB, .inl (cI, 2400, .inl fB')), (oC, .inr (2, [.ref o4, .ref o5])), (o4, .inr (10, [.ref a41, .ref a42, .ref a43, .int l4])), (a41, .inl (cI, 256, .inl f41)), (a42, .inl (cI, 512, .inl f42)), (a43, .inl (cI, 512, .inl f43)), (o5, .inr (10, [.ref a51, .ref a52, .ref a53, .int l5])), (a51, .inl (cI, 256, .inl f51)), (a52, .inl (cI, 512, .inl f52)), (a53, .inl (cI, 512, .inl f53)), (nx, .inr (5, [.ref ax, .int lx])), (ax, .inl (cI, 300, .inl fx)), (nd, .inr (5, [.ref ad, .int ld'])), (ad, .inl (cI, 300, .inl fd'))] hh9 ∧ (0 ≤ lB'.toInt ∧ lB'.toInt ≤ 2400) ∧ (0 ≤ l1'.toInt ∧ l1'.toInt ≤ 300) ∧ (0 ≤ l2'.toInt ∧ l2'.toInt ≤ 300) ∧ (0 ≤ ld'.toInt ∧ ld'.toInt ≤ 300) ∧ (0 ≤ r.toInt ∧ r.toInt ≤ 1) ∧ (F_bd (UC fH1 fH2 f41 f42 f43 f51 f52 f53) (flk fR3 pl.toNatClampNeg 3) r ld' fd' lx.toInt fx)) := by
  refine kMi_of (cc := cX9_build) (maxL := 6) (ret := (some .boolean)) (lv := [(0, .ref oR), (1, .int pl), (2, .ref nx), (3, .ref nd)]) (by decide +kernel) rfl rfl (Nat.le_of_ble_eq_true rfl) ?_
  intro p e s m below meth c A QQ ls hx hb hr hts hml hown hlocks hA hQQ hK hX hP hD hS hl
  have hown : s.vm.findClass RX9 = some m.cls := hown
  have hcf := k_cf hx hb hml hown hts
  have hN52 := hX
  have in_X9 : ∀ w ∈ wsX90, w ∈ wsX9_build := fun _ h => List.mem_cons_of_mem _ (List.mem_append_left _ (List.mem_append_left _ (List.mem_append_left _ (List.mem_append_left _ (List.mem_append_left _ (List.mem_append_right _ (h)))))))
  replace g_lR := hid g_lR
  replace g_l2 := hid g_l2
  replace g_lB := hid g_lB
  have hU : okU (UC fH1 fH2 f41 f42 f43 f51 f52 f53) := okU_C hBr hL4 hL5
  have c0 := v_clamp (x := pl) (by omega)
  refine lv_iload_n hx hb dX9_build_0 rfl (lv_at hl 1 rfl) ?_
  refine lv_if_lt (tgt := 11) hx hb dX9_build_1 (by decide) (fun c_1 => by exfalso; have tc_1 : pl.toInt < 0 := v_lt c_1; omega) (fun c_1 => ?_)
  have tc_1 : 0 ≤ pl.toInt := v_nlt c_1
  refine lv_iload_n hx hb dX9_build_4 rfl (lv_at hl 1 rfl) ?_
  refine lv_sipush (v := 258) hx hb dX9_build_5 (by decide) ?_
  refine lv_icmp_lt (tgt := 13) hx hb dX9_build_8 (by decide) (fun c_2 => ?_) (fun c_2 => by exfalso; have tc_2 : 258 ≤ pl.toInt := v_nlt c_2; omega)
  have tc_2 : pl.toInt < 258 := v_lt c_2
  refine lv_aload_n hx hb dX9_build_13 rfl (lv_at hl 0 rfl) ?_
  refine va_get (D := (dC, dI)) (ci := 9) (v := .ref n1) (C := RX9) (T := TX9) (N := 12) hx hb hts in_X9 hown hK hP 0 rfl rfl 2 (by decide) (hts (.fieldLink RX9 14 "TextMender$Rows" "one" "LTextMender$Numbers;") (List.mem_of_getElem? (i := 1) rfl)) (fun _ h9 => h9) rfl dX9_build_14 ?_
  refine lv_aload_n hx hb dX9_build_17 rfl (lv_at hl 2 rfl) ?_
  refine kV_i (rest := []) (q0 := 0) (ci := 5) hcf (m_X5_takeAll l dC dI cI cS s.heap.size n1 nx a1 ax 300 300 l1 f1 lx fx (by omega) (by omega) (by omega) (by omega)) kc_X5_takeAll gX9_build_X5_takeAll rfl rfl rfl ⟨Nat.le_of_ble_eq_true rfl, Nat.le_of_ble_eq_true rfl⟩ kX_t hK hP hD hS hA [2, 3, 21, 22] [0, 1, 4, 5, 6, 7, 8, 9, 10, 11, 12, 13, 14, 15, 16, 17, 18, 19, 20, 23, 24] rfl (by decide +kernel) rfl rfl rfl hl rfl (Nat.le_of_ble_eq_true rfl) dX9_build_18 ⟨Nat.le_of_ble_eq_true rfl, Nat.le_of_ble_eq_true rfl⟩ (fun r_3 H locs hB hJ hSn => ?_)
  obtain ⟨lu_3, fu_3, ⟨hP1, hD1⟩, hf3_0, hf3_1, hf3_2⟩ := hB
  obtain ⟨hPn, hDn⟩ := hJ _ hP1 hD1 [(oR, .inr (9, [.ref oH, .ref oK, .ref n1, .ref n2, .ref n3, .ref r1, .ref r2, .ref r3, .ref r4, .ref r5, .ref r6, .int lR])), (r3, .inl (cI, 774, .inl fR3)), (n2, .inr (5, [.ref a2, .int l2])), (a2, .inl (cI, 300, .inl f2)), (oH, .inr (4, [.ref oP, .ref h1, .ref h2, .int lH])), (h1, .inl (cI, 6, .inl fH1)), (h2, .inl (cI, 6, .inl fH2)), (oP, .inr (7, [.ref oC, .ref nB, .int ft])), (nB, .inr (5, [.ref aB, .int lB])), (aB, .inl (cI, 2400, .inl fB)), (oC, .inr (2, [.ref o4, .ref o5])), (o4, .inr (10, [.ref a41, .ref a42, .ref a43, .int l4])), (a41, .inl (cI, 256, .inl f41)), (a42, .inl (cI, 512, .inl f42)), (a43, .inl (cI, 512, .inl f43)), (o5, .inr (10, [.ref a51, .ref a52, .ref a53, .int l5])), (a51, .inl (cI, 256, .inl f51)), (a52, .inl (cI, 512, .inl f52)), (a53, .inl (cI, 512, .inl f53)), (nd, .inr (5, [.ref ad, .int ld])), (ad, .inl (cI, 300, .inl fd)), (n1, .inr (5, [.ref a1, .int lu_3])), (a1, .inl (cI, 300, .inl fu_3)), (nx, .inr (5, [.ref ax, .int lx])), (ax, .inl (cI, 300, .inl fx))] rfl
  clear hP hD hS hJ hP1 hD1
  have hP := hPn
  have hD := hDn
  have hS := hSn
  clear hPn hDn hSn
  refine lv_pop hx hb dX9_build_21 rfl ?_
  refine lv_iconst (v := 2) hx hb dX9_build_22 (by decide) ?_
  refine lv_istore (lv' := [(4, .int 2), (0, .ref oR), (1, .int pl), (2, .ref nx), (3, .ref nd)]) hx hb dX9_build_23 hl (by decide) rfl (fun ls hl => ?_)
  have LOOP_25 : ∀ (k_25 : Nat) (k : Int32) (fta : Int32) (lBa : Int32) (loa : Int32) (lta : Int32) (fBa : Nat → Int32) (foa : Nat → Int32) (fua : Nat → Int32) (H : Heap) (locs : List Loc) (ls : Array Slot), MSd (k.toInt + 1 : Int) k_25 → (-1 ≤ k.toInt ∧ k.toInt ≤ 2) → (0 ≤ lBa.toInt ∧ lBa.toInt ≤ 2400) → (0 ≤ loa.toInt ∧ loa.toInt ≤ 300) → (0 ≤ lta.toInt ∧ lta.toInt ≤ 300) → (bEq (UC fH1 fH2 f41 f42 f43 f51 f52 f53) (flk fR3 pl.toNatClampNeg 3) (flk fR3 pl.toNatClampNeg (k.toInt + 1).toNat) lx.toInt loa.toInt fx foa) → (prg loa.toInt 0 65535 foa) → va_P (dC, dI) vwCl [(oR, .inr (9, [.ref oH, .ref oK, .ref n1, .ref n2, .ref n3, .ref r1, .ref r2, .ref r3, .ref r4, .ref r5, .ref r6, .int lR])), (r3, .inl (cI, 774, .inl fR3)), (n2, .inr (5, [.ref a2, .int lta])), (a2, .inl (cI, 300, .inl fua)), (oH, .inr (4, [.ref oP, .ref h1, .ref h2, .int lH])), (h1, .inl (cI, 6, .inl fH1)), (h2, .inl (cI, 6, .inl fH2)), (oP, .inr (7, [.ref oC, .ref nB, .int fta])), (nB, .inr (5, [.ref aB, .int lBa])), (aB, .inl (cI, 2400, .inl fBa)), (oC, .inr (2, [.ref o4, .ref o5])), (o4, .inr (10, [.ref a41, .ref a42, .ref a43, .int l4])), (a41, .inl (cI, 256, .inl f41)), (a42, .inl (cI, 512, .inl f42)), (a43, .inl (cI, 512, .inl f43)), (o5, .inr (10, [.ref a51, .ref a52, .ref a53, .int l5])), (a51, .inl (cI, 256, .inl f51)), (a52, .inl (cI, 512, .inl f52)), (a53, .inl (cI, 512, .inl f53)), (nd, .inr (5, [.ref ad, .int ld])), (ad, .inl (cI, 300, .inl fd)), (n1, .inr (5, [.ref a1, .int loa])), (a1, .inl (cI, 300, .inl foa)), (nx, .inr (5, [.ref ax, .int lx])), (ax, .inl (cI, 300, .inl fx))] H → va_D A [(oR, .inr (9, [.ref oH, .ref oK, .ref n1, .ref n2, .ref n3, .ref r1, .ref r2, .ref r3, .ref r4, .ref r5, .ref r6, .int lR])), (r3, .inl (cI, 774, .inl fR3)), (n2, .inr (5, [.ref a2, .int lta])), (a2, .inl (cI, 300, .inl fua)), (oH, .inr (4, [.ref oP, .ref h1, .ref h2, .int lH])), (h1, .inl (cI, 6, .inl fH1)), (h2, .inl (cI, 6, .inl fH2)), (oP, .inr (7, [.ref oC, .ref nB, .int fta])), (nB, .inr (5, [.ref aB, .int lBa])), (aB, .inl (cI, 2400, .inl fBa)), (oC, .inr (2, [.ref o4, .ref o5])), (o4, .inr (10, [.ref a41, .ref a42, .ref a43, .int l4])), (a41, .inl (cI, 256, .inl f41)), (a42, .inl (cI, 512, .inl f42)), (a43, .inl (cI, 512, .inl f43)), (o5, .inr (10, [.ref a51, .ref a52, .ref a53, .int l5])), (a51, .inl (cI, 256, .inl f51)), (a52, .inl (cI, 512, .inl f52)), (a53, .inl (cI, 512, .inl f53)), (nd, .inr (5, [.ref ad, .int ld])), (ad, .inl (cI, 300, .inl fd)), (n1, .inr (5, [.ref a1, .int loa])), (a1, .inl (cI, 300, .inl foa)), (nx, .inr (5, [.ref ax, .int lx])), (ax, .inl (cI, 300, .inl fx))] → va_S A s.heap H locs → lv_has ls 6 [(4, .int k), (0, .ref oR), (1, .int pl), (2, .ref nx), (3, .ref nd)] → W p l e (headSpec wsX9_build ({ frames := 6, cells := 0, slots := 0, locals := 147 } : Room)).room s m ([.ref oR, .int pl, .ref nx, .ref nd] : List Value).toArray below meth c H locs 0 0 (MQ below QQ ([.ref oR, .int pl, .ref nx, .ref nd] : List Value).toArray s 0 0 A) (F0 m 25 ls []) := by
    clear hP hD hS hl
    try (clear g_l1)
    intro k_25
    induction k_25 with
    | zero =>
      intro k fta lBa loa lta fBa foa fua H locs ls hm_25 g_k g_lBa g_loa g_lta hbl hpr hP hD hS hl
      exact ms_0 hm_25
    | succ k_25 ih_25 =>
      intro k fta lBa loa lta fBa foa fua H locs ls hm_25 g_k g_lBa g_loa g_lta hbl hpr hP hD hS hl
      refine lv_iload hx hb dX9_build_25 (lv_at hl 0 rfl) ?_
      refine lv_if_lt (tgt := 89) hx hb dX9_build_27 (by decide) (fun c_4 => ?_) (fun c_4 => ?_)
      · have tc_4 : k.toInt < 0 := v_lt c_4
        refine lv_aload_n hx hb dX9_build_89 rfl (lv_at hl 4 rfl) ?_
        refine lv_aload_n hx hb dX9_build_90 rfl (lv_at hl 1 rfl) ?_
        refine va_get (D := (dC, dI)) (ci := 9) (v := .ref n1) (C := RX9) (T := TX9) (N := 12) hx hb hts in_X9 hown hK hP 0 rfl rfl 2 (by decide) (hts (.fieldLink RX9 14 "TextMender$Rows" "one" "LTextMender$Numbers;") (List.mem_of_getElem? (i := 1) rfl)) (fun _ h9 => h9) rfl dX9_build_91 ?_
        refine kV_i (rest := []) (q0 := 0) (ci := 5) hcf (m_X5_takeAll l dC dI cI cS H.size nd n1 ad a1 300 300 ld fd loa foa (by omega) (by omega) (by omega) (by omega)) kc_X5_takeAll gX9_build_X5_takeAll rfl rfl rfl ⟨Nat.le_of_ble_eq_true rfl, Nat.le_of_ble_eq_true rfl⟩ kX_t hK hP hD hS hA [19, 20, 21, 22] [0, 1, 2, 3, 4, 5, 6, 7, 8, 9, 10, 11, 12, 13, 14, 15, 16, 17, 18, 23, 24] rfl (by decide +kernel) rfl rfl rfl hl rfl (Nat.le_of_ble_eq_true rfl) dX9_build_94 ⟨Nat.le_of_ble_eq_true rfl, Nat.le_of_ble_eq_true rfl⟩ (fun r_5 H locs hB hJ hSn => ?_)
        obtain ⟨lu_5, fu_5, ⟨hP1, hD1⟩, hf5_0, hf5_1, hf5_2⟩ := hB
        obtain ⟨hPn, hDn⟩ := hJ _ hP1 hD1 [(oR, .inr (9, [.ref oH, .ref oK, .ref n1, .ref n2, .ref n3, .ref r1, .ref r2, .ref r3, .ref r4, .ref r5, .ref r6, .int lR])), (r3, .inl (cI, 774, .inl fR3)), (n2, .inr (5, [.ref a2, .int lta])), (a2, .inl (cI, 300, .inl fua)), (oH, .inr (4, [.ref oP, .ref h1, .ref h2, .int lH])), (h1, .inl (cI, 6, .inl fH1)), (h2, .inl (cI, 6, .inl fH2)), (oP, .inr (7, [.ref oC, .ref nB, .int fta])), (nB, .inr (5, [.ref aB, .int lBa])), (aB, .inl (cI, 2400, .inl fBa)), (oC, .inr (2, [.ref o4, .ref o5])), (o4, .inr (10, [.ref a41, .ref a42, .ref a43, .int l4])), (a41, .inl (cI, 256, .inl f41)), (a42, .inl (cI, 512, .inl f42)), (a43, .inl (cI, 512, .inl f43)), (o5, .inr (10, [.ref a51, .ref a52, .ref a53, .int l5])), (a51, .inl (cI, 256, .inl f51)), (a52, .inl (cI, 512, .inl f52)), (a53, .inl (cI, 512, .inl f53)), (nx, .inr (5, [.ref ax, .int lx])), (ax, .inl (cI, 300, .inl fx)), (nd, .inr (5, [.ref ad, .int lu_5])), (ad, .inl (cI, 300, .inl fu_5)), (n1, .inr (5, [.ref a1, .int loa])), (a1, .inl (cI, 300, .inl foa))] rfl
        clear hP hD hS hJ hP1 hD1
        have hP := hPn
        have hD := hDn
        have hS := hSn
        clear hPn hDn hSn
        exact kl_z (v := r_5) hQQ hx hb hr hlocks hS dX9_build_97 (v_bool (by omega)) ⟨fta, lBa, fBa, loa, foa, lta, fua, lu_5, fu_5, kPD_sub hP hD [0, 1, 23, 24, 2, 3, 4, 5, 6, 7, 8, 9, 10, 11, 12, 13, 14, 15, 16, 17, 18, 19, 20, 21, 22] (by decide +kernel) rfl, g_lBa, g_loa, g_lta, by omega, hf5_1, bl_end hbl (by omega) (by omega) (aa_1 hf5_2 (by omega)) (addAll_cp hf5_2 (by omega) (by omega)).1 (addAll_cp hf5_2 (by omega) (by omega)).2⟩
      · have tc_4 : 0 ≤ k.toInt := v_nlt c_4
        refine lv_aload_n hx hb dX9_build_30 rfl (lv_at hl 1 rfl) ?_
        refine va_get (D := (dC, dI)) (ci := 9) (v := .ref r3) (C := RX9) (T := TX9) (N := 12) hx hb hts in_X9 hown hK hP 0 rfl rfl 7 (by decide) (hts (.fieldLink RX9 33 "TextMender$Rows" "foundHarms" "[I") (List.mem_of_getElem? (i := 2) rfl)) (fun _ h9 => h9) rfl dX9_build_31 ?_
        refine lv_iload_n hx hb dX9_build_34 rfl (lv_at hl 2 rfl) ?_
        refine lv_iconst (v := 3) hx hb dX9_build_35 (by decide) ?_
        refine lv_imul hx hb dX9_build_36 ?_
        refine lv_topi (fun x_6 ex_6 => ?_)
        have tx_6 : x_6.toInt = pl.toInt * 3 := v_mul ex_6 (by show -2147483648 ≤ pl.toInt * 3; omega) (by show pl.toInt * 3 < 2147483648; omega)
        refine lv_iload hx hb dX9_build_37 (lv_at hl 0 rfl) ?_
        refine lv_iadd hx hb dX9_build_39 ?_
        refine lv_topi (fun x_7 ex_7 => ?_)
        have tx_7 : x_7.toInt = x_6.toInt + k.toInt := v_add ex_7 (by show -2147483648 ≤ x_6.toInt + k.toInt; omega) (by show x_6.toInt + k.toInt < 2147483648; omega)
        refine va_iald hx hb hK hP 1 0 rfl rfl (v_in (by omega)) dX9_build_40 ?_
        refine lv_topi (fun x_8 ex_8 => ?_)
        refine lv_istore (lv' := [(5, .int x_8), (4, .int k), (0, .ref oR), (1, .int pl), (2, .ref nx), (3, .ref nd)]) hx hb dX9_build_41 hl (by decide) rfl (fun ls hl => ?_)
        refine lv_iload hx hb dX9_build_43 (lv_at hl 0 rfl) ?_
        refine lv_iconst (v := (-1)) hx hb dX9_build_45 (by decide) ?_
        refine lv_icmp_eq (tgt := 83) hx hb dX9_build_46 (by decide) (fun c_9 => ?_) (fun c_9 => ?_)
        · have tc_9 : x_8.toInt = (-1) := v_eq c_9
          obtain ⟨x_10, ex_10⟩ : ∃ y : Int32, y = k + (-1) := ⟨_, rfl⟩
          have tx_10 : x_10.toInt = k.toInt + (-1) := v_addR (l2 := (-1)) (h2 := (-1)) ex_10 g_k (by decide) (by decide) (by decide)
          refine lv_iinc (v := x_10) (lv' := [(4, .int x_10), (5, .int x_8), (0, .ref oR), (1, .int pl), (2, .ref nx), (3, .ref nd)]) hx hb dX9_build_83 hl (k := 1) rfl (by rw [ex_10]; rfl) (by decide) rfl (fun ls hl => ?_)
          refine lv_goto (tgt := 25) hx hb dX9_build_86 (by decide) ?_
          exact ih_25 x_10 fta lBa loa lta fBa foa fua _ _ _ (ms_lt hm_25 (by show ((x_10.toInt + 1 : Int)) < k.toInt + 1; omega) (by show (0 : Int) < k.toInt + 1; omega)) (by show -1 ≤ x_10.toInt ∧ x_10.toInt ≤ 2; omega) (g_lBa) (g_loa) (g_lta) (bl_sk hbl (by omega) ex_8 (by omega) c_9) (hpr) hP hD hS (lv_sub hl [0, 2, 3, 4, 5] rfl)
        · have tc_9 : ¬ x_8.toInt = (-1) := v_ne c_9
          have hnr := (hnm k.toNatClampNeg (by have c9 := v_clamp (x := k) (by omega); omega)).resolve_left (fun e9 => c_9 (by rw [ex_8, ix_eq (x := x_7) (N := 3 * pl.toNatClampNeg + k.toNatClampNeg) (by have c9 := v_clamp (x := k) (by omega); omega)]; exact e9))
          have hnq : 0 ≤ x_8.toInt ∧ x_8.toInt < lH.toInt := by rw [ex_8, ix_eq (x := x_7) (N := 3 * pl.toNatClampNeg + k.toNatClampNeg) (by have c9 := v_clamp (x := k) (by omega); omega)]; exact hnr
          refine lv_aload_n hx hb dX9_build_49 rfl (lv_at hl 2 rfl) ?_
          refine va_get (D := (dC, dI)) (ci := 9) (v := .ref oH) (C := RX9) (T := TX9) (N := 12) hx hb hts in_X9 hown hK hP 0 rfl rfl 0 (by decide) (hts (.fieldLink RX9 45 "TextMender$Rows" "harms" "LTextMender$Harms;") (List.mem_of_getElem? (i := 3) rfl)) (fun _ h9 => h9) rfl dX9_build_50 ?_
          refine lv_iload hx hb dX9_build_53 (lv_at hl 0 rfl) ?_
          refine lv_aload_n hx hb dX9_build_55 rfl (lv_at hl 2 rfl) ?_
          refine va_get (D := (dC, dI)) (ci := 9) (v := .ref n1) (C := RX9) (T := TX9) (N := 12) hx hb hts in_X9 hown hK hP 0 rfl rfl 2 (by decide) (hts (.fieldLink RX9 14 "TextMender$Rows" "one" "LTextMender$Numbers;") (List.mem_of_getElem? (i := 1) rfl)) (fun _ h9 => h9) rfl dX9_build_56 ?_
          refine lv_aload_n hx hb dX9_build_59 rfl (lv_at hl 2 rfl) ?_
          refine va_get (D := (dC, dI)) (ci := 9) (v := .ref n2) (C := RX9) (T := TX9) (N := 12) hx hb hts in_X9 hown hK hP 0 rfl rfl 3 (by decide) (hts (.fieldLink RX9 20 "TextMender$Rows" "two" "LTextMender$Numbers;") (List.mem_of_getElem? (i := 4) rfl)) (fun _ h9 => h9) rfl dX9_build_60 ?_
          refine kV_i (rest := []) (q0 := 0) (ci := 4) hcf (f_X4_takeOff l dC dI cI cS H.size oH n1 n2 oP h1 h2 oC nB aB a1 a2 o4 o5 a41 a42 a43 a51 a52 a53 lH fH1 fH2 fta lBa fBa loa foa lta fua l4 f41 f42 f43 l5 f51 f52 f53 x_8 (g_lH) (g_lBa) (g_loa) (g_lta) (by omega) (by omega) (hpr) (hT4) (ho4) (hT5) (ho5) (hL4) (hL5) (hBr)) kc_X4_takeOff gX9_build_X4_takeOff rfl rfl rfl ⟨Nat.le_of_ble_eq_true rfl, Nat.le_of_ble_eq_true rfl⟩ (kX_1 hN52) hK hP hD hS hA [4, 5, 6, 7, 8, 9, 21, 22, 2, 3, 10, 11, 12, 13, 14, 15, 16, 17, 18] [0, 1, 19, 20, 23, 24] rfl (by decide +kernel) rfl rfl rfl hl rfl (Nat.le_of_ble_eq_true rfl) dX9_build_63 ⟨Nat.le_of_ble_eq_true rfl, Nat.le_of_ble_eq_true rfl⟩ (fun r_11 H locs hB hJ hSn => ?_)
          obtain ⟨ft_11, lB_11, fB_11, ld_11, fd_11, ⟨hP1, hD1⟩, hf11_0, hf11_1, hf11_2, hf11_3⟩ := hB
          obtain ⟨hPn, hDn⟩ := hJ _ hP1 hD1 [(oR, .inr (9, [.ref oH, .ref oK, .ref n1, .ref n2, .ref n3, .ref r1, .ref r2, .ref r3, .ref r4, .ref r5, .ref r6, .int lR])), (r3, .inl (cI, 774, .inl fR3)), (nd, .inr (5, [.ref ad, .int ld])), (ad, .inl (cI, 300, .inl fd)), (nx, .inr (5, [.ref ax, .int lx])), (ax, .inl (cI, 300, .inl fx)), (oH, .inr (4, [.ref oP, .ref h1, .ref h2, .int lH])), (h1, .inl (cI, 6, .inl fH1)), (h2, .inl (cI, 6, .inl fH2)), (oP, .inr (7, [.ref oC, .ref nB, .int ft_11])), (nB, .inr (5, [.ref aB, .int lB_11])), (aB, .inl (cI, 2400, .inl fB_11)), (n1, .inr (5, [.ref a1, .int loa])), (a1, .inl (cI, 300, .inl foa)), (n2, .inr (5, [.ref a2, .int ld_11])), (a2, .inl (cI, 300, .inl fd_11)), (oC, .inr (2, [.ref o4, .ref o5])), (o4, .inr (10, [.ref a41, .ref a42, .ref a43, .int l4])), (a41, .inl (cI, 256, .inl f41)), (a42, .inl (cI, 512, .inl f42)), (a43, .inl (cI, 512, .inl f43)), (o5, .inr (10, [.ref a51, .ref a52, .ref a53, .int l5])), (a51, .inl (cI, 256, .inl f51)), (a52, .inl (cI, 512, .inl f52)), (a53, .inl (cI, 512, .inl f53))] rfl
          clear hP hD hS hJ hP1 hD1
          have hP := hPn
          have hD := hDn
          have hS := hSn
          clear hPn hDn hSn
          refine lv_if_ne (tgt := 71) hx hb dX9_build_66 (by decide) (fun c_12 => ?_) (fun c_12 => ?_)
          · have tc_12 : ¬ r_11.toInt = 0 := v_ne c_12
            refine lv_aload_n hx hb dX9_build_71 rfl (lv_at hl 2 rfl) ?_
            refine va_get (D := (dC, dI)) (ci := 9) (v := .ref n1) (C := RX9) (T := TX9) (N := 12) hx hb hts in_X9 hown hK hP 0 rfl rfl 2 (by decide) (hts (.fieldLink RX9 14 "TextMender$Rows" "one" "LTextMender$Numbers;") (List.mem_of_getElem? (i := 1) rfl)) (fun _ h9 => h9) rfl dX9_build_72 ?_
            refine lv_aload_n hx hb dX9_build_75 rfl (lv_at hl 2 rfl) ?_
            refine va_get (D := (dC, dI)) (ci := 9) (v := .ref n2) (C := RX9) (T := TX9) (N := 12) hx hb hts in_X9 hown hK hP 0 rfl rfl 3 (by decide) (hts (.fieldLink RX9 20 "TextMender$Rows" "two" "LTextMender$Numbers;") (List.mem_of_getElem? (i := 4) rfl)) (fun _ h9 => h9) rfl dX9_build_76 ?_
            refine kV_i (rest := []) (q0 := 0) (ci := 5) hcf (m_X5_takeAll l dC dI cI cS H.size n1 n2 a1 a2 300 300 loa foa ld_11 fd_11 (by omega) (by omega) (by omega) (by omega)) kc_X5_takeAll gX9_build_X5_takeAll rfl rfl rfl ⟨Nat.le_of_ble_eq_true rfl, Nat.le_of_ble_eq_true rfl⟩ kX_t hK hP hD hS hA [12, 13, 14, 15] [0, 1, 2, 3, 4, 5, 6, 7, 8, 9, 10, 11, 16, 17, 18, 19, 20, 21, 22, 23, 24] rfl (by decide +kernel) rfl rfl rfl hl rfl (Nat.le_of_ble_eq_true rfl) dX9_build_79 ⟨Nat.le_of_ble_eq_true rfl, Nat.le_of_ble_eq_true rfl⟩ (fun r_13 H locs hB hJ hSn => ?_)
            obtain ⟨lu_13, fu_13, ⟨hP1, hD1⟩, hf13_0, hf13_1, hf13_2⟩ := hB
            obtain ⟨hPn, hDn⟩ := hJ _ hP1 hD1 [(oR, .inr (9, [.ref oH, .ref oK, .ref n1, .ref n2, .ref n3, .ref r1, .ref r2, .ref r3, .ref r4, .ref r5, .ref r6, .int lR])), (r3, .inl (cI, 774, .inl fR3)), (nd, .inr (5, [.ref ad, .int ld])), (ad, .inl (cI, 300, .inl fd)), (nx, .inr (5, [.ref ax, .int lx])), (ax, .inl (cI, 300, .inl fx)), (oH, .inr (4, [.ref oP, .ref h1, .ref h2, .int lH])), (h1, .inl (cI, 6, .inl fH1)), (h2, .inl (cI, 6, .inl fH2)), (oP, .inr (7, [.ref oC, .ref nB, .int ft_11])), (nB, .inr (5, [.ref aB, .int lB_11])), (aB, .inl (cI, 2400, .inl fB_11)), (oC, .inr (2, [.ref o4, .ref o5])), (o4, .inr (10, [.ref a41, .ref a42, .ref a43, .int l4])), (a41, .inl (cI, 256, .inl f41)), (a42, .inl (cI, 512, .inl f42)), (a43, .inl (cI, 512, .inl f43)), (o5, .inr (10, [.ref a51, .ref a52, .ref a53, .int l5])), (a51, .inl (cI, 256, .inl f51)), (a52, .inl (cI, 512, .inl f52)), (a53, .inl (cI, 512, .inl f53)), (n1, .inr (5, [.ref a1, .int lu_13])), (a1, .inl (cI, 300, .inl fu_13)), (n2, .inr (5, [.ref a2, .int ld_11])), (a2, .inl (cI, 300, .inl fd_11))] rfl
            clear hP hD hS hJ hP1 hD1
            have hP := hPn
            have hD := hDn
            have hS := hSn
            clear hPn hDn hSn
            refine lv_pop hx hb dX9_build_82 rfl ?_
            obtain ⟨x_14, ex_14⟩ : ∃ y : Int32, y = k + (-1) := ⟨_, rfl⟩
            have tx_14 : x_14.toInt = k.toInt + (-1) := v_addR (l2 := (-1)) (h2 := (-1)) ex_14 g_k (by decide) (by decide) (by decide)
            refine lv_iinc (v := x_14) (lv' := [(4, .int x_14), (5, .int x_8), (0, .ref oR), (1, .int pl), (2, .ref nx), (3, .ref nd)]) hx hb dX9_build_83 hl (k := 1) rfl (by rw [ex_14]; rfl) (by decide) rfl (fun ls hl => ?_)
            refine lv_goto (tgt := 25) hx hb dX9_build_86 (by decide) ?_
            exact ih_25 x_14 ft_11 lB_11 lu_13 ld_11 fB_11 fu_13 fd_11 _ _ _ (ms_lt hm_25 (by show ((x_14.toInt + 1 : Int)) < k.toInt + 1; omega) (by show (0 : Int) < k.toInt + 1; omega)) (by show -1 ≤ x_14.toInt ∧ x_14.toInt ≤ 2; omega) (hf11_0) (by show 0 ≤ lu_13.toInt ∧ lu_13.toInt ≤ 300; omega) (hf11_1) (bl_do hU hbl (by omega) ex_8 (by omega) c_9 hf11_3 (by omega) hpr (addAll_cp hf13_2 (by omega) (by omega)).1 (addAll_cp hf13_2 (by omega) (by omega)).2) (prg_cp (addAll_cp hf13_2 (by omega) (by omega)).1 (addAll_cp hf13_2 (by omega) (by omega)).2 (to_p hU hf11_3 (by omega) hpr)) (hP.sub [0, 1, 23, 24, 6, 7, 8, 9, 10, 11, 12, 13, 14, 15, 16, 17, 18, 19, 20, 2, 3, 21, 22, 4, 5] rfl) (hD.sub [0, 1, 23, 24, 6, 7, 8, 9, 10, 11, 12, 13, 14, 15, 16, 17, 18, 19, 20, 2, 3, 21, 22, 4, 5] (by decide +kernel) rfl) hS (lv_sub hl [0, 2, 3, 4, 5] rfl)
          · have tc_12 : r_11.toInt = 0 := v_eq c_12
            refine lv_iconst (v := 0) hx hb dX9_build_69 (by decide) ?_
            exact kl_z (v := 0) hQQ hx hb hr hlocks hS dX9_build_70 (rfl) ⟨ft_11, lB_11, fB_11, loa, foa, ld_11, fd_11, ld, fd, kPD_sub hP hD [0, 1, 12, 13, 14, 15, 6, 7, 8, 9, 10, 11, 16, 17, 18, 19, 20, 21, 22, 23, 24, 4, 5, 2, 3] (by decide +kernel) rfl, hf11_0, g_loa, hf11_1, g_ld, by decide, bl_no (m' := k.toInt.toNat) hbl (by omega) ex_8 (by omega) c_9 hf11_3 (by omega) rfl⟩
  exact LOOP_25 _ 2 ft lB lu_3 l2 fB fu_3 f2 _ _ _ (ms_s _) (by decide) (g_lB) (by show 0 ≤ lu_3.toInt ∧ lu_3.toInt ≤ 300; omega) (g_l2) (bl_0 hU rfl (addAll_cp hf3_2 (by omega) (by omega)).1 (addAll_cp hf3_2 (by omega) (by omega)).2) (prg_cp (addAll_cp hf3_2 (by omega) (by omega)).1 (addAll_cp hf3_2 (by omega) (by omega)).2 hlt) hP hD hS (lv_sub hl [0, 1, 2, 3, 4] rfl)

end

/-! 59t.a.rows -/
section
set_option maxRecDepth 100000 in
theorem dA288_cX11_mend : kDec cX11_mend [(0, .aload_n 0, 1), (1, .iconst (-1), 1), (2, .putfield 90, 3), (5, .iload_n 1, 1), (6, .iconst 1, 1), (7, .if_icmp .lt 19, 3), (26, .iconst (-1), 1), (27, .ireturn, 1), (10, .iload_n 1, 1), (11, .iconst 3, 1), (12, .if_icmp .gt 14, 3), (15, .iload_n 2, 1), (16, .iconst 1, 1), (17, .if_icmp .lt 9, 3), (20, .iload_n 2, 1), (21, .ldc 214, 2), (23, .if_icmp .le 5, 3), (28, .aload_n 0, 1), (29, .getfield 68, 3), (32, .iload_n 1, 1), (33, .aload_n 0, 1), (34, .getfield 34, 3), (37, .invokevirtual 194, 3), (40, .aload_n 0, 1)] = true := by decide +kernel
theorem dX11_mend_0 : decode cX11_mend 0 = .ok (.aload_n 0, 1) := kDec_at dA288_cX11_mend 0 rfl
theorem dX11_mend_1 : decode cX11_mend 1 = .ok (.iconst (-1), 1) := kDec_at dA288_cX11_mend 1 rfl
theorem dX11_mend_2 : decode cX11_mend 2 = .ok (.putfield 90, 3) := kDec_at dA288_cX11_mend 2 rfl
theorem dX11_mend_5 : decode cX11_mend 5 = .ok (.iload_n 1, 1) := kDec_at dA288_cX11_mend 3 rfl
theorem dX11_mend_6 : decode cX11_mend 6 = .ok (.iconst 1, 1) := kDec_at dA288_cX11_mend 4 rfl
theorem dX11_mend_7 : decode cX11_mend 7 = .ok (.if_icmp .lt 19, 3) := kDec_at dA288_cX11_mend 5 rfl
theorem dX11_mend_26 : decode cX11_mend 26 = .ok (.iconst (-1), 1) := kDec_at dA288_cX11_mend 6 rfl
theorem dX11_mend_27 : decode cX11_mend 27 = .ok (.ireturn, 1) := kDec_at dA288_cX11_mend 7 rfl
theorem dX11_mend_10 : decode cX11_mend 10 = .ok (.iload_n 1, 1) := kDec_at dA288_cX11_mend 8 rfl
theorem dX11_mend_11 : decode cX11_mend 11 = .ok (.iconst 3, 1) := kDec_at dA288_cX11_mend 9 rfl
theorem dX11_mend_12 : decode cX11_mend 12 = .ok (.if_icmp .gt 14, 3) := kDec_at dA288_cX11_mend 10 rfl
theorem dX11_mend_15 : decode cX11_mend 15 = .ok (.iload_n 2, 1) := kDec_at dA288_cX11_mend 11 rfl
theorem dX11_mend_16 : decode cX11_mend 16 = .ok (.iconst 1, 1) := kDec_at dA288_cX11_mend 12 rfl
theorem dX11_mend_17 : decode cX11_mend 17 = .ok (.if_icmp .lt 9, 3) := kDec_at dA288_cX11_mend 13 rfl
theorem dX11_mend_20 : decode cX11_mend 20 = .ok (.iload_n 2, 1) := kDec_at dA288_cX11_mend 14 rfl
theorem dX11_mend_21 : decode cX11_mend 21 = .ok (.ldc 214, 2) := kDec_at dA288_cX11_mend 15 rfl
theorem dX11_mend_23 : decode cX11_mend 23 = .ok (.if_icmp .le 5, 3) := kDec_at dA288_cX11_mend 16 rfl
theorem dX11_mend_28 : decode cX11_mend 28 = .ok (.aload_n 0, 1) := kDec_at dA288_cX11_mend 17 rfl
theorem dX11_mend_29 : decode cX11_mend 29 = .ok (.getfield 68, 3) := kDec_at dA288_cX11_mend 18 rfl
theorem dX11_mend_32 : decode cX11_mend 32 = .ok (.iload_n 1, 1) := kDec_at dA288_cX11_mend 19 rfl
theorem dX11_mend_33 : decode cX11_mend 33 = .ok (.aload_n 0, 1) := kDec_at dA288_cX11_mend 20 rfl
theorem dX11_mend_34 : decode cX11_mend 34 = .ok (.getfield 34, 3) := kDec_at dA288_cX11_mend 21 rfl
theorem dX11_mend_37 : decode cX11_mend 37 = .ok (.invokevirtual 194, 3) := kDec_at dA288_cX11_mend 22 rfl
theorem dX11_mend_40 : decode cX11_mend 40 = .ok (.aload_n 0, 1) := kDec_at dA288_cX11_mend 23 rfl
set_option maxRecDepth 20000 in
theorem ggX11_mend_X9_find : GoodIn wsX11_mend wsX9_find := goodIn_r _ [11, 12, 13, 14, 15, 16, 17, 18, 19, 20, 21, 22, 23, 24, 25, 26, 27, 28, 29, 30, 31, 32, 33, 34, 35, 36, 37, 38, 39, 40, 41, 42, 43, 44, 45, 46, 47, 48, 49, 50, 51, 52, 53, 54, 55, 56, 57, 58, 59, 60, 61, 62, 63, 64, 65, 66, 67, 68, 69, 70, 71, 72, 73, 74, 75, 76, 77, 78, 79, 80, 81, 82, 83, 84, 85, 86, 87, 88, 89, 90, 91, 92, 93, 94, 95, 96, 97, 98, 99, 100, 101, 102, 103, 104, 105, 106, 107, 108, 109, 110, 111, 112, 113, 114, 115, 116, 117, 118, 119, 120, 121, 122, 123, 124, 125, 126, 127, 128, 129, 130, 131, 132, 133, 134, 135, 136, 137, 138, 139, 140, 141, 142, 143, 10, 144, 145, 146, 147, 148, 149, 150, 151, 152, 153, 154, 155, 156, 157, 158, 159, 160, 161, 162, 163, 164, 165, 166, 167, 168, 169, 170, 171, 172, 173, 174, 175, 176, 177, 178, 179, 180, 250, 251, 252, 253, 254, 255, 256, 257, 258, 259, 260, 261, 262, 263, 264, 265, 266, 267, 268, 269, 270, 271, 272, 273, 274, 275, 276, 277, 278, 279] rfl (by decide +kernel)
set_option maxRecDepth 20000 in
theorem gX11_mend_X9_find : GoodIn wsX11_mend (wsV RX11 194 RX9 yX9_find wsX9_find) := goodIn_app (goodIn_r _ [7, 8, 9, 10] rfl (by decide +kernel)) ggX11_mend_X9_find
set_option maxRecDepth 100000 in
theorem dA289_cX11_mend : kDec cX11_mend [(41, .getfield 68, 3), (44, .invokevirtual 215, 3), (47, .istore_n 3, 1), (48, .iload_n 3, 1), (49, .iconst (-1), 1), (50, .if_icmp .eq 27, 3), (77, .iconst (-1), 1), (78, .ireturn, 1), (53, .aload_n 0, 1), (54, .getfield 52, 3), (57, .aload_n 0, 1), (58, .getfield 34, 3), (61, .invokevirtual 211, 3), (64, .aload_n 0, 1), (65, .getfield 68, 3), (68, .iload_n 3, 1), (69, .invokevirtual 218, 3), (72, .isub, 1), (73, .iload_n 2, 1), (74, .if_icmp .ge 5, 3), (79, .aload_n 0, 1), (80, .getfield 68, 3), (83, .iload_n 3, 1), (84, .aload_n 0, 1)] = true := by decide +kernel
theorem dX11_mend_41 : decode cX11_mend 41 = .ok (.getfield 68, 3) := kDec_at dA289_cX11_mend 0 rfl
theorem dX11_mend_44 : decode cX11_mend 44 = .ok (.invokevirtual 215, 3) := kDec_at dA289_cX11_mend 1 rfl
theorem dX11_mend_47 : decode cX11_mend 47 = .ok (.istore_n 3, 1) := kDec_at dA289_cX11_mend 2 rfl
theorem dX11_mend_48 : decode cX11_mend 48 = .ok (.iload_n 3, 1) := kDec_at dA289_cX11_mend 3 rfl
theorem dX11_mend_49 : decode cX11_mend 49 = .ok (.iconst (-1), 1) := kDec_at dA289_cX11_mend 4 rfl
theorem dX11_mend_50 : decode cX11_mend 50 = .ok (.if_icmp .eq 27, 3) := kDec_at dA289_cX11_mend 5 rfl
theorem dX11_mend_77 : decode cX11_mend 77 = .ok (.iconst (-1), 1) := kDec_at dA289_cX11_mend 6 rfl
theorem dX11_mend_78 : decode cX11_mend 78 = .ok (.ireturn, 1) := kDec_at dA289_cX11_mend 7 rfl
theorem dX11_mend_53 : decode cX11_mend 53 = .ok (.aload_n 0, 1) := kDec_at dA289_cX11_mend 8 rfl
theorem dX11_mend_54 : decode cX11_mend 54 = .ok (.getfield 52, 3) := kDec_at dA289_cX11_mend 9 rfl
theorem dX11_mend_57 : decode cX11_mend 57 = .ok (.aload_n 0, 1) := kDec_at dA289_cX11_mend 10 rfl
theorem dX11_mend_58 : decode cX11_mend 58 = .ok (.getfield 34, 3) := kDec_at dA289_cX11_mend 11 rfl
theorem dX11_mend_61 : decode cX11_mend 61 = .ok (.invokevirtual 211, 3) := kDec_at dA289_cX11_mend 12 rfl
theorem dX11_mend_64 : decode cX11_mend 64 = .ok (.aload_n 0, 1) := kDec_at dA289_cX11_mend 13 rfl
theorem dX11_mend_65 : decode cX11_mend 65 = .ok (.getfield 68, 3) := kDec_at dA289_cX11_mend 14 rfl
theorem dX11_mend_68 : decode cX11_mend 68 = .ok (.iload_n 3, 1) := kDec_at dA289_cX11_mend 15 rfl
theorem dX11_mend_69 : decode cX11_mend 69 = .ok (.invokevirtual 218, 3) := kDec_at dA289_cX11_mend 16 rfl
theorem dX11_mend_72 : decode cX11_mend 72 = .ok (.isub, 1) := kDec_at dA289_cX11_mend 17 rfl
theorem dX11_mend_73 : decode cX11_mend 73 = .ok (.iload_n 2, 1) := kDec_at dA289_cX11_mend 18 rfl
theorem dX11_mend_74 : decode cX11_mend 74 = .ok (.if_icmp .ge 5, 3) := kDec_at dA289_cX11_mend 19 rfl
theorem dX11_mend_79 : decode cX11_mend 79 = .ok (.aload_n 0, 1) := kDec_at dA289_cX11_mend 20 rfl
theorem dX11_mend_80 : decode cX11_mend 80 = .ok (.getfield 68, 3) := kDec_at dA289_cX11_mend 21 rfl
theorem dX11_mend_83 : decode cX11_mend 83 = .ok (.iload_n 3, 1) := kDec_at dA289_cX11_mend 22 rfl
theorem dX11_mend_84 : decode cX11_mend 84 = .ok (.aload_n 0, 1) := kDec_at dA289_cX11_mend 23 rfl
set_option maxRecDepth 20000 in
theorem ggX11_mend_X9_cheapest : GoodIn wsX11_mend wsX9_cheapest := goodIn_r _ [184, 12, 250, 251, 252, 253, 254, 255, 256, 257, 258, 259, 260, 261] rfl (by decide +kernel)
set_option maxRecDepth 20000 in
theorem gX11_mend_X9_cheapest : GoodIn wsX11_mend (wsV RX11 215 RX9 yX9_cheapest wsX9_cheapest) := goodIn_app (goodIn_r _ [181, 182, 183, 10] rfl (by decide +kernel)) ggX11_mend_X9_cheapest
set_option maxRecDepth 20000 in
theorem ggX11_mend_X3_ofText : GoodIn wsX11_mend wsX3_ofText := goodIn_r _ [151, 152, 53, 54, 49, 55, 51, 153, 57, 58, 59, 60, 154, 155, 156, 150, 157, 158, 159, 160, 161, 162, 163, 164, 165, 166, 167, 168, 169, 170, 171, 172, 173, 174, 269, 270, 277, 278, 279] rfl (by decide +kernel)
set_option maxRecDepth 20000 in
theorem gX11_mend_X3_ofText : GoodIn wsX11_mend (wsV RX11 211 RX3 yX3_ofText wsX3_ofText) := goodIn_app (goodIn_r _ [185, 148, 149, 150] rfl (by decide +kernel)) ggX11_mend_X3_ofText
set_option maxRecDepth 20000 in
theorem ggX11_mend_X9_costAt : GoodIn wsX11_mend wsX9_costAt := goodIn_r _ [189, 12, 250, 251, 252, 253, 254, 255, 256, 257, 258, 259, 260, 261] rfl (by decide +kernel)
set_option maxRecDepth 20000 in
theorem gX11_mend_X9_costAt : GoodIn wsX11_mend (wsV RX11 218 RX9 yX9_costAt wsX9_costAt) := goodIn_app (goodIn_r _ [186, 187, 188, 10] rfl (by decide +kernel)) ggX11_mend_X9_costAt
set_option maxRecDepth 100000 in
theorem dA290_cX11_mend : kDec cX11_mend [(85, .getfield 34, 3), (88, .aload_n 0, 1), (89, .getfield 37, 3), (92, .invokevirtual 221, 3), (95, .ifCond .ne 5, 3), (100, .aload_n 0, 1), (101, .aload_n 0, 1), (102, .getfield 37, 3), (105, .invokevirtual 113, 3), (108, .pop, 1), (109, .aload_n 0, 1), (110, .getfield 68, 3), (113, .iload_n 3, 1), (114, .invokevirtual 224, 3), (117, .ireturn, 1), (98, .iconst (-1), 1), (99, .ireturn, 1)] = true := by decide +kernel
theorem dX11_mend_85 : decode cX11_mend 85 = .ok (.getfield 34, 3) := kDec_at dA290_cX11_mend 0 rfl
theorem dX11_mend_88 : decode cX11_mend 88 = .ok (.aload_n 0, 1) := kDec_at dA290_cX11_mend 1 rfl
theorem dX11_mend_89 : decode cX11_mend 89 = .ok (.getfield 37, 3) := kDec_at dA290_cX11_mend 2 rfl
theorem dX11_mend_92 : decode cX11_mend 92 = .ok (.invokevirtual 221, 3) := kDec_at dA290_cX11_mend 3 rfl
theorem dX11_mend_95 : decode cX11_mend 95 = .ok (.ifCond .ne 5, 3) := kDec_at dA290_cX11_mend 4 rfl
theorem dX11_mend_100 : decode cX11_mend 100 = .ok (.aload_n 0, 1) := kDec_at dA290_cX11_mend 5 rfl
theorem dX11_mend_101 : decode cX11_mend 101 = .ok (.aload_n 0, 1) := kDec_at dA290_cX11_mend 6 rfl
theorem dX11_mend_102 : decode cX11_mend 102 = .ok (.getfield 37, 3) := kDec_at dA290_cX11_mend 7 rfl
theorem dX11_mend_105 : decode cX11_mend 105 = .ok (.invokevirtual 113, 3) := kDec_at dA290_cX11_mend 8 rfl
theorem dX11_mend_108 : decode cX11_mend 108 = .ok (.pop, 1) := kDec_at dA290_cX11_mend 9 rfl
theorem dX11_mend_109 : decode cX11_mend 109 = .ok (.aload_n 0, 1) := kDec_at dA290_cX11_mend 10 rfl
theorem dX11_mend_110 : decode cX11_mend 110 = .ok (.getfield 68, 3) := kDec_at dA290_cX11_mend 11 rfl
theorem dX11_mend_113 : decode cX11_mend 113 = .ok (.iload_n 3, 1) := kDec_at dA290_cX11_mend 12 rfl
theorem dX11_mend_114 : decode cX11_mend 114 = .ok (.invokevirtual 224, 3) := kDec_at dA290_cX11_mend 13 rfl
theorem dX11_mend_117 : decode cX11_mend 117 = .ok (.ireturn, 1) := kDec_at dA290_cX11_mend 14 rfl
theorem dX11_mend_98 : decode cX11_mend 98 = .ok (.iconst (-1), 1) := kDec_at dA290_cX11_mend 15 rfl
theorem dX11_mend_99 : decode cX11_mend 99 = .ok (.ireturn, 1) := kDec_at dA290_cX11_mend 16 rfl
set_option maxRecDepth 20000 in
theorem ggX11_mend_X9_build : GoodIn wsX11_mend wsX9_build := goodIn_r _ [193, 14, 180, 13, 15, 194, 195, 196, 49, 197, 51, 198, 199, 200, 201, 60, 202, 203, 204, 205, 27, 28, 29, 24, 30, 26, 31, 32, 33, 34, 35, 36, 37, 38, 39, 40, 41, 42, 43, 44, 45, 46, 47, 48, 50, 52, 53, 54, 55, 56, 57, 58, 59, 61, 62, 63, 64, 65, 66, 67, 68, 69, 70, 71, 72, 73, 74, 75, 76, 77, 78, 79, 80, 81, 82, 83, 84, 85, 86, 87, 88, 89, 90, 91, 92, 93, 94, 95, 96, 97, 98, 99, 100, 101, 102, 103, 104, 105, 106, 107, 108, 109, 110, 111, 112, 113, 114, 115, 116, 117, 118, 119, 120, 121, 122, 123, 124, 125, 126, 127, 128, 129, 130, 131, 132, 133, 134, 135, 136, 137, 138, 139, 140, 250, 251, 252, 253, 254, 255, 256, 257, 258, 259, 260, 261, 269, 270, 262, 263, 264, 265, 266, 267, 268, 271, 272, 273, 274, 275, 276] rfl (by decide +kernel)
set_option maxRecDepth 20000 in
theorem gX11_mend_X9_build : GoodIn wsX11_mend (wsV RX11 221 RX9 yX9_build wsX9_build) := goodIn_app (goodIn_r _ [190, 191, 192, 10] rfl (by decide +kernel)) ggX11_mend_X9_build
set_option maxRecDepth 20000 in
theorem ggX11_mend_X11_become : GoodIn wsX11_mend wsX11_become := goodIn_r _ [209, 210, 4, 211, 212, 213, 214, 215, 216, 217, 218, 103, 219, 220, 221, 222, 223, 224, 53, 54, 49, 55, 51, 225, 57, 58, 59, 60, 226, 195, 196, 197, 198, 199, 200, 201, 202, 203, 204, 205, 227, 228, 229, 230, 231, 232, 233, 238, 239, 240, 241, 242, 243, 244, 245, 246, 247, 248, 249, 280, 281, 282, 283, 269, 270, 284, 285, 286, 287, 288, 289, 290, 291, 292, 293, 294, 295, 296, 297, 298, 299, 300, 301, 302, 303] rfl (by decide +kernel)
set_option maxRecDepth 20000 in
theorem gX11_mend_X11_become : GoodIn wsX11_mend (wsV RX11 113 RX11 yX11_become wsX11_become) := goodIn_app (goodIn_r _ [206, 207, 208, 126] rfl (by decide +kernel)) ggX11_mend_X11_become
set_option maxRecDepth 20000 in
theorem ggX11_mend_X9_numberOf : GoodIn wsX11_mend wsX9_numberOf := goodIn_r _ [237, 12, 250, 251, 252, 253, 254, 255, 256, 257, 258, 259, 260, 261] rfl (by decide +kernel)
set_option maxRecDepth 20000 in
theorem gX11_mend_X9_numberOf : GoodIn wsX11_mend (wsV RX11 224 RX9 yX9_numberOf wsX9_numberOf) := goodIn_app (goodIn_r _ [234, 235, 236, 10] rfl (by decide +kernel)) ggX11_mend_X9_numberOf

end

/-! 59t.rows -/
section
set_option maxHeartbeats 40000000 in
set_option maxRecDepth 100000 in
theorem f_X11_mend (l : Launch) (dC : Nat → ClassId) (dI : Nat → Nat → Nat) (cI cS : ClassId) (sz : Nat) (oX : Nat) (nT : Nat) (nL : Nat) (nM : Nat) (oC : Nat) (oP : Nat) (oH : Nat) (oK : Nat) (oG : Nat) (oR : Nat) (oQ : Nat) (oW : Nat) (n1 : Nat) (n2 : Nat) (n3 : Nat) (r1 : Nat) (r2 : Nat) (r3 : Nat) (r4 : Nat) (r5 : Nat) (r6 : Nat) (a1 : Nat) (a2 : Nat) (a3 : Nat) (h1 : Nat) (h2 : Nat) (nB : Nat) (aB : Nat) (o4 : Nat) (o5 : Nat) (a41 : Nat) (a42 : Nat) (a43 : Nat) (a51 : Nat) (a52 : Nat) (a53 : Nat) (k1 : Nat) (k2 : Nat) (aL : Nat) (aM : Nat) (g1 : Nat) (g2 : Nat) (nw : Nat) (w1 : Nat) (w2 : Nat) (w3 : Nat) (o7 : Nat) (o8 : Nat) (o9 : Nat) (w4 : Nat) (w5 : Nat) (w6 : Nat) (w7 : Nat) (fa : Int32) (lR : Int32) (fR1 : Nat → Int32) (fR2 : Nat → Int32) (fR3 : Nat → Int32) (l1 : Int32) (f1 : Nat → Int32) (l2 : Int32) (f2 : Nat → Int32) (l3 : Int32) (f3 : Nat → Int32) (lH : Int32) (fH1 : Nat → Int32) (fH2 : Nat → Int32) (ft : Int32) (lB : Int32) (fB : Nat → Int32) (l4 : Int32) (f41 : Nat → Int32) (f42 : Nat → Int32) (f43 : Nat → Int32) (l5 : Int32) (f51 : Nat → Int32) (f52 : Nat → Int32) (f53 : Nat → Int32) (lK : Int32) (fK1 : Nat → Int32) (fK2 : Nat → Int32) (lL : Int32) (fL : Nat → Int32) (lM : Int32) (fM : Nat → Int32) (gn : Int32) (lG : Int32) (fG1 : Nat → Int32) (fG2 : Nat → Int32) (ke : Int32) (tl : Int32) (fsh : Int32) (wi : Int32) (ri : Int32) (fm : Int32) (lm : Int32) (n : Int32) (gn_ : Int32) (g_lR : 0 ≤ lR.toInt ∧ lR.toInt ≤ 258) (g_l1 : 0 ≤ l1.toInt ∧ l1.toInt ≤ 300) (g_l2 : 0 ≤ l2.toInt ∧ l2.toInt ≤ 300) (g_l3 : 0 ≤ l3.toInt ∧ l3.toInt ≤ 300) (g_lH : 0 ≤ lH.toInt ∧ lH.toInt ≤ 6) (g_lB : 0 ≤ lB.toInt ∧ lB.toInt ≤ 2400) (g_lK : 0 ≤ lK.toInt ∧ lK.toInt ≤ 300) (g_lL : 0 ≤ lL.toInt ∧ lL.toInt ≤ 300) (g_lM : 0 ≤ lM.toInt ∧ lM.toInt ≤ 300) (g_gn : 0 ≤ gn.toInt ∧ gn.toInt ≤ 19) (g_lG : 0 ≤ lG.toInt ∧ lG.toInt ≤ 20) (g_fG2 : rg 0 300 fG2) (g_ke : 0 ≤ ke.toInt ∧ ke.toInt ≤ 200) (g_fsh : 0 ≤ fsh.toInt ∧ fsh.toInt ≤ 1) (g_fm : -1 ≤ fm.toInt ∧ fm.toInt ≤ 800) (g_lm : -1 ≤ lm.toInt ∧ lm.toInt ≤ 800) (hlt : prg lL.toInt 0 65535 fL) (hT4 : HT 512 511 hsT f42 f43) (ho4 : (occ f43 512 : Int) ≤ 511) (hT5 : HT 512 511 hsT f52 f53) (ho5 : (occ f53 512 : Int) ≤ 511) (hL4 : prg 256 (-1) 65535 f41) (hL5 : prg 256 (-1) 65535 f51) (hBr : ∀ cd : Int32, okB (Bc cd f42 f43 f52 f53)) (hT : HT 1024 1023 hsK fK1 fK2) (ho : (occ fK2 1024 : Int) ≤ lK.toInt) (hV : prg 1024 (-1) 200 fK2) : kMi l yX11_mend wsX11_mend ({ frames := 7, cells := 0, slots := 0, locals := 175 } : Room) [.ref oX, .int n, .int gn_] sz (dC, dI) vwCl [(cI, .int), (cS, .short)] [(oX, .inr (11, [.ref nT, .ref nL, .ref nM, .ref oC, .ref oP, .ref oH, .ref oK, .ref oG, .ref oR, .ref oQ, .ref oW, .int fa])), (oR, .inr (9, [.ref oH, .ref oK, .ref n1, .ref n2, .ref n3, .ref r1, .ref r2, .ref r3, .ref r4, .ref r5, .ref r6, .int lR])), (r1, .inl (cI, 258, .inl fR1)), (r2, .inl (cI, 258, .inl fR2)), (r3, .inl (cI, 774, .inl fR3)), (n1, .inr (5, [.ref a1, .int l1])), (a1, .inl (cI, 300, .inl f1)), (n2, .inr (5, [.ref a2, .int l2])), (a2, .inl (cI, 300, .inl f2)), (n3, .inr (5, [.ref a3, .int l3])), (a3, .inl (cI, 300, .inl f3)), (oH, .inr (4, [.ref oP, .ref h1, .ref h2, .int lH])), (h1, .inl (cI, 6, .inl fH1)), (h2, .inl (cI, 6, .inl fH2)), (oP, .inr (7, [.ref oC, .ref nB, .int ft])), (nB, .inr (5, [.ref aB, .int lB])), (aB, .inl (cI, 2400, .inl fB)), (oC, .inr (2, [.ref o4, .ref o5])), (o4, .inr (10, [.ref a41, .ref a42, .ref a43, .int l4])), (a41, .inl (cI, 256, .inl f41)), (a42, .inl (cI, 512, .inl f42)), (a43, .inl (cI, 512, .inl f43)), (o5, .inr (10, [.ref a51, .ref a52, .ref a53, .int l5])), (a51, .inl (cI, 256, .inl f51)), (a52, .inl (cI, 512, .inl f52)), (a53, .inl (cI, 512, .inl f53)), (oK, .inr (3, [.ref k1, .ref k2, .int lK])), (k1, .inl (cI, 1024, .inl fK1)), (k2, .inl (cI, 1024, .inl fK2)), (nL, .inr (5, [.ref aL, .int lL])), (aL, .inl (cI, 300, .inl fL)), (nM, .inr (5, [.ref aM, .int lM])), (aM, .inl (cI, 300, .inl fM)), (oG, .inr (0, [.ref g1, .ref g2, .int gn, .int lG])), (g1, .inl (cI, 6000, .inl fG1)), (g2, .inl (cI, 20, .inl fG2)), (oW, .inr (1, [.ref oC, .ref oK, .ref nw, .ref w1, .ref w2, .ref w3, .ref o7, .ref o8, .ref o9, .ref w4, .ref w5, .ref w6, .ref w7, .int ke, .int tl, .int fsh, .int wi, .int ri, .int fm, .int lm]))] (va_Nw (.methodLinkNest RX2 52 yX11_isLetter "TextMender")) 0 0 (fun (A : Nat → Prop) (r : Int32) (hh9 : Heap) => ∃ (fa' : Int32) (ft' : Int32) (lB' : Int32) (fB' : Nat → Int32) (l1' : Int32) (f1' : Nat → Int32) (l2' : Int32) (f2' : Nat → Int32) (l3' : Int32) (f3' : Nat → Int32) (fR1' : Nat → Int32) (fR2' : Nat → Int32) (fR3' : Nat → Int32) (lM' : Int32) (fM' : Nat → Int32) (lL' : Int32) (fL' : Nat → Int32) (fsh' : Int32) (gn' : Int32) (lG' : Int32) (fG1' : Nat → Int32) (fG2' : Nat → Int32), kPD (dC, dI) vwCl A [(oX, .inr (11, [.ref nT, .ref nL, .ref nM, .ref oC, .ref oP, .ref oH, .ref oK, .ref oG, .ref oR, .ref oQ, .ref oW, .int fa'])), (oR, .inr (9, [.ref oH, .ref oK, .ref n1, .ref n2, .ref n3, .ref r1, .ref r2, .ref r3, .ref r4, .ref r5, .ref r6, .int lR])), (r1, .inl (cI, 258, .inl fR1')), (r2, .inl (cI, 258, .inl fR2')), (r3, .inl (cI, 774, .inl fR3')), (n1, .inr (5, [.ref a1, .int l1'])), (a1, .inl (cI, 300, .inl f1')), (n2, .inr (5, [.ref a2, .int l2'])), (a2, .inl (cI, 300, .inl f2')), (n3, .inr (5, [.ref a3, .int l3'])), (a3, .inl (cI, 300, .inl f3')), (oH, .inr (4, [.ref oP, .ref h1, .ref h2, .int lH])), (h1, .inl (cI, 6, .inl fH1)), (h2, .inl (cI, 6, .inl fH2)), (oP, .inr (7, [.ref oC, .ref nB, .int ft'])), (nB, .inr (5, [.ref aB, .int lB'])), (aB, .inl (cI, 2400, .inl fB')), (oC, .inr (2, [.ref o4, .ref o5])), (o4, .inr (10, [.ref a41, .ref a42, .ref a43, .int l4])), (a41, .inl (cI, 256, .inl f41)), (a42, .inl (cI, 512, .inl f42)), (a43, .inl (cI, 512, .inl f43)), (o5, .inr (10, [.ref a51, .ref a52, .ref a53, .int l5])), (a51, .inl (cI, 256, .inl f51)), (a52, .inl (cI, 512, .inl f52)), (a53, .inl (cI, 512, .inl f53)), (oK, .inr (3, [.ref k1, .ref k2, .int lK])), (k1, .inl (cI, 1024, .inl fK1)), (k2, .inl (cI, 1024, .inl fK2)), (nL, .inr (5, [.ref aL, .int lL'])), (aL, .inl (cI, 300, .inl fL')), (nM, .inr (5, [.ref aM, .int lM'])), (aM, .inl (cI, 300, .inl fM')), (oG, .inr (0, [.ref g1, .ref g2, .int gn', .int lG'])), (g1, .inl (cI, 6000, .inl fG1')), (g2, .inl (cI, 20, .inl fG2')), (oW, .inr (1, [.ref oC, .ref oK, .ref nw, .ref w1, .ref w2, .ref w3, .ref o7, .ref o8, .ref o9, .ref w4, .ref w5, .ref w6, .ref w7, .int ke, .int tl, .int fsh', .int wi, .int ri, .int fm, .int lm]))] hh9 ∧ (0 ≤ lB'.toInt ∧ lB'.toInt ≤ 2400) ∧ (0 ≤ l1'.toInt ∧ l1'.toInt ≤ 300) ∧ (0 ≤ l2'.toInt ∧ l2'.toInt ≤ 300) ∧ (0 ≤ l3'.toInt ∧ l3'.toInt ≤ 300) ∧ (0 ≤ lM'.toInt ∧ lM'.toInt ≤ 300) ∧ (0 ≤ lL'.toInt ∧ lL'.toInt ≤ 300) ∧ (0 ≤ fsh'.toInt ∧ fsh'.toInt ≤ 1) ∧ (0 ≤ gn'.toInt ∧ gn'.toInt ≤ 19) ∧ (0 ≤ lG'.toInt ∧ lG'.toInt ≤ 20) ∧ (rg 0 300 fG2') ∧ ((¬ (1 ≤ n.toInt ∧ n.toInt ≤ 3 ∧ 1 ≤ gn_.toInt ∧ gn_.toInt ≤ 100000)) ∨ rGE (UC fH1 fH2 f41 f42 f43 f51 f52 f53) (tcC fK1 fK2) lH.toNatClampNeg lL.toInt.toNat fL n.toInt fR1' fR2' fR3') ∧ (OC (-1) r fsh fsh' gn gn' lG lG' lL lL' fG1 fG1' fG2 fG2' fL fL' (mdP (UC fH1 fH2 f41 f42 f43 f51 f52 f53) (tcC fK1 fK2) lH.toNatClampNeg lL.toInt.toNat fL n.toInt gn_.toInt fR1'))) := by
  refine kMi_of (cc := cX11_mend) (maxL := 4) (ret := (some .int)) (lv := [(0, .ref oX), (1, .int n), (2, .int gn_)]) (by decide +kernel) rfl rfl (Nat.le_of_ble_eq_true rfl) ?_
  intro p e s m below meth c A QQ ls hx hb hr hts hml hown hlocks hA hQQ hK hX hP hD hS hl
  have hown : s.vm.findClass RX11 = some m.cls := hown
  have hcf := k_cf hx hb hml hown hts
  have hN52 := hX
  have in_X11 : ∀ w ∈ wsX110, w ∈ wsX11_mend := fun _ h => List.mem_cons_of_mem _ (List.mem_append_left _ (List.mem_append_left _ (List.mem_append_left _ (List.mem_append_left _ (List.mem_append_left _ (List.mem_append_left _ (List.mem_append_left _ (List.mem_append_left _ (List.mem_append_left _ (List.mem_append_right _ (h)))))))))))
  replace g_lR := hid g_lR
  replace g_l1 := hid g_l1
  replace g_l2 := hid g_l2
  replace g_l3 := hid g_l3
  replace g_lB := hid g_lB
  replace g_lM := hid g_lM
  replace g_ke := hid g_ke
  replace g_lm := hid g_lm
  have hU : okU (UC fH1 fH2 f41 f42 f43 f51 f52 f53) := okU_C hBr hL4 hL5
  have hf9 : prg ((lL.toInt.toNat : Nat) : Int) 0 65535 fL := fun j hj => hlt j (by omega)
  refine lv_aload_n hx hb dX11_mend_0 rfl (lv_at hl 0 rfl) ?_
  refine lv_iconst (v := (-1)) hx hb dX11_mend_1 (by decide) ?_
  refine va_put (D := (dC, dI)) (ci := 11) (v := .int (-1)) (ty := .int) (C := RX11) (T := TX11) (N := 12) hx hb hts in_X11 tyX11 tyX11_ok nmX11 hown hK hP hD hS 0 rfl rfl 11 (by decide) (hts (.fieldLink RX11 90 "TextMender" "fault" "I") (List.mem_of_getElem? (i := 1) rfl)) (fun _ h9 => h9) rfl (by decide +kernel) rfl rfl (Nat.le_of_ble_eq_true rfl) dX11_mend_2 (kW (wn := [(oX, .inr (11, [.ref nT, .ref nL, .ref nM, .ref oC, .ref oP, .ref oH, .ref oK, .ref oG, .ref oR, .ref oQ, .ref oW, .int (-1)])), (oR, .inr (9, [.ref oH, .ref oK, .ref n1, .ref n2, .ref n3, .ref r1, .ref r2, .ref r3, .ref r4, .ref r5, .ref r6, .int lR])), (r1, .inl (cI, 258, .inl fR1)), (r2, .inl (cI, 258, .inl fR2)), (r3, .inl (cI, 774, .inl fR3)), (n1, .inr (5, [.ref a1, .int l1])), (a1, .inl (cI, 300, .inl f1)), (n2, .inr (5, [.ref a2, .int l2])), (a2, .inl (cI, 300, .inl f2)), (n3, .inr (5, [.ref a3, .int l3])), (a3, .inl (cI, 300, .inl f3)), (oH, .inr (4, [.ref oP, .ref h1, .ref h2, .int lH])), (h1, .inl (cI, 6, .inl fH1)), (h2, .inl (cI, 6, .inl fH2)), (oP, .inr (7, [.ref oC, .ref nB, .int ft])), (nB, .inr (5, [.ref aB, .int lB])), (aB, .inl (cI, 2400, .inl fB)), (oC, .inr (2, [.ref o4, .ref o5])), (o4, .inr (10, [.ref a41, .ref a42, .ref a43, .int l4])), (a41, .inl (cI, 256, .inl f41)), (a42, .inl (cI, 512, .inl f42)), (a43, .inl (cI, 512, .inl f43)), (o5, .inr (10, [.ref a51, .ref a52, .ref a53, .int l5])), (a51, .inl (cI, 256, .inl f51)), (a52, .inl (cI, 512, .inl f52)), (a53, .inl (cI, 512, .inl f53)), (oK, .inr (3, [.ref k1, .ref k2, .int lK])), (k1, .inl (cI, 1024, .inl fK1)), (k2, .inl (cI, 1024, .inl fK2)), (nL, .inr (5, [.ref aL, .int lL])), (aL, .inl (cI, 300, .inl fL)), (nM, .inr (5, [.ref aM, .int lM])), (aM, .inl (cI, 300, .inl fM)), (oG, .inr (0, [.ref g1, .ref g2, .int gn, .int lG])), (g1, .inl (cI, 6000, .inl fG1)), (g2, .inl (cI, 20, .inl fG2)), (oW, .inr (1, [.ref oC, .ref oK, .ref nw, .ref w1, .ref w2, .ref w3, .ref o7, .ref o8, .ref o9, .ref w4, .ref w5, .ref w6, .ref w7, .int ke, .int tl, .int fsh, .int wi, .int ri, .int fm, .int lm]))]) rfl (fun H locs hPn hDn hSn => ?_))
  clear hP hD hS
  have hP := hPn
  have hD := hDn
  have hS := hSn
  clear hPn hDn hSn
  refine lv_iload_n hx hb dX11_mend_5 rfl (lv_at hl 1 rfl) ?_
  refine lv_iconst (v := 1) hx hb dX11_mend_6 (by decide) ?_
  refine lv_icmp_lt (tgt := 26) hx hb dX11_mend_7 (by decide) (fun c_1 => ?_) (fun c_1 => ?_)
  · have tc_1 : n.toInt < 1 := v_lt c_1
    refine lv_iconst (v := (-1)) hx hb dX11_mend_26 (by decide) ?_
    exact kl_i (v := (-1)) hQQ hx hb hr hlocks hS dX11_mend_27 ⟨(-1), ft, lB, fB, l1, f1, l2, f2, l3, f3, fR1, fR2, fR3, lM, fM, lL, fL, fsh, gn, lG, fG1, fG2, ⟨hP, hD⟩, g_lB, g_l1, g_l2, g_l3, g_lM, g_lL, g_fsh, g_gn, g_lG, g_fG2, Or.inl (by omega), OC_n rfl (fun c fm v h => absurd h.1 (by omega))⟩
  · have tc_1 : 1 ≤ n.toInt := v_nlt c_1
    refine lv_iload_n hx hb dX11_mend_10 rfl (lv_at hl 1 rfl) ?_
    refine lv_iconst (v := 3) hx hb dX11_mend_11 (by decide) ?_
    refine lv_icmp_gt (tgt := 26) hx hb dX11_mend_12 (by decide) (fun c_2 => ?_) (fun c_2 => ?_)
    · have tc_2 : 3 < n.toInt := v_lt c_2
      refine lv_iconst (v := (-1)) hx hb dX11_mend_26 (by decide) ?_
      exact kl_i (v := (-1)) hQQ hx hb hr hlocks hS dX11_mend_27 ⟨(-1), ft, lB, fB, l1, f1, l2, f2, l3, f3, fR1, fR2, fR3, lM, fM, lL, fL, fsh, gn, lG, fG1, fG2, ⟨hP, hD⟩, g_lB, g_l1, g_l2, g_l3, g_lM, g_lL, g_fsh, g_gn, g_lG, g_fG2, Or.inl (by omega), OC_n rfl (fun c fm v h => absurd h.1 (by omega))⟩
    · have tc_2 : n.toInt ≤ 3 := v_nlt c_2
      refine lv_iload_n hx hb dX11_mend_15 rfl (lv_at hl 2 rfl) ?_
      refine lv_iconst (v := 1) hx hb dX11_mend_16 (by decide) ?_
      refine lv_icmp_lt (tgt := 26) hx hb dX11_mend_17 (by decide) (fun c_3 => ?_) (fun c_3 => ?_)
      · have tc_3 : gn_.toInt < 1 := v_lt c_3
        refine lv_iconst (v := (-1)) hx hb dX11_mend_26 (by decide) ?_
        exact kl_i (v := (-1)) hQQ hx hb hr hlocks hS dX11_mend_27 ⟨(-1), ft, lB, fB, l1, f1, l2, f2, l3, f3, fR1, fR2, fR3, lM, fM, lL, fL, fsh, gn, lG, fG1, fG2, ⟨hP, hD⟩, g_lB, g_l1, g_l2, g_l3, g_lM, g_lL, g_fsh, g_gn, g_lG, g_fG2, Or.inl (by omega), OC_n rfl (fun c fm v h => absurd h.1 (by omega))⟩
      · have tc_3 : 1 ≤ gn_.toInt := v_nlt c_3
        refine lv_iload_n hx hb dX11_mend_20 rfl (lv_at hl 2 rfl) ?_
        refine lv_ldc hx hb hown (hts (.constant RX11 214 (100000)) (List.mem_of_getElem? (i := 2) rfl)) dX11_mend_21 ?_
        refine lv_icmp_le (tgt := 28) hx hb dX11_mend_23 (by decide) (fun c_4 => ?_) (fun c_4 => ?_)
        · have tc_4 : gn_.toInt ≤ 100000 := v_le c_4
          refine lv_aload_n hx hb dX11_mend_28 rfl (lv_at hl 0 rfl) ?_
          refine va_get (D := (dC, dI)) (ci := 11) (v := .ref oR) (C := RX11) (T := TX11) (N := 12) hx hb hts in_X11 hown hK hP 0 rfl rfl 8 (by decide) (hts (.fieldLink RX11 68 "TextMender" "rowBook" "LTextMender$Rows;") (List.mem_of_getElem? (i := 3) rfl)) (fun _ h9 => h9) rfl dX11_mend_29 ?_
          refine lv_iload_n hx hb dX11_mend_32 rfl (lv_at hl 1 rfl) ?_
          refine lv_aload_n hx hb dX11_mend_33 rfl (lv_at hl 0 rfl) ?_
          refine va_get (D := (dC, dI)) (ci := 11) (v := .ref nL) (C := RX11) (T := TX11) (N := 12) hx hb hts in_X11 hown hK hP 0 rfl rfl 1 (by decide) (hts (.fieldLink RX11 34 "TextMender" "letters" "LTextMender$Numbers;") (List.mem_of_getElem? (i := 4) rfl)) (fun _ h9 => h9) rfl dX11_mend_34 ?_
          refine kV_v (rest := []) (q0 := 0) (ci := 9) hcf (f_X9_find l dC dI cI cS H.size oR nL oH oK n1 n2 n3 r1 r2 r3 r4 r5 r6 a1 a2 a3 oP h1 h2 oC nB aB o4 o5 a41 a42 a43 a51 a52 a53 k1 k2 aL lR fR1 fR2 fR3 l1 f1 l2 f2 l3 f3 lH fH1 fH2 ft lB fB l4 f41 f42 f43 l5 f51 f52 f53 lK fK1 fK2 lL fL n (g_lR) (g_l1) (g_l2) (g_l3) (g_lH) (g_lB) (g_lK) (g_lL) (by omega) (hlt) (hT4) (ho4) (hT5) (ho5) (hL4) (hL5) (hBr) (hT) (ho) (hV)) kc_X9_find gX11_mend_X9_find rfl rfl rfl ⟨Nat.le_of_ble_eq_true rfl, Nat.le_of_ble_eq_true rfl⟩ (kX_1 hN52) hK hP hD hS hA [1, 2, 3, 4, 5, 6, 7, 8, 9, 10, 11, 12, 13, 14, 15, 16, 17, 18, 19, 20, 21, 22, 23, 24, 25, 26, 27, 28, 29, 30] [0, 31, 32, 33, 34, 35, 36] rfl (by decide +kernel) rfl rfl rfl hl rfl (Nat.le_of_ble_eq_true rfl) dX11_mend_37 ⟨Nat.le_of_ble_eq_true rfl, Nat.le_of_ble_eq_true rfl⟩ (fun H locs hB hJ hSn => ?_)
          obtain ⟨ft_5, lB_5, fB_5, l1_5, f1_5, l2_5, f2_5, l3_5, f3_5, fR1_5, fR2_5, fR3_5, ⟨hP1, hD1⟩, hf5_0, hf5_1, hf5_2, hf5_3, hf5_4⟩ := hB
          obtain ⟨hPn, hDn⟩ := hJ _ hP1 hD1 [(oX, .inr (11, [.ref nT, .ref nL, .ref nM, .ref oC, .ref oP, .ref oH, .ref oK, .ref oG, .ref oR, .ref oQ, .ref oW, .int (-1)])), (nM, .inr (5, [.ref aM, .int lM])), (aM, .inl (cI, 300, .inl fM)), (oG, .inr (0, [.ref g1, .ref g2, .int gn, .int lG])), (g1, .inl (cI, 6000, .inl fG1)), (g2, .inl (cI, 20, .inl fG2)), (oW, .inr (1, [.ref oC, .ref oK, .ref nw, .ref w1, .ref w2, .ref w3, .ref o7, .ref o8, .ref o9, .ref w4, .ref w5, .ref w6, .ref w7, .int ke, .int tl, .int fsh, .int wi, .int ri, .int fm, .int lm])), (oR, .inr (9, [.ref oH, .ref oK, .ref n1, .ref n2, .ref n3, .ref r1, .ref r2, .ref r3, .ref r4, .ref r5, .ref r6, .int lR])), (r1, .inl (cI, 258, .inl fR1_5)), (r2, .inl (cI, 258, .inl fR2_5)), (r3, .inl (cI, 774, .inl fR3_5)), (n1, .inr (5, [.ref a1, .int l1_5])), (a1, .inl (cI, 300, .inl f1_5)), (n2, .inr (5, [.ref a2, .int l2_5])), (a2, .inl (cI, 300, .inl f2_5)), (n3, .inr (5, [.ref a3, .int l3_5])), (a3, .inl (cI, 300, .inl f3_5)), (oH, .inr (4, [.ref oP, .ref h1, .ref h2, .int lH])), (h1, .inl (cI, 6, .inl fH1)), (h2, .inl (cI, 6, .inl fH2)), (oP, .inr (7, [.ref oC, .ref nB, .int ft_5])), (nB, .inr (5, [.ref aB, .int lB_5])), (aB, .inl (cI, 2400, .inl fB_5)), (oC, .inr (2, [.ref o4, .ref o5])), (o4, .inr (10, [.ref a41, .ref a42, .ref a43, .int l4])), (a41, .inl (cI, 256, .inl f41)), (a42, .inl (cI, 512, .inl f42)), (a43, .inl (cI, 512, .inl f43)), (o5, .inr (10, [.ref a51, .ref a52, .ref a53, .int l5])), (a51, .inl (cI, 256, .inl f51)), (a52, .inl (cI, 512, .inl f52)), (a53, .inl (cI, 512, .inl f53)), (oK, .inr (3, [.ref k1, .ref k2, .int lK])), (k1, .inl (cI, 1024, .inl fK1)), (k2, .inl (cI, 1024, .inl fK2)), (nL, .inr (5, [.ref aL, .int lL])), (aL, .inl (cI, 300, .inl fL))] rfl
          clear hP hD hS hJ hP1 hD1
          have hP := hPn
          have hD := hDn
          have hS := hSn
          clear hPn hDn hSn
          refine lv_aload_n hx hb dX11_mend_40 rfl (lv_at hl 0 rfl) ?_
          refine va_get (D := (dC, dI)) (ci := 11) (v := .ref oR) (C := RX11) (T := TX11) (N := 12) hx hb hts in_X11 hown hK hP 0 rfl rfl 8 (by decide) (hts (.fieldLink RX11 68 "TextMender" "rowBook" "LTextMender$Rows;") (List.mem_of_getElem? (i := 3) rfl)) (fun _ h9 => h9) rfl dX11_mend_41 ?_
          refine kV_i (rest := []) (q0 := 0) (ci := 9) hcf (f_X9_cheapest l dC dI cI cS H.size oR oH oK n1 n2 n3 r1 r2 r3 r4 r5 r6 lR fR1_5 (g_lR)) kc_X9_cheapest gX11_mend_X9_cheapest rfl rfl rfl ⟨Nat.le_of_ble_eq_true rfl, Nat.le_of_ble_eq_true rfl⟩ kX_t hK hP hD hS hA [7, 8] [0, 1, 2, 3, 4, 5, 6, 9, 10, 11, 12, 13, 14, 15, 16, 17, 18, 19, 20, 21, 22, 23, 24, 25, 26, 27, 28, 29, 30, 31, 32, 33, 34, 35, 36] rfl (by decide +kernel) rfl rfl rfl hl rfl (Nat.le_of_ble_eq_true rfl) dX11_mend_44 ⟨Nat.le_of_ble_eq_true rfl, Nat.le_of_ble_eq_true rfl⟩ (fun r_6 H locs hB hJ hSn => ?_)
          obtain ⟨⟨hP1, hD1⟩, hf6_0, hf6_1⟩ := hB
          obtain ⟨hPn, hDn⟩ := hJ _ hP1 hD1 [(oX, .inr (11, [.ref nT, .ref nL, .ref nM, .ref oC, .ref oP, .ref oH, .ref oK, .ref oG, .ref oR, .ref oQ, .ref oW, .int (-1)])), (nM, .inr (5, [.ref aM, .int lM])), (aM, .inl (cI, 300, .inl fM)), (oG, .inr (0, [.ref g1, .ref g2, .int gn, .int lG])), (g1, .inl (cI, 6000, .inl fG1)), (g2, .inl (cI, 20, .inl fG2)), (oW, .inr (1, [.ref oC, .ref oK, .ref nw, .ref w1, .ref w2, .ref w3, .ref o7, .ref o8, .ref o9, .ref w4, .ref w5, .ref w6, .ref w7, .int ke, .int tl, .int fsh, .int wi, .int ri, .int fm, .int lm])), (r2, .inl (cI, 258, .inl fR2_5)), (r3, .inl (cI, 774, .inl fR3_5)), (n1, .inr (5, [.ref a1, .int l1_5])), (a1, .inl (cI, 300, .inl f1_5)), (n2, .inr (5, [.ref a2, .int l2_5])), (a2, .inl (cI, 300, .inl f2_5)), (n3, .inr (5, [.ref a3, .int l3_5])), (a3, .inl (cI, 300, .inl f3_5)), (oH, .inr (4, [.ref oP, .ref h1, .ref h2, .int lH])), (h1, .inl (cI, 6, .inl fH1)), (h2, .inl (cI, 6, .inl fH2)), (oP, .inr (7, [.ref oC, .ref nB, .int ft_5])), (nB, .inr (5, [.ref aB, .int lB_5])), (aB, .inl (cI, 2400, .inl fB_5)), (oC, .inr (2, [.ref o4, .ref o5])), (o4, .inr (10, [.ref a41, .ref a42, .ref a43, .int l4])), (a41, .inl (cI, 256, .inl f41)), (a42, .inl (cI, 512, .inl f42)), (a43, .inl (cI, 512, .inl f43)), (o5, .inr (10, [.ref a51, .ref a52, .ref a53, .int l5])), (a51, .inl (cI, 256, .inl f51)), (a52, .inl (cI, 512, .inl f52)), (a53, .inl (cI, 512, .inl f53)), (oK, .inr (3, [.ref k1, .ref k2, .int lK])), (k1, .inl (cI, 1024, .inl fK1)), (k2, .inl (cI, 1024, .inl fK2)), (nL, .inr (5, [.ref aL, .int lL])), (aL, .inl (cI, 300, .inl fL)), (oR, .inr (9, [.ref oH, .ref oK, .ref n1, .ref n2, .ref n3, .ref r1, .ref r2, .ref r3, .ref r4, .ref r5, .ref r6, .int lR])), (r1, .inl (cI, 258, .inl fR1_5))] rfl
          clear hP hD hS hJ hP1 hD1
          have hP := hPn
          have hD := hDn
          have hS := hSn
          clear hPn hDn hSn
          refine lv_istore_n (lv' := [(3, .int r_6), (0, .ref oX), (1, .int n), (2, .int gn_)]) hx hb dX11_mend_47 rfl hl (by decide) rfl (fun ls hl => ?_)
          refine lv_iload_n hx hb dX11_mend_48 rfl (lv_at hl 0 rfl) ?_
          refine lv_iconst (v := (-1)) hx hb dX11_mend_49 (by decide) ?_
          refine lv_icmp_eq (tgt := 77) hx hb dX11_mend_50 (by decide) (fun c_7 => ?_) (fun c_7 => ?_)
          · have tc_7 : r_6.toInt = (-1) := v_eq c_7
            refine lv_iconst (v := (-1)) hx hb dX11_mend_77 (by decide) ?_
            exact kl_i (v := (-1)) hQQ hx hb hr hlocks hS dX11_mend_78 ⟨(-1), ft_5, lB_5, fB_5, l1_5, f1_5, l2_5, f2_5, l3_5, f3_5, fR1_5, fR2_5, fR3_5, lM, fM, lL, fL, fsh, gn, lG, fG1, fG2, kPD_sub hP hD [0, 35, 36, 7, 8, 9, 10, 11, 12, 13, 14, 15, 16, 17, 18, 19, 20, 21, 22, 23, 24, 25, 26, 27, 28, 29, 30, 31, 32, 33, 34, 1, 2, 3, 4, 5, 6] (by decide +kernel) rfl, hf5_0, hf5_1, hf5_2, hf5_3, g_lM, g_lL, g_fsh, g_gn, g_lG, g_fG2, Or.inr hf5_4, OC_n rfl (md_none hf6_1 (by omega))⟩
          · have tc_7 : ¬ r_6.toInt = (-1) := v_ne c_7
            have hmn9 := ch_mn hf6_1 (by omega)
            refine lv_aload_n hx hb dX11_mend_53 rfl (lv_at hl 1 rfl) ?_
            refine va_get (D := (dC, dI)) (ci := 11) (v := .ref oK) (C := RX11) (T := TX11) (N := 12) hx hb hts in_X11 hown hK hP 0 rfl rfl 6 (by decide) (hts (.fieldLink RX11 52 "TextMender" "costs" "LTextMender$Costs;") (List.mem_of_getElem? (i := 5) rfl)) (fun _ h9 => h9) rfl dX11_mend_54 ?_
            refine lv_aload_n hx hb dX11_mend_57 rfl (lv_at hl 1 rfl) ?_
            refine va_get (D := (dC, dI)) (ci := 11) (v := .ref nL) (C := RX11) (T := TX11) (N := 12) hx hb hts in_X11 hown hK hP 0 rfl rfl 1 (by decide) (hts (.fieldLink RX11 34 "TextMender" "letters" "LTextMender$Numbers;") (List.mem_of_getElem? (i := 4) rfl)) (fun _ h9 => h9) rfl dX11_mend_58 ?_
            refine kV_i (rest := []) (q0 := 0) (ci := 3) hcf (f_X3_ofText l dC dI cI cS H.size oK nL k1 k2 aL lK fK1 fK2 lL fL (g_lK) (g_lL) (hT) (ho) (hV) (hlt)) kc_X3_ofText gX11_mend_X3_ofText rfl rfl rfl ⟨Nat.le_of_ble_eq_true rfl, Nat.le_of_ble_eq_true rfl⟩ kX_t hK hP hD hS hA [30, 31, 32, 33, 34] [0, 1, 2, 3, 4, 5, 6, 7, 8, 9, 10, 11, 12, 13, 14, 15, 16, 17, 18, 19, 20, 21, 22, 23, 24, 25, 26, 27, 28, 29, 35, 36] rfl (by decide +kernel) rfl rfl rfl hl rfl (Nat.le_of_ble_eq_true rfl) dX11_mend_61 ⟨Nat.le_of_ble_eq_true rfl, Nat.le_of_ble_eq_true rfl⟩ (fun r_8 H locs hB hJ hSn => ?_)
            obtain ⟨⟨hP1, hD1⟩, hf8_0, hf8_1⟩ := hB
            obtain ⟨hPn, hDn⟩ := hJ _ hP1 hD1 [(oX, .inr (11, [.ref nT, .ref nL, .ref nM, .ref oC, .ref oP, .ref oH, .ref oK, .ref oG, .ref oR, .ref oQ, .ref oW, .int (-1)])), (nM, .inr (5, [.ref aM, .int lM])), (aM, .inl (cI, 300, .inl fM)), (oG, .inr (0, [.ref g1, .ref g2, .int gn, .int lG])), (g1, .inl (cI, 6000, .inl fG1)), (g2, .inl (cI, 20, .inl fG2)), (oW, .inr (1, [.ref oC, .ref oK, .ref nw, .ref w1, .ref w2, .ref w3, .ref o7, .ref o8, .ref o9, .ref w4, .ref w5, .ref w6, .ref w7, .int ke, .int tl, .int fsh, .int wi, .int ri, .int fm, .int lm])), (r2, .inl (cI, 258, .inl fR2_5)), (r3, .inl (cI, 774, .inl fR3_5)), (n1, .inr (5, [.ref a1, .int l1_5])), (a1, .inl (cI, 300, .inl f1_5)), (n2, .inr (5, [.ref a2, .int l2_5])), (a2, .inl (cI, 300, .inl f2_5)), (n3, .inr (5, [.ref a3, .int l3_5])), (a3, .inl (cI, 300, .inl f3_5)), (oH, .inr (4, [.ref oP, .ref h1, .ref h2, .int lH])), (h1, .inl (cI, 6, .inl fH1)), (h2, .inl (cI, 6, .inl fH2)), (oP, .inr (7, [.ref oC, .ref nB, .int ft_5])), (nB, .inr (5, [.ref aB, .int lB_5])), (aB, .inl (cI, 2400, .inl fB_5)), (oC, .inr (2, [.ref o4, .ref o5])), (o4, .inr (10, [.ref a41, .ref a42, .ref a43, .int l4])), (a41, .inl (cI, 256, .inl f41)), (a42, .inl (cI, 512, .inl f42)), (a43, .inl (cI, 512, .inl f43)), (o5, .inr (10, [.ref a51, .ref a52, .ref a53, .int l5])), (a51, .inl (cI, 256, .inl f51)), (a52, .inl (cI, 512, .inl f52)), (a53, .inl (cI, 512, .inl f53)), (oR, .inr (9, [.ref oH, .ref oK, .ref n1, .ref n2, .ref n3, .ref r1, .ref r2, .ref r3, .ref r4, .ref r5, .ref r6, .int lR])), (r1, .inl (cI, 258, .inl fR1_5)), (oK, .inr (3, [.ref k1, .ref k2, .int lK])), (k1, .inl (cI, 1024, .inl fK1)), (k2, .inl (cI, 1024, .inl fK2)), (nL, .inr (5, [.ref aL, .int lL])), (aL, .inl (cI, 300, .inl fL))] rfl
            clear hP hD hS hJ hP1 hD1
            have hP := hPn
            have hD := hDn
            have hS := hSn
            clear hPn hDn hSn
            have hct9 : r_8.toInt = cT (tcC fK1 fK2) ((lL.toInt.toNat : Nat) : Int) fL := by rw [show ((lL.toInt.toNat : Nat) : Int) = lL.toInt by omega]; exact hf8_1
            refine lv_aload_n hx hb dX11_mend_64 rfl (lv_at hl 1 rfl) ?_
            refine va_get (D := (dC, dI)) (ci := 11) (v := .ref oR) (C := RX11) (T := TX11) (N := 12) hx hb hts in_X11 hown hK hP 0 rfl rfl 8 (by decide) (hts (.fieldLink RX11 68 "TextMender" "rowBook" "LTextMender$Rows;") (List.mem_of_getElem? (i := 3) rfl)) (fun _ h9 => h9) rfl dX11_mend_65 ?_
            refine lv_iload_n hx hb dX11_mend_68 rfl (lv_at hl 0 rfl) ?_
            refine kV_i (rest := [.int r_8]) (q0 := 0) (ci := 9) hcf (f_X9_costAt l dC dI cI cS H.size oR oH oK n1 n2 n3 r1 r2 r3 r4 r5 r6 lR fR1_5 r_6 (g_lR) (by omega)) kc_X9_costAt gX11_mend_X9_costAt rfl rfl rfl ⟨Nat.le_of_ble_eq_true rfl, Nat.le_of_ble_eq_true rfl⟩ kX_t hK hP hD hS hA [30, 31] [0, 1, 2, 3, 4, 5, 6, 7, 8, 9, 10, 11, 12, 13, 14, 15, 16, 17, 18, 19, 20, 21, 22, 23, 24, 25, 26, 27, 28, 29, 32, 33, 34, 35, 36] rfl (by decide +kernel) rfl rfl rfl hl rfl (Nat.le_of_ble_eq_true rfl) dX11_mend_69 ⟨Nat.le_of_ble_eq_true rfl, Nat.le_of_ble_eq_true rfl⟩ (fun r_9 H locs hB hJ hSn => ?_)
            obtain ⟨⟨hP1, hD1⟩, hf9_0⟩ := hB
            obtain ⟨hPn, hDn⟩ := hJ _ hP1 hD1 [(oX, .inr (11, [.ref nT, .ref nL, .ref nM, .ref oC, .ref oP, .ref oH, .ref oK, .ref oG, .ref oR, .ref oQ, .ref oW, .int (-1)])), (nM, .inr (5, [.ref aM, .int lM])), (aM, .inl (cI, 300, .inl fM)), (oG, .inr (0, [.ref g1, .ref g2, .int gn, .int lG])), (g1, .inl (cI, 6000, .inl fG1)), (g2, .inl (cI, 20, .inl fG2)), (oW, .inr (1, [.ref oC, .ref oK, .ref nw, .ref w1, .ref w2, .ref w3, .ref o7, .ref o8, .ref o9, .ref w4, .ref w5, .ref w6, .ref w7, .int ke, .int tl, .int fsh, .int wi, .int ri, .int fm, .int lm])), (r2, .inl (cI, 258, .inl fR2_5)), (r3, .inl (cI, 774, .inl fR3_5)), (n1, .inr (5, [.ref a1, .int l1_5])), (a1, .inl (cI, 300, .inl f1_5)), (n2, .inr (5, [.ref a2, .int l2_5])), (a2, .inl (cI, 300, .inl f2_5)), (n3, .inr (5, [.ref a3, .int l3_5])), (a3, .inl (cI, 300, .inl f3_5)), (oH, .inr (4, [.ref oP, .ref h1, .ref h2, .int lH])), (h1, .inl (cI, 6, .inl fH1)), (h2, .inl (cI, 6, .inl fH2)), (oP, .inr (7, [.ref oC, .ref nB, .int ft_5])), (nB, .inr (5, [.ref aB, .int lB_5])), (aB, .inl (cI, 2400, .inl fB_5)), (oC, .inr (2, [.ref o4, .ref o5])), (o4, .inr (10, [.ref a41, .ref a42, .ref a43, .int l4])), (a41, .inl (cI, 256, .inl f41)), (a42, .inl (cI, 512, .inl f42)), (a43, .inl (cI, 512, .inl f43)), (o5, .inr (10, [.ref a51, .ref a52, .ref a53, .int l5])), (a51, .inl (cI, 256, .inl f51)), (a52, .inl (cI, 512, .inl f52)), (a53, .inl (cI, 512, .inl f53)), (oK, .inr (3, [.ref k1, .ref k2, .int lK])), (k1, .inl (cI, 1024, .inl fK1)), (k2, .inl (cI, 1024, .inl fK2)), (nL, .inr (5, [.ref aL, .int lL])), (aL, .inl (cI, 300, .inl fL)), (oR, .inr (9, [.ref oH, .ref oK, .ref n1, .ref n2, .ref n3, .ref r1, .ref r2, .ref r3, .ref r4, .ref r5, .ref r6, .int lR])), (r1, .inl (cI, 258, .inl fR1_5))] rfl
            clear hP hD hS hJ hP1 hD1
            have hP := hPn
            have hD := hDn
            have hS := hSn
            clear hPn hDn hSn
            have hcc9 : r_9.toInt = (fR1_5 r_6.toNatClampNeg).toInt := v_eq hf9_0
            have hcp9 : 0 ≤ r_9.toInt := by rw [hcc9]; exact ge_pos hf5_4 hmn9.1 hmn9.2.1
            refine lv_isub hx hb dX11_mend_72 ?_
            refine lv_topi (fun x_10 ex_10 => ?_)
            have rv10_1 := v_rng r_9
            have tx_10 : x_10.toInt = r_8.toInt - r_9.toInt := v_sub ex_10 (by show -2147483648 ≤ r_8.toInt - r_9.toInt; omega) (by show r_8.toInt - r_9.toInt < 2147483648; omega)
            refine lv_iload_n hx hb dX11_mend_73 rfl (lv_at hl 3 rfl) ?_
            refine lv_icmp_ge (tgt := 79) hx hb dX11_mend_74 (by decide) (fun c_11 => ?_) (fun c_11 => ?_)
            · have tc_11 : gn_.toInt ≤ x_10.toInt := v_le c_11
              refine lv_aload_n hx hb dX11_mend_79 rfl (lv_at hl 1 rfl) ?_
              refine va_get (D := (dC, dI)) (ci := 11) (v := .ref oR) (C := RX11) (T := TX11) (N := 12) hx hb hts in_X11 hown hK hP 0 rfl rfl 8 (by decide) (hts (.fieldLink RX11 68 "TextMender" "rowBook" "LTextMender$Rows;") (List.mem_of_getElem? (i := 3) rfl)) (fun _ h9 => h9) rfl dX11_mend_80 ?_
              refine lv_iload_n hx hb dX11_mend_83 rfl (lv_at hl 0 rfl) ?_
              refine lv_aload_n hx hb dX11_mend_84 rfl (lv_at hl 1 rfl) ?_
              refine va_get (D := (dC, dI)) (ci := 11) (v := .ref nL) (C := RX11) (T := TX11) (N := 12) hx hb hts in_X11 hown hK hP 0 rfl rfl 1 (by decide) (hts (.fieldLink RX11 34 "TextMender" "letters" "LTextMender$Numbers;") (List.mem_of_getElem? (i := 4) rfl)) (fun _ h9 => h9) rfl dX11_mend_85 ?_
              refine lv_aload_n hx hb dX11_mend_88 rfl (lv_at hl 1 rfl) ?_
              refine va_get (D := (dC, dI)) (ci := 11) (v := .ref nM) (C := RX11) (T := TX11) (N := 12) hx hb hts in_X11 hown hK hP 0 rfl rfl 2 (by decide) (hts (.fieldLink RX11 37 "TextMender" "made" "LTextMender$Numbers;") (List.mem_of_getElem? (i := 6) rfl)) (fun _ h9 => h9) rfl dX11_mend_89 ?_
              refine kV_i (rest := []) (q0 := 0) (ci := 9) hcf (f_X9_build l dC dI cI cS H.size oR nL nM oH oK n1 n2 n3 r1 r2 r3 r4 r5 r6 a1 a2 oP h1 h2 oC nB aB o4 o5 a41 a42 a43 a51 a52 a53 aL aM lR fR3_5 l1_5 f1_5 l2_5 f2_5 lH fH1 fH2 ft_5 lB_5 fB_5 l4 f41 f42 f43 l5 f51 f52 f53 lL fL lM fM r_6 (g_lR) (hf5_1) (hf5_2) (g_lH) (hf5_0) (g_lL) (g_lM) (by omega) (fun j hj => (ge_nm hf5_4 hmn9.1 hmn9.2.1 j hj).imp id (fun w9 => ⟨w9.1, by have c9 := v_clamp (x := lH) (by omega); have w8 := w9.2; omega⟩)) (hlt) (hT4) (ho4) (hT5) (ho5) (hL4) (hL5) (hBr)) kc_X9_build gX11_mend_X9_build rfl rfl rfl ⟨Nat.le_of_ble_eq_true rfl, Nat.le_of_ble_eq_true rfl⟩ (kX_1 hN52) hK hP hD hS hA [35, 8, 9, 10, 11, 12, 15, 16, 17, 18, 19, 20, 21, 22, 23, 24, 25, 26, 27, 28, 29, 33, 34, 1, 2] [0, 3, 4, 5, 6, 7, 13, 14, 30, 31, 32, 36] rfl (by decide +kernel) rfl rfl rfl hl rfl (Nat.le_of_ble_eq_true rfl) dX11_mend_92 ⟨Nat.le_of_ble_eq_true rfl, Nat.le_of_ble_eq_true rfl⟩ (fun r_12 H locs hB hJ hSn => ?_)
              obtain ⟨ft_12, lB_12, fB_12, l1_12, f1_12, l2_12, f2_12, ld_12, fd_12, ⟨hP1, hD1⟩, hf12_0, hf12_1, hf12_2, hf12_3, hf12_4, hf12_5⟩ := hB
              obtain ⟨hPn, hDn⟩ := hJ _ hP1 hD1 [(oX, .inr (11, [.ref nT, .ref nL, .ref nM, .ref oC, .ref oP, .ref oH, .ref oK, .ref oG, .ref oR, .ref oQ, .ref oW, .int (-1)])), (oG, .inr (0, [.ref g1, .ref g2, .int gn, .int lG])), (g1, .inl (cI, 6000, .inl fG1)), (g2, .inl (cI, 20, .inl fG2)), (oW, .inr (1, [.ref oC, .ref oK, .ref nw, .ref w1, .ref w2, .ref w3, .ref o7, .ref o8, .ref o9, .ref w4, .ref w5, .ref w6, .ref w7, .int ke, .int tl, .int fsh, .int wi, .int ri, .int fm, .int lm])), (r2, .inl (cI, 258, .inl fR2_5)), (n3, .inr (5, [.ref a3, .int l3_5])), (a3, .inl (cI, 300, .inl f3_5)), (oK, .inr (3, [.ref k1, .ref k2, .int lK])), (k1, .inl (cI, 1024, .inl fK1)), (k2, .inl (cI, 1024, .inl fK2)), (r1, .inl (cI, 258, .inl fR1_5)), (oR, .inr (9, [.ref oH, .ref oK, .ref n1, .ref n2, .ref n3, .ref r1, .ref r2, .ref r3, .ref r4, .ref r5, .ref r6, .int lR])), (r3, .inl (cI, 774, .inl fR3_5)), (n1, .inr (5, [.ref a1, .int l1_12])), (a1, .inl (cI, 300, .inl f1_12)), (n2, .inr (5, [.ref a2, .int l2_12])), (a2, .inl (cI, 300, .inl f2_12)), (oH, .inr (4, [.ref oP, .ref h1, .ref h2, .int lH])), (h1, .inl (cI, 6, .inl fH1)), (h2, .inl (cI, 6, .inl fH2)), (oP, .inr (7, [.ref oC, .ref nB, .int ft_12])), (nB, .inr (5, [.ref aB, .int lB_12])), (aB, .inl (cI, 2400, .inl fB_12)), (oC, .inr (2, [.ref o4, .ref o5])), (o4, .inr (10, [.ref a41, .ref a42, .ref a43, .int l4])), (a41, .inl (cI, 256, .inl f41)), (a42, .inl (cI, 512, .inl f42)), (a43, .inl (cI, 512, .inl f43)), (o5, .inr (10, [.ref a51, .ref a52, .ref a53, .int l5])), (a51, .inl (cI, 256, .inl f51)), (a52, .inl (cI, 512, .inl f52)), (a53, .inl (cI, 512, .inl f53)), (nL, .inr (5, [.ref aL, .int lL])), (aL, .inl (cI, 300, .inl fL)), (nM, .inr (5, [.ref aM, .int ld_12])), (aM, .inl (cI, 300, .inl fd_12))] rfl
              clear hP hD hS hJ hP1 hD1
              have hP := hPn
              have hD := hDn
              have hS := hSn
              clear hPn hDn hSn
              refine lv_if_ne (tgt := 100) hx hb dX11_mend_95 (by decide) (fun c_13 => ?_) (fun c_13 => ?_)
              · have tc_13 : ¬ r_12.toInt = 0 := v_ne c_13
                refine lv_aload_n hx hb dX11_mend_100 rfl (lv_at hl 1 rfl) ?_
                refine lv_aload_n hx hb dX11_mend_101 rfl (lv_at hl 1 rfl) ?_
                refine va_get (D := (dC, dI)) (ci := 11) (v := .ref nM) (C := RX11) (T := TX11) (N := 12) hx hb hts in_X11 hown hK hP 0 rfl rfl 2 (by decide) (hts (.fieldLink RX11 37 "TextMender" "made" "LTextMender$Numbers;") (List.mem_of_getElem? (i := 6) rfl)) (fun _ h9 => h9) rfl dX11_mend_102 ?_
                refine kV_i (rest := []) (q0 := 0) (ci := 11) hcf (f_X11_bec l dC dI cI cS H.size oX nM nT nL oC oP oH oK oG oR oQ oW aL aM g1 g2 nw w1 w2 w3 o7 o8 o9 w4 w5 w6 w7 (-1) lL fL ld_12 fd_12 gn lG fG1 fG2 ke tl fsh wi ri fm lm (g_lL) (hf12_3) (g_gn) (g_lG) (g_fG2) (g_ke) (g_fsh) (g_fm) (g_lm)) kc_X11_become gX11_mend_X11_become rfl rfl rfl ⟨Nat.le_of_ble_eq_true rfl, Nat.le_of_ble_eq_true rfl⟩ kX_t hK hP hD hS hA [0, 33, 34, 35, 36, 1, 2, 3, 4] [5, 6, 7, 8, 9, 10, 11, 12, 13, 14, 15, 16, 17, 18, 19, 20, 21, 22, 23, 24, 25, 26, 27, 28, 29, 30, 31, 32] rfl (by decide +kernel) rfl rfl rfl hl rfl (Nat.le_of_ble_eq_true rfl) dX11_mend_105 ⟨Nat.le_of_ble_eq_true rfl, Nat.le_of_ble_eq_true rfl⟩ (fun r_14 H locs hB hJ hSn => ?_)
                obtain ⟨lL_14, fL_14, fsh_14, gn_14, lG_14, fG1_14, fG2_14, ⟨hP1, hD1⟩, hf14_0, hf14_1, hf14_2, hf14_3, hf14_4, hf14_5, hf14_6, hf14_7⟩ := hB
                obtain ⟨hPn, hDn⟩ := hJ _ hP1 hD1 [(r2, .inl (cI, 258, .inl fR2_5)), (n3, .inr (5, [.ref a3, .int l3_5])), (a3, .inl (cI, 300, .inl f3_5)), (oK, .inr (3, [.ref k1, .ref k2, .int lK])), (k1, .inl (cI, 1024, .inl fK1)), (k2, .inl (cI, 1024, .inl fK2)), (r1, .inl (cI, 258, .inl fR1_5)), (oR, .inr (9, [.ref oH, .ref oK, .ref n1, .ref n2, .ref n3, .ref r1, .ref r2, .ref r3, .ref r4, .ref r5, .ref r6, .int lR])), (r3, .inl (cI, 774, .inl fR3_5)), (n1, .inr (5, [.ref a1, .int l1_12])), (a1, .inl (cI, 300, .inl f1_12)), (n2, .inr (5, [.ref a2, .int l2_12])), (a2, .inl (cI, 300, .inl f2_12)), (oH, .inr (4, [.ref oP, .ref h1, .ref h2, .int lH])), (h1, .inl (cI, 6, .inl fH1)), (h2, .inl (cI, 6, .inl fH2)), (oP, .inr (7, [.ref oC, .ref nB, .int ft_12])), (nB, .inr (5, [.ref aB, .int lB_12])), (aB, .inl (cI, 2400, .inl fB_12)), (oC, .inr (2, [.ref o4, .ref o5])), (o4, .inr (10, [.ref a41, .ref a42, .ref a43, .int l4])), (a41, .inl (cI, 256, .inl f41)), (a42, .inl (cI, 512, .inl f42)), (a43, .inl (cI, 512, .inl f43)), (o5, .inr (10, [.ref a51, .ref a52, .ref a53, .int l5])), (a51, .inl (cI, 256, .inl f51)), (a52, .inl (cI, 512, .inl f52)), (a53, .inl (cI, 512, .inl f53)), (oX, .inr (11, [.ref nT, .ref nL, .ref nM, .ref oC, .ref oP, .ref oH, .ref oK, .ref oG, .ref oR, .ref oQ, .ref oW, .int (-1)])), (nL, .inr (5, [.ref aL, .int lL_14])), (aL, .inl (cI, 300, .inl fL_14)), (nM, .inr (5, [.ref aM, .int ld_12])), (aM, .inl (cI, 300, .inl fd_12)), (oG, .inr (0, [.ref g1, .ref g2, .int gn_14, .int lG_14])), (g1, .inl (cI, 6000, .inl fG1_14)), (g2, .inl (cI, 20, .inl fG2_14)), (oW, .inr (1, [.ref oC, .ref oK, .ref nw, .ref w1, .ref w2, .ref w3, .ref o7, .ref o8, .ref o9, .ref w4, .ref w5, .ref w6, .ref w7, .int ke, .int tl, .int fsh_14, .int wi, .int ri, .int fm, .int lm]))] rfl
                clear hP hD hS hJ hP1 hD1
                have hP := hPn
                have hD := hDn
                have hS := hSn
                clear hPn hDn hSn
                refine lv_pop hx hb dX11_mend_108 rfl ?_
                refine lv_aload_n hx hb dX11_mend_109 rfl (lv_at hl 1 rfl) ?_
                refine va_get (D := (dC, dI)) (ci := 11) (v := .ref oR) (C := RX11) (T := TX11) (N := 12) hx hb hts in_X11 hown hK hP 28 rfl rfl 8 (by decide) (hts (.fieldLink RX11 68 "TextMender" "rowBook" "LTextMender$Rows;") (List.mem_of_getElem? (i := 3) rfl)) (fun _ h9 => h9) rfl dX11_mend_110 ?_
                refine lv_iload_n hx hb dX11_mend_113 rfl (lv_at hl 0 rfl) ?_
                refine kV_i (rest := []) (q0 := 0) (ci := 9) hcf (f_X9_numberOf l dC dI cI cS H.size oR oH oK n1 n2 n3 r1 r2 r3 r4 r5 r6 lR fR1_5 r_6 (g_lR) (by omega)) kc_X9_numberOf gX11_mend_X9_numberOf rfl rfl rfl ⟨Nat.le_of_ble_eq_true rfl, Nat.le_of_ble_eq_true rfl⟩ kX_t hK hP hD hS hA [7, 6] [0, 1, 2, 3, 4, 5, 8, 9, 10, 11, 12, 13, 14, 15, 16, 17, 18, 19, 20, 21, 22, 23, 24, 25, 26, 27, 28, 29, 30, 31, 32, 33, 34, 35, 36] rfl (by decide +kernel) rfl rfl rfl hl rfl (Nat.le_of_ble_eq_true rfl) dX11_mend_114 ⟨Nat.le_of_ble_eq_true rfl, Nat.le_of_ble_eq_true rfl⟩ (fun r_15 H locs hB hJ hSn => ?_)
                obtain ⟨⟨hP1, hD1⟩, hf15_0⟩ := hB
                obtain ⟨hPn, hDn⟩ := hJ _ hP1 hD1 [(r2, .inl (cI, 258, .inl fR2_5)), (n3, .inr (5, [.ref a3, .int l3_5])), (a3, .inl (cI, 300, .inl f3_5)), (oK, .inr (3, [.ref k1, .ref k2, .int lK])), (k1, .inl (cI, 1024, .inl fK1)), (k2, .inl (cI, 1024, .inl fK2)), (r3, .inl (cI, 774, .inl fR3_5)), (n1, .inr (5, [.ref a1, .int l1_12])), (a1, .inl (cI, 300, .inl f1_12)), (n2, .inr (5, [.ref a2, .int l2_12])), (a2, .inl (cI, 300, .inl f2_12)), (oH, .inr (4, [.ref oP, .ref h1, .ref h2, .int lH])), (h1, .inl (cI, 6, .inl fH1)), (h2, .inl (cI, 6, .inl fH2)), (oP, .inr (7, [.ref oC, .ref nB, .int ft_12])), (nB, .inr (5, [.ref aB, .int lB_12])), (aB, .inl (cI, 2400, .inl fB_12)), (oC, .inr (2, [.ref o4, .ref o5])), (o4, .inr (10, [.ref a41, .ref a42, .ref a43, .int l4])), (a41, .inl (cI, 256, .inl f41)), (a42, .inl (cI, 512, .inl f42)), (a43, .inl (cI, 512, .inl f43)), (o5, .inr (10, [.ref a51, .ref a52, .ref a53, .int l5])), (a51, .inl (cI, 256, .inl f51)), (a52, .inl (cI, 512, .inl f52)), (a53, .inl (cI, 512, .inl f53)), (oX, .inr (11, [.ref nT, .ref nL, .ref nM, .ref oC, .ref oP, .ref oH, .ref oK, .ref oG, .ref oR, .ref oQ, .ref oW, .int (-1)])), (nL, .inr (5, [.ref aL, .int lL_14])), (aL, .inl (cI, 300, .inl fL_14)), (nM, .inr (5, [.ref aM, .int ld_12])), (aM, .inl (cI, 300, .inl fd_12)), (oG, .inr (0, [.ref g1, .ref g2, .int gn_14, .int lG_14])), (g1, .inl (cI, 6000, .inl fG1_14)), (g2, .inl (cI, 20, .inl fG2_14)), (oW, .inr (1, [.ref oC, .ref oK, .ref nw, .ref w1, .ref w2, .ref w3, .ref o7, .ref o8, .ref o9, .ref w4, .ref w5, .ref w6, .ref w7, .int ke, .int tl, .int fsh_14, .int wi, .int ri, .int fm, .int lm])), (oR, .inr (9, [.ref oH, .ref oK, .ref n1, .ref n2, .ref n3, .ref r1, .ref r2, .ref r3, .ref r4, .ref r5, .ref r6, .int lR])), (r1, .inl (cI, 258, .inl fR1_5))] rfl
                clear hP hD hS hJ hP1 hD1
                have hP := hPn
                have hD := hDn
                have hS := hSn
                clear hPn hDn hSn
                exact kl_i (v := r_15) hQQ hx hb hr hlocks hS dX11_mend_117 ⟨(-1), ft_12, lB_12, fB_12, l1_12, f1_12, l2_12, f2_12, l3_5, f3_5, fR1_5, fR2_5, fR3_5, ld_12, fd_12, lL_14, fL_14, fsh_14, gn_14, lG_14, fG1_14, fG2_14, kPD_sub hP hD [26, 35, 36, 0, 6, 7, 8, 9, 10, 1, 2, 11, 12, 13, 14, 15, 16, 17, 18, 19, 20, 21, 22, 23, 24, 25, 3, 4, 5, 27, 28, 29, 30, 31, 32, 33, 34] (by decide +kernel) rfl, hf12_0, hf12_1, hf12_2, hf5_3, hf12_3, hf14_0, hf14_1, hf14_2, hf14_3, hf14_4, Or.inr hf5_4, OC_y ((md_bld hU hf5_4 rfl (by omega) hf9 hmn9 hf12_5).2 (by omega) (by rw [← hcc9, ← hct9]; omega) hf15_0) hf14_6 hf14_7⟩
              · have tc_13 : r_12.toInt = 0 := v_eq c_13
                refine lv_iconst (v := (-1)) hx hb dX11_mend_98 (by decide) ?_
                exact kl_i (v := (-1)) hQQ hx hb hr hlocks hS dX11_mend_99 ⟨(-1), ft_12, lB_12, fB_12, l1_12, f1_12, l2_12, f2_12, l3_5, f3_5, fR1_5, fR2_5, fR3_5, ld_12, fd_12, lL, fL, fsh, gn, lG, fG1, fG2, kPD_sub hP hD [0, 12, 11, 5, 13, 14, 15, 16, 17, 6, 7, 18, 19, 20, 21, 22, 23, 24, 25, 26, 27, 28, 29, 30, 31, 32, 8, 9, 10, 33, 34, 35, 36, 1, 2, 3, 4] (by decide +kernel) rfl, hf12_0, hf12_1, hf12_2, hf5_3, hf12_3, g_lL, g_fsh, g_gn, g_lG, g_fG2, Or.inr hf5_4, absurd (by omega) (md_bld (v := 0) (gain := 0) hU hf5_4 rfl (by omega) hf9 hmn9 hf12_5).1⟩
            · have tc_11 : x_10.toInt < gn_.toInt := v_nle c_11
              refine lv_iconst (v := (-1)) hx hb dX11_mend_77 (by decide) ?_
              exact kl_i (v := (-1)) hQQ hx hb hr hlocks hS dX11_mend_78 ⟨(-1), ft_5, lB_5, fB_5, l1_5, f1_5, l2_5, f2_5, l3_5, f3_5, fR1_5, fR2_5, fR3_5, lM, fM, lL, fL, fsh, gn, lG, fG1, fG2, kPD_sub hP hD [0, 35, 36, 7, 8, 9, 10, 11, 12, 13, 14, 15, 16, 17, 18, 19, 20, 21, 22, 23, 24, 25, 26, 27, 28, 29, 30, 31, 32, 33, 34, 1, 2, 3, 4, 5, 6] (by decide +kernel) rfl, hf5_0, hf5_1, hf5_2, hf5_3, g_lM, g_lL, g_fsh, g_gn, g_lG, g_fG2, Or.inr hf5_4, OC_n rfl (md_less hmn9 (by rw [← hcc9, ← hct9]; omega))⟩
        · have tc_4 : 100000 < gn_.toInt := v_nle c_4
          refine lv_iconst (v := (-1)) hx hb dX11_mend_26 (by decide) ?_
          exact kl_i (v := (-1)) hQQ hx hb hr hlocks hS dX11_mend_27 ⟨(-1), ft, lB, fB, l1, f1, l2, f2, l3, f3, fR1, fR2, fR3, lM, fM, lL, fL, fsh, gn, lG, fG1, fG2, ⟨hP, hD⟩, g_lB, g_l1, g_l2, g_l3, g_lM, g_lL, g_fsh, g_gn, g_lG, g_fG2, Or.inl (by omega), OC_n rfl (fun c fm v h => absurd h.1 (by omega))⟩

end

/-! 59u.rows -/
section
theorem rpz_s {v k : Nat} (h : k ≤ 2) : rpz v (k + 1) = rpz v k * v := by
  have k3 : k = 0 ∨ k = 1 ∨ k = 2 := by omega
  rcases k3 with e | e | e <;> subst e
  · show v = 1 * v; omega
  · rfl
  · rfl
theorem pw_s {v p p' k k' : Int32} (h : p.toInt = rpz v.toNatClampNeg k.toNatClampNeg) (e : p' = p * v) (hv : 1 ≤ v.toInt ∧ v.toInt ≤ 6) (hp : 0 ≤ p.toInt ∧ p.toInt ≤ 36) (hk : 0 ≤ k.toInt ∧ k.toInt ≤ 2) (hk' : k'.toInt = k.toInt + 1) : p'.toInt = rpz v.toNatClampNeg k'.toNatClampNeg := by
  have c := v_clamp hk.1
  have e1 : k'.toNatClampNeg = k.toNatClampNeg + 1 := ix_eq (by omega)
  have q := (v_mulz e (by omega) (by omega)).1
  have cp : p.toNatClampNeg = rpz v.toNatClampNeg k.toNatClampNeg := ix_eq h
  rw [e1, rpz_s (by omega), ← cp]
  exact q

set_option maxHeartbeats 40000000 in
set_option maxRecDepth 100000 in
theorem f_X12_power (l : Launch) (dC : Nat → ClassId) (dI : Nat → Nat → Nat) (cI cS : ClassId) (sz : Nat) (v : Int32) (n : Int32) (g_v : 1 ≤ v.toInt ∧ v.toInt ≤ 6) (g_n : 0 ≤ n.toInt ∧ n.toInt ≤ 3) : kMi l yX12_power wsX12_power ({ frames := 0, cells := 0, slots := 0, locals := 0 } : Room) [.int v, .int n] sz (dC, dI) vwCl [(cI, .int), (cS, .short)] [] (fun _ => True) 0 0 (fun (A : Nat → Prop) (r : Int32) (hh9 : Heap) => kPD (dC, dI) vwCl A [] hh9 ∧ (1 ≤ r.toInt ∧ r.toInt ≤ 216) ∧ ((n.toInt = 0 ∧ r.toInt = 1) ∨ (n.toInt = 1 ∧ 1 ≤ r.toInt ∧ r.toInt ≤ 6) ∨ (n.toInt = 2 ∧ 1 ≤ r.toInt ∧ r.toInt ≤ 36) ∨ (n.toInt = 3 ∧ 1 ≤ r.toInt ∧ r.toInt ≤ 216)) ∧ (r.toInt = rpz v.toNatClampNeg n.toNatClampNeg)) := by
  refine kMi_of (cc := cX12_power) (maxL := 4) (ret := (some .int)) (lv := [(0, .int v), (1, .int n)]) (by decide +kernel) rfl rfl (Nat.le_of_ble_eq_true rfl) ?_
  intro p e s m below meth c A QQ ls hx hb hr hts hml hown hlocks hA hQQ hK hX hP hD hS hl
  have hown : s.vm.findClass RX12 = some m.cls := hown
  have hcf := k_cf hx hb hml hown hts
  refine lv_iconst (v := 1) hx hb dX12_power_0 (by decide) ?_
  refine lv_istore_n (lv' := [(2, .int 1), (0, .int v), (1, .int n)]) hx hb dX12_power_1 rfl hl (by decide) rfl (fun ls hl => ?_)
  refine lv_iconst (v := 0) hx hb dX12_power_2 (by decide) ?_
  refine lv_istore_n (lv' := [(3, .int 0), (2, .int 1), (0, .int v), (1, .int n)]) hx hb dX12_power_3 rfl hl (by decide) rfl (fun ls hl => ?_)
  have LOOP_4 : ∀ (k_4 : Nat) (p_ : Int32) (k : Int32) (H : Heap) (locs : List Loc) (ls : Array Slot), MSd (3 - k.toInt : Int) k_4 → (1 ≤ p_.toInt ∧ p_.toInt ≤ 216) → (0 ≤ k.toInt ∧ k.toInt ≤ n.toInt) → ((k.toInt = 0 ∧ p_.toInt = 1) ∨ (k.toInt = 1 ∧ p_.toInt ≤ 6) ∨ (k.toInt = 2 ∧ p_.toInt ≤ 36) ∨ (k.toInt = 3 ∧ p_.toInt ≤ 216)) → (p_.toInt = rpz v.toNatClampNeg k.toNatClampNeg) → va_P (dC, dI) vwCl [] H → va_D A [] → va_S A s.heap H locs → lv_has ls 4 [(3, .int k), (2, .int p_), (0, .int v), (1, .int n)] → W p l e (headSpec wsX12_power ({ frames := 0, cells := 0, slots := 0, locals := 0 } : Room)).room s m ([.int v, .int n] : List Value).toArray below meth c H locs 0 0 (MQ below QQ ([.int v, .int n] : List Value).toArray s 0 0 A) (F0 m 4 ls []) := by
    clear hP hD hS hl
    intro k_4
    induction k_4 with
    | zero =>
      intro p_ k H locs ls hm_4 g_p_ g_k hpk hpz hP hD hS hl
      exact ms_0 hm_4
    | succ k_4 ih_4 =>
      intro p_ k H locs ls hm_4 g_p_ g_k hpk hpz hP hD hS hl
      refine lv_iload_n hx hb dX12_power_4 rfl (lv_at hl 0 rfl) ?_
      refine lv_iload_n hx hb dX12_power_5 rfl (lv_at hl 3 rfl) ?_
      refine lv_icmp_ge (tgt := 19) hx hb dX12_power_6 (by decide) (fun c_1 => ?_) (fun c_1 => ?_)
      · have tc_1 : n.toInt ≤ k.toInt := v_le c_1
        refine lv_iload_n hx hb dX12_power_19 rfl (lv_at hl 1 rfl) ?_
        exact kl_i (v := p_) hQQ hx hb hr hlocks hS dX12_power_20 ⟨⟨hP, hD⟩, g_p_, by show (n.toInt = 0 ∧ p_.toInt = 1) ∨ (n.toInt = 1 ∧ 1 ≤ p_.toInt ∧ p_.toInt ≤ 6) ∨ (n.toInt = 2 ∧ 1 ≤ p_.toInt ∧ p_.toInt ≤ 36) ∨ (n.toInt = 3 ∧ 1 ≤ p_.toInt ∧ p_.toInt ≤ 216); omega, (show k = n from v_inj (by omega)) ▸ hpz⟩
      · have tc_1 : k.toInt < n.toInt := v_nle c_1
        refine lv_iload_n hx hb dX12_power_9 rfl (lv_at hl 1 rfl) ?_
        refine lv_iload_n hx hb dX12_power_10 rfl (lv_at hl 2 rfl) ?_
        refine lv_imul hx hb dX12_power_11 ?_
        refine lv_topi (fun x_2 ex_2 => ?_)
        have tm_x_2 := v_mulb ex_2 (by omega) (by omega) (by omega) (by omega)
        refine lv_istore_n (lv' := [(2, .int x_2), (3, .int k), (0, .int v), (1, .int n)]) hx hb dX12_power_12 rfl hl (by decide) rfl (fun ls hl => ?_)
        obtain ⟨x_3, ex_3⟩ : ∃ y : Int32, y = k + 1 := ⟨_, rfl⟩
        have tx_3 : x_3.toInt = k.toInt + 1 := v_add ex_3 (by show -2147483648 ≤ k.toInt + 1; omega) (by show k.toInt + 1 < 2147483648; omega)
        refine lv_iinc (v := x_3) (lv' := [(3, .int x_3), (2, .int x_2), (0, .int v), (1, .int n)]) hx hb dX12_power_13 hl (k := 1) rfl (by rw [ex_3]; rfl) (by decide) rfl (fun ls hl => ?_)
        refine lv_goto (tgt := 4) hx hb dX12_power_16 (by decide) ?_
        exact ih_4 x_2 x_3 _ _ _ (ms_lt hm_4 (by show ((3 - x_3.toInt : Int)) < 3 - k.toInt; omega) (by show (0 : Int) < 3 - k.toInt; omega)) (by show 1 ≤ x_2.toInt ∧ x_2.toInt ≤ 216; omega) (by show 0 ≤ x_3.toInt ∧ x_3.toInt ≤ n.toInt; omega) (by show (x_3.toInt = 0 ∧ x_2.toInt = 1) ∨ (x_3.toInt = 1 ∧ x_2.toInt ≤ 6) ∨ (x_3.toInt = 2 ∧ x_2.toInt ≤ 36) ∨ (x_3.toInt = 3 ∧ x_2.toInt ≤ 216); omega) (pw_s hpz ex_2 (by omega) (by omega) (by omega) (by omega)) hP hD hS (lv_sub hl [0, 1, 2, 3] rfl)
  exact LOOP_4 _ 1 0 _ _ _ (ms_s _) (by decide) (by show 0 ≤ (0 : Int) ∧ (0 : Int) ≤ n.toInt; omega) (by show (0 = 0 ∧ 1 = 1) ∨ (0 = 1 ∧ 1 ≤ 6) ∨ (0 = 2 ∧ 1 ≤ 36) ∨ (0 = 3 ∧ 1 ≤ 216); omega) (rfl) hP hD hS (lv_sub hl [0, 1, 2, 3] rfl)

theorem dg_0 {U : Nat → Nat → (Nat → Int32) → Nat → (Nat → Int32) → Prop} (hU : okU U) {z k k' c : Nat} {n n' : Int} {f g : Nat → Int32} (ek : k' = k) (en : n' = n) (hg : ∀ j : Nat, (j : Int) < n → g j = f j) : bEq U (digs z k c) (digs z k' c) n n' f g := by
  subst ek
  exact bl_cp hU (fun _ _ => Iff.rfl) en hg
theorem dg_c {z k k' : Nat} {c d e : Int32} (ek : k = k' + 1) (hz : 1 ≤ z) (hd : d.toNatClampNeg = c.toNatClampNeg % z) (he : e.toNatClampNeg = c.toNatClampNeg / z) : digs z k c.toNatClampNeg = d.toNatClampNeg :: digs z k' e.toNatClampNeg := by
  subst ek
  rw [digs, hd, he]
theorem dg_do {U : Nat → Nat → (Nat → Int32) → Nat → (Nat → Int32) → Prop} (hU : okU U) {L : List Nat} {z k k' : Nat} {c d e r l : Int32} {n n' : Int} {f g g2 : Nat → Int32} (h : bEq U L (digs z k c.toNatClampNeg) n n' f g) (ek : k = k' + 1) (hz : 1 ≤ z) (hd : d.toNatClampNeg = c.toNatClampNeg % z) (he : e.toNatClampNeg = c.toNatClampNeg / z) (ht : F_to U r l g2 d.toNatClampNeg n' g) (hr : ¬ r.toInt = 0) (hg : prg n' 0 65535 g) : bEq U L (digs z k' e.toNatClampNeg) n l.toInt f g2 := by
  rw [dg_c ek hz hd he] at h
  exact fun c k => (h c k).trans (UNL_cons hU (fun j hj => hg j (by omega)) (to_1n ht hr))
theorem dg_no {U : Nat → Nat → (Nat → Int32) → Nat → (Nat → Int32) → Prop} {L : List Nat} {z k k' : Nat} {c d e r l q l9 : Int32} {n n' : Int} {f g g2 f' : Nat → Int32} (h : bEq U L (digs z k c.toNatClampNeg) n n' f g) (ek : k = k' + 1) (hz : 1 ≤ z) (hd : d.toNatClampNeg = c.toNatClampNeg % z) (he : e.toNatClampNeg = c.toNatClampNeg / z) (ht : F_to U r l g2 d.toNatClampNeg n' g) (hr : r.toInt = 0) (hq : q.toInt = 0) : F_bd U L q l9 f' n f := by
  rw [dg_c ek hz hd he] at h
  exact Or.inr ⟨v_inj hq, fun c k w => UNL_no (to_0 ht hr) _ _ ((h c k).mp w)⟩
theorem dg_end {U : Nat → Nat → (Nat → Int32) → Nat → (Nat → Int32) → Prop} {L : List Nat} {z k c : Nat} {q l9 : Int32} {n n' : Int} {f g f' : Nat → Int32} (h : bEq U L (digs z k c) n n' f g) (ek : k = 0) (h0 : 0 ≤ n') (hq : q.toInt = 1) (hl : l9.toInt = n') (hf : ∀ j : Nat, (j : Int) < n' → f' j = g j) : F_bd U L q l9 f' n f := by
  subst ek
  exact Or.inl ⟨v_inj hq, n'.toNat, by omega, (h _ _).mpr ⟨rfl, fun i hi => hf i (by omega)⟩⟩
theorem md_n {a b x : Int32} (h : x = a - a / b * b) (ha : 0 ≤ a.toInt) (hb : 1 ≤ b.toInt) : x.toNatClampNeg = a.toNatClampNeg % b.toNatClampNeg := by
  have q := v_rem h ha (by omega)
  have c1 := v_clamp ha
  have c2 := v_clamp (x := b) (by omega)
  refine ix_eq ?_
  rw [q, Int.natCast_emod, c1, c2]
theorem dv_n {a b x : Int32} (h : x = a / b) (ha : 0 ≤ a.toInt) (hb : 1 ≤ b.toInt) : x.toNatClampNeg = a.toNatClampNeg / b.toNatClampNeg := by
  have q := v_div h ha (by omega)
  have c1 := v_clamp ha
  have c2 := v_clamp (x := b) (by omega)
  refine ix_eq ?_
  rw [q, Int.natCast_ediv, c1, c2]
theorem HM_lzr {e1 e2 eL eB : Nat → Int32} (hz : LZ eL) (gB : rg (-1) 255 eB) {h n c : Nat} {f f' : Nat → Int32} (hf : prg n 0 65535 f) (a : UR e1 e2 eL eB h n f c f') : ∀ i, i < c → isLz (f' i) := (HM_lz hz hf (okB_r gB) a).2
theorem to_lz {e1 e2 eL eB : Nat → Int32} (hz : LZ eL) (gB : rg (-1) 255 eB) {r l : Int32} {h : Nat} {n : Int} {f f' : Nat → Int32} (hf : prg n 0 65535 f) (a : F_to (UR e1 e2 eL eB) r l f' h n f) (e : ¬ r.toInt = 0) : ∀ j : Nat, (j : Int) < l.toInt → isLz (f' j) := by
  obtain ⟨c, c1, c2⟩ := to_1 a e
  exact fun j hj => HM_lzr hz gB (fun j hj => hf j (by omega)) c2 j (by omega)

set_option maxHeartbeats 40000000 in
set_option maxRecDepth 100000 in
theorem f_X12_makes (l : Launch) (dC : Nat → ClassId) (dI : Nat → Nat → Nat) (cI cS : ClassId) (sz : Nat) (oM : Nat) (mT : Nat) (mS : Nat) (mX : Nat) (mL : Nat) (mB : Nat) (mD : Nat) (m1 : Nat) (m2 : Nat) (mR : Nat) (x1 : Nat) (x2 : Nat) (x3 : Nat) (mH : Nat) (mY : Nat) (mE : Nat) (mW : Nat) (mO : Nat) (y1 : Nat) (y2 : Nat) (y3 : Nat) (y4 : Nat) (mZ : Nat) (zt : Int32) (zp : Int32) (zf : Int32) (zh : Int32) (zr : Int32) (zc : Int32) (zy : Int32) (za : Int32) (zb : Int32) (zs : Int32) (zq : Int32) (zw : Int32) (ze : Int32) (zn : Int32) (zm : Int32) (zl : Int32) (zk : Int32) (zd : Int32) (eY : Nat → Int32) (eB : Nat → Int32) (eL : Nat → Int32) (eE : Nat → Int32) (eW : Nat → Int32) (eO : Nat → Int32) (eS : Nat → Int32) (eX : Nat → Int32) (e1 : Nat → Int32) (e2 : Nat → Int32) (co : Int32) (my : Int32) (g_zt : 0 ≤ zt.toInt ∧ zt.toInt ≤ 900) (g_zp : 0 ≤ zp.toInt ∧ zp.toInt ≤ 20) (g_zf : 0 ≤ zf.toInt ∧ zf.toInt ≤ 19) (g_zh : 0 ≤ zh.toInt ∧ zh.toInt ≤ 6) (g_zr : 0 ≤ zr.toInt ∧ zr.toInt ≤ 258) (g_zc : 0 ≤ zc.toInt ∧ zc.toInt ≤ 300) (g_zy : 0 ≤ zy.toInt ∧ zy.toInt ≤ 65536) (g_za : 0 ≤ za.toInt ∧ za.toInt ≤ 5) (g_zb : 0 ≤ zb.toInt ∧ zb.toInt ≤ 5) (g_zs : 0 ≤ zs.toInt ∧ zs.toInt ≤ 2000000) (g_zq : -1 ≤ zq.toInt ∧ zq.toInt ≤ 2000000) (g_zn : 0 ≤ zn.toInt ∧ zn.toInt ≤ 2600) (g_zm : 0 ≤ zm.toInt ∧ zm.toInt ≤ 2600) (g_zk : 0 ≤ zk.toInt ∧ zk.toInt ≤ 300) (g_eY : rg 0 255 eY) (g_eB : rg (-1) 255 eB) (g_eL : rg (-1) 65535 eL) (g_eE : rg 0 65535 eE) (g_eW : rg 0 65535 eW) (g_eO : rg 0 65535 eO) (g_eS : rg 0 300 eS) (g_eX : rg 0 65535 eX) (g_e1 : rg 0 5 e1) (g_e2 : rg 0 5 e2) (g_co : 0 ≤ co.toInt ∧ co.toInt ≤ 1000) (g_my : 0 ≤ my.toInt ∧ my.toInt ≤ 3) (hzh : 1 ≤ zh.toInt) (hxl : ∀ j : Nat, (j : Int) < (eS 0).toInt → isLz (eX j)) (hlb : LBr eL eB) (hlz : LZ eL) : kMi l yX12_makes wsX12_makes ({ frames := 5, cells := 0, slots := 0, locals := 120 } : Room) [.ref oM, .int co, .int my] sz (dC, dI) vwCl [(cI, .int), (cS, .short)] [(oM, .inr (12, [.ref mT, .int zt, .ref mS, .ref mX, .int zp, .int zf, .ref mL, .ref mB, .ref mD, .ref m1, .ref m2, .int zh, .ref mR, .int zr, .ref x1, .ref x2, .ref x3, .int zc, .ref mH, .int zy, .int za, .int zb, .int zs, .int zq, .int zw, .int ze, .ref mY, .int zn, .ref mE, .int zm, .int zl, .ref mW, .int zk, .ref mO, .int zd, .ref y1, .ref y2, .ref y3, .ref y4, .ref mZ])), (mY, .inl (cI, 2600, .inl eY)), (mB, .inl (cS, 131072, .inl eB)), (mL, .inl (cI, 512, .inl eL)), (mE, .inl (cI, 2600, .inl eE)), (mW, .inl (cI, 300, .inl eW)), (mO, .inl (cI, 300, .inl eO)), (mS, .inl (cI, 21, .inl eS)), (mX, .inl (cI, 6300, .inl eX)), (m1, .inl (cI, 6, .inl e1)), (m2, .inl (cI, 6, .inl e2))] (fun _ => True) 0 0 (fun (A : Nat → Prop) (r : Int32) (hh9 : Heap) => ∃ (zn' : Int32) (eY' : Nat → Int32) (zd' : Int32) (zm' : Int32) (zl' : Int32) (eE' : Nat → Int32) (zk' : Int32) (eW' : Nat → Int32) (eO' : Nat → Int32), kPD (dC, dI) vwCl A [(oM, .inr (12, [.ref mT, .int zt, .ref mS, .ref mX, .int zp, .int zf, .ref mL, .ref mB, .ref mD, .ref m1, .ref m2, .int zh, .ref mR, .int zr, .ref x1, .ref x2, .ref x3, .int zc, .ref mH, .int zy, .int za, .int zb, .int zs, .int zq, .int zw, .int ze, .ref mY, .int zn', .ref mE, .int zm', .int zl', .ref mW, .int zk', .ref mO, .int zd', .ref y1, .ref y2, .ref y3, .ref y4, .ref mZ])), (mY, .inl (cI, 2600, .inl eY')), (mB, .inl (cS, 131072, .inl eB)), (mL, .inl (cI, 512, .inl eL)), (mE, .inl (cI, 2600, .inl eE')), (mW, .inl (cI, 300, .inl eW')), (mO, .inl (cI, 300, .inl eO')), (mS, .inl (cI, 21, .inl eS)), (mX, .inl (cI, 6300, .inl eX)), (m1, .inl (cI, 6, .inl e1)), (m2, .inl (cI, 6, .inl e2))] hh9 ∧ (0 ≤ zn'.toInt ∧ zn'.toInt ≤ 2600) ∧ (rg 0 255 eY') ∧ (0 ≤ zm'.toInt ∧ zm'.toInt ≤ 2600) ∧ (rg 0 65535 eE') ∧ (0 ≤ zk'.toInt ∧ zk'.toInt ≤ 300) ∧ (rg 0 65535 eW') ∧ (rg 0 65535 eO') ∧ (0 ≤ r.toInt ∧ r.toInt ≤ 1) ∧ (F_bd (UR e1 e2 eL eB) (digs zh.toNatClampNeg my.toNatClampNeg co.toNatClampNeg) r zk' eW' (eS 0).toInt eX)) := by
  refine kMi_of (cc := cX12_makes) (maxL := 6) (ret := (some .boolean)) (lv := [(0, .ref oM), (1, .int co), (2, .int my)]) (by decide +kernel) rfl rfl (Nat.le_of_ble_eq_true rfl) ?_
  intro p e s m below meth c A QQ ls hx hb hr hts hml hown hlocks hA hQQ hK hX hP hD hS hl
  have hown : s.vm.findClass RX12 = some m.cls := hown
  have hcf := k_cf hx hb hml hown hts
  have in_X12 : ∀ w ∈ wsX120, w ∈ wsX12_makes := fun _ h => List.mem_cons_of_mem _ (List.mem_append_right _ (h))
  replace g_zt := hid g_zt
  replace g_zp := hid g_zp
  replace g_zf := hid g_zf
  replace g_zr := hid g_zr
  replace g_zc := hid g_zc
  replace g_zy := hid g_zy
  replace g_za := hid g_za
  replace g_zb := hid g_zb
  replace g_zs := hid g_zs
  replace g_zq := hid g_zq
  replace g_zn := hid g_zn
  replace g_zm := hid g_zm
  replace g_zk := hid g_zk
  have hU : okU (UR e1 e2 eL eB) := okU_R g_eB g_eL
  have hlb9 := hlb
  have z0 : (0 : Int32).toInt = 0 := rfl
  have z1 : (1 : Int32).toInt = 1 := rfl
  have zm1 : (-1 : Int32).toInt = -1 := rfl
  have cm0 := v_clamp (x := my) (by omega)
  have cz0 := v_clamp (x := zh) (by omega)
  refine lv_aload_n hx hb dX12_makes_0 rfl (lv_at hl 0 rfl) ?_
  refine kV_v (rest := []) (q0 := 0) (ci := 12) hcf (f_X12_takeText l dC dI cI cS s.heap.size oM mT mS mX mL mB mD m1 m2 mR x1 x2 x3 mH mY mE mW mO y1 y2 y3 y4 mZ zt zp zf zh zr zc zy za zb zs zq zw ze zn zm zl zk zd eS eX eW (g_zt) (g_zp) (g_zf) (g_zh) (g_zr) (g_zc) (g_zy) (g_za) (g_zb) (g_zs) (g_zq) (g_zn) (g_zm) (g_zk) (g_eS) (g_eX) (g_eW)) kc_X12_takeText gX12_makes_X12_takeText rfl rfl rfl ⟨Nat.le_of_ble_eq_true rfl, Nat.le_of_ble_eq_true rfl⟩ kX_t hK hP hD hS hA [0, 7, 8, 5] [1, 2, 3, 4, 6, 9, 10] rfl (by decide +kernel) rfl rfl rfl hl rfl (Nat.le_of_ble_eq_true rfl) dX12_makes_1 ⟨Nat.le_of_ble_eq_true rfl, Nat.le_of_ble_eq_true rfl⟩ (fun H locs hB hJ hSn => ?_)
  obtain ⟨zk_1, eW_1, ⟨hP1, hD1⟩, hf1_0, hf1_1, hf1_2⟩ := hB
  obtain ⟨hPn, hDn⟩ := hJ _ hP1 hD1 [(mY, .inl (cI, 2600, .inl eY)), (mB, .inl (cS, 131072, .inl eB)), (mL, .inl (cI, 512, .inl eL)), (mE, .inl (cI, 2600, .inl eE)), (mO, .inl (cI, 300, .inl eO)), (m1, .inl (cI, 6, .inl e1)), (m2, .inl (cI, 6, .inl e2)), (oM, .inr (12, [.ref mT, .int zt, .ref mS, .ref mX, .int zp, .int zf, .ref mL, .ref mB, .ref mD, .ref m1, .ref m2, .int zh, .ref mR, .int zr, .ref x1, .ref x2, .ref x3, .int zc, .ref mH, .int zy, .int za, .int zb, .int zs, .int zq, .int zw, .int ze, .ref mY, .int zn, .ref mE, .int zm, .int zl, .ref mW, .int zk_1, .ref mO, .int zd, .ref y1, .ref y2, .ref y3, .ref y4, .ref mZ])), (mS, .inl (cI, 21, .inl eS)), (mX, .inl (cI, 6300, .inl eX)), (mW, .inl (cI, 300, .inl eW_1))] rfl
  clear hP hD hS hJ hP1 hD1
  have hP := hPn
  have hD := hDn
  have hS := hSn
  clear hPn hDn hSn
  refine lv_iload_n hx hb dX12_makes_4 rfl (lv_at hl 1 rfl) ?_
  refine lv_istore_n (lv' := [(3, .int co), (0, .ref oM), (1, .int co), (2, .int my)]) hx hb dX12_makes_5 rfl hl (by decide) rfl (fun ls hl => ?_)
  refine lv_iconst (v := 0) hx hb dX12_makes_6 (by decide) ?_
  refine lv_istore (lv' := [(4, .int 0), (3, .int co), (0, .ref oM), (1, .int co), (2, .int my)]) hx hb dX12_makes_7 hl (by decide) rfl (fun ls hl => ?_)
  have LOOP_9 : ∀ (k_9 : Nat) (cc_ : Int32) (k : Int32) (zna : Int32) (zda : Int32) (zma : Int32) (zla : Int32) (zka : Int32) (eYa : Nat → Int32) (eEa : Nat → Int32) (eWa : Nat → Int32) (eOa : Nat → Int32) (H : Heap) (locs : List Loc) (ls : Array Slot), MSd (3 - k.toInt : Int) k_9 → (0 ≤ cc_.toInt ∧ cc_.toInt ≤ 1000) → (0 ≤ k.toInt ∧ k.toInt ≤ 3) → (0 ≤ zna.toInt ∧ zna.toInt ≤ 2600) → (0 ≤ zma.toInt ∧ zma.toInt ≤ 2600) → (0 ≤ zka.toInt ∧ zka.toInt ≤ 300) → (rg 0 255 eYa) → (rg 0 65535 eEa) → (rg 0 65535 eWa) → (rg 0 65535 eOa) → (k.toInt ≤ my.toInt) → (bEq (UR e1 e2 eL eB) (digs zh.toNatClampNeg my.toNatClampNeg co.toNatClampNeg) (digs zh.toNatClampNeg (my.toInt - k.toInt).toNat cc_.toNatClampNeg) (eS 0).toInt zka.toInt eX eWa) → (∀ j : Nat, (j : Int) < zka.toInt → isLz (eWa j)) → va_P (dC, dI) vwCl [(mY, .inl (cI, 2600, .inl eYa)), (mB, .inl (cS, 131072, .inl eB)), (mL, .inl (cI, 512, .inl eL)), (mE, .inl (cI, 2600, .inl eEa)), (mO, .inl (cI, 300, .inl eOa)), (m1, .inl (cI, 6, .inl e1)), (m2, .inl (cI, 6, .inl e2)), (oM, .inr (12, [.ref mT, .int zt, .ref mS, .ref mX, .int zp, .int zf, .ref mL, .ref mB, .ref mD, .ref m1, .ref m2, .int zh, .ref mR, .int zr, .ref x1, .ref x2, .ref x3, .int zc, .ref mH, .int zy, .int za, .int zb, .int zs, .int zq, .int zw, .int ze, .ref mY, .int zna, .ref mE, .int zma, .int zla, .ref mW, .int zka, .ref mO, .int zda, .ref y1, .ref y2, .ref y3, .ref y4, .ref mZ])), (mS, .inl (cI, 21, .inl eS)), (mX, .inl (cI, 6300, .inl eX)), (mW, .inl (cI, 300, .inl eWa))] H → va_D A [(mY, .inl (cI, 2600, .inl eYa)), (mB, .inl (cS, 131072, .inl eB)), (mL, .inl (cI, 512, .inl eL)), (mE, .inl (cI, 2600, .inl eEa)), (mO, .inl (cI, 300, .inl eOa)), (m1, .inl (cI, 6, .inl e1)), (m2, .inl (cI, 6, .inl e2)), (oM, .inr (12, [.ref mT, .int zt, .ref mS, .ref mX, .int zp, .int zf, .ref mL, .ref mB, .ref mD, .ref m1, .ref m2, .int zh, .ref mR, .int zr, .ref x1, .ref x2, .ref x3, .int zc, .ref mH, .int zy, .int za, .int zb, .int zs, .int zq, .int zw, .int ze, .ref mY, .int zna, .ref mE, .int zma, .int zla, .ref mW, .int zka, .ref mO, .int zda, .ref y1, .ref y2, .ref y3, .ref y4, .ref mZ])), (mS, .inl (cI, 21, .inl eS)), (mX, .inl (cI, 6300, .inl eX)), (mW, .inl (cI, 300, .inl eWa))] → va_S A s.heap H locs → lv_has ls 6 [(4, .int k), (3, .int cc_), (0, .ref oM), (1, .int co), (2, .int my)] → W p l e (headSpec wsX12_makes ({ frames := 5, cells := 0, slots := 0, locals := 120 } : Room)).room s m ([.ref oM, .int co, .int my] : List Value).toArray below meth c H locs 0 0 (MQ below QQ ([.ref oM, .int co, .int my] : List Value).toArray s 0 0 A) (F0 m 9 ls []) := by
    clear hP hD hS hl
    intro k_9
    induction k_9 with
    | zero =>
      intro cc_ k zna zda zma zla zka eYa eEa eWa eOa H locs ls hm_9 g_cc_ g_k g_zna g_zma g_zka g_eYa g_eEa g_eWa g_eOa hkm hmq hzl hP hD hS hl
      exact ms_0 hm_9
    | succ k_9 ih_9 =>
      intro cc_ k zna zda zma zla zka eYa eEa eWa eOa H locs ls hm_9 g_cc_ g_k g_zna g_zma g_zka g_eYa g_eEa g_eWa g_eOa hkm hmq hzl hP hD hS hl
      refine lv_iload hx hb dX12_makes_9 (lv_at hl 0 rfl) ?_
      refine lv_iload_n hx hb dX12_makes_11 rfl (lv_at hl 4 rfl) ?_
      refine lv_icmp_ge (tgt := 59) hx hb dX12_makes_12 (by decide) (fun c_2 => ?_) (fun c_2 => ?_)
      · have tc_2 : my.toInt ≤ k.toInt := v_le c_2
        refine lv_iconst (v := 1) hx hb dX12_makes_59 (by decide) ?_
        exact kl_z (v := 1) hQQ hx hb hr hlocks hS dX12_makes_60 (rfl) ⟨zna, eYa, zda, zma, zla, eEa, zka, eWa, eOa, kPD_sub hP hD [7, 0, 1, 2, 3, 10, 4, 8, 9, 5, 6] (by decide +kernel) rfl, g_zna, g_eYa, g_zma, g_eEa, g_zka, g_eWa, g_eOa, by decide, dg_end hmq (by omega) (by omega) rfl rfl (fun j hj => rfl)⟩
      · have tc_2 : k.toInt < my.toInt := v_nle c_2
        refine lv_iload_n hx hb dX12_makes_15 rfl (lv_at hl 1 rfl) ?_
        refine lv_aload_n hx hb dX12_makes_16 rfl (lv_at hl 2 rfl) ?_
        refine va_get (D := (dC, dI)) (ci := 12) (v := .int zh) (C := RX12) (T := TX12) (N := 40) hx hb hts in_X12 hown hK hP 7 rfl rfl 11 (by decide) (hts (.fieldLink RX12 161 "TextMenderModel" "harms" "I") (List.mem_of_getElem? (i := 1) rfl)) (fun _ h9 => h9) rfl dX12_makes_17 ?_
        refine lv_irem hx hb dX12_makes_20 (v_nz (by omega)) ?_
        refine lv_topi (fun x_3 ex_3 => ?_)
        have tx_3 : 0 ≤ x_3.toInt ∧ x_3.toInt < zh.toInt := v_remr ex_3 (by show 0 ≤ cc_.toInt; omega) (by show 1 ≤ zh.toInt; omega)
        refine lv_istore (lv' := [(5, .int x_3), (4, .int k), (3, .int cc_), (0, .ref oM), (1, .int co), (2, .int my)]) hx hb dX12_makes_21 hl (by decide) rfl (fun ls hl => ?_)
        refine lv_iload_n hx hb dX12_makes_23 rfl (lv_at hl 2 rfl) ?_
        refine lv_aload_n hx hb dX12_makes_24 rfl (lv_at hl 3 rfl) ?_
        refine va_get (D := (dC, dI)) (ci := 12) (v := .int zh) (C := RX12) (T := TX12) (N := 40) hx hb hts in_X12 hown hK hP 7 rfl rfl 11 (by decide) (hts (.fieldLink RX12 161 "TextMenderModel" "harms" "I") (List.mem_of_getElem? (i := 1) rfl)) (fun _ h9 => h9) rfl dX12_makes_25 ?_
        refine lv_idiv hx hb dX12_makes_28 (v_nz (by omega)) ?_
        refine lv_topi (fun x_4 ex_4 => ?_)
        have tx_4 : 0 ≤ x_4.toInt ∧ x_4.toInt ≤ cc_.toInt := v_divr ex_4 (by show 0 ≤ cc_.toInt; omega) (by show 1 ≤ zh.toInt; omega)
        refine lv_istore_n (lv' := [(3, .int x_4), (5, .int x_3), (4, .int k), (0, .ref oM), (1, .int co), (2, .int my)]) hx hb dX12_makes_29 rfl hl (by decide) rfl (fun ls hl => ?_)
        refine lv_aload_n hx hb dX12_makes_30 rfl (lv_at hl 3 rfl) ?_
        refine lv_aload_n hx hb dX12_makes_31 rfl (lv_at hl 3 rfl) ?_
        refine va_get (D := (dC, dI)) (ci := 12) (v := .ref m1) (C := RX12) (T := TX12) (N := 40) hx hb hts in_X12 hown hK hP 7 rfl rfl 9 (by decide) (hts (.fieldLink RX12 30 "TextMenderModel" "harmA" "[I") (List.mem_of_getElem? (i := 2) rfl)) (fun _ h9 => h9) rfl dX12_makes_32 ?_
        refine lv_iload hx hb dX12_makes_35 (lv_at hl 1 rfl) ?_
        refine va_iald hx hb hK hP 5 0 rfl rfl (v_in (by omega)) dX12_makes_37 ?_
        refine lv_topi (fun x_5 ex_5 => ?_)
        have tx_5 : 0 ≤ x_5.toInt ∧ x_5.toInt ≤ 5 := rg_at g_e1 ex_5
        refine lv_aload_n hx hb dX12_makes_38 rfl (lv_at hl 3 rfl) ?_
        refine va_get (D := (dC, dI)) (ci := 12) (v := .ref m2) (C := RX12) (T := TX12) (N := 40) hx hb hts in_X12 hown hK hP 7 rfl rfl 10 (by decide) (hts (.fieldLink RX12 33 "TextMenderModel" "harmB" "[I") (List.mem_of_getElem? (i := 3) rfl)) (fun _ h9 => h9) rfl dX12_makes_39 ?_
        refine lv_iload hx hb dX12_makes_42 (lv_at hl 1 rfl) ?_
        refine va_iald hx hb hK hP 6 0 rfl rfl (v_in (by omega)) dX12_makes_44 ?_
        refine lv_topi (fun x_6 ex_6 => ?_)
        have tx_6 : 0 ≤ x_6.toInt ∧ x_6.toInt ≤ 5 := rg_at g_e2 ex_6
        refine kV_i (rest := []) (q0 := 0) (ci := 12) hcf (f_X12_undoes l dC dI cI cS H.size oM mT mS mX mL mB mD m1 m2 mR x1 x2 x3 mH mY mE mW mO y1 y2 y3 y4 mZ zt zp zf zh zr zc zy za zb zs zq zw ze zna zma zla zka zda eYa eB eL eEa eWa eOa x_5 x_6 (g_zt) (g_zp) (g_zf) (g_zh) (g_zr) (g_zc) (g_zy) (g_za) (g_zb) (g_zs) (g_zq) (g_zna) (g_zma) (g_zka) (g_eYa) (g_eB) (g_eL) (g_eEa) (g_eWa) (g_eOa) (v_rr tx_5 (by decide) (by decide)) (v_rr tx_6 (by decide) (by decide)) (hzl) (hlb)) kc_X12_undoes gX12_makes_X12_undoes rfl rfl rfl ⟨Nat.le_of_ble_eq_true rfl, Nat.le_of_ble_eq_true rfl⟩ kX_t hK hP hD hS hA [7, 0, 1, 2, 3, 10, 4] [5, 6, 8, 9] rfl (by decide +kernel) rfl rfl rfl hl rfl (Nat.le_of_ble_eq_true rfl) dX12_makes_45 ⟨Nat.le_of_ble_eq_true rfl, Nat.le_of_ble_eq_true rfl⟩ (fun r_7 H locs hB hJ hSn => ?_)
        obtain ⟨zn_7, eY_7, zd_7, zm_7, zl_7, eE_7, zk_7, eW_7, eO_7, ⟨hP1, hD1⟩, hf7_0, hf7_1, hf7_2, hf7_3, hf7_4, hf7_5, hf7_6, hf7_7, hf7_8⟩ := hB
        obtain ⟨hPn, hDn⟩ := hJ _ hP1 hD1 [(m1, .inl (cI, 6, .inl e1)), (m2, .inl (cI, 6, .inl e2)), (mS, .inl (cI, 21, .inl eS)), (mX, .inl (cI, 6300, .inl eX)), (oM, .inr (12, [.ref mT, .int zt, .ref mS, .ref mX, .int zp, .int zf, .ref mL, .ref mB, .ref mD, .ref m1, .ref m2, .int zh, .ref mR, .int zr, .ref x1, .ref x2, .ref x3, .int zc, .ref mH, .int zy, .int za, .int zb, .int zs, .int zq, .int zw, .int ze, .ref mY, .int zn_7, .ref mE, .int zm_7, .int zl_7, .ref mW, .int zk_7, .ref mO, .int zd_7, .ref y1, .ref y2, .ref y3, .ref y4, .ref mZ])), (mY, .inl (cI, 2600, .inl eY_7)), (mB, .inl (cS, 131072, .inl eB)), (mL, .inl (cI, 512, .inl eL)), (mE, .inl (cI, 2600, .inl eE_7)), (mW, .inl (cI, 300, .inl eW_7)), (mO, .inl (cI, 300, .inl eO_7))] rfl
        clear hP hD hS hJ hP1 hD1
        have hP := hPn
        have hD := hDn
        have hS := hSn
        clear hPn hDn hSn
        refine lv_if_ne (tgt := 53) hx hb dX12_makes_48 (by decide) (fun c_8 => ?_) (fun c_8 => ?_)
        · have tc_8 : ¬ r_7.toInt = 0 := v_ne c_8
          obtain ⟨x_9, ex_9⟩ : ∃ y : Int32, y = k + 1 := ⟨_, rfl⟩
          have tx_9 : x_9.toInt = k.toInt + 1 := v_addR (l2 := 1) (h2 := 1) ex_9 g_k (by decide) (by decide) (by decide)
          refine lv_iinc (v := x_9) (lv' := [(4, .int x_9), (3, .int x_4), (5, .int x_3), (0, .ref oM), (1, .int co), (2, .int my)]) hx hb dX12_makes_53 hl (k := 2) rfl (by rw [ex_9]; rfl) (by decide) rfl (fun ls hl => ?_)
          refine lv_goto (tgt := 9) hx hb dX12_makes_56 (by decide) ?_
          exact ih_9 x_4 x_9 zn_7 zd_7 zm_7 zl_7 zk_7 eY_7 eE_7 eW_7 eO_7 _ _ _ (ms_lt hm_9 (by show ((3 - x_9.toInt : Int)) < 3 - k.toInt; omega) (by show (0 : Int) < 3 - k.toInt; omega)) (by show 0 ≤ x_4.toInt ∧ x_4.toInt ≤ 1000; omega) (by show 0 ≤ x_9.toInt ∧ x_9.toInt ≤ 3; omega) (hf7_0) (hf7_2) (hf7_4) (hf7_1) (hf7_3) (hf7_5) (hf7_6) (by show x_9.toInt ≤ my.toInt; omega) (dg_do hU hmq (by omega) (by omega) (md_n ex_3 (by omega) (by omega)) (dv_n ex_4 (by omega) (by omega)) (to_ur (h := x_3.toNatClampNeg) hf7_8 ex_5 ex_6 rfl) (by omega) (rg_prg g_eWa)) (to_lz hlz g_eB (rg_prg g_eWa) (to_ur (h := x_3.toNatClampNeg) hf7_8 ex_5 ex_6 rfl) (by omega)) (hP.sub [5, 6, 7, 8, 10, 0, 1, 4, 2, 3, 9] rfl) (hD.sub [5, 6, 7, 8, 10, 0, 1, 4, 2, 3, 9] (by decide +kernel) rfl) hS (lv_sub hl [0, 1, 3, 4, 5] rfl)
        · have tc_8 : r_7.toInt = 0 := v_eq c_8
          refine lv_iconst (v := 0) hx hb dX12_makes_51 (by decide) ?_
          exact kl_z (v := 0) hQQ hx hb hr hlocks hS dX12_makes_52 (rfl) ⟨zn_7, eY_7, zd_7, zm_7, zl_7, eE_7, zk_7, eW_7, eO_7, kPD_sub hP hD [4, 5, 6, 7, 8, 9, 10, 2, 3, 0, 1] (by decide +kernel) rfl, hf7_0, hf7_1, hf7_2, hf7_3, hf7_4, hf7_5, hf7_6, by decide, dg_no (k' := (my.toInt - k.toInt).toNat - 1) hmq (by omega) (by omega) (md_n ex_3 (by omega) (by omega)) (dv_n ex_4 (by omega) (by omega)) (to_ur (h := x_3.toNatClampNeg) hf7_8 ex_5 ex_6 rfl) (by omega) rfl⟩
  exact LOOP_9 _ co 0 zn zd zm zl zk_1 eY eE eW_1 eO _ _ _ (ms_s _) (g_co) (by decide) (g_zn) (g_zm) (hf1_0) (g_eY) (g_eE) (hf1_1) (g_eO) (by show 0 ≤ my.toInt; omega) (dg_0 hU (by omega) (by rw [hf1_2.1]) (fun j hj => hf1_2.2 j (by rw [hf1_2.1]; exact hj))) (fun j hj => by rw [hf1_2.2 j hj]; exact hxl j (by rw [← hf1_2.1]; exact hj)) hP hD hS (lv_sub hl [0, 1, 2, 3, 4] rfl)

end

/-! 59v.a.rows -/
section
set_option maxRecDepth 100000 in
theorem dA291_cX12_mend : kDec cX12_mend [(0, .aload_n 0, 1), (1, .iconst 0, 1), (2, .putfield 85, 3), (5, .aload_n 0, 1), (6, .iconst (-1), 1), (7, .putfield 55, 3), (10, .iload_n 1, 1), (11, .iconst 1, 1), (12, .if_icmp .lt 19, 3), (31, .iconst (-1), 1), (32, .ireturn, 1), (15, .iload_n 1, 1), (16, .iconst 3, 1), (17, .if_icmp .gt 14, 3), (20, .iload_n 2, 1), (21, .iconst 1, 1), (22, .if_icmp .lt 9, 3), (25, .iload_n 2, 1), (26, .ldc 198, 2), (28, .if_icmp .le 5, 3), (33, .iconst (-1), 1), (34, .istore_n 3, 1), (35, .iconst 0, 1), (36, .istore 4, 2)] = true := by decide +kernel
theorem dX12_mend_0 : decode cX12_mend 0 = .ok (.aload_n 0, 1) := kDec_at dA291_cX12_mend 0 rfl
theorem dX12_mend_1 : decode cX12_mend 1 = .ok (.iconst 0, 1) := kDec_at dA291_cX12_mend 1 rfl
theorem dX12_mend_2 : decode cX12_mend 2 = .ok (.putfield 85, 3) := kDec_at dA291_cX12_mend 2 rfl
theorem dX12_mend_5 : decode cX12_mend 5 = .ok (.aload_n 0, 1) := kDec_at dA291_cX12_mend 3 rfl
theorem dX12_mend_6 : decode cX12_mend 6 = .ok (.iconst (-1), 1) := kDec_at dA291_cX12_mend 4 rfl
theorem dX12_mend_7 : decode cX12_mend 7 = .ok (.putfield 55, 3) := kDec_at dA291_cX12_mend 5 rfl
theorem dX12_mend_10 : decode cX12_mend 10 = .ok (.iload_n 1, 1) := kDec_at dA291_cX12_mend 6 rfl
theorem dX12_mend_11 : decode cX12_mend 11 = .ok (.iconst 1, 1) := kDec_at dA291_cX12_mend 7 rfl
theorem dX12_mend_12 : decode cX12_mend 12 = .ok (.if_icmp .lt 19, 3) := kDec_at dA291_cX12_mend 8 rfl
theorem dX12_mend_31 : decode cX12_mend 31 = .ok (.iconst (-1), 1) := kDec_at dA291_cX12_mend 9 rfl
theorem dX12_mend_32 : decode cX12_mend 32 = .ok (.ireturn, 1) := kDec_at dA291_cX12_mend 10 rfl
theorem dX12_mend_15 : decode cX12_mend 15 = .ok (.iload_n 1, 1) := kDec_at dA291_cX12_mend 11 rfl
theorem dX12_mend_16 : decode cX12_mend 16 = .ok (.iconst 3, 1) := kDec_at dA291_cX12_mend 12 rfl
theorem dX12_mend_17 : decode cX12_mend 17 = .ok (.if_icmp .gt 14, 3) := kDec_at dA291_cX12_mend 13 rfl
theorem dX12_mend_20 : decode cX12_mend 20 = .ok (.iload_n 2, 1) := kDec_at dA291_cX12_mend 14 rfl
theorem dX12_mend_21 : decode cX12_mend 21 = .ok (.iconst 1, 1) := kDec_at dA291_cX12_mend 15 rfl
theorem dX12_mend_22 : decode cX12_mend 22 = .ok (.if_icmp .lt 9, 3) := kDec_at dA291_cX12_mend 16 rfl
theorem dX12_mend_25 : decode cX12_mend 25 = .ok (.iload_n 2, 1) := kDec_at dA291_cX12_mend 17 rfl
theorem dX12_mend_26 : decode cX12_mend 26 = .ok (.ldc 198, 2) := kDec_at dA291_cX12_mend 18 rfl
theorem dX12_mend_28 : decode cX12_mend 28 = .ok (.if_icmp .le 5, 3) := kDec_at dA291_cX12_mend 19 rfl
theorem dX12_mend_33 : decode cX12_mend 33 = .ok (.iconst (-1), 1) := kDec_at dA291_cX12_mend 20 rfl
theorem dX12_mend_34 : decode cX12_mend 34 = .ok (.istore_n 3, 1) := kDec_at dA291_cX12_mend 21 rfl
theorem dX12_mend_35 : decode cX12_mend 35 = .ok (.iconst 0, 1) := kDec_at dA291_cX12_mend 22 rfl
theorem dX12_mend_36 : decode cX12_mend 36 = .ok (.istore 4, 2) := kDec_at dA291_cX12_mend 23 rfl
set_option maxRecDepth 100000 in
theorem dA292_cX12_mend : kDec cX12_mend [(38, .iconst 0, 1), (39, .istore 5, 2), (41, .iconst 0, 1), (42, .istore 6, 2), (44, .iconst 0, 1), (45, .istore 7, 2), (47, .iconst 1, 1), (48, .istore 8, 2), (50, .iload 8, 2), (52, .iload_n 1, 1), (53, .if_icmp .gt 106, 3), (159, .iload_n 3, 1), (160, .iconst (-1), 1), (161, .if_icmp .eq 25, 3), (186, .iconst (-1), 1), (187, .ireturn, 1), (164, .aload_n 0, 1), (165, .aload_n 0, 1), (166, .getfield 16, 3), (169, .iconst 0, 1), (170, .aload_n 0, 1), (171, .getfield 13, 3), (174, .iconst 0, 1), (175, .iaload, 1)] = true := by decide +kernel
theorem dX12_mend_38 : decode cX12_mend 38 = .ok (.iconst 0, 1) := kDec_at dA292_cX12_mend 0 rfl
theorem dX12_mend_39 : decode cX12_mend 39 = .ok (.istore 5, 2) := kDec_at dA292_cX12_mend 1 rfl
theorem dX12_mend_41 : decode cX12_mend 41 = .ok (.iconst 0, 1) := kDec_at dA292_cX12_mend 2 rfl
theorem dX12_mend_42 : decode cX12_mend 42 = .ok (.istore 6, 2) := kDec_at dA292_cX12_mend 3 rfl
theorem dX12_mend_44 : decode cX12_mend 44 = .ok (.iconst 0, 1) := kDec_at dA292_cX12_mend 4 rfl
theorem dX12_mend_45 : decode cX12_mend 45 = .ok (.istore 7, 2) := kDec_at dA292_cX12_mend 5 rfl
theorem dX12_mend_47 : decode cX12_mend 47 = .ok (.iconst 1, 1) := kDec_at dA292_cX12_mend 6 rfl
theorem dX12_mend_48 : decode cX12_mend 48 = .ok (.istore 8, 2) := kDec_at dA292_cX12_mend 7 rfl
theorem dX12_mend_50 : decode cX12_mend 50 = .ok (.iload 8, 2) := kDec_at dA292_cX12_mend 8 rfl
theorem dX12_mend_52 : decode cX12_mend 52 = .ok (.iload_n 1, 1) := kDec_at dA292_cX12_mend 9 rfl
theorem dX12_mend_53 : decode cX12_mend 53 = .ok (.if_icmp .gt 106, 3) := kDec_at dA292_cX12_mend 10 rfl
theorem dX12_mend_159 : decode cX12_mend 159 = .ok (.iload_n 3, 1) := kDec_at dA292_cX12_mend 11 rfl
theorem dX12_mend_160 : decode cX12_mend 160 = .ok (.iconst (-1), 1) := kDec_at dA292_cX12_mend 12 rfl
theorem dX12_mend_161 : decode cX12_mend 161 = .ok (.if_icmp .eq 25, 3) := kDec_at dA292_cX12_mend 13 rfl
theorem dX12_mend_186 : decode cX12_mend 186 = .ok (.iconst (-1), 1) := kDec_at dA292_cX12_mend 14 rfl
theorem dX12_mend_187 : decode cX12_mend 187 = .ok (.ireturn, 1) := kDec_at dA292_cX12_mend 15 rfl
theorem dX12_mend_164 : decode cX12_mend 164 = .ok (.aload_n 0, 1) := kDec_at dA292_cX12_mend 16 rfl
theorem dX12_mend_165 : decode cX12_mend 165 = .ok (.aload_n 0, 1) := kDec_at dA292_cX12_mend 17 rfl
theorem dX12_mend_166 : decode cX12_mend 166 = .ok (.getfield 16, 3) := kDec_at dA292_cX12_mend 18 rfl
theorem dX12_mend_169 : decode cX12_mend 169 = .ok (.iconst 0, 1) := kDec_at dA292_cX12_mend 19 rfl
theorem dX12_mend_170 : decode cX12_mend 170 = .ok (.aload_n 0, 1) := kDec_at dA292_cX12_mend 20 rfl
theorem dX12_mend_171 : decode cX12_mend 171 = .ok (.getfield 13, 3) := kDec_at dA292_cX12_mend 21 rfl
theorem dX12_mend_174 : decode cX12_mend 174 = .ok (.iconst 0, 1) := kDec_at dA292_cX12_mend 22 rfl
theorem dX12_mend_175 : decode cX12_mend 175 = .ok (.iaload, 1) := kDec_at dA292_cX12_mend 23 rfl
set_option maxRecDepth 20000 in
theorem ggX12_mend_X12_costOf_ : GoodIn wsX12_mend wsX12_costOf_ := goodIn_r _ [77, 78, 79, 80, 11, 81, 82, 83, 84, 85, 86, 87, 88, 96, 97, 98, 99, 100, 101, 102, 103, 104, 105, 106, 107, 108, 109, 110, 111, 112, 113, 114, 115, 116, 117, 118, 119, 120, 121, 122, 123, 124, 125, 126, 127, 128, 129, 130, 131, 132, 133, 134, 135] rfl (by decide +kernel)
set_option maxRecDepth 20000 in
theorem gX12_mend_X12_costOf_ : GoodIn wsX12_mend (wsV RX12 189 RX12 yX12_costOf_ wsX12_costOf_) := goodIn_app (goodIn_r _ [74, 75, 76, 11] rfl (by decide +kernel)) ggX12_mend_X12_costOf_
set_option maxRecDepth 100000 in
theorem dA293_cX12_mend : kDec cX12_mend [(176, .invokevirtual 189, 3), (179, .iload 6, 2), (181, .isub, 1), (182, .iload_n 2, 1), (183, .if_icmp .ge 5, 3), (188, .aload_n 0, 1), (189, .iload 5, 2), (191, .iload 4, 2), (193, .invokevirtual 186, 3), (196, .pop, 1), (197, .aload_n 0, 1), (198, .aload_n 0, 1), (199, .getfield 64, 3), (202, .aload_n 0, 1), (203, .getfield 135, 3), (206, .invokevirtual 154, 3), (209, .iload_n 3, 1), (210, .ireturn, 1), (56, .aload_n 0, 1), (57, .getfield 161, 3), (60, .ifCond .ne 7, 3), (67, .aload_n 0, 1), (68, .getfield 161, 3), (71, .iload 8, 2)] = true := by decide +kernel
theorem dX12_mend_176 : decode cX12_mend 176 = .ok (.invokevirtual 189, 3) := kDec_at dA293_cX12_mend 0 rfl
theorem dX12_mend_179 : decode cX12_mend 179 = .ok (.iload 6, 2) := kDec_at dA293_cX12_mend 1 rfl
theorem dX12_mend_181 : decode cX12_mend 181 = .ok (.isub, 1) := kDec_at dA293_cX12_mend 2 rfl
theorem dX12_mend_182 : decode cX12_mend 182 = .ok (.iload_n 2, 1) := kDec_at dA293_cX12_mend 3 rfl
theorem dX12_mend_183 : decode cX12_mend 183 = .ok (.if_icmp .ge 5, 3) := kDec_at dA293_cX12_mend 4 rfl
theorem dX12_mend_188 : decode cX12_mend 188 = .ok (.aload_n 0, 1) := kDec_at dA293_cX12_mend 5 rfl
theorem dX12_mend_189 : decode cX12_mend 189 = .ok (.iload 5, 2) := kDec_at dA293_cX12_mend 6 rfl
theorem dX12_mend_191 : decode cX12_mend 191 = .ok (.iload 4, 2) := kDec_at dA293_cX12_mend 7 rfl
theorem dX12_mend_193 : decode cX12_mend 193 = .ok (.invokevirtual 186, 3) := kDec_at dA293_cX12_mend 8 rfl
theorem dX12_mend_196 : decode cX12_mend 196 = .ok (.pop, 1) := kDec_at dA293_cX12_mend 9 rfl
theorem dX12_mend_197 : decode cX12_mend 197 = .ok (.aload_n 0, 1) := kDec_at dA293_cX12_mend 10 rfl
theorem dX12_mend_198 : decode cX12_mend 198 = .ok (.aload_n 0, 1) := kDec_at dA293_cX12_mend 11 rfl
theorem dX12_mend_199 : decode cX12_mend 199 = .ok (.getfield 64, 3) := kDec_at dA293_cX12_mend 12 rfl
theorem dX12_mend_202 : decode cX12_mend 202 = .ok (.aload_n 0, 1) := kDec_at dA293_cX12_mend 13 rfl
theorem dX12_mend_203 : decode cX12_mend 203 = .ok (.getfield 135, 3) := kDec_at dA293_cX12_mend 14 rfl
theorem dX12_mend_206 : decode cX12_mend 206 = .ok (.invokevirtual 154, 3) := kDec_at dA293_cX12_mend 15 rfl
theorem dX12_mend_209 : decode cX12_mend 209 = .ok (.iload_n 3, 1) := kDec_at dA293_cX12_mend 16 rfl
theorem dX12_mend_210 : decode cX12_mend 210 = .ok (.ireturn, 1) := kDec_at dA293_cX12_mend 17 rfl
theorem dX12_mend_56 : decode cX12_mend 56 = .ok (.aload_n 0, 1) := kDec_at dA293_cX12_mend 18 rfl
theorem dX12_mend_57 : decode cX12_mend 57 = .ok (.getfield 161, 3) := kDec_at dA293_cX12_mend 19 rfl
theorem dX12_mend_60 : decode cX12_mend 60 = .ok (.ifCond .ne 7, 3) := kDec_at dA293_cX12_mend 20 rfl
theorem dX12_mend_67 : decode cX12_mend 67 = .ok (.aload_n 0, 1) := kDec_at dA293_cX12_mend 21 rfl
theorem dX12_mend_68 : decode cX12_mend 68 = .ok (.getfield 161, 3) := kDec_at dA293_cX12_mend 22 rfl
theorem dX12_mend_71 : decode cX12_mend 71 = .ok (.iload 8, 2) := kDec_at dA293_cX12_mend 23 rfl
set_option maxRecDepth 20000 in
theorem ggX12_mend_X12_makes : GoodIn wsX12_mend wsX12_makes := goodIn_r _ [16, 4, 17, 18, 19, 20, 21, 11, 22, 8, 6, 5, 7, 23, 24, 25, 26, 27, 28, 29, 30, 31, 32, 33, 34, 35, 36, 37, 38, 39, 40, 41, 42, 43, 44, 45, 46, 47, 48, 49, 50, 51, 52, 53, 54, 55, 56, 57, 58, 59, 60, 61, 62, 63, 64, 65, 66, 67, 68, 69, 70, 71, 72, 73, 96, 97, 98, 99, 100, 101, 102, 103, 104, 105, 106, 107, 108, 109, 110, 111, 112, 113, 114, 115, 116, 117, 118, 119, 120, 121, 122, 123, 124, 125, 126, 127, 128, 129, 130, 131, 132, 133, 134, 135] rfl (by decide +kernel)
set_option maxRecDepth 20000 in
theorem gX12_mend_X12_makes : GoodIn wsX12_mend (wsV RX12 186 RX12 yX12_makes wsX12_makes) := goodIn_app (goodIn_r _ [13, 14, 15, 11] rfl (by decide +kernel)) ggX12_mend_X12_makes
set_option maxRecDepth 20000 in
theorem ggX12_mend_X12_become : GoodIn wsX12_mend wsX12_become := goodIn_r _ [92, 93, 94, 8, 7, 95, 96, 97, 98, 99, 100, 101, 102, 103, 104, 105, 106, 107, 108, 109, 110, 111, 112, 113, 114, 115, 116, 117, 118, 119, 120, 121, 122, 123, 124, 125, 126, 127, 128, 129, 130, 131, 132, 133, 134, 135] rfl (by decide +kernel)
set_option maxRecDepth 20000 in
theorem gX12_mend_X12_become : GoodIn wsX12_mend (wsV RX12 154 RX12 yX12_become wsX12_become) := goodIn_app (goodIn_r _ [89, 90, 91, 11] rfl (by decide +kernel)) ggX12_mend_X12_become
set_option maxRecDepth 20000 in
theorem ggX12_mend_X12_power : GoodIn wsX12_mend wsX12_power := goodIn_r _ [12] rfl (by decide +kernel)
set_option maxRecDepth 20000 in
theorem gX12_mend_X12_power : GoodIn wsX12_mend (va_wsS RX12 183 yX12_power wsX12_power) := goodIn_app (goodIn_r _ [9, 10, 11] rfl (by decide +kernel)) ggX12_mend_X12_power
set_option maxRecDepth 100000 in
theorem dA294_cX12_mend : kDec cX12_mend [(73, .invokestatic 183, 3), (76, .istore 9, 2), (78, .iconst 0, 1), (79, .istore 10, 2), (81, .iload 10, 2), (83, .iload 9, 2), (85, .if_icmp .ge 68, 3), (153, .iinc 8 1, 3), (156, .goto (-106), 3), (88, .aload_n 0, 1), (89, .iload 10, 2), (91, .iload 8, 2), (93, .invokevirtual 186, 3), (96, .ifCond .ne 6, 3), (102, .aload_n 0, 1), (103, .aload_n 0, 1), (104, .getfield 64, 3), (107, .iconst 0, 1), (108, .aload_n 0, 1), (109, .getfield 135, 3), (112, .invokevirtual 189, 3), (115, .istore 11, 2), (117, .iload_n 3, 1), (118, .iconst (-1), 1)] = true := by decide +kernel
theorem dX12_mend_73 : decode cX12_mend 73 = .ok (.invokestatic 183, 3) := kDec_at dA294_cX12_mend 0 rfl
theorem dX12_mend_76 : decode cX12_mend 76 = .ok (.istore 9, 2) := kDec_at dA294_cX12_mend 1 rfl
theorem dX12_mend_78 : decode cX12_mend 78 = .ok (.iconst 0, 1) := kDec_at dA294_cX12_mend 2 rfl
theorem dX12_mend_79 : decode cX12_mend 79 = .ok (.istore 10, 2) := kDec_at dA294_cX12_mend 3 rfl
theorem dX12_mend_81 : decode cX12_mend 81 = .ok (.iload 10, 2) := kDec_at dA294_cX12_mend 4 rfl
theorem dX12_mend_83 : decode cX12_mend 83 = .ok (.iload 9, 2) := kDec_at dA294_cX12_mend 5 rfl
theorem dX12_mend_85 : decode cX12_mend 85 = .ok (.if_icmp .ge 68, 3) := kDec_at dA294_cX12_mend 6 rfl
theorem dX12_mend_153 : decode cX12_mend 153 = .ok (.iinc 8 1, 3) := kDec_at dA294_cX12_mend 7 rfl
theorem dX12_mend_156 : decode cX12_mend 156 = .ok (.goto (-106), 3) := kDec_at dA294_cX12_mend 8 rfl
theorem dX12_mend_88 : decode cX12_mend 88 = .ok (.aload_n 0, 1) := kDec_at dA294_cX12_mend 9 rfl
theorem dX12_mend_89 : decode cX12_mend 89 = .ok (.iload 10, 2) := kDec_at dA294_cX12_mend 10 rfl
theorem dX12_mend_91 : decode cX12_mend 91 = .ok (.iload 8, 2) := kDec_at dA294_cX12_mend 11 rfl
theorem dX12_mend_93 : decode cX12_mend 93 = .ok (.invokevirtual 186, 3) := kDec_at dA294_cX12_mend 12 rfl
theorem dX12_mend_96 : decode cX12_mend 96 = .ok (.ifCond .ne 6, 3) := kDec_at dA294_cX12_mend 13 rfl
theorem dX12_mend_102 : decode cX12_mend 102 = .ok (.aload_n 0, 1) := kDec_at dA294_cX12_mend 14 rfl
theorem dX12_mend_103 : decode cX12_mend 103 = .ok (.aload_n 0, 1) := kDec_at dA294_cX12_mend 15 rfl
theorem dX12_mend_104 : decode cX12_mend 104 = .ok (.getfield 64, 3) := kDec_at dA294_cX12_mend 16 rfl
theorem dX12_mend_107 : decode cX12_mend 107 = .ok (.iconst 0, 1) := kDec_at dA294_cX12_mend 17 rfl
theorem dX12_mend_108 : decode cX12_mend 108 = .ok (.aload_n 0, 1) := kDec_at dA294_cX12_mend 18 rfl
theorem dX12_mend_109 : decode cX12_mend 109 = .ok (.getfield 135, 3) := kDec_at dA294_cX12_mend 19 rfl
theorem dX12_mend_112 : decode cX12_mend 112 = .ok (.invokevirtual 189, 3) := kDec_at dA294_cX12_mend 20 rfl
theorem dX12_mend_115 : decode cX12_mend 115 = .ok (.istore 11, 2) := kDec_at dA294_cX12_mend 21 rfl
theorem dX12_mend_117 : decode cX12_mend 117 = .ok (.iload_n 3, 1) := kDec_at dA294_cX12_mend 22 rfl
theorem dX12_mend_118 : decode cX12_mend 118 = .ok (.iconst (-1), 1) := kDec_at dA294_cX12_mend 23 rfl
set_option maxRecDepth 100000 in
theorem dA295_cX12_mend : kDec cX12_mend [(119, .if_icmp .eq 10, 3), (129, .iload 7, 2), (131, .istore_n 3, 1), (132, .iload 8, 2), (134, .istore 4, 2), (136, .iload 10, 2), (138, .istore 5, 2), (140, .iload 11, 2), (142, .istore 6, 2), (144, .iinc 7 1, 3), (147, .iinc 10 1, 3), (150, .goto (-69), 3), (122, .iload 11, 2), (124, .iload 6, 2), (126, .if_icmp .ge 18, 3), (99, .goto 48, 3), (63, .iconst 0, 1), (64, .goto 12, 3)] = true := by decide +kernel
theorem dX12_mend_119 : decode cX12_mend 119 = .ok (.if_icmp .eq 10, 3) := kDec_at dA295_cX12_mend 0 rfl
theorem dX12_mend_129 : decode cX12_mend 129 = .ok (.iload 7, 2) := kDec_at dA295_cX12_mend 1 rfl
theorem dX12_mend_131 : decode cX12_mend 131 = .ok (.istore_n 3, 1) := kDec_at dA295_cX12_mend 2 rfl
theorem dX12_mend_132 : decode cX12_mend 132 = .ok (.iload 8, 2) := kDec_at dA295_cX12_mend 3 rfl
theorem dX12_mend_134 : decode cX12_mend 134 = .ok (.istore 4, 2) := kDec_at dA295_cX12_mend 4 rfl
theorem dX12_mend_136 : decode cX12_mend 136 = .ok (.iload 10, 2) := kDec_at dA295_cX12_mend 5 rfl
theorem dX12_mend_138 : decode cX12_mend 138 = .ok (.istore 5, 2) := kDec_at dA295_cX12_mend 6 rfl
theorem dX12_mend_140 : decode cX12_mend 140 = .ok (.iload 11, 2) := kDec_at dA295_cX12_mend 7 rfl
theorem dX12_mend_142 : decode cX12_mend 142 = .ok (.istore 6, 2) := kDec_at dA295_cX12_mend 8 rfl
theorem dX12_mend_144 : decode cX12_mend 144 = .ok (.iinc 7 1, 3) := kDec_at dA295_cX12_mend 9 rfl
theorem dX12_mend_147 : decode cX12_mend 147 = .ok (.iinc 10 1, 3) := kDec_at dA295_cX12_mend 10 rfl
theorem dX12_mend_150 : decode cX12_mend 150 = .ok (.goto (-69), 3) := kDec_at dA295_cX12_mend 11 rfl
theorem dX12_mend_122 : decode cX12_mend 122 = .ok (.iload 11, 2) := kDec_at dA295_cX12_mend 12 rfl
theorem dX12_mend_124 : decode cX12_mend 124 = .ok (.iload 6, 2) := kDec_at dA295_cX12_mend 13 rfl
theorem dX12_mend_126 : decode cX12_mend 126 = .ok (.if_icmp .ge 18, 3) := kDec_at dA295_cX12_mend 14 rfl
theorem dX12_mend_99 : decode cX12_mend 99 = .ok (.goto 48, 3) := kDec_at dA295_cX12_mend 15 rfl
theorem dX12_mend_63 : decode cX12_mend 63 = .ok (.iconst 0, 1) := kDec_at dA295_cX12_mend 16 rfl
theorem dX12_mend_64 : decode cX12_mend 64 = .ok (.goto 12, 3) := kDec_at dA295_cX12_mend 17 rfl

end

/-! 59v.rows -/
section
/-! mend() of the reference -/
section MND
variable {U : Nat → Nat → (Nat → Int32) → Nat → (Nat → Int32) → Prop}
def MIq (R : Nat → Int32) (z : Nat) (nn : Int) (P : Nat) (be bn bc le nu : Int) : Prop := nu = nF R P ∧ ((be = -1 ∧ ∀ q, q < P → R q = -1) ∨ ∃ k code : Nat, 1 ≤ k ∧ k ≤ 3 ∧ (k : Int) ≤ nn ∧ code < rpz z k ∧ bn = k ∧ bc = code ∧ le = (R (roff z k + code)).toInt ∧ be = nF R (roff z k + code) ∧ mnP R P (roff z k + code))
theorem MIq_0 {R : Nat → Int32} {z P : Nat} {nn be bn bc le nu : Int} (hP : P = 0) (hb : be = -1) (hn : nu = 0) : MIq R z nn P be bn bc le nu := by
  subst hP
  exact ⟨by rw [hn]; rfl, Or.inl ⟨hb, fun q hq => absurd hq (Nat.not_lt_zero q)⟩⟩
theorem MIq_n {R : Nat → Int32} {z P P' : Nat} {nn be bn bc le nu : Int} (h : MIq R z nn P be bn bc le nu) (hR : R P = -1) (hP : P' = P + 1) : MIq R z nn P' be bn bc le nu := by
  subst hP
  refine ⟨by rw [nF_n hR]; exact h.1, ?_⟩
  rcases h.2 with ⟨a, b⟩ | ⟨k, code, a1, a2, a3, a4, a5, a6, a7, a8, a9⟩
  · refine Or.inl ⟨a, fun q hq => ?_⟩
    by_cases e : q = P
    · rw [e]; exact hR
    · exact b q (by omega)
  · exact Or.inr ⟨k, code, a1, a2, a3, a4, a5, a6, a7, a8, mnP_keep a9 (Or.inl hR)⟩
theorem MIq_k {R : Nat → Int32} {z P P' : Nat} {nn be bn bc le nu nu' x : Int} (h : MIq R z nn P be bn bc le nu) (hR : (R P).toInt = x ∧ ¬ R P = -1) (hP : P' = P + 1) (hb : ¬ be = -1) (hx : le ≤ x) (hn : nu' = nu + 1) : MIq R z nn P' be bn bc le nu' := by
  subst hP
  refine ⟨by rw [nF_y hR.2, hn, h.1]; rfl, ?_⟩
  rcases h.2 with ⟨a, b⟩ | ⟨k, code, a1, a2, a3, a4, a5, a6, a7, a8, a9⟩
  · exact absurd a hb
  · exact Or.inr ⟨k, code, a1, a2, a3, a4, a5, a6, a7, a8, mnP_keep a9 (Or.inr (by rw [← a7, hR.1]; exact hx))⟩
theorem MIq_w {R : Nat → Int32} {z P P' k code : Nat} {nn be bn bc le nu be' bn' bc' le' nu' : Int} (h : MIq R z nn P be bn bc le nu) (hp : P = roff z k + code) (hR : (R P).toInt = le' ∧ ¬ R P = -1) (hP : P' = P + 1) (k1 : 1 ≤ k) (k2 : k ≤ 3) (k4 : (k : Int) ≤ nn) (hc : code < rpz z k) (h1 : bn' = k) (h2 : bc' = code) (h3 : be' = nu) (hx : be = -1 ∨ le' < le) (hn : nu' = nu + 1) : MIq R z nn P' be' bn' bc' le' nu' := by
  subst hP
  refine ⟨by rw [nF_y hR.2, hn, h.1]; rfl, Or.inr ⟨k, code, k1, k2, k4, hc, h1, h2, by rw [← hp]; exact hR.1.symm, by rw [← hp, h3]; exact h.1, ?_⟩⟩
  rw [← hp]
  refine mnP_new hR.2 ?_
  rcases h.2 with ⟨a, b⟩ | ⟨k', code', a1, a2, a3, a4, a5, a6, a7, a8, a9⟩
  · exact Or.inl b
  · rcases hx with hx | hx
    · omega
    · exact Or.inr ⟨_, a9, by rw [← a7, hR.1]; exact hx⟩
theorem MIq_e {R : Nat → Int32} {z P P' : Nat} {nn be bn bc le nu : Int} (h : MIq R z nn P be bn bc le nu) (hP : P = P') : MIq R z nn P' be bn bc le nu := by rw [← hP]; exact h
theorem rpz_0 {k : Nat} (h1 : 1 ≤ k) : rpz 0 k = 0 := by
  match k, h1 with
  | 1, _ => rfl
  | 2, _ => rfl
  | k + 3, _ => rfl
theorem bd_ge (hU : okU U) {T : Int32 → Int32 → Int32} {z n k code : Nat} {f f' : Nat → Int32} {nn m x : Int} {r l : Int32} {R1 R2 R3 : Nat → Int32} (h : rGE U T z n f nn R1 R2 R3) (em : m.toNat = n) (hn : n ≤ 300) (hf : prg n 0 65535 f) (hb : F_bd U (digs z k code) r l f' m f) (hr : ¬ r.toInt = 0) (k1 : 1 ≤ k) (k2 : k ≤ 3) (k4 : (k : Int) ≤ nn) (hc : code < rpz z k) (hx : x = cT T l.toInt f') : (R1 (roff z k + code)).toInt = x ∧ ¬ R1 (roff z k + code) = -1 := by
  unfold F_bd at hb
  rw [em] at hb
  rcases hb with ⟨b1, c', b2, b3⟩ | ⟨b1, _⟩
  · obtain ⟨g1, g2, _⟩ := ge_y hU h hn hf k1 k2 k4 hc b3
    exact ⟨by rw [g1, hx, b2], g2⟩
  · exact absurd (by rw [b1]; rfl) hr
theorem bd_gn {T : Int32 → Int32 → Int32} {z n k code : Nat} {f f' : Nat → Int32} {nn m : Int} {r l : Int32} {R1 R2 R3 : Nat → Int32} (h : rGE U T z n f nn R1 R2 R3) (em : m.toNat = n) (hb : F_bd U (digs z k code) r l f' m f) (hr : r.toInt = 0) (k1 : 1 ≤ k) (k2 : k ≤ 3) (hc : code < rpz z k) : R1 (roff z k + code) = -1 := by
  unfold F_bd at hb
  rw [em] at hb
  rcases hb with ⟨b1, _⟩ | ⟨_, b2⟩
  · rw [b1] at hr; exact absurd hr (by decide)
  · exact ge_n h k1 k2 hc b2
/-- behind the last row of at most nn harms nothing stands -/
theorem ge_end {T : Int32 → Int32 → Int32} {z n q P N : Nat} {f : Nat → Int32} {nn : Int} {R1 R2 R3 : Nat → Int32} (h : rGE U T z n f nn R1 R2 R3) (hN : (N : Int) = nn) (hN3 : N ≤ 3) (hP : P = roff z (N + 1)) (h1 : P ≤ q) (h2 : q < 258) : R1 q = -1 := by
  refine Classical.byContradiction (fun w => ?_)
  obtain ⟨k, code, k1, k2, k4, hc, e, _⟩ := ge_code h h2 w
  have s := roff_s (z := z) k1 k2
  have m := roff_m (z := z) (k := k + 1) (k' := N + 1) (by omega) (by omega) (by omega)
  omega
theorem mn_all {T : Int32 → Int32 → Int32} {z n p P N : Nat} {f : Nat → Int32} {nn : Int} {R1 R2 R3 : Nat → Int32} (h : rGE U T z n f nn R1 R2 R3) (hz : z ≤ 6) (hN : (N : Int) = nn) (hN3 : N ≤ 3) (hP : P = roff z (N + 1)) (hm : mnP R1 P p) : mnP R1 258 p := by
  obtain ⟨a1, a2, a3, a4⟩ := hm
  have m := roff_m (z := z) (k := N + 1) (k' := 4) (by omega) (by omega) (by omega)
  have o := roff_4 hz
  refine ⟨by omega, a2, fun q hq hr => ?_, a4⟩
  by_cases w : q < P
  · exact a3 q w hr
  · exact absurd (ge_end h hN hN3 hP (by omega) hq) hr
theorem mi_none {T : Int32 → Int32 → Int32} {z n P N : Nat} {f : Nat → Int32} {nn gain be bn bc le nu : Int} {R1 R2 R3 : Nat → Int32} (h : rGE U T z n f nn R1 R2 R3) (hm : MIq R1 z nn P be bn bc le nu) (hN : (N : Int) = nn) (hN3 : N ≤ 3) (hP : P = roff z (N + 1)) (hb : be = -1) : ∀ c fm v, ¬ mdP U T z n f nn gain R1 c fm v := by
  rintro c fm v ⟨_, k, code, _, _, _, _, w, _⟩
  rcases hm.2 with ⟨_, a⟩ | ⟨k', code', _, _, _, _, _, _, _, a8, _⟩
  · by_cases q : roff z k + code < P
    · exact w.2.1 (a _ q)
    · exact w.2.1 (ge_end h hN hN3 hP (by omega) w.1)
  · omega
theorem mi_less {T : Int32 → Int32 → Int32} {z n P N : Nat} {f : Nat → Int32} {nn gain be bn bc le nu x : Int} {R1 R2 R3 : Nat → Int32} (h : rGE U T z n f nn R1 R2 R3) (hm : MIq R1 z nn P be bn bc le nu) (hz : z ≤ 6) (hN : (N : Int) = nn) (hN3 : N ≤ 3) (hP : P = roff z (N + 1)) (hb : ¬ be = -1) (hx : x = cT T n f) (hl : x - le < gain) : ∀ c fm v, ¬ mdP U T z n f nn gain R1 c fm v := by
  rcases hm.2 with ⟨a, _⟩ | ⟨k, code, a1, a2, a3, a4, a5, a6, a7, a8, a9⟩
  · exact absurd a hb
  · exact md_less (mn_all h hz hN hN3 hP a9) (by rw [← a7, ← hx]; exact hl)
theorem mi_done (hU : okU U) {T : Int32 → Int32 → Int32} {z n P N : Nat} {f f' : Nat → Int32} {nn gain be nu x le m : Int} {bn bc r l : Int32} {R1 R2 R3 : Nat → Int32} (h : rGE U T z n f nn R1 R2 R3) (hm : MIq R1 z nn P be bn.toInt bc.toInt le nu) (hz : z ≤ 6) (hN : (N : Int) = nn) (hN3 : N ≤ 3) (hP : P = roff z (N + 1)) (hb : ¬ be = -1) (em : m.toNat = n) (hn : n ≤ 300) (hf : prg n 0 65535 f) (hx : x = cT T n f) (hl : gain ≤ x - le) (hg : 1 ≤ nn ∧ nn ≤ 3 ∧ 1 ≤ gain ∧ gain ≤ 100000) (hbd : F_bd U (digs z bn.toNatClampNeg bc.toNatClampNeg) r l f' m f) : ∃ c : Nat, l.toInt = c ∧ mdP U T z n f nn gain R1 c f' be := by
  rcases hm.2 with ⟨a, _⟩ | ⟨k, code, a1, a2, a3, a4, a5, a6, a7, a8, a9⟩
  · exact absurd a hb
  · have w := mn_all h hz hN hN3 hP a9
    rw [ix_eq a5, ix_eq a6] at hbd
    unfold F_bd at hbd
    rw [em] at hbd
    rcases hbd with ⟨b1, c', b2, b3⟩ | ⟨_, b2⟩
    · exact ⟨c', b2, hg, k, code, a1, a2, a3, a4, w, by rw [← a7, ← hx]; exact hl, b3, a8⟩
    · obtain ⟨k', code', k1', k2', k4', hc', e', c', f2, hM⟩ := ge_code h w.1 w.2.1
      obtain ⟨q1, q2⟩ := off_inj a1 a2 k1' k2' a4 hc' e'
      subst q1
      subst q2
      exact absurd hM (b2 _ _)
theorem off_258 {z k : Nat} (hz : z ≤ 6) (h1 : 1 ≤ k) (h3 : k ≤ 3) : roff z k + rpz z k ≤ 258 := by
  have s := roff_s (z := z) h1 h3
  have m := roff_m (z := z) (k := k + 1) (k' := 4) (by omega) (by omega) (by omega)
  have o := roff_4 hz
  omega
theorem cT_s0 {T : Int32 → Int32 → Int32} {f : Nat → Int32} {r s x : Int} (h : r = cT T x f) (e : x = s) (h0 : 0 ≤ s) : r = cT T ((s.toNat : Nat) : Int) f := by
  have e2 : ((s.toNat : Nat) : Int) = s := by omega
  rw [e2, ← e]; exact h
end MND

set_option maxHeartbeats 40000000 in
set_option maxRecDepth 100000 in
theorem f_X12_mend (l : Launch) (dC : Nat → ClassId) (dI : Nat → Nat → Nat) (cI cS : ClassId) (sz : Nat) (oM : Nat) (mT : Nat) (mS : Nat) (mX : Nat) (mL : Nat) (mB : Nat) (mD : Nat) (m1 : Nat) (m2 : Nat) (mR : Nat) (x1 : Nat) (x2 : Nat) (x3 : Nat) (mH : Nat) (mY : Nat) (mE : Nat) (mW : Nat) (mO : Nat) (y1 : Nat) (y2 : Nat) (y3 : Nat) (y4 : Nat) (mZ : Nat) (zt : Int32) (zp : Int32) (zf : Int32) (zh : Int32) (zr : Int32) (zc : Int32) (zy : Int32) (za : Int32) (zb : Int32) (zs : Int32) (zq : Int32) (zw : Int32) (ze : Int32) (zn : Int32) (zm : Int32) (zl : Int32) (zk : Int32) (zd : Int32) (eY : Nat → Int32) (eB : Nat → Int32) (eL : Nat → Int32) (eE : Nat → Int32) (eW : Nat → Int32) (eO : Nat → Int32) (eS : Nat → Int32) (eX : Nat → Int32) (e1 : Nat → Int32) (e2 : Nat → Int32) (ec1 : Nat → Int32) (ec2 : Nat → Int32) (ec3 : Nat → Int32) (n : Int32) (gi : Int32) (g_zt : 0 ≤ zt.toInt ∧ zt.toInt ≤ 900) (g_zp : 0 ≤ zp.toInt ∧ zp.toInt ≤ 20) (g_zf : 0 ≤ zf.toInt ∧ zf.toInt ≤ 19) (g_zh : 0 ≤ zh.toInt ∧ zh.toInt ≤ 6) (g_zr : 0 ≤ zr.toInt ∧ zr.toInt ≤ 258) (g_zc : 0 ≤ zc.toInt ∧ zc.toInt ≤ 300) (g_zy : 0 ≤ zy.toInt ∧ zy.toInt ≤ 65536) (g_za : 0 ≤ za.toInt ∧ za.toInt ≤ 5) (g_zb : 0 ≤ zb.toInt ∧ zb.toInt ≤ 5) (g_zs : 0 ≤ zs.toInt ∧ zs.toInt ≤ 2000000) (g_zq : -1 ≤ zq.toInt ∧ zq.toInt ≤ 2000000) (g_zn : 0 ≤ zn.toInt ∧ zn.toInt ≤ 2600) (g_zm : 0 ≤ zm.toInt ∧ zm.toInt ≤ 2600) (g_zk : 0 ≤ zk.toInt ∧ zk.toInt ≤ 300) (g_eY : rg 0 255 eY) (g_eB : rg (-1) 255 eB) (g_eL : rg (-1) 65535 eL) (g_eE : rg 0 65535 eE) (g_eW : rg 0 65535 eW) (g_eO : rg 0 65535 eO) (g_eS : rg 0 300 eS) (g_eX : rg 0 65535 eX) (g_e1 : rg 0 5 e1) (g_e2 : rg 0 5 e2) (hxl : ∀ j : Nat, (j : Int) < (eS 0).toInt → isLz (eX j)) (hlb : LBr eL eB) (hlz : LZ eL) (hV : rg 0 200 ec3) (hzs : zs.toInt ≤ 1000000) : kMi l yX12_mend wsX12_mend ({ frames := 6, cells := 0, slots := 0, locals := 145 } : Room) [.ref oM, .int n, .int gi] sz (dC, dI) vwCl [(cI, .int), (cS, .short)] [(oM, .inr (12, [.ref mT, .int zt, .ref mS, .ref mX, .int zp, .int zf, .ref mL, .ref mB, .ref mD, .ref m1, .ref m2, .int zh, .ref mR, .int zr, .ref x1, .ref x2, .ref x3, .int zc, .ref mH, .int zy, .int za, .int zb, .int zs, .int zq, .int zw, .int ze, .ref mY, .int zn, .ref mE, .int zm, .int zl, .ref mW, .int zk, .ref mO, .int zd, .ref y1, .ref y2, .ref y3, .ref y4, .ref mZ])), (mY, .inl (cI, 2600, .inl eY)), (mB, .inl (cS, 131072, .inl eB)), (mL, .inl (cI, 512, .inl eL)), (mE, .inl (cI, 2600, .inl eE)), (mW, .inl (cI, 300, .inl eW)), (mO, .inl (cI, 300, .inl eO)), (mS, .inl (cI, 21, .inl eS)), (mX, .inl (cI, 6300, .inl eX)), (m1, .inl (cI, 6, .inl e1)), (m2, .inl (cI, 6, .inl e2)), (x1, .inl (cI, 300, .inl ec1)), (x2, .inl (cI, 300, .inl ec2)), (x3, .inl (cI, 300, .inl ec3))] (fun _ => True) 0 0 (fun (A : Nat → Prop) (r : Int32) (hh9 : Heap) => ∃ (ze' : Int32) (zw' : Int32) (zn' : Int32) (eY' : Nat → Int32) (zd' : Int32) (zm' : Int32) (zl' : Int32) (eE' : Nat → Int32) (zk' : Int32) (eW' : Nat → Int32) (eO' : Nat → Int32) (zp' : Int32) (zf' : Int32) (zs' : Int32) (eS' : Nat → Int32) (eX' : Nat → Int32), kPD (dC, dI) vwCl A [(oM, .inr (12, [.ref mT, .int zt, .ref mS, .ref mX, .int zp', .int zf', .ref mL, .ref mB, .ref mD, .ref m1, .ref m2, .int zh, .ref mR, .int zr, .ref x1, .ref x2, .ref x3, .int zc, .ref mH, .int zy, .int za, .int zb, .int zs', .int zq, .int zw', .int ze', .ref mY, .int zn', .ref mE, .int zm', .int zl', .ref mW, .int zk', .ref mO, .int zd', .ref y1, .ref y2, .ref y3, .ref y4, .ref mZ])), (mY, .inl (cI, 2600, .inl eY')), (mB, .inl (cS, 131072, .inl eB)), (mL, .inl (cI, 512, .inl eL)), (mE, .inl (cI, 2600, .inl eE')), (mW, .inl (cI, 300, .inl eW')), (mO, .inl (cI, 300, .inl eO')), (mS, .inl (cI, 21, .inl eS')), (mX, .inl (cI, 6300, .inl eX')), (m1, .inl (cI, 6, .inl e1)), (m2, .inl (cI, 6, .inl e2)), (x1, .inl (cI, 300, .inl ec1)), (x2, .inl (cI, 300, .inl ec2)), (x3, .inl (cI, 300, .inl ec3))] hh9 ∧ (0 ≤ zn'.toInt ∧ zn'.toInt ≤ 2600) ∧ (rg 0 255 eY') ∧ (0 ≤ zm'.toInt ∧ zm'.toInt ≤ 2600) ∧ (rg 0 65535 eE') ∧ (0 ≤ zk'.toInt ∧ zk'.toInt ≤ 300) ∧ (rg 0 65535 eW') ∧ (rg 0 65535 eO') ∧ (0 ≤ zp'.toInt ∧ zp'.toInt ≤ 20) ∧ (0 ≤ zf'.toInt ∧ zf'.toInt ≤ 19) ∧ (0 ≤ zs'.toInt ∧ zs'.toInt ≤ 2000000) ∧ (rg 0 300 eS') ∧ (rg 0 65535 eX') ∧ (zs'.toInt ≤ zs.toInt + 1 ∧ zs.toInt ≤ zs'.toInt) ∧ (F_st zs zs' eX eX' eS eS') ∧ (∀ R1 R2 R3 : Nat → Int32, (1 ≤ n.toInt ∧ n.toInt ≤ 3 ∧ 1 ≤ gi.toInt ∧ gi.toInt ≤ 100000 → rGE (UR e1 e2 eL eB) (tcR zc.toInt ec1 ec2 ec3) zh.toNatClampNeg (eS 0).toInt.toNat eX n.toInt R1 R2 R3) → OR (-1) r zs zs' zp zp' zf zf' eS eS' eX eX' (mdP (UR e1 e2 eL eB) (tcR zc.toInt ec1 ec2 ec3) zh.toNatClampNeg (eS 0).toInt.toNat eX n.toInt gi.toInt R1))) := by
  refine kMi_of (cc := cX12_mend) (maxL := 12) (ret := (some .int)) (lv := [(0, .ref oM), (1, .int n), (2, .int gi)]) (by decide +kernel) rfl rfl (Nat.le_of_ble_eq_true rfl) ?_
  intro p e s m below meth c A QQ ls hx hb hr hts hml hown hlocks hA hQQ hK hX hP hD hS hl
  have hown : s.vm.findClass RX12 = some m.cls := hown
  have hcf := k_cf hx hb hml hown hts
  have in_X12 : ∀ w ∈ wsX120, w ∈ wsX12_mend := fun _ h => List.mem_cons_of_mem _ (List.mem_append_right _ (h))
  replace g_zt := hid g_zt
  replace g_zr := hid g_zr
  replace g_zy := hid g_zy
  replace g_za := hid g_za
  replace g_zb := hid g_zb
  replace g_zq := hid g_zq
  replace g_zn := hid g_zn
  replace g_zm := hid g_zm
  replace g_zk := hid g_zk
  have hU : okU (UR e1 e2 eL eB) := okU_R g_eB g_eL
  have hlb9 := hlb
  have z0 : (0 : Int32).toInt = 0 := rfl
  have z1 : (1 : Int32).toInt = 1 := rfl
  have zm1 : (-1 : Int32).toInt = -1 := rfl
  have cz0 := v_clamp (x := zh) (by omega)
  have gS0 := g_eS 0
  have hs3 : (eS 0).toInt.toNat ≤ 300 := by omega
  have hx9 : prg (((eS 0).toInt.toNat : Nat) : Int) 0 65535 eX := rg_prg g_eX
  refine lv_aload_n hx hb dX12_mend_0 rfl (lv_at hl 0 rfl) ?_
  refine lv_iconst (v := 0) hx hb dX12_mend_1 (by decide) ?_
  refine va_put (D := (dC, dI)) (ci := 12) (v := .int 0) (ty := .int) (C := RX12) (T := TX12) (N := 40) hx hb hts in_X12 tyX12 tyX12_ok nmX12 hown hK hP hD hS 0 rfl rfl 25 (by decide) (hts (.fieldLink RX12 85 "TextMenderModel" "thrown" "I") (List.mem_of_getElem? (i := 1) rfl)) (fun _ h9 => h9) rfl (by decide +kernel) rfl rfl (Nat.le_of_ble_eq_true rfl) dX12_mend_2 (kW (wn := [(oM, .inr (12, [.ref mT, .int zt, .ref mS, .ref mX, .int zp, .int zf, .ref mL, .ref mB, .ref mD, .ref m1, .ref m2, .int zh, .ref mR, .int zr, .ref x1, .ref x2, .ref x3, .int zc, .ref mH, .int zy, .int za, .int zb, .int zs, .int zq, .int zw, .int 0, .ref mY, .int zn, .ref mE, .int zm, .int zl, .ref mW, .int zk, .ref mO, .int zd, .ref y1, .ref y2, .ref y3, .ref y4, .ref mZ])), (mY, .inl (cI, 2600, .inl eY)), (mB, .inl (cS, 131072, .inl eB)), (mL, .inl (cI, 512, .inl eL)), (mE, .inl (cI, 2600, .inl eE)), (mW, .inl (cI, 300, .inl eW)), (mO, .inl (cI, 300, .inl eO)), (mS, .inl (cI, 21, .inl eS)), (mX, .inl (cI, 6300, .inl eX)), (m1, .inl (cI, 6, .inl e1)), (m2, .inl (cI, 6, .inl e2)), (x1, .inl (cI, 300, .inl ec1)), (x2, .inl (cI, 300, .inl ec2)), (x3, .inl (cI, 300, .inl ec3))]) rfl (fun H locs hPn hDn hSn => ?_))
  clear hP hD hS
  have hP := hPn
  have hD := hDn
  have hS := hSn
  clear hPn hDn hSn
  refine lv_aload_n hx hb dX12_mend_5 rfl (lv_at hl 0 rfl) ?_
  refine lv_iconst (v := (-1)) hx hb dX12_mend_6 (by decide) ?_
  refine va_put (D := (dC, dI)) (ci := 12) (v := .int (-1)) (ty := .int) (C := RX12) (T := TX12) (N := 40) hx hb hts in_X12 tyX12 tyX12_ok nmX12 hown hK hP hD hS 0 rfl rfl 24 (by decide) (hts (.fieldLink RX12 55 "TextMenderModel" "where" "I") (List.mem_of_getElem? (i := 2) rfl)) (fun _ h9 => h9) rfl (by decide +kernel) rfl rfl (Nat.le_of_ble_eq_true rfl) dX12_mend_7 (kW (wn := [(oM, .inr (12, [.ref mT, .int zt, .ref mS, .ref mX, .int zp, .int zf, .ref mL, .ref mB, .ref mD, .ref m1, .ref m2, .int zh, .ref mR, .int zr, .ref x1, .ref x2, .ref x3, .int zc, .ref mH, .int zy, .int za, .int zb, .int zs, .int zq, .int (-1), .int 0, .ref mY, .int zn, .ref mE, .int zm, .int zl, .ref mW, .int zk, .ref mO, .int zd, .ref y1, .ref y2, .ref y3, .ref y4, .ref mZ])), (mY, .inl (cI, 2600, .inl eY)), (mB, .inl (cS, 131072, .inl eB)), (mL, .inl (cI, 512, .inl eL)), (mE, .inl (cI, 2600, .inl eE)), (mW, .inl (cI, 300, .inl eW)), (mO, .inl (cI, 300, .inl eO)), (mS, .inl (cI, 21, .inl eS)), (mX, .inl (cI, 6300, .inl eX)), (m1, .inl (cI, 6, .inl e1)), (m2, .inl (cI, 6, .inl e2)), (x1, .inl (cI, 300, .inl ec1)), (x2, .inl (cI, 300, .inl ec2)), (x3, .inl (cI, 300, .inl ec3))]) rfl (fun H locs hPn hDn hSn => ?_))
  clear hP hD hS
  have hP := hPn
  have hD := hDn
  have hS := hSn
  clear hPn hDn hSn
  refine lv_iload_n hx hb dX12_mend_10 rfl (lv_at hl 1 rfl) ?_
  refine lv_iconst (v := 1) hx hb dX12_mend_11 (by decide) ?_
  refine lv_icmp_lt (tgt := 31) hx hb dX12_mend_12 (by decide) (fun c_1 => ?_) (fun c_1 => ?_)
  · have tc_1 : n.toInt < 1 := v_lt c_1
    refine lv_iconst (v := (-1)) hx hb dX12_mend_31 (by decide) ?_
    exact kl_i (v := (-1)) hQQ hx hb hr hlocks hS dX12_mend_32 ⟨0, (-1), zn, eY, zd, zm, zl, eE, zk, eW, eO, zp, zf, zs, eS, eX, ⟨hP, hD⟩, g_zn, g_eY, g_zm, g_eE, g_zk, g_eW, g_eO, g_zp, g_zf, g_zs, g_eS, g_eX, by show zs.toInt ≤ zs.toInt + 1 ∧ zs.toInt ≤ zs.toInt; omega, by first | exact Or.inl (by omega) | exact Or.inr ⟨rfl, rfl, rfl⟩, fun R1 R2 R3 hR => OR_n rfl (fun c fm v h => absurd h.1 (by omega))⟩
  · have tc_1 : 1 ≤ n.toInt := v_nlt c_1
    refine lv_iload_n hx hb dX12_mend_15 rfl (lv_at hl 1 rfl) ?_
    refine lv_iconst (v := 3) hx hb dX12_mend_16 (by decide) ?_
    refine lv_icmp_gt (tgt := 31) hx hb dX12_mend_17 (by decide) (fun c_2 => ?_) (fun c_2 => ?_)
    · have tc_2 : 3 < n.toInt := v_lt c_2
      refine lv_iconst (v := (-1)) hx hb dX12_mend_31 (by decide) ?_
      exact kl_i (v := (-1)) hQQ hx hb hr hlocks hS dX12_mend_32 ⟨0, (-1), zn, eY, zd, zm, zl, eE, zk, eW, eO, zp, zf, zs, eS, eX, ⟨hP, hD⟩, g_zn, g_eY, g_zm, g_eE, g_zk, g_eW, g_eO, g_zp, g_zf, g_zs, g_eS, g_eX, by show zs.toInt ≤ zs.toInt + 1 ∧ zs.toInt ≤ zs.toInt; omega, by first | exact Or.inl (by omega) | exact Or.inr ⟨rfl, rfl, rfl⟩, fun R1 R2 R3 hR => OR_n rfl (fun c fm v h => absurd h.1 (by omega))⟩
    · have tc_2 : n.toInt ≤ 3 := v_nlt c_2
      refine lv_iload_n hx hb dX12_mend_20 rfl (lv_at hl 2 rfl) ?_
      refine lv_iconst (v := 1) hx hb dX12_mend_21 (by decide) ?_
      refine lv_icmp_lt (tgt := 31) hx hb dX12_mend_22 (by decide) (fun c_3 => ?_) (fun c_3 => ?_)
      · have tc_3 : gi.toInt < 1 := v_lt c_3
        refine lv_iconst (v := (-1)) hx hb dX12_mend_31 (by decide) ?_
        exact kl_i (v := (-1)) hQQ hx hb hr hlocks hS dX12_mend_32 ⟨0, (-1), zn, eY, zd, zm, zl, eE, zk, eW, eO, zp, zf, zs, eS, eX, ⟨hP, hD⟩, g_zn, g_eY, g_zm, g_eE, g_zk, g_eW, g_eO, g_zp, g_zf, g_zs, g_eS, g_eX, by show zs.toInt ≤ zs.toInt + 1 ∧ zs.toInt ≤ zs.toInt; omega, by first | exact Or.inl (by omega) | exact Or.inr ⟨rfl, rfl, rfl⟩, fun R1 R2 R3 hR => OR_n rfl (fun c fm v h => absurd h.1 (by omega))⟩
      · have tc_3 : 1 ≤ gi.toInt := v_nlt c_3
        refine lv_iload_n hx hb dX12_mend_25 rfl (lv_at hl 2 rfl) ?_
        refine lv_ldc hx hb hown (hts (.constant RX12 198 (100000)) (List.mem_of_getElem? (i := 3) rfl)) dX12_mend_26 ?_
        refine lv_icmp_le (tgt := 33) hx hb dX12_mend_28 (by decide) (fun c_4 => ?_) (fun c_4 => ?_)
        · have tc_4 : gi.toInt ≤ 100000 := v_le c_4
          refine lv_iconst (v := (-1)) hx hb dX12_mend_33 (by decide) ?_
          refine lv_istore_n (lv' := [(3, .int (-1)), (0, .ref oM), (1, .int n), (2, .int gi)]) hx hb dX12_mend_34 rfl hl (by decide) rfl (fun ls hl => ?_)
          refine lv_iconst (v := 0) hx hb dX12_mend_35 (by decide) ?_
          refine lv_istore (lv' := [(4, .int 0), (3, .int (-1)), (0, .ref oM), (1, .int n), (2, .int gi)]) hx hb dX12_mend_36 hl (by decide) rfl (fun ls hl => ?_)
          refine lv_iconst (v := 0) hx hb dX12_mend_38 (by decide) ?_
          refine lv_istore (lv' := [(5, .int 0), (4, .int 0), (3, .int (-1)), (0, .ref oM), (1, .int n), (2, .int gi)]) hx hb dX12_mend_39 hl (by decide) rfl (fun ls hl => ?_)
          refine lv_iconst (v := 0) hx hb dX12_mend_41 (by decide) ?_
          refine lv_istore (lv' := [(6, .int 0), (5, .int 0), (4, .int 0), (3, .int (-1)), (0, .ref oM), (1, .int n), (2, .int gi)]) hx hb dX12_mend_42 hl (by decide) rfl (fun ls hl => ?_)
          refine lv_iconst (v := 0) hx hb dX12_mend_44 (by decide) ?_
          refine lv_istore (lv' := [(7, .int 0), (6, .int 0), (5, .int 0), (4, .int 0), (3, .int (-1)), (0, .ref oM), (1, .int n), (2, .int gi)]) hx hb dX12_mend_45 hl (by decide) rfl (fun ls hl => ?_)
          refine lv_iconst (v := 1) hx hb dX12_mend_47 (by decide) ?_
          refine lv_istore (lv' := [(8, .int 1), (7, .int 0), (6, .int 0), (5, .int 0), (4, .int 0), (3, .int (-1)), (0, .ref oM), (1, .int n), (2, .int gi)]) hx hb dX12_mend_48 hl (by decide) rfl (fun ls hl => ?_)
          have LOOP_50 : ∀ (k_50 : Nat) (be : Int32) (bn : Int32) (bc : Int32) (le_ : Int32) (nu_ : Int32) (my : Int32) (zna : Int32) (zda : Int32) (zma : Int32) (zla : Int32) (zka : Int32) (eYa : Nat → Int32) (eEa : Nat → Int32) (eWa : Nat → Int32) (eOa : Nat → Int32) (H : Heap) (locs : List Loc) (ls : Array Slot), MSd (4 - my.toInt : Int) k_50 → (-1 ≤ be.toInt ∧ be.toInt ≤ 258) → (0 ≤ bn.toInt ∧ bn.toInt ≤ 3) → (0 ≤ bc.toInt ∧ bc.toInt ≤ 216) → (0 ≤ le_.toInt ∧ le_.toInt ≤ 61000) → (0 ≤ nu_.toInt ∧ nu_.toInt ≤ 258) → (1 ≤ my.toInt ∧ my.toInt ≤ 4) → (0 ≤ zna.toInt ∧ zna.toInt ≤ 2600) → (0 ≤ zma.toInt ∧ zma.toInt ≤ 2600) → (0 ≤ zka.toInt ∧ zka.toInt ≤ 300) → (rg 0 255 eYa) → (rg 0 65535 eEa) → (rg 0 65535 eWa) → (rg 0 65535 eOa) → (be.toInt = -1 ∨ 1 ≤ zh.toInt) → (my.toInt ≤ n.toInt + 1) → (nu_.toInt ≤ roff zh.toNatClampNeg my.toNatClampNeg) → (∀ R1 R2 R3 : Nat → Int32, rGE (UR e1 e2 eL eB) (tcR zc.toInt ec1 ec2 ec3) zh.toNatClampNeg (eS 0).toInt.toNat eX n.toInt R1 R2 R3 → MIq R1 zh.toNatClampNeg n.toInt (roff zh.toNatClampNeg my.toNatClampNeg) be.toInt bn.toInt bc.toInt le_.toInt nu_.toInt) → va_P (dC, dI) vwCl [(oM, .inr (12, [.ref mT, .int zt, .ref mS, .ref mX, .int zp, .int zf, .ref mL, .ref mB, .ref mD, .ref m1, .ref m2, .int zh, .ref mR, .int zr, .ref x1, .ref x2, .ref x3, .int zc, .ref mH, .int zy, .int za, .int zb, .int zs, .int zq, .int (-1), .int 0, .ref mY, .int zna, .ref mE, .int zma, .int zla, .ref mW, .int zka, .ref mO, .int zda, .ref y1, .ref y2, .ref y3, .ref y4, .ref mZ])), (mY, .inl (cI, 2600, .inl eYa)), (mB, .inl (cS, 131072, .inl eB)), (mL, .inl (cI, 512, .inl eL)), (mE, .inl (cI, 2600, .inl eEa)), (mW, .inl (cI, 300, .inl eWa)), (mO, .inl (cI, 300, .inl eOa)), (mS, .inl (cI, 21, .inl eS)), (mX, .inl (cI, 6300, .inl eX)), (m1, .inl (cI, 6, .inl e1)), (m2, .inl (cI, 6, .inl e2)), (x1, .inl (cI, 300, .inl ec1)), (x2, .inl (cI, 300, .inl ec2)), (x3, .inl (cI, 300, .inl ec3))] H → va_D A [(oM, .inr (12, [.ref mT, .int zt, .ref mS, .ref mX, .int zp, .int zf, .ref mL, .ref mB, .ref mD, .ref m1, .ref m2, .int zh, .ref mR, .int zr, .ref x1, .ref x2, .ref x3, .int zc, .ref mH, .int zy, .int za, .int zb, .int zs, .int zq, .int (-1), .int 0, .ref mY, .int zna, .ref mE, .int zma, .int zla, .ref mW, .int zka, .ref mO, .int zda, .ref y1, .ref y2, .ref y3, .ref y4, .ref mZ])), (mY, .inl (cI, 2600, .inl eYa)), (mB, .inl (cS, 131072, .inl eB)), (mL, .inl (cI, 512, .inl eL)), (mE, .inl (cI, 2600, .inl eEa)), (mW, .inl (cI, 300, .inl eWa)), (mO, .inl (cI, 300, .inl eOa)), (mS, .inl (cI, 21, .inl eS)), (mX, .inl (cI, 6300, .inl eX)), (m1, .inl (cI, 6, .inl e1)), (m2, .inl (cI, 6, .inl e2)), (x1, .inl (cI, 300, .inl ec1)), (x2, .inl (cI, 300, .inl ec2)), (x3, .inl (cI, 300, .inl ec3))] → va_S A s.heap H locs → lv_has ls 12 [(8, .int my), (7, .int nu_), (6, .int le_), (5, .int bc), (4, .int bn), (3, .int be), (0, .ref oM), (1, .int n), (2, .int gi)] → W p l e (headSpec wsX12_mend ({ frames := 6, cells := 0, slots := 0, locals := 145 } : Room)).room s m ([.ref oM, .int n, .int gi] : List Value).toArray below meth c H locs 0 0 (MQ below QQ ([.ref oM, .int n, .int gi] : List Value).toArray s 0 0 A) (F0 m 50 ls []) := by
            clear hP hD hS hl
            intro k_50
            induction k_50 with
            | zero =>
              intro be bn bc le_ nu_ my zna zda zma zla zka eYa eEa eWa eOa H locs ls hm_50 g_be g_bn g_bc g_le_ g_nu_ g_my g_zna g_zma g_zka g_eYa g_eEa g_eWa g_eOa hbz hmn hnu hmo hP hD hS hl
              exact ms_0 hm_50
            | succ k_50 ih_50 =>
              intro be bn bc le_ nu_ my zna zda zma zla zka eYa eEa eWa eOa H locs ls hm_50 g_be g_bn g_bc g_le_ g_nu_ g_my g_zna g_zma g_zka g_eYa g_eEa g_eWa g_eOa hbz hmn hnu hmo hP hD hS hl
              refine lv_iload hx hb dX12_mend_50 (lv_at hl 0 rfl) ?_
              refine lv_iload_n hx hb dX12_mend_52 rfl (lv_at hl 7 rfl) ?_
              refine lv_icmp_gt (tgt := 159) hx hb dX12_mend_53 (by decide) (fun c_5 => ?_) (fun c_5 => ?_)
              · have tc_5 : n.toInt < my.toInt := v_lt c_5
                have cn9 := v_clamp (x := n) (by omega)
                have hPe : roff zh.toNatClampNeg my.toNatClampNeg = roff zh.toNatClampNeg (n.toNatClampNeg + 1) := by rw [ix_eq (x := my) (N := n.toNatClampNeg + 1) (by omega)]
                refine lv_iload_n hx hb dX12_mend_159 rfl (lv_at hl 5 rfl) ?_
                refine lv_iconst (v := (-1)) hx hb dX12_mend_160 (by decide) ?_
                refine lv_icmp_eq (tgt := 186) hx hb dX12_mend_161 (by decide) (fun c_6 => ?_) (fun c_6 => ?_)
                · have tc_6 : be.toInt = (-1) := v_eq c_6
                  refine lv_iconst (v := (-1)) hx hb dX12_mend_186 (by decide) ?_
                  exact kl_i (v := (-1)) hQQ hx hb hr hlocks hS dX12_mend_187 ⟨0, (-1), zna, eYa, zda, zma, zla, eEa, zka, eWa, eOa, zp, zf, zs, eS, eX, ⟨hP, hD⟩, g_zna, g_eYa, g_zma, g_eEa, g_zka, g_eWa, g_eOa, g_zp, g_zf, g_zs, g_eS, g_eX, by show zs.toInt ≤ zs.toInt + 1 ∧ zs.toInt ≤ zs.toInt; omega, by first | exact Or.inl (by omega) | exact Or.inr ⟨rfl, rfl, rfl⟩, fun R1 R2 R3 hR9 => OR_n rfl (mi_none (hR9 (by omega)) (hmo R1 R2 R3 (hR9 (by omega))) (N := n.toNatClampNeg) (by omega) (by omega) hPe (by omega))⟩
                · have tc_6 : ¬ be.toInt = (-1) := v_ne c_6
                  refine lv_aload_n hx hb dX12_mend_164 rfl (lv_at hl 6 rfl) ?_
                  refine lv_aload_n hx hb dX12_mend_165 rfl (lv_at hl 6 rfl) ?_
                  refine va_get (D := (dC, dI)) (ci := 12) (v := .ref mX) (C := RX12) (T := TX12) (N := 40) hx hb hts in_X12 hown hK hP 0 rfl rfl 3 (by decide) (hts (.fieldLink RX12 16 "TextMenderModel" "texts" "[I") (List.mem_of_getElem? (i := 7) rfl)) (fun _ h9 => h9) rfl dX12_mend_166 ?_
                  refine lv_iconst (v := 0) hx hb dX12_mend_169 (by decide) ?_
                  refine lv_aload_n hx hb dX12_mend_170 rfl (lv_at hl 6 rfl) ?_
                  refine va_get (D := (dC, dI)) (ci := 12) (v := .ref mS) (C := RX12) (T := TX12) (N := 40) hx hb hts in_X12 hown hK hP 0 rfl rfl 2 (by decide) (hts (.fieldLink RX12 13 "TextMenderModel" "sizes" "[I") (List.mem_of_getElem? (i := 8) rfl)) (fun _ h9 => h9) rfl dX12_mend_171 ?_
                  refine lv_iconst (v := 0) hx hb dX12_mend_174 (by decide) ?_
                  refine va_iald hx hb hK hP 7 0 rfl rfl (by unfold vp_in; decide) dX12_mend_175 ?_
                  refine lv_topi (fun x_7 ex_7 => ?_)
                  have tx_7 : 0 ≤ x_7.toInt ∧ x_7.toInt ≤ 300 := rg_at g_eS ex_7
                  have hs9 : x_7.toInt = (eS 0).toInt := by rw [ex_7]; rfl
                  refine kV_i (rest := []) (q0 := 0) (ci := 12) hcf (f_X12_costOf_ l dC dI cI cS H.size oM mX mT mS mX mL mB mD m1 m2 mR x1 x2 x3 mH mY mE mW mO y1 y2 y3 y4 mZ 6300 zt zp zf zh zr zc zy za zb zs zq (-1) 0 zna zma zla zka zda ec1 ec2 ec3 eX 0 x_7 (g_zt) (g_zp) (g_zf) (g_zh) (g_zr) (g_zc) (g_zy) (g_za) (g_zb) (g_zs) (g_zq) (g_zna) (g_zma) (g_zka) (by decide) (v_rr tx_7 (by decide) (by decide)) (by omega) (by omega) (hV) (prg_of g_eX)) kc_X12_costOf_ gX12_mend_X12_costOf_ rfl rfl rfl ⟨Nat.le_of_ble_eq_true rfl, Nat.le_of_ble_eq_true rfl⟩ kX_t hK hP hD hS hA [0, 11, 12, 13, 8] [1, 2, 3, 4, 5, 6, 7, 9, 10] rfl (by decide +kernel) rfl rfl rfl hl rfl (Nat.le_of_ble_eq_true rfl) dX12_mend_176 ⟨Nat.le_of_ble_eq_true rfl, Nat.le_of_ble_eq_true rfl⟩ (fun r_8 H locs hB hJ hSn => ?_)
                  obtain ⟨⟨hP1, hD1⟩, hf8_0, hf8_1⟩ := hB
                  obtain ⟨hPn, hDn⟩ := hJ _ hP1 hD1 [(mY, .inl (cI, 2600, .inl eYa)), (mB, .inl (cS, 131072, .inl eB)), (mL, .inl (cI, 512, .inl eL)), (mE, .inl (cI, 2600, .inl eEa)), (mW, .inl (cI, 300, .inl eWa)), (mO, .inl (cI, 300, .inl eOa)), (mS, .inl (cI, 21, .inl eS)), (m1, .inl (cI, 6, .inl e1)), (m2, .inl (cI, 6, .inl e2)), (oM, .inr (12, [.ref mT, .int zt, .ref mS, .ref mX, .int zp, .int zf, .ref mL, .ref mB, .ref mD, .ref m1, .ref m2, .int zh, .ref mR, .int zr, .ref x1, .ref x2, .ref x3, .int zc, .ref mH, .int zy, .int za, .int zb, .int zs, .int zq, .int (-1), .int 0, .ref mY, .int zna, .ref mE, .int zma, .int zla, .ref mW, .int zka, .ref mO, .int zda, .ref y1, .ref y2, .ref y3, .ref y4, .ref mZ])), (x1, .inl (cI, 300, .inl ec1)), (x2, .inl (cI, 300, .inl ec2)), (x3, .inl (cI, 300, .inl ec3)), (mX, .inl (cI, 6300, .inl eX))] rfl
                  clear hP hD hS hJ hP1 hD1
                  have hP := hPn
                  have hD := hDn
                  have hS := hSn
                  clear hPn hDn hSn
                  refine lv_iload hx hb dX12_mend_179 (lv_at hl 2 rfl) ?_
                  refine lv_isub hx hb dX12_mend_181 ?_
                  refine lv_topi (fun x_9 ex_9 => ?_)
                  have tx_9 : x_9.toInt = r_8.toInt - le_.toInt := v_subR ex_9 hf8_0 g_le_ (by decide) (by decide)
                  refine lv_iload_n hx hb dX12_mend_182 rfl (lv_at hl 8 rfl) ?_
                  refine lv_icmp_ge (tgt := 188) hx hb dX12_mend_183 (by decide) (fun c_10 => ?_) (fun c_10 => ?_)
                  · have tc_10 : gi.toInt ≤ x_9.toInt := v_le c_10
                    refine lv_aload_n hx hb dX12_mend_188 rfl (lv_at hl 6 rfl) ?_
                    refine lv_iload hx hb dX12_mend_189 (lv_at hl 3 rfl) ?_
                    refine lv_iload hx hb dX12_mend_191 (lv_at hl 4 rfl) ?_
                    refine kV_i (rest := []) (q0 := 0) (ci := 12) hcf (f_X12_makes l dC dI cI cS H.size oM mT mS mX mL mB mD m1 m2 mR x1 x2 x3 mH mY mE mW mO y1 y2 y3 y4 mZ zt zp zf zh zr zc zy za zb zs zq (-1) 0 zna zma zla zka zda eYa eB eL eEa eWa eOa eS eX e1 e2 bc bn (g_zt) (g_zp) (g_zf) (g_zh) (g_zr) (g_zc) (g_zy) (g_za) (g_zb) (g_zs) (g_zq) (g_zna) (g_zma) (g_zka) (g_eYa) (g_eB) (g_eL) (g_eEa) (g_eWa) (g_eOa) (g_eS) (g_eX) (g_e1) (g_e2) (v_rr g_bc (by decide) (by decide)) (g_bn) (by omega) (hxl) (hlb) (hlz)) kc_X12_makes gX12_mend_X12_makes rfl rfl rfl ⟨Nat.le_of_ble_eq_true rfl, Nat.le_of_ble_eq_true rfl⟩ kX_t hK hP hD hS hA [9, 0, 1, 2, 3, 4, 5, 6, 13, 7, 8] [10, 11, 12] rfl (by decide +kernel) rfl rfl rfl hl rfl (Nat.le_of_ble_eq_true rfl) dX12_mend_193 ⟨Nat.le_of_ble_eq_true rfl, Nat.le_of_ble_eq_true rfl⟩ (fun r_11 H locs hB hJ hSn => ?_)
                    obtain ⟨zn_11, eY_11, zd_11, zm_11, zl_11, eE_11, zk_11, eW_11, eO_11, ⟨hP1, hD1⟩, hf11_0, hf11_1, hf11_2, hf11_3, hf11_4, hf11_5, hf11_6, hf11_7, hf11_8⟩ := hB
                    obtain ⟨hPn, hDn⟩ := hJ _ hP1 hD1 [(x1, .inl (cI, 300, .inl ec1)), (x2, .inl (cI, 300, .inl ec2)), (x3, .inl (cI, 300, .inl ec3)), (oM, .inr (12, [.ref mT, .int zt, .ref mS, .ref mX, .int zp, .int zf, .ref mL, .ref mB, .ref mD, .ref m1, .ref m2, .int zh, .ref mR, .int zr, .ref x1, .ref x2, .ref x3, .int zc, .ref mH, .int zy, .int za, .int zb, .int zs, .int zq, .int (-1), .int 0, .ref mY, .int zn_11, .ref mE, .int zm_11, .int zl_11, .ref mW, .int zk_11, .ref mO, .int zd_11, .ref y1, .ref y2, .ref y3, .ref y4, .ref mZ])), (mY, .inl (cI, 2600, .inl eY_11)), (mB, .inl (cS, 131072, .inl eB)), (mL, .inl (cI, 512, .inl eL)), (mE, .inl (cI, 2600, .inl eE_11)), (mW, .inl (cI, 300, .inl eW_11)), (mO, .inl (cI, 300, .inl eO_11)), (mS, .inl (cI, 21, .inl eS)), (mX, .inl (cI, 6300, .inl eX)), (m1, .inl (cI, 6, .inl e1)), (m2, .inl (cI, 6, .inl e2))] rfl
                    clear hP hD hS hJ hP1 hD1
                    have hP := hPn
                    have hD := hDn
                    have hS := hSn
                    clear hPn hDn hSn
                    refine lv_pop hx hb dX12_mend_196 rfl ?_
                    refine lv_aload_n hx hb dX12_mend_197 rfl (lv_at hl 6 rfl) ?_
                    refine lv_aload_n hx hb dX12_mend_198 rfl (lv_at hl 6 rfl) ?_
                    refine va_get (D := (dC, dI)) (ci := 12) (v := .ref mW) (C := RX12) (T := TX12) (N := 40) hx hb hts in_X12 hown hK hP 3 rfl rfl 31 (by decide) (hts (.fieldLink RX12 64 "TextMenderModel" "work" "[I") (List.mem_of_getElem? (i := 5) rfl)) (fun _ h9 => h9) rfl dX12_mend_199 ?_
                    refine lv_aload_n hx hb dX12_mend_202 rfl (lv_at hl 6 rfl) ?_
                    refine va_get (D := (dC, dI)) (ci := 12) (v := .int zk_11) (C := RX12) (T := TX12) (N := 40) hx hb hts in_X12 hown hK hP 3 rfl rfl 32 (by decide) (hts (.fieldLink RX12 135 "TextMenderModel" "workMany" "I") (List.mem_of_getElem? (i := 6) rfl)) (fun _ h9 => h9) rfl dX12_mend_203 ?_
                    refine kV_v (rest := []) (q0 := 0) (ci := 12) hcf (f_X12_bec l dC dI cI cS H.size oM mW mT mS mX mL mB mD m1 m2 mR x1 x2 x3 mH mY mE mW mO y1 y2 y3 y4 mZ 300 zt zp zf zh zr zc zy za zb zs zq (-1) 0 zn_11 zm_11 zl_11 zk_11 zd_11 eS eX eW_11 zk_11 (g_zt) (g_zp) (g_zf) (g_zh) (g_zr) (g_zc) (g_zy) (g_za) (g_zb) (g_zs) (g_zq) (hf11_0) (hf11_2) (hf11_4) (g_eS) (g_eX) (hf11_4) (by omega) (by omega) (prg_of hf11_5) (by omega)) kc_X12_become gX12_mend_X12_become rfl rfl rfl ⟨Nat.le_of_ble_eq_true rfl, Nat.le_of_ble_eq_true rfl⟩ kX_t hK hP hD hS hA [3, 10, 11, 8] [0, 1, 2, 4, 5, 6, 7, 9, 12, 13] rfl (by decide +kernel) rfl rfl rfl hl rfl (Nat.le_of_ble_eq_true rfl) dX12_mend_206 ⟨Nat.le_of_ble_eq_true rfl, Nat.le_of_ble_eq_true rfl⟩ (fun H locs hB hJ hSn => ?_)
                    obtain ⟨zp_12, zf_12, zs_12, eS_12, eX_12, ⟨hP1, hD1⟩, hf12_0, hf12_1, hf12_2, hf12_3, hf12_4, hf12_5, hf12_6⟩ := hB
                    obtain ⟨hPn, hDn⟩ := hJ _ hP1 hD1 [(x1, .inl (cI, 300, .inl ec1)), (x2, .inl (cI, 300, .inl ec2)), (x3, .inl (cI, 300, .inl ec3)), (mY, .inl (cI, 2600, .inl eY_11)), (mB, .inl (cS, 131072, .inl eB)), (mL, .inl (cI, 512, .inl eL)), (mE, .inl (cI, 2600, .inl eE_11)), (mO, .inl (cI, 300, .inl eO_11)), (m1, .inl (cI, 6, .inl e1)), (m2, .inl (cI, 6, .inl e2)), (oM, .inr (12, [.ref mT, .int zt, .ref mS, .ref mX, .int zp_12, .int zf_12, .ref mL, .ref mB, .ref mD, .ref m1, .ref m2, .int zh, .ref mR, .int zr, .ref x1, .ref x2, .ref x3, .int zc, .ref mH, .int zy, .int za, .int zb, .int zs_12, .int zq, .int (-1), .int 0, .ref mY, .int zn_11, .ref mE, .int zm_11, .int zl_11, .ref mW, .int zk_11, .ref mO, .int zd_11, .ref y1, .ref y2, .ref y3, .ref y4, .ref mZ])), (mS, .inl (cI, 21, .inl eS_12)), (mX, .inl (cI, 6300, .inl eX_12)), (mW, .inl (cI, 300, .inl eW_11))] rfl
                    clear hP hD hS hJ hP1 hD1
                    have hP := hPn
                    have hD := hDn
                    have hS := hSn
                    clear hPn hDn hSn
                    refine lv_iload_n hx hb dX12_mend_209 rfl (lv_at hl 5 rfl) ?_
                    exact kl_i (v := be) hQQ hx hb hr hlocks hS dX12_mend_210 ⟨0, (-1), zn_11, eY_11, zd_11, zm_11, zl_11, eE_11, zk_11, eW_11, eO_11, zp_12, zf_12, zs_12, eS_12, eX_12, kPD_sub hP hD [10, 3, 4, 5, 6, 13, 7, 11, 12, 8, 9, 0, 1, 2] (by decide +kernel) rfl, hf11_0, hf11_1, hf11_2, hf11_3, hf11_4, hf11_5, hf11_6, hf12_0, hf12_1, hf12_2, hf12_3, hf12_4, by show zs_12.toInt ≤ zs.toInt + 1 ∧ zs.toInt ≤ zs_12.toInt; omega, by first | exact Or.inl (by omega) | exact Or.inr ⟨rfl, rfl, rfl⟩, fun R1 R2 R3 hR9 => OR_y (mi_done (x := r_8.toInt) hU (hR9 (by omega)) (hmo R1 R2 R3 (hR9 (by omega))) (by omega) (N := n.toNatClampNeg) (by omega) (by omega) hPe (by omega) rfl hs3 hx9 (cT_s0 hf8_1 hs9 (by omega)) (by omega) (by omega) hf11_8) hf12_6 (by omega)⟩
                  · have tc_10 : x_9.toInt < gi.toInt := v_nle c_10
                    refine lv_iconst (v := (-1)) hx hb dX12_mend_186 (by decide) ?_
                    exact kl_i (v := (-1)) hQQ hx hb hr hlocks hS dX12_mend_187 ⟨0, (-1), zna, eYa, zda, zma, zla, eEa, zka, eWa, eOa, zp, zf, zs, eS, eX, kPD_sub hP hD [9, 0, 1, 2, 3, 4, 5, 6, 13, 7, 8, 10, 11, 12] (by decide +kernel) rfl, g_zna, g_eYa, g_zma, g_eEa, g_zka, g_eWa, g_eOa, g_zp, g_zf, g_zs, g_eS, g_eX, by show zs.toInt ≤ zs.toInt + 1 ∧ zs.toInt ≤ zs.toInt; omega, by first | exact Or.inl (by omega) | exact Or.inr ⟨rfl, rfl, rfl⟩, fun R1 R2 R3 hR9 => OR_n rfl (mi_less (x := r_8.toInt) (hR9 (by omega)) (hmo R1 R2 R3 (hR9 (by omega))) (by omega) (N := n.toNatClampNeg) (by omega) (by omega) hPe (by omega) (cT_s0 hf8_1 hs9 (by omega)) (by omega))⟩
              · have tc_5 : my.toInt ≤ n.toInt := v_nlt c_5
                have cmy := v_clamp (x := my) (by omega)
                have hmy3 := roff_s (z := zh.toNatClampNeg) (k := my.toNatClampNeg) (by omega) (by omega)
                refine lv_aload_n hx hb dX12_mend_56 rfl (lv_at hl 6 rfl) ?_
                refine va_get (D := (dC, dI)) (ci := 12) (v := .int zh) (C := RX12) (T := TX12) (N := 40) hx hb hts in_X12 hown hK hP 0 rfl rfl 11 (by decide) (hts (.fieldLink RX12 161 "TextMenderModel" "harms" "I") (List.mem_of_getElem? (i := 4) rfl)) (fun _ h9 => h9) rfl dX12_mend_57 ?_
                refine lv_if_ne (tgt := 67) hx hb dX12_mend_60 (by decide) (fun c_13 => ?_) (fun c_13 => ?_)
                · have tc_13 : ¬ zh.toInt = 0 := v_ne c_13
                  refine lv_aload_n hx hb dX12_mend_67 rfl (lv_at hl 6 rfl) ?_
                  refine va_get (D := (dC, dI)) (ci := 12) (v := .int zh) (C := RX12) (T := TX12) (N := 40) hx hb hts in_X12 hown hK hP 0 rfl rfl 11 (by decide) (hts (.fieldLink RX12 161 "TextMenderModel" "harms" "I") (List.mem_of_getElem? (i := 4) rfl)) (fun _ h9 => h9) rfl dX12_mend_68 ?_
                  refine lv_iload hx hb dX12_mend_71 (lv_at hl 0 rfl) ?_
                  refine kS_i (rest := []) hcf (f_X12_power l dC dI cI cS H.size zh my (by omega) (by omega)) kc_X12_power gX12_mend_X12_power rfl rfl ⟨Nat.le_of_ble_eq_true rfl, Nat.le_of_ble_eq_true rfl⟩ kX_t hK hP hD hS hA [] [0, 1, 2, 3, 4, 5, 6, 7, 8, 9, 10, 11, 12, 13] rfl (by decide +kernel) rfl hl rfl (Nat.le_of_ble_eq_true rfl) dX12_mend_73 ⟨Nat.le_of_ble_eq_true rfl, Nat.le_of_ble_eq_true rfl⟩ (fun r_14 H locs hB hJ hSn => ?_)
                  obtain ⟨⟨hP1, hD1⟩, hf14_0, hf14_1, hf14_2⟩ := hB
                  obtain ⟨hPn, hDn⟩ := hJ _ hP1 hD1 [(oM, .inr (12, [.ref mT, .int zt, .ref mS, .ref mX, .int zp, .int zf, .ref mL, .ref mB, .ref mD, .ref m1, .ref m2, .int zh, .ref mR, .int zr, .ref x1, .ref x2, .ref x3, .int zc, .ref mH, .int zy, .int za, .int zb, .int zs, .int zq, .int (-1), .int 0, .ref mY, .int zna, .ref mE, .int zma, .int zla, .ref mW, .int zka, .ref mO, .int zda, .ref y1, .ref y2, .ref y3, .ref y4, .ref mZ])), (mY, .inl (cI, 2600, .inl eYa)), (mB, .inl (cS, 131072, .inl eB)), (mL, .inl (cI, 512, .inl eL)), (mE, .inl (cI, 2600, .inl eEa)), (mW, .inl (cI, 300, .inl eWa)), (mO, .inl (cI, 300, .inl eOa)), (mS, .inl (cI, 21, .inl eS)), (mX, .inl (cI, 6300, .inl eX)), (m1, .inl (cI, 6, .inl e1)), (m2, .inl (cI, 6, .inl e2)), (x1, .inl (cI, 300, .inl ec1)), (x2, .inl (cI, 300, .inl ec2)), (x3, .inl (cI, 300, .inl ec3))] rfl
                  clear hP hD hS hJ hP1 hD1
                  have hP := hPn
                  have hD := hDn
                  have hS := hSn
                  clear hPn hDn hSn
                  refine lv_istore (lv' := [(9, .int r_14), (8, .int my), (7, .int nu_), (6, .int le_), (5, .int bc), (4, .int bn), (3, .int be), (0, .ref oM), (1, .int n), (2, .int gi)]) hx hb dX12_mend_76 hl (by decide) rfl (fun ls hl => ?_)
                  refine lv_iconst (v := 0) hx hb dX12_mend_78 (by decide) ?_
                  refine lv_istore (lv' := [(10, .int 0), (9, .int r_14), (8, .int my), (7, .int nu_), (6, .int le_), (5, .int bc), (4, .int bn), (3, .int be), (0, .ref oM), (1, .int n), (2, .int gi)]) hx hb dX12_mend_79 hl (by decide) rfl (fun ls hl => ?_)
                  have LOOP_81 : ∀ (k_81 : Nat) (be2 : Int32) (bn2 : Int32) (bc2 : Int32) (le2 : Int32) (nu2 : Int32) (co : Int32) (znb : Int32) (zdb : Int32) (zmb : Int32) (zlb : Int32) (zkb : Int32) (eYb : Nat → Int32) (eEb : Nat → Int32) (eWb : Nat → Int32) (eOb : Nat → Int32) (H : Heap) (locs : List Loc) (ls : Array Slot), MSd (r_14.toInt - co.toInt : Int) k_81 → (-1 ≤ be2.toInt ∧ be2.toInt ≤ 258) → (0 ≤ bn2.toInt ∧ bn2.toInt ≤ 3) → (0 ≤ bc2.toInt ∧ bc2.toInt ≤ 216) → (0 ≤ le2.toInt ∧ le2.toInt ≤ 61000) → (0 ≤ nu2.toInt ∧ nu2.toInt ≤ 258) → (0 ≤ co.toInt ∧ co.toInt ≤ r_14.toInt) → (0 ≤ znb.toInt ∧ znb.toInt ≤ 2600) → (0 ≤ zmb.toInt ∧ zmb.toInt ≤ 2600) → (0 ≤ zkb.toInt ∧ zkb.toInt ≤ 300) → (rg 0 255 eYb) → (rg 0 65535 eEb) → (rg 0 65535 eWb) → (rg 0 65535 eOb) → (be2.toInt = -1 ∨ 1 ≤ zh.toInt) → (nu2.toInt ≤ (roff zh.toNatClampNeg my.toNatClampNeg : Int) + co.toInt) → (∀ R1 R2 R3 : Nat → Int32, rGE (UR e1 e2 eL eB) (tcR zc.toInt ec1 ec2 ec3) zh.toNatClampNeg (eS 0).toInt.toNat eX n.toInt R1 R2 R3 → MIq R1 zh.toNatClampNeg n.toInt (roff zh.toNatClampNeg my.toNatClampNeg + co.toNatClampNeg) be2.toInt bn2.toInt bc2.toInt le2.toInt nu2.toInt) → va_P (dC, dI) vwCl [(oM, .inr (12, [.ref mT, .int zt, .ref mS, .ref mX, .int zp, .int zf, .ref mL, .ref mB, .ref mD, .ref m1, .ref m2, .int zh, .ref mR, .int zr, .ref x1, .ref x2, .ref x3, .int zc, .ref mH, .int zy, .int za, .int zb, .int zs, .int zq, .int (-1), .int 0, .ref mY, .int znb, .ref mE, .int zmb, .int zlb, .ref mW, .int zkb, .ref mO, .int zdb, .ref y1, .ref y2, .ref y3, .ref y4, .ref mZ])), (mY, .inl (cI, 2600, .inl eYb)), (mB, .inl (cS, 131072, .inl eB)), (mL, .inl (cI, 512, .inl eL)), (mE, .inl (cI, 2600, .inl eEb)), (mW, .inl (cI, 300, .inl eWb)), (mO, .inl (cI, 300, .inl eOb)), (mS, .inl (cI, 21, .inl eS)), (mX, .inl (cI, 6300, .inl eX)), (m1, .inl (cI, 6, .inl e1)), (m2, .inl (cI, 6, .inl e2)), (x1, .inl (cI, 300, .inl ec1)), (x2, .inl (cI, 300, .inl ec2)), (x3, .inl (cI, 300, .inl ec3))] H → va_D A [(oM, .inr (12, [.ref mT, .int zt, .ref mS, .ref mX, .int zp, .int zf, .ref mL, .ref mB, .ref mD, .ref m1, .ref m2, .int zh, .ref mR, .int zr, .ref x1, .ref x2, .ref x3, .int zc, .ref mH, .int zy, .int za, .int zb, .int zs, .int zq, .int (-1), .int 0, .ref mY, .int znb, .ref mE, .int zmb, .int zlb, .ref mW, .int zkb, .ref mO, .int zdb, .ref y1, .ref y2, .ref y3, .ref y4, .ref mZ])), (mY, .inl (cI, 2600, .inl eYb)), (mB, .inl (cS, 131072, .inl eB)), (mL, .inl (cI, 512, .inl eL)), (mE, .inl (cI, 2600, .inl eEb)), (mW, .inl (cI, 300, .inl eWb)), (mO, .inl (cI, 300, .inl eOb)), (mS, .inl (cI, 21, .inl eS)), (mX, .inl (cI, 6300, .inl eX)), (m1, .inl (cI, 6, .inl e1)), (m2, .inl (cI, 6, .inl e2)), (x1, .inl (cI, 300, .inl ec1)), (x2, .inl (cI, 300, .inl ec2)), (x3, .inl (cI, 300, .inl ec3))] → va_S A s.heap H locs → lv_has ls 12 [(10, .int co), (9, .int r_14), (8, .int my), (7, .int nu2), (6, .int le2), (5, .int bc2), (4, .int bn2), (3, .int be2), (0, .ref oM), (1, .int n), (2, .int gi)] → W p l e (headSpec wsX12_mend ({ frames := 6, cells := 0, slots := 0, locals := 145 } : Room)).room s m ([.ref oM, .int n, .int gi] : List Value).toArray below meth c H locs 0 0 (MQ below QQ ([.ref oM, .int n, .int gi] : List Value).toArray s 0 0 A) (F0 m 81 ls []) := by
                    clear hP hD hS hl
                    try (clear g_zna g_zma g_zka hzs)
                    intro k_81
                    induction k_81 with
                    | zero =>
                      intro be2 bn2 bc2 le2 nu2 co znb zdb zmb zlb zkb eYb eEb eWb eOb H locs ls hm_81 g_be2 g_bn2 g_bc2 g_le2 g_nu2 g_co g_znb g_zmb g_zkb g_eYb g_eEb g_eWb g_eOb hbz hn2 hmi hP hD hS hl
                      exact ms_0 hm_81
                    | succ k_81 ih_81 =>
                      intro be2 bn2 bc2 le2 nu2 co znb zdb zmb zlb zkb eYb eEb eWb eOb H locs ls hm_81 g_be2 g_bn2 g_bc2 g_le2 g_nu2 g_co g_znb g_zmb g_zkb g_eYb g_eEb g_eWb g_eOb hbz hn2 hmi hP hD hS hl
                      refine lv_iload hx hb dX12_mend_81 (lv_at hl 0 rfl) ?_
                      refine lv_iload hx hb dX12_mend_83 (lv_at hl 1 rfl) ?_
                      refine lv_icmp_ge (tgt := 153) hx hb dX12_mend_85 (by decide) (fun c_15 => ?_) (fun c_15 => ?_)
                      · have tc_15 : r_14.toInt ≤ co.toInt := v_le c_15
                        obtain ⟨x_16, ex_16⟩ : ∃ y : Int32, y = my + 1 := ⟨_, rfl⟩
                        have tx_16 : x_16.toInt = my.toInt + 1 := v_addR (l2 := 1) (h2 := 1) ex_16 g_my (by decide) (by decide) (by decide)
                        refine lv_iinc (v := x_16) (lv' := [(8, .int x_16), (10, .int co), (9, .int r_14), (7, .int nu2), (6, .int le2), (5, .int bc2), (4, .int bn2), (3, .int be2), (0, .ref oM), (1, .int n), (2, .int gi)]) hx hb dX12_mend_153 hl (k := 2) rfl (by rw [ex_16]; rfl) (by decide) rfl (fun ls hl => ?_)
                        refine lv_goto (tgt := 50) hx hb dX12_mend_156 (by decide) ?_
                        exact ih_50 be2 bn2 bc2 le2 nu2 x_16 znb zdb zmb zlb zkb eYb eEb eWb eOb _ _ _ (ms_lt hm_50 (by show ((4 - x_16.toInt : Int)) < 4 - my.toInt; omega) (by show (0 : Int) < 4 - my.toInt; omega)) (g_be2) (g_bn2) (g_bc2) (g_le2) (g_nu2) (by show 1 ≤ x_16.toInt ∧ x_16.toInt ≤ 4; omega) (g_znb) (g_zmb) (g_zkb) (g_eYb) (g_eEb) (g_eWb) (g_eOb) (by show be2.toInt = -1 ∨ 1 ≤ zh.toInt; omega) (by show x_16.toInt ≤ n.toInt + 1; omega) (by rw [ix_eq (x := x_16) (N := my.toNatClampNeg + 1) (by omega), hmy3]; have cco := v_clamp (x := co) (by omega); have hal9 := hf14_2; omega) (fun R1 R2 R3 hR => MIq_e (hmi R1 R2 R3 hR) (by rw [ix_eq (x := x_16) (N := my.toNatClampNeg + 1) (by omega), hmy3]; have cco := v_clamp (x := co) (by omega); have hal9 := hf14_2; omega)) hP hD hS (lv_sub hl [0, 3, 4, 5, 6, 7, 8, 9, 10] rfl)
                      · have tc_15 : co.toInt < r_14.toInt := v_nle c_15
                        have cco := v_clamp (x := co) (by omega)
                        have hal9 := hf14_2
                        have h258 := off_258 (z := zh.toNatClampNeg) (k := my.toNatClampNeg) (by omega) (by omega) (by omega)
                        refine lv_aload_n hx hb dX12_mend_88 rfl (lv_at hl 8 rfl) ?_
                        refine lv_iload hx hb dX12_mend_89 (lv_at hl 0 rfl) ?_
                        refine lv_iload hx hb dX12_mend_91 (lv_at hl 2 rfl) ?_
                        refine kV_i (rest := []) (q0 := 0) (ci := 12) hcf (f_X12_makes l dC dI cI cS H.size oM mT mS mX mL mB mD m1 m2 mR x1 x2 x3 mH mY mE mW mO y1 y2 y3 y4 mZ zt zp zf zh zr zc zy za zb zs zq (-1) 0 znb zmb zlb zkb zdb eYb eB eL eEb eWb eOb eS eX e1 e2 co my (g_zt) (g_zp) (g_zf) (g_zh) (g_zr) (g_zc) (g_zy) (g_za) (g_zb) (g_zs) (g_zq) (g_znb) (g_zmb) (g_zkb) (g_eYb) (g_eB) (g_eL) (g_eEb) (g_eWb) (g_eOb) (g_eS) (g_eX) (g_e1) (g_e2) (by omega) (by omega) (by omega) (hxl) (hlb) (hlz)) kc_X12_makes gX12_mend_X12_makes rfl rfl rfl ⟨Nat.le_of_ble_eq_true rfl, Nat.le_of_ble_eq_true rfl⟩ kX_t hK hP hD hS hA [0, 1, 2, 3, 4, 5, 6, 7, 8, 9, 10] [11, 12, 13] rfl (by decide +kernel) rfl rfl rfl hl rfl (Nat.le_of_ble_eq_true rfl) dX12_mend_93 ⟨Nat.le_of_ble_eq_true rfl, Nat.le_of_ble_eq_true rfl⟩ (fun r_17 H locs hB hJ hSn => ?_)
                        obtain ⟨zn_17, eY_17, zd_17, zm_17, zl_17, eE_17, zk_17, eW_17, eO_17, ⟨hP1, hD1⟩, hf17_0, hf17_1, hf17_2, hf17_3, hf17_4, hf17_5, hf17_6, hf17_7, hf17_8⟩ := hB
                        obtain ⟨hPn, hDn⟩ := hJ _ hP1 hD1 [(x1, .inl (cI, 300, .inl ec1)), (x2, .inl (cI, 300, .inl ec2)), (x3, .inl (cI, 300, .inl ec3)), (oM, .inr (12, [.ref mT, .int zt, .ref mS, .ref mX, .int zp, .int zf, .ref mL, .ref mB, .ref mD, .ref m1, .ref m2, .int zh, .ref mR, .int zr, .ref x1, .ref x2, .ref x3, .int zc, .ref mH, .int zy, .int za, .int zb, .int zs, .int zq, .int (-1), .int 0, .ref mY, .int zn_17, .ref mE, .int zm_17, .int zl_17, .ref mW, .int zk_17, .ref mO, .int zd_17, .ref y1, .ref y2, .ref y3, .ref y4, .ref mZ])), (mY, .inl (cI, 2600, .inl eY_17)), (mB, .inl (cS, 131072, .inl eB)), (mL, .inl (cI, 512, .inl eL)), (mE, .inl (cI, 2600, .inl eE_17)), (mW, .inl (cI, 300, .inl eW_17)), (mO, .inl (cI, 300, .inl eO_17)), (mS, .inl (cI, 21, .inl eS)), (mX, .inl (cI, 6300, .inl eX)), (m1, .inl (cI, 6, .inl e1)), (m2, .inl (cI, 6, .inl e2))] rfl
                        clear hP hD hS hJ hP1 hD1
                        have hP := hPn
                        have hD := hDn
                        have hS := hSn
                        clear hPn hDn hSn
                        refine lv_if_ne (tgt := 102) hx hb dX12_mend_96 (by decide) (fun c_18 => ?_) (fun c_18 => ?_)
                        · have tc_18 : ¬ r_17.toInt = 0 := v_ne c_18
                          refine lv_aload_n hx hb dX12_mend_102 rfl (lv_at hl 8 rfl) ?_
                          refine lv_aload_n hx hb dX12_mend_103 rfl (lv_at hl 8 rfl) ?_
                          refine va_get (D := (dC, dI)) (ci := 12) (v := .ref mW) (C := RX12) (T := TX12) (N := 40) hx hb hts in_X12 hown hK hP 3 rfl rfl 31 (by decide) (hts (.fieldLink RX12 64 "TextMenderModel" "work" "[I") (List.mem_of_getElem? (i := 5) rfl)) (fun _ h9 => h9) rfl dX12_mend_104 ?_
                          refine lv_iconst (v := 0) hx hb dX12_mend_107 (by decide) ?_
                          refine lv_aload_n hx hb dX12_mend_108 rfl (lv_at hl 8 rfl) ?_
                          refine va_get (D := (dC, dI)) (ci := 12) (v := .int zk_17) (C := RX12) (T := TX12) (N := 40) hx hb hts in_X12 hown hK hP 3 rfl rfl 32 (by decide) (hts (.fieldLink RX12 135 "TextMenderModel" "workMany" "I") (List.mem_of_getElem? (i := 6) rfl)) (fun _ h9 => h9) rfl dX12_mend_109 ?_
                          refine kV_i (rest := []) (q0 := 0) (ci := 12) hcf (f_X12_costOf_ l dC dI cI cS H.size oM mW mT mS mX mL mB mD m1 m2 mR x1 x2 x3 mH mY mE mW mO y1 y2 y3 y4 mZ 300 zt zp zf zh zr zc zy za zb zs zq (-1) 0 zn_17 zm_17 zl_17 zk_17 zd_17 ec1 ec2 ec3 eW_17 0 zk_17 (g_zt) (g_zp) (g_zf) (g_zh) (g_zr) (g_zc) (g_zy) (g_za) (g_zb) (g_zs) (g_zq) (hf17_0) (hf17_2) (hf17_4) (by decide) (hf17_4) (by omega) (by omega) (hV) (prg_of hf17_5)) kc_X12_costOf_ gX12_mend_X12_costOf_ rfl rfl rfl ⟨Nat.le_of_ble_eq_true rfl, Nat.le_of_ble_eq_true rfl⟩ kX_t hK hP hD hS hA [3, 0, 1, 2, 8] [4, 5, 6, 7, 9, 10, 11, 12, 13] rfl (by decide +kernel) rfl rfl rfl hl rfl (Nat.le_of_ble_eq_true rfl) dX12_mend_112 ⟨Nat.le_of_ble_eq_true rfl, Nat.le_of_ble_eq_true rfl⟩ (fun r_19 H locs hB hJ hSn => ?_)
                          obtain ⟨⟨hP1, hD1⟩, hf19_0, hf19_1⟩ := hB
                          obtain ⟨hPn, hDn⟩ := hJ _ hP1 hD1 [(mY, .inl (cI, 2600, .inl eY_17)), (mB, .inl (cS, 131072, .inl eB)), (mL, .inl (cI, 512, .inl eL)), (mE, .inl (cI, 2600, .inl eE_17)), (mO, .inl (cI, 300, .inl eO_17)), (mS, .inl (cI, 21, .inl eS)), (mX, .inl (cI, 6300, .inl eX)), (m1, .inl (cI, 6, .inl e1)), (m2, .inl (cI, 6, .inl e2)), (oM, .inr (12, [.ref mT, .int zt, .ref mS, .ref mX, .int zp, .int zf, .ref mL, .ref mB, .ref mD, .ref m1, .ref m2, .int zh, .ref mR, .int zr, .ref x1, .ref x2, .ref x3, .int zc, .ref mH, .int zy, .int za, .int zb, .int zs, .int zq, .int (-1), .int 0, .ref mY, .int zn_17, .ref mE, .int zm_17, .int zl_17, .ref mW, .int zk_17, .ref mO, .int zd_17, .ref y1, .ref y2, .ref y3, .ref y4, .ref mZ])), (x1, .inl (cI, 300, .inl ec1)), (x2, .inl (cI, 300, .inl ec2)), (x3, .inl (cI, 300, .inl ec3)), (mW, .inl (cI, 300, .inl eW_17))] rfl
                          clear hP hD hS hJ hP1 hD1
                          have hP := hPn
                          have hD := hDn
                          have hS := hSn
                          clear hPn hDn hSn
                          refine lv_istore (lv' := [(11, .int r_19), (10, .int co), (9, .int r_14), (8, .int my), (7, .int nu2), (6, .int le2), (5, .int bc2), (4, .int bn2), (3, .int be2), (0, .ref oM), (1, .int n), (2, .int gi)]) hx hb dX12_mend_115 hl (by decide) rfl (fun ls hl => ?_)
                          refine lv_iload_n hx hb dX12_mend_117 rfl (lv_at hl 8 rfl) ?_
                          refine lv_iconst (v := (-1)) hx hb dX12_mend_118 (by decide) ?_
                          refine lv_icmp_eq (tgt := 129) hx hb dX12_mend_119 (by decide) (fun c_20 => ?_) (fun c_20 => ?_)
                          · have tc_20 : be2.toInt = (-1) := v_eq c_20
                            refine lv_iload hx hb dX12_mend_129 (lv_at hl 4 rfl) ?_
                            refine lv_istore_n (lv' := [(3, .int nu2), (11, .int r_19), (10, .int co), (9, .int r_14), (8, .int my), (7, .int nu2), (6, .int le2), (5, .int bc2), (4, .int bn2), (0, .ref oM), (1, .int n), (2, .int gi)]) hx hb dX12_mend_131 rfl hl (by decide) rfl (fun ls hl => ?_)
                            refine lv_iload hx hb dX12_mend_132 (lv_at hl 4 rfl) ?_
                            refine lv_istore (lv' := [(4, .int my), (3, .int nu2), (11, .int r_19), (10, .int co), (9, .int r_14), (8, .int my), (7, .int nu2), (6, .int le2), (5, .int bc2), (0, .ref oM), (1, .int n), (2, .int gi)]) hx hb dX12_mend_134 hl (by decide) rfl (fun ls hl => ?_)
                            refine lv_iload hx hb dX12_mend_136 (lv_at hl 3 rfl) ?_
                            refine lv_istore (lv' := [(5, .int co), (4, .int my), (3, .int nu2), (11, .int r_19), (10, .int co), (9, .int r_14), (8, .int my), (7, .int nu2), (6, .int le2), (0, .ref oM), (1, .int n), (2, .int gi)]) hx hb dX12_mend_138 hl (by decide) rfl (fun ls hl => ?_)
                            refine lv_iload hx hb dX12_mend_140 (lv_at hl 3 rfl) ?_
                            refine lv_istore (lv' := [(6, .int r_19), (5, .int co), (4, .int my), (3, .int nu2), (11, .int r_19), (10, .int co), (9, .int r_14), (8, .int my), (7, .int nu2), (0, .ref oM), (1, .int n), (2, .int gi)]) hx hb dX12_mend_142 hl (by decide) rfl (fun ls hl => ?_)
                            obtain ⟨x_21, ex_21⟩ : ∃ y : Int32, y = nu2 + 1 := ⟨_, rfl⟩
                            have tx_21 : x_21.toInt = nu2.toInt + 1 := v_addR (l2 := 1) (h2 := 1) ex_21 g_nu2 (by decide) (by decide) (by decide)
                            refine lv_iinc (v := x_21) (lv' := [(7, .int x_21), (6, .int r_19), (5, .int co), (4, .int my), (3, .int nu2), (11, .int r_19), (10, .int co), (9, .int r_14), (8, .int my), (0, .ref oM), (1, .int n), (2, .int gi)]) hx hb dX12_mend_144 hl (k := 8) rfl (by rw [ex_21]; rfl) (by decide) rfl (fun ls hl => ?_)
                            obtain ⟨x_22, ex_22⟩ : ∃ y : Int32, y = co + 1 := ⟨_, rfl⟩
                            have tx_22 : x_22.toInt = co.toInt + 1 := v_add ex_22 (by show -2147483648 ≤ co.toInt + 1; omega) (by show co.toInt + 1 < 2147483648; omega)
                            refine lv_iinc (v := x_22) (lv' := [(10, .int x_22), (7, .int x_21), (6, .int r_19), (5, .int co), (4, .int my), (3, .int nu2), (11, .int r_19), (9, .int r_14), (8, .int my), (0, .ref oM), (1, .int n), (2, .int gi)]) hx hb dX12_mend_147 hl (k := 6) rfl (by rw [ex_22]; rfl) (by decide) rfl (fun ls hl => ?_)
                            refine lv_goto (tgt := 81) hx hb dX12_mend_150 (by decide) ?_
                            exact ih_81 nu2 my co r_19 x_21 x_22 zn_17 zd_17 zm_17 zl_17 zk_17 eY_17 eE_17 eW_17 eO_17 _ _ _ (ms_lt hm_81 (by show ((r_14.toInt - x_22.toInt : Int)) < r_14.toInt - co.toInt; omega) (by show (0 : Int) < r_14.toInt - co.toInt; omega)) (v_rr g_nu2 (by decide) (by decide)) (by show 0 ≤ my.toInt ∧ my.toInt ≤ 3; omega) (by show 0 ≤ co.toInt ∧ co.toInt ≤ 216; omega) (hf19_0) (by show 0 ≤ x_21.toInt ∧ x_21.toInt ≤ 258; omega) (by show 0 ≤ x_22.toInt ∧ x_22.toInt ≤ r_14.toInt; omega) (hf17_0) (hf17_2) (hf17_4) (hf17_1) (hf17_3) (hf17_5) (hf17_6) (by show nu2.toInt = -1 ∨ 1 ≤ zh.toInt; omega) (by show x_21.toInt ≤ (roff zh.toNatClampNeg my.toNatClampNeg : Int) + x_22.toInt; omega) (fun R1 R2 R3 hR => MIq_w (hmi R1 R2 R3 hR) rfl (bd_ge hU hR rfl hs3 hx9 hf17_8 (by omega) (by omega) (by omega) (by omega) (by omega) hf19_1) (by rw [ix_eq (x := x_22) (N := co.toNatClampNeg + 1) (by omega)]; omega) (by omega) (by omega) (by omega) (by omega) (by omega) (by omega) rfl (by omega) (by omega)) (hP.sub [9, 0, 1, 2, 3, 13, 4, 5, 6, 7, 8, 10, 11, 12] rfl) (hD.sub [9, 0, 1, 2, 3, 13, 4, 5, 6, 7, 8, 10, 11, 12] (by decide +kernel) rfl) hS (lv_sub hl [0, 7, 8, 1, 2, 3, 4, 5, 9, 10, 11] rfl)
                          · have tc_20 : ¬ be2.toInt = (-1) := v_ne c_20
                            refine lv_iload hx hb dX12_mend_122 (lv_at hl 0 rfl) ?_
                            refine lv_iload hx hb dX12_mend_124 (lv_at hl 5 rfl) ?_
                            refine lv_icmp_ge (tgt := 144) hx hb dX12_mend_126 (by decide) (fun c_23 => ?_) (fun c_23 => ?_)
                            · have tc_23 : le2.toInt ≤ r_19.toInt := v_le c_23
                              obtain ⟨x_24, ex_24⟩ : ∃ y : Int32, y = nu2 + 1 := ⟨_, rfl⟩
                              have tx_24 : x_24.toInt = nu2.toInt + 1 := v_addR (l2 := 1) (h2 := 1) ex_24 g_nu2 (by decide) (by decide) (by decide)
                              refine lv_iinc (v := x_24) (lv' := [(7, .int x_24), (11, .int r_19), (10, .int co), (9, .int r_14), (8, .int my), (6, .int le2), (5, .int bc2), (4, .int bn2), (3, .int be2), (0, .ref oM), (1, .int n), (2, .int gi)]) hx hb dX12_mend_144 hl (k := 4) rfl (by rw [ex_24]; rfl) (by decide) rfl (fun ls hl => ?_)
                              obtain ⟨x_25, ex_25⟩ : ∃ y : Int32, y = co + 1 := ⟨_, rfl⟩
                              have tx_25 : x_25.toInt = co.toInt + 1 := v_add ex_25 (by show -2147483648 ≤ co.toInt + 1; omega) (by show co.toInt + 1 < 2147483648; omega)
                              refine lv_iinc (v := x_25) (lv' := [(10, .int x_25), (7, .int x_24), (11, .int r_19), (9, .int r_14), (8, .int my), (6, .int le2), (5, .int bc2), (4, .int bn2), (3, .int be2), (0, .ref oM), (1, .int n), (2, .int gi)]) hx hb dX12_mend_147 hl (k := 2) rfl (by rw [ex_25]; rfl) (by decide) rfl (fun ls hl => ?_)
                              refine lv_goto (tgt := 81) hx hb dX12_mend_150 (by decide) ?_
                              exact ih_81 be2 bn2 bc2 le2 x_24 x_25 zn_17 zd_17 zm_17 zl_17 zk_17 eY_17 eE_17 eW_17 eO_17 _ _ _ (ms_lt hm_81 (by show ((r_14.toInt - x_25.toInt : Int)) < r_14.toInt - co.toInt; omega) (by show (0 : Int) < r_14.toInt - co.toInt; omega)) (g_be2) (g_bn2) (g_bc2) (g_le2) (by show 0 ≤ x_24.toInt ∧ x_24.toInt ≤ 258; omega) (by show 0 ≤ x_25.toInt ∧ x_25.toInt ≤ r_14.toInt; omega) (hf17_0) (hf17_2) (hf17_4) (hf17_1) (hf17_3) (hf17_5) (hf17_6) (by show be2.toInt = -1 ∨ 1 ≤ zh.toInt; omega) (by show x_24.toInt ≤ (roff zh.toNatClampNeg my.toNatClampNeg : Int) + x_25.toInt; omega) (fun R1 R2 R3 hR => MIq_k (hmi R1 R2 R3 hR) (bd_ge hU hR rfl hs3 hx9 hf17_8 (by omega) (by omega) (by omega) (by omega) (by omega) hf19_1) (by rw [ix_eq (x := x_25) (N := co.toNatClampNeg + 1) (by omega)]; omega) (by omega) (by omega) (by omega)) (hP.sub [9, 0, 1, 2, 3, 13, 4, 5, 6, 7, 8, 10, 11, 12] rfl) (hD.sub [9, 0, 1, 2, 3, 13, 4, 5, 6, 7, 8, 10, 11, 12] (by decide +kernel) rfl) hS (lv_sub hl [0, 3, 4, 1, 5, 6, 7, 8, 9, 10, 11] rfl)
                            · have tc_23 : r_19.toInt < le2.toInt := v_nle c_23
                              refine lv_iload hx hb dX12_mend_129 (lv_at hl 4 rfl) ?_
                              refine lv_istore_n (lv' := [(3, .int nu2), (11, .int r_19), (10, .int co), (9, .int r_14), (8, .int my), (7, .int nu2), (6, .int le2), (5, .int bc2), (4, .int bn2), (0, .ref oM), (1, .int n), (2, .int gi)]) hx hb dX12_mend_131 rfl hl (by decide) rfl (fun ls hl => ?_)
                              refine lv_iload hx hb dX12_mend_132 (lv_at hl 4 rfl) ?_
                              refine lv_istore (lv' := [(4, .int my), (3, .int nu2), (11, .int r_19), (10, .int co), (9, .int r_14), (8, .int my), (7, .int nu2), (6, .int le2), (5, .int bc2), (0, .ref oM), (1, .int n), (2, .int gi)]) hx hb dX12_mend_134 hl (by decide) rfl (fun ls hl => ?_)
                              refine lv_iload hx hb dX12_mend_136 (lv_at hl 3 rfl) ?_
                              refine lv_istore (lv' := [(5, .int co), (4, .int my), (3, .int nu2), (11, .int r_19), (10, .int co), (9, .int r_14), (8, .int my), (7, .int nu2), (6, .int le2), (0, .ref oM), (1, .int n), (2, .int gi)]) hx hb dX12_mend_138 hl (by decide) rfl (fun ls hl => ?_)
                              refine lv_iload hx hb dX12_mend_140 (lv_at hl 3 rfl) ?_
                              refine lv_istore (lv' := [(6, .int r_19), (5, .int co), (4, .int my), (3, .int nu2), (11, .int r_19), (10, .int co), (9, .int r_14), (8, .int my), (7, .int nu2), (0, .ref oM), (1, .int n), (2, .int gi)]) hx hb dX12_mend_142 hl (by decide) rfl (fun ls hl => ?_)
                              obtain ⟨x_26, ex_26⟩ : ∃ y : Int32, y = nu2 + 1 := ⟨_, rfl⟩
                              have tx_26 : x_26.toInt = nu2.toInt + 1 := v_addR (l2 := 1) (h2 := 1) ex_26 g_nu2 (by decide) (by decide) (by decide)
                              refine lv_iinc (v := x_26) (lv' := [(7, .int x_26), (6, .int r_19), (5, .int co), (4, .int my), (3, .int nu2), (11, .int r_19), (10, .int co), (9, .int r_14), (8, .int my), (0, .ref oM), (1, .int n), (2, .int gi)]) hx hb dX12_mend_144 hl (k := 8) rfl (by rw [ex_26]; rfl) (by decide) rfl (fun ls hl => ?_)
                              obtain ⟨x_27, ex_27⟩ : ∃ y : Int32, y = co + 1 := ⟨_, rfl⟩
                              have tx_27 : x_27.toInt = co.toInt + 1 := v_add ex_27 (by show -2147483648 ≤ co.toInt + 1; omega) (by show co.toInt + 1 < 2147483648; omega)
                              refine lv_iinc (v := x_27) (lv' := [(10, .int x_27), (7, .int x_26), (6, .int r_19), (5, .int co), (4, .int my), (3, .int nu2), (11, .int r_19), (9, .int r_14), (8, .int my), (0, .ref oM), (1, .int n), (2, .int gi)]) hx hb dX12_mend_147 hl (k := 6) rfl (by rw [ex_27]; rfl) (by decide) rfl (fun ls hl => ?_)
                              refine lv_goto (tgt := 81) hx hb dX12_mend_150 (by decide) ?_
                              exact ih_81 nu2 my co r_19 x_26 x_27 zn_17 zd_17 zm_17 zl_17 zk_17 eY_17 eE_17 eW_17 eO_17 _ _ _ (ms_lt hm_81 (by show ((r_14.toInt - x_27.toInt : Int)) < r_14.toInt - co.toInt; omega) (by show (0 : Int) < r_14.toInt - co.toInt; omega)) (v_rr g_nu2 (by decide) (by decide)) (by show 0 ≤ my.toInt ∧ my.toInt ≤ 3; omega) (by show 0 ≤ co.toInt ∧ co.toInt ≤ 216; omega) (hf19_0) (by show 0 ≤ x_26.toInt ∧ x_26.toInt ≤ 258; omega) (by show 0 ≤ x_27.toInt ∧ x_27.toInt ≤ r_14.toInt; omega) (hf17_0) (hf17_2) (hf17_4) (hf17_1) (hf17_3) (hf17_5) (hf17_6) (by show nu2.toInt = -1 ∨ 1 ≤ zh.toInt; omega) (by show x_26.toInt ≤ (roff zh.toNatClampNeg my.toNatClampNeg : Int) + x_27.toInt; omega) (fun R1 R2 R3 hR => MIq_w (hmi R1 R2 R3 hR) rfl (bd_ge hU hR rfl hs3 hx9 hf17_8 (by omega) (by omega) (by omega) (by omega) (by omega) hf19_1) (by rw [ix_eq (x := x_27) (N := co.toNatClampNeg + 1) (by omega)]; omega) (by omega) (by omega) (by omega) (by omega) (by omega) (by omega) rfl (by omega) (by omega)) (hP.sub [9, 0, 1, 2, 3, 13, 4, 5, 6, 7, 8, 10, 11, 12] rfl) (hD.sub [9, 0, 1, 2, 3, 13, 4, 5, 6, 7, 8, 10, 11, 12] (by decide +kernel) rfl) hS (lv_sub hl [0, 7, 8, 1, 2, 3, 4, 5, 9, 10, 11] rfl)
                        · have tc_18 : r_17.toInt = 0 := v_eq c_18
                          refine lv_goto (tgt := 147) hx hb dX12_mend_99 (by decide) ?_
                          obtain ⟨x_28, ex_28⟩ : ∃ y : Int32, y = co + 1 := ⟨_, rfl⟩
                          have tx_28 : x_28.toInt = co.toInt + 1 := v_add ex_28 (by show -2147483648 ≤ co.toInt + 1; omega) (by show co.toInt + 1 < 2147483648; omega)
                          refine lv_iinc (v := x_28) (lv' := [(10, .int x_28), (9, .int r_14), (8, .int my), (7, .int nu2), (6, .int le2), (5, .int bc2), (4, .int bn2), (3, .int be2), (0, .ref oM), (1, .int n), (2, .int gi)]) hx hb dX12_mend_147 hl (k := 0) rfl (by rw [ex_28]; rfl) (by decide) rfl (fun ls hl => ?_)
                          refine lv_goto (tgt := 81) hx hb dX12_mend_150 (by decide) ?_
                          exact ih_81 be2 bn2 bc2 le2 nu2 x_28 zn_17 zd_17 zm_17 zl_17 zk_17 eY_17 eE_17 eW_17 eO_17 _ _ _ (ms_lt hm_81 (by show ((r_14.toInt - x_28.toInt : Int)) < r_14.toInt - co.toInt; omega) (by show (0 : Int) < r_14.toInt - co.toInt; omega)) (g_be2) (g_bn2) (g_bc2) (g_le2) (g_nu2) (by show 0 ≤ x_28.toInt ∧ x_28.toInt ≤ r_14.toInt; omega) (hf17_0) (hf17_2) (hf17_4) (hf17_1) (hf17_3) (hf17_5) (hf17_6) (by show be2.toInt = -1 ∨ 1 ≤ zh.toInt; omega) (by show nu2.toInt ≤ (roff zh.toNatClampNeg my.toNatClampNeg : Int) + x_28.toInt; omega) (fun R1 R2 R3 hR => MIq_n (hmi R1 R2 R3 hR) (bd_gn hR rfl hf17_8 (by omega) (by omega) (by omega) (by omega)) (by rw [ix_eq (x := x_28) (N := co.toNatClampNeg + 1) (by omega)]; omega)) (hP.sub [3, 4, 5, 6, 7, 8, 9, 10, 11, 12, 13, 0, 1, 2] rfl) (hD.sub [3, 4, 5, 6, 7, 8, 9, 10, 11, 12, 13, 0, 1, 2] (by decide +kernel) rfl) hS (lv_sub hl [0, 1, 2, 3, 4, 5, 6, 7, 8, 9, 10] rfl)
                  exact LOOP_81 _ be bn bc le_ nu_ 0 zna zda zma zla zka eYa eEa eWa eOa _ _ _ (ms_s _) (g_be) (g_bn) (g_bc) (g_le_) (g_nu_) (by show 0 ≤ (0 : Int) ∧ (0 : Int) ≤ r_14.toInt; omega) (g_zna) (g_zma) (g_zka) (g_eYa) (g_eEa) (g_eWa) (g_eOa) (by show be.toInt = -1 ∨ 1 ≤ zh.toInt; omega) (by show nu_.toInt ≤ (roff zh.toNatClampNeg my.toNatClampNeg : Int) + 0; omega) (fun R1 R2 R3 hR => MIq_e (hmo R1 R2 R3 hR) rfl) hP hD hS (lv_sub hl [0, 1, 2, 3, 4, 5, 6, 7, 8, 9, 10] rfl)
                · have tc_13 : zh.toInt = 0 := v_eq c_13
                  refine lv_iconst (v := 0) hx hb dX12_mend_63 (by decide) ?_
                  refine lv_goto (tgt := 76) hx hb dX12_mend_64 (by decide) ?_
                  refine lv_istore (lv' := [(9, .int 0), (8, .int my), (7, .int nu_), (6, .int le_), (5, .int bc), (4, .int bn), (3, .int be), (0, .ref oM), (1, .int n), (2, .int gi)]) hx hb dX12_mend_76 hl (by decide) rfl (fun ls hl => ?_)
                  refine lv_iconst (v := 0) hx hb dX12_mend_78 (by decide) ?_
                  refine lv_istore (lv' := [(10, .int 0), (9, .int 0), (8, .int my), (7, .int nu_), (6, .int le_), (5, .int bc), (4, .int bn), (3, .int be), (0, .ref oM), (1, .int n), (2, .int gi)]) hx hb dX12_mend_79 hl (by decide) rfl (fun ls hl => ?_)
                  have LOOP_81 : ∀ (k_81 : Nat) (be2 : Int32) (bn2 : Int32) (bc2 : Int32) (le2 : Int32) (nu2 : Int32) (co : Int32) (znb : Int32) (zdb : Int32) (zmb : Int32) (zlb : Int32) (zkb : Int32) (eYb : Nat → Int32) (eEb : Nat → Int32) (eWb : Nat → Int32) (eOb : Nat → Int32) (H : Heap) (locs : List Loc) (ls : Array Slot), MSd (0 - co.toInt : Int) k_81 → (-1 ≤ be2.toInt ∧ be2.toInt ≤ 258) → (0 ≤ bn2.toInt ∧ bn2.toInt ≤ 3) → (0 ≤ bc2.toInt ∧ bc2.toInt ≤ 216) → (0 ≤ le2.toInt ∧ le2.toInt ≤ 61000) → (0 ≤ nu2.toInt ∧ nu2.toInt ≤ 258) → (0 ≤ co.toInt ∧ co.toInt ≤ 0) → (0 ≤ znb.toInt ∧ znb.toInt ≤ 2600) → (0 ≤ zmb.toInt ∧ zmb.toInt ≤ 2600) → (0 ≤ zkb.toInt ∧ zkb.toInt ≤ 300) → (rg 0 255 eYb) → (rg 0 65535 eEb) → (rg 0 65535 eWb) → (rg 0 65535 eOb) → (be2.toInt = -1 ∨ 1 ≤ zh.toInt) → (nu2.toInt ≤ (roff zh.toNatClampNeg my.toNatClampNeg : Int) + co.toInt) → (∀ R1 R2 R3 : Nat → Int32, rGE (UR e1 e2 eL eB) (tcR zc.toInt ec1 ec2 ec3) zh.toNatClampNeg (eS 0).toInt.toNat eX n.toInt R1 R2 R3 → MIq R1 zh.toNatClampNeg n.toInt (roff zh.toNatClampNeg my.toNatClampNeg + co.toNatClampNeg) be2.toInt bn2.toInt bc2.toInt le2.toInt nu2.toInt) → va_P (dC, dI) vwCl [(oM, .inr (12, [.ref mT, .int zt, .ref mS, .ref mX, .int zp, .int zf, .ref mL, .ref mB, .ref mD, .ref m1, .ref m2, .int zh, .ref mR, .int zr, .ref x1, .ref x2, .ref x3, .int zc, .ref mH, .int zy, .int za, .int zb, .int zs, .int zq, .int (-1), .int 0, .ref mY, .int znb, .ref mE, .int zmb, .int zlb, .ref mW, .int zkb, .ref mO, .int zdb, .ref y1, .ref y2, .ref y3, .ref y4, .ref mZ])), (mY, .inl (cI, 2600, .inl eYb)), (mB, .inl (cS, 131072, .inl eB)), (mL, .inl (cI, 512, .inl eL)), (mE, .inl (cI, 2600, .inl eEb)), (mW, .inl (cI, 300, .inl eWb)), (mO, .inl (cI, 300, .inl eOb)), (mS, .inl (cI, 21, .inl eS)), (mX, .inl (cI, 6300, .inl eX)), (m1, .inl (cI, 6, .inl e1)), (m2, .inl (cI, 6, .inl e2)), (x1, .inl (cI, 300, .inl ec1)), (x2, .inl (cI, 300, .inl ec2)), (x3, .inl (cI, 300, .inl ec3))] H → va_D A [(oM, .inr (12, [.ref mT, .int zt, .ref mS, .ref mX, .int zp, .int zf, .ref mL, .ref mB, .ref mD, .ref m1, .ref m2, .int zh, .ref mR, .int zr, .ref x1, .ref x2, .ref x3, .int zc, .ref mH, .int zy, .int za, .int zb, .int zs, .int zq, .int (-1), .int 0, .ref mY, .int znb, .ref mE, .int zmb, .int zlb, .ref mW, .int zkb, .ref mO, .int zdb, .ref y1, .ref y2, .ref y3, .ref y4, .ref mZ])), (mY, .inl (cI, 2600, .inl eYb)), (mB, .inl (cS, 131072, .inl eB)), (mL, .inl (cI, 512, .inl eL)), (mE, .inl (cI, 2600, .inl eEb)), (mW, .inl (cI, 300, .inl eWb)), (mO, .inl (cI, 300, .inl eOb)), (mS, .inl (cI, 21, .inl eS)), (mX, .inl (cI, 6300, .inl eX)), (m1, .inl (cI, 6, .inl e1)), (m2, .inl (cI, 6, .inl e2)), (x1, .inl (cI, 300, .inl ec1)), (x2, .inl (cI, 300, .inl ec2)), (x3, .inl (cI, 300, .inl ec3))] → va_S A s.heap H locs → lv_has ls 12 [(10, .int co), (9, .int 0), (8, .int my), (7, .int nu2), (6, .int le2), (5, .int bc2), (4, .int bn2), (3, .int be2), (0, .ref oM), (1, .int n), (2, .int gi)] → W p l e (headSpec wsX12_mend ({ frames := 6, cells := 0, slots := 0, locals := 145 } : Room)).room s m ([.ref oM, .int n, .int gi] : List Value).toArray below meth c H locs 0 0 (MQ below QQ ([.ref oM, .int n, .int gi] : List Value).toArray s 0 0 A) (F0 m 81 ls []) := by
                    clear hP hD hS hl
                    try (clear g_zna g_zma g_zka g_zs hzs)
                    intro k_81
                    induction k_81 with
                    | zero =>
                      intro be2 bn2 bc2 le2 nu2 co znb zdb zmb zlb zkb eYb eEb eWb eOb H locs ls hm_81 g_be2 g_bn2 g_bc2 g_le2 g_nu2 g_co g_znb g_zmb g_zkb g_eYb g_eEb g_eWb g_eOb hbz hn2 hmi hP hD hS hl
                      exact ms_0 hm_81
                    | succ k_81 ih_81 =>
                      intro be2 bn2 bc2 le2 nu2 co znb zdb zmb zlb zkb eYb eEb eWb eOb H locs ls hm_81 g_be2 g_bn2 g_bc2 g_le2 g_nu2 g_co g_znb g_zmb g_zkb g_eYb g_eEb g_eWb g_eOb hbz hn2 hmi hP hD hS hl
                      refine lv_iload hx hb dX12_mend_81 (lv_at hl 0 rfl) ?_
                      refine lv_iload hx hb dX12_mend_83 (lv_at hl 1 rfl) ?_
                      refine lv_icmp_ge (tgt := 153) hx hb dX12_mend_85 (by decide) (fun c_29 => ?_) (fun c_29 => by exfalso; have tc_29 : co.toInt < 0 := v_nle c_29; omega)
                      have tc_29 : 0 ≤ co.toInt := v_le c_29
                      obtain ⟨x_30, ex_30⟩ : ∃ y : Int32, y = my + 1 := ⟨_, rfl⟩
                      have tx_30 : x_30.toInt = my.toInt + 1 := v_addR (l2 := 1) (h2 := 1) ex_30 g_my (by decide) (by decide) (by decide)
                      refine lv_iinc (v := x_30) (lv' := [(8, .int x_30), (10, .int co), (9, .int 0), (7, .int nu2), (6, .int le2), (5, .int bc2), (4, .int bn2), (3, .int be2), (0, .ref oM), (1, .int n), (2, .int gi)]) hx hb dX12_mend_153 hl (k := 2) rfl (by rw [ex_30]; rfl) (by decide) rfl (fun ls hl => ?_)
                      refine lv_goto (tgt := 50) hx hb dX12_mend_156 (by decide) ?_
                      exact ih_50 be2 bn2 bc2 le2 nu2 x_30 znb zdb zmb zlb zkb eYb eEb eWb eOb _ _ _ (ms_lt hm_50 (by show ((4 - x_30.toInt : Int)) < 4 - my.toInt; omega) (by show (0 : Int) < 4 - my.toInt; omega)) (g_be2) (g_bn2) (g_bc2) (g_le2) (g_nu2) (by show 1 ≤ x_30.toInt ∧ x_30.toInt ≤ 4; omega) (g_znb) (g_zmb) (g_zkb) (g_eYb) (g_eEb) (g_eWb) (g_eOb) (by show be2.toInt = -1 ∨ 1 ≤ zh.toInt; omega) (by show x_30.toInt ≤ n.toInt + 1; omega) (by rw [ix_eq (x := x_30) (N := my.toNatClampNeg + 1) (by omega), hmy3]; have cco := v_clamp (x := co) (by omega); have hal9 := (show ((0 : Int32).toInt) = (rpz zh.toNatClampNeg my.toNatClampNeg : Int) from (by rw [ix_eq (x := zh) (N := 0) (by omega), rpz_0 (by omega)]; rfl)); omega) (fun R1 R2 R3 hR => MIq_e (hmi R1 R2 R3 hR) (by rw [ix_eq (x := x_30) (N := my.toNatClampNeg + 1) (by omega), hmy3]; have cco := v_clamp (x := co) (by omega); have hal9 := (show ((0 : Int32).toInt) = (rpz zh.toNatClampNeg my.toNatClampNeg : Int) from (by rw [ix_eq (x := zh) (N := 0) (by omega), rpz_0 (by omega)]; rfl)); omega)) hP hD hS (lv_sub hl [0, 3, 4, 5, 6, 7, 8, 9, 10] rfl)
                  exact LOOP_81 _ be bn bc le_ nu_ 0 zna zda zma zla zka eYa eEa eWa eOa _ _ _ (ms_s _) (g_be) (g_bn) (g_bc) (g_le_) (g_nu_) (by show 0 ≤ (0 : Int) ∧ (0 : Int) ≤ 0; omega) (g_zna) (g_zma) (g_zka) (g_eYa) (g_eEa) (g_eWa) (g_eOa) (by show be.toInt = -1 ∨ 1 ≤ zh.toInt; omega) (by show nu_.toInt ≤ (roff zh.toNatClampNeg my.toNatClampNeg : Int) + 0; omega) (fun R1 R2 R3 hR => MIq_e (hmo R1 R2 R3 hR) rfl) hP hD hS (lv_sub hl [0, 1, 2, 3, 4, 5, 6, 7, 8, 9, 10] rfl)
          exact LOOP_50 _ (-1) 0 0 0 0 1 zn zd zm zl zk eY eE eW eO _ _ _ (ms_s _) (by decide) (by decide) (by decide) (by decide) (by decide) (by decide) (g_zn) (g_zm) (g_zk) (g_eY) (g_eE) (g_eW) (g_eO) (Or.inl rfl) (by show 1 ≤ n.toInt + 1; omega) (by show (0 : Int) ≤ _; omega) (fun R1 R2 R3 hR => MIq_0 rfl rfl rfl) hP hD hS (lv_sub hl [0, 1, 2, 3, 4, 5, 6, 7, 8] rfl)
        · have tc_4 : 100000 < gi.toInt := v_nle c_4
          refine lv_iconst (v := (-1)) hx hb dX12_mend_31 (by decide) ?_
          exact kl_i (v := (-1)) hQQ hx hb hr hlocks hS dX12_mend_32 ⟨0, (-1), zn, eY, zd, zm, zl, eE, zk, eW, eO, zp, zf, zs, eS, eX, ⟨hP, hD⟩, g_zn, g_eY, g_zm, g_eE, g_zk, g_eW, g_eO, g_zp, g_zf, g_zs, g_eS, g_eX, by show zs.toInt ≤ zs.toInt + 1 ∧ zs.toInt ≤ zs.toInt; omega, by first | exact Or.inl (by omega) | exact Or.inr ⟨rfl, rfl, rfl⟩, fun R1 R2 R3 hR => OR_n rfl (fun c fm v h => absurd h.1 (by omega))⟩

end

/-! 59w.parts -/
section
/-! reading on as bytes grow; spans; the best parting -/
theorem bt_up {g g' : Nat → Int32} {n n' : Int} {k : Nat} (hg : ∀ j : Nat, (j : Int) < n → g j = g' j) (hn : n ≤ n') (hk : (k : Int) < n) : bt g' n' k = bt g n k := by
  rw [bt_in hk, bt_in (by omega), hg k hk]
theorem bt_lt {g : Nat → Int32} {n : Int} {k : Nat} (h : 0 ≤ bt g n k) : (k : Int) < n := by
  rcases bt_c g n k with w | w
  · exact w
  · omega
/-- what bytes tell a letter by, they tell it by when more follow -/
theorem Dec_up {cd : Int32} {L4 L5 g g' : Nat → Int32} {n n' : Int} {p l : Nat} {x : Int32} (hg : ∀ j : Nat, (j : Int) < n → g j = g' j) (hn : n ≤ n') (h : Dec cd L4 L5 g n p l x) : Dec cd L4 L5 g' n' p l x := by
  have hp := Dec_pos h
  obtain ⟨h0, ⟨a1, a2, a3⟩ | ⟨a1, a2⟩ | ⟨a1, a2⟩⟩ := h
  · exact ⟨by omega, Or.inl ⟨a1, by rw [← hg p h0]; exact a2, a3⟩⟩
  · refine ⟨by omega, Or.inr (Or.inl ⟨a1, ?_⟩)⟩
    unfold DMa at a2 ⊢
    have e0 := bt_up (k := p) hg hn (by omega)
    have e1 := bt_up (k := p + 1) hg hn (by unfold DM at a2; omega)
    rw [e0, e1]
    by_cases w : (p : Int) + 2 < n
    · rw [bt_up (k := p + 2) hg hn (by omega)]; exact a2
    · have e2 : bt g n (p + 2) = -1 := bt_out (by omega)
      rw [e2] at a2
      unfold DM at a2 ⊢
      omega
  · refine ⟨by omega, Or.inr (Or.inr ⟨a1, ?_⟩)⟩
    unfold DNa at a2 ⊢
    have e0 := bt_up (k := p) hg hn (by omega)
    have u : ∀ k : Nat, (k : Int) < n → bt g' n' k = bt g n k := fun k hk => bt_up hg hn hk
    have o : ∀ k : Nat, n ≤ (k : Int) → bt g n k = -1 := fun k hk => bt_out hk
    unfold DN at a2 ⊢
    rw [e0]
    have b1 := bt_lt (g := g) (n := n) (k := p + 1) (by omega)
    have b2 := bt_lt (g := g) (n := n) (k := p + 2) (by omega)
    have b3 := bt_lt (g := g) (n := n) (k := p + 3) (by omega)
    have b4 := bt_lt (g := g) (n := n) (k := p + 4) (by omega)
    rw [u _ b1, u _ b2, u _ b3, u _ b4]
    by_cases w5 : ((p + 5 : Nat) : Int) < n
    · rw [u _ w5]
      by_cases w6 : ((p + 6 : Nat) : Int) < n
      · rw [u _ w6]
        by_cases w7 : ((p + 7 : Nat) : Int) < n
        · rw [u _ w7]; exact a2
        · have q := o (p + 7) (by omega)
          rw [q] at a2
          omega
      · have q := o (p + 6) (by omega)
        rw [q] at a2
        omega
    · have q := o (p + 5) (by omega)
      rw [q] at a2
      omega
theorem dl_up {cd : Int32} {L4 L5 g g' : Nat → Int32} {n n' : Int} {p : Nat} (hg : ∀ j : Nat, (j : Int) < n → g j = g' j) (hn : n ≤ n') (h : ¬ dl cd L4 L5 g n p = 0) : dl cd L4 L5 g' n' p = dl cd L4 L5 g n p ∧ dx cd L4 L5 g' n' p = dx cd L4 L5 g n p := dl_of (Dec_up hg hn (dl_ex h))
theorem psn_up {D D' : Nat → Nat} {c : Nat} (h : gdD D c) (hD : ∀ p, ¬ D p = 0 → D' p = D p) : ∀ i, i ≤ c → psn D' i = psn D i
  | 0, _ => rfl
  | i + 1, hi => by
    have a := psn_up h hD i (by omega)
    rw [psn, psn, a, hD _ (h i (by omega))]
theorem gd_up {D D' : Nat → Nat} {c : Nat} (h : gdD D c) (hD : ∀ p, ¬ D p = 0 → D' p = D p) : gdD D' c := fun i hi => by
  rw [psn_up h hD i (by omega), hD _ (h i hi)]
  exact h i hi
theorem psn_ge {D : Nat → Nat} {c : Nat} (h : gdD D c) : ∀ i, i ≤ c → i ≤ psn D i
  | 0, _ => Nat.zero_le _
  | i + 1, hi => by
    have a := psn_ge h i (by omega)
    have b := h i (by omega)
    rw [psn]; omega
/-- a Reading: so many letters were read so far -/
def RS (T : Int32 → Int32 → Int32) (re la su le : Int32) (D : Nat → Nat) (X : Nat → Int32) : Prop := ∃ c : Nat, re.toInt = psn D c ∧ gdD D c ∧ le.toInt = c ∧ la = pv (fun i => X (psn D i)) c ∧ su.toInt = cs T (fun i => X (psn D i)) c
theorem RS_0 {T : Int32 → Int32 → Int32} {re la su le : Int32} {D : Nat → Nat} {X : Nat → Int32} (h1 : re.toInt = 0) (h2 : la = 32) (h3 : su.toInt = 0) (h4 : le.toInt = 0) : RS T re la su le D X := ⟨0, by rw [h1]; rfl, fun i hi => absurd hi (Nat.not_lt_zero i), by rw [h4]; rfl, h2, by rw [h3]; rfl⟩
theorem cs_eq {T : Int32 → Int32 → Int32} {f g : Nat → Int32} : ∀ i, (∀ j, j < i → f j = g j) → cs T f i = cs T g i ∧ pv f i = pv g i
  | 0, _ => ⟨rfl, rfl⟩
  | i + 1, h => by
    obtain ⟨a1, a2⟩ := cs_eq (T := T) (f := f) (g := g) i (fun j hj => h j (by omega))
    have e := h i (by omega)
    exact ⟨by rw [cs, cs, a1, a2, e], e⟩
theorem RS_up {T : Int32 → Int32 → Int32} {re la su le : Int32} {D D' : Nat → Nat} {X X' : Nat → Int32} (h : RS T re la su le D X) (hD : ∀ p, ¬ D p = 0 → D' p = D p ∧ X' p = X p) : RS T re la su le D' X' := by
  obtain ⟨c, h1, h2, h3, h4, h5⟩ := h
  have q := psn_up h2 (fun p hp => (hD p hp).1)
  obtain ⟨e1, e2⟩ := cs_eq (T := T) (f := fun i => X (psn D i)) (g := fun i => X' (psn D' i)) c (fun j hj => by
    show X (psn D j) = X' (psn D' j)
    rw [q j (by omega), (hD _ (h2 j hj)).2])
  exact ⟨c, by rw [q c (Nat.le_refl _)]; exact h1, gd_up h2 (fun p hp => (hD p hp).1), h3, by rw [← e2]; exact h4, by rw [← e1]; exact h5⟩
def F_s8 (r re re' la la' su su' le le' : Int32) (T : Int32 → Int32 → Int32) (D : Nat → Nat) (X : Nat → Int32) : Prop := (r = 1 ∧ ¬ D re.toNatClampNeg = 0 ∧ re'.toInt = re.toInt + D re.toNatClampNeg ∧ la' = X re.toNatClampNeg ∧ su'.toInt = su.toInt + cF (T la (X re.toNatClampNeg)) la (X re.toNatClampNeg) ∧ le'.toInt = le.toInt + 1) ∨ (r = 0 ∧ D re.toNatClampNeg = 0 ∧ re' = re ∧ la' = la ∧ su' = su ∧ le' = le)
theorem RS_s {T : Int32 → Int32 → Int32} {r re re' la la' su su' le le' : Int32} {D : Nat → Nat} {X : Nat → Int32} (h : RS T re la su le D X) (hs : F_s8 r re re' la la' su su' le le' T D X) : RS T re' la' su' le' D X := by
  rcases hs with ⟨-, s1, s2, s3, s4, s5⟩ | ⟨-, -, s1, s2, s3, s4⟩
  · obtain ⟨c, h1, h2, h3, h4, h5⟩ := h
    have e : re.toNatClampNeg = psn D c := ix_eq h1
    rw [e] at s1 s2 s3 s4
    refine ⟨c + 1, by rw [psn]; omega, gdD_s h2 s1, by omega, s3, ?_⟩
    rw [cs, ← h4, ← h5]
    exact s4
  · rw [s1, s2, s3, s4]; exact h
theorem RS_b {T : Int32 → Int32 → Int32} {re la su le : Int32} {D : Nat → Nat} {X : Nat → Int32} (h : RS T re la su le D X) : 0 ≤ le.toInt ∧ le.toInt ≤ re.toInt := by
  obtain ⟨c, h1, h2, h3, h4, h5⟩ := h
  have := psn_ge h2 c (Nat.le_refl _)
  omega
/-- the letters of a span, as they are or with harm h undone -/
def SPN (U : Nat → Nat → (Nat → Int32) → Nat → (Nat → Int32) → Prop) (f : Nat → Int32) (i j : Nat) (h : Int) (c : Nat) (f' : Nat → Int32) : Prop := (h = -1 ∧ c = j - i ∧ ∀ k, k < c → f' k = f (i + k)) ∨ (0 ≤ h ∧ U h.toNat (j - i) (fun k => f (i + k)) c f')
/-- a span that may stand first in what lies behind i, with all that it costs -/
def cnd (U : Nat → Nat → (Nat → Int32) → Nat → (Nat → Int32) → Prop) (T : Int32 → Int32 → Int32) (z n : Nat) (f : Nat → Int32) (pr : Int) (C S : Nat → Int32) (i j : Nat) (h s sp : Int) : Prop := i < j ∧ j ≤ n ∧ -1 ≤ h ∧ h < z ∧ (∃ (c : Nat) (f' : Nat → Int32), SPN U f i j h c f' ∧ s = cT T c f' + (if j < n then pr + (C j).toInt else 0)) ∧ sp = 1 + (if j < n then (S j).toInt else 0)
def LE4 (c s e h c' s' e' h' : Int) : Prop := c < c' ∨ (c = c' ∧ (s < s' ∨ (s = s' ∧ (e' < e ∨ (e = e' ∧ h ≤ h')))))
/-- the best of those in A that stand first at i -/
def bst (U : Nat → Nat → (Nat → Int32) → Nat → (Nat → Int32) → Prop) (T : Int32 → Int32 → Int32) (z n : Nat) (f : Nat → Int32) (pr : Int) (C S : Nat → Int32) (A : Nat → Int → Prop) (i e : Nat) (h s sp : Int) : Prop := cnd U T z n f pr C S i e h s sp ∧ A e h ∧ ∀ (j : Nat) (h' s' sp' : Int), A j h' → cnd U T z n f pr C S i j h' s' sp' → LE4 s sp e h s' sp' j h'
/-- at each place from m on the best stands -/
def PBK (U : Nat → Nat → (Nat → Int32) → Nat → (Nat → Int32) → Prop) (T : Int32 → Int32 → Int32) (z n : Nat) (f : Nat → Int32) (pr : Int) (m : Int) (C S E H : Nat → Int32) : Prop := ∀ i : Nat, m ≤ i → i < n → 0 ≤ (E i).toInt ∧ bst U T z n f pr C S (fun _ _ => True) i (E i).toInt.toNat (H i).toInt (C i).toInt (S i).toInt
section PRT
variable {U V : Nat → Nat → (Nat → Int32) → Nat → (Nat → Int32) → Prop} {T T' : Int32 → Int32 → Int32}
theorem cnd_cg {z n : Nat} {f : Nat → Int32} {pr : Int} {C S C' S' : Nat → Int32} {i j : Nat} {h s sp : Int} (hC : ∀ k, i < k → k < n → C k = C' k ∧ S k = S' k) (a : cnd U T z n f pr C S i j h s sp) : cnd U T z n f pr C' S' i j h s sp := by
  obtain ⟨a1, a2, a3, a4, ⟨c, f', a5, a6⟩, a7⟩ := a
  by_cases w : j < n
  · obtain ⟨q1, q2⟩ := hC j a1 w
    rw [if_pos w] at a6 a7
    exact ⟨a1, a2, a3, a4, ⟨c, f', a5, by rw [if_pos w, ← q1]; exact a6⟩, by rw [if_pos w, ← q2]; exact a7⟩
  · rw [if_neg w] at a6 a7
    exact ⟨a1, a2, a3, a4, ⟨c, f', a5, by rw [if_neg w]; exact a6⟩, by rw [if_neg w]; exact a7⟩
theorem LE4_as {c s e h c' s' e' h' : Int} (a : LE4 c s e h c' s' e' h') (b : LE4 c' s' e' h' c s e h) : c = c' ∧ s = s' ∧ e = e' ∧ h = h' := by
  unfold LE4 at a b
  omega
/-- there is one best parting -/
theorem PBK_u {z n : Nat} {f : Nat → Int32} {pr m : Int} {C S E H C' S' E' H' : Nat → Int32} (a : PBK U T z n f pr m C S E H) (b : PBK U T z n f pr m C' S' E' H') : ∀ d i : Nat, i + d = n → m ≤ i → ∀ k, i ≤ k → k < n → C k = C' k ∧ S k = S' k ∧ E k = E' k ∧ H k = H' k := by
  intro d
  induction d with
  | zero => intro i h1 h2 k h3 h4; omega
  | succ d ih =>
    intro i h1 h2 k h3 h4
    have up := ih (i + 1) (by omega) (by omega)
    by_cases w : k = i
    · subst w
      obtain ⟨a0, a1, a2, a3⟩ := a k h2 (by omega)
      obtain ⟨b0, b1, b2, b3⟩ := b k h2 (by omega)
      have cg1 : ∀ q, k < q → q < n → C q = C' q ∧ S q = S' q := fun q q1 q2 => ⟨(up q (by omega) q2).1, (up q (by omega) q2).2.1⟩
      have cg2 : ∀ q, k < q → q < n → C' q = C q ∧ S' q = S q := fun q q1 q2 => ⟨(cg1 q q1 q2).1.symm, (cg1 q q1 q2).2.symm⟩
      have l1 := a3 _ _ _ _ trivial (cnd_cg cg2 b1)
      have l2 := b3 _ _ _ _ trivial (cnd_cg cg1 a1)
      obtain ⟨e1, e2, e3, e4⟩ := LE4_as l1 l2
      exact ⟨v_inj e1, v_inj e2, v_inj (by omega), v_inj e4⟩
    · exact up k (by omega) h4
/-- one more is offered: the best of those seen stays the best -/
theorem bst_add {z n : Nat} {f : Nat → Int32} {pr : Int} {C S : Nat → Int32} {A A' : Nat → Int → Prop} {i e j : Nat} {h s sp h' : Int} (b : bst U T z n f pr C S A i e h s sp) (hA : ∀ j2 h2, A' j2 h2 ↔ (A j2 h2 ∨ (j2 = j ∧ h2 = h'))) (hk : ∀ s' sp', cnd U T z n f pr C S i j h' s' sp' → LE4 s sp e h s' sp' j h') : bst U T z n f pr C S A' i e h s sp := by
  obtain ⟨b1, b2, b3⟩ := b
  refine ⟨b1, (hA _ _).mpr (Or.inl b2), fun j2 h2 s2 sp2 a2 c2 => ?_⟩
  rcases (hA _ _).mp a2 with w | ⟨w1, w2⟩
  · exact b3 _ _ _ _ w c2
  · subst w1
    subst w2
    exact hk _ _ c2
theorem bst_new {z n : Nat} {f : Nat → Int32} {pr : Int} {C S : Nat → Int32} {A A' : Nat → Int → Prop} {i j : Nat} {s' sp' h' : Int} (hA : ∀ j2 h2, A' j2 h2 ↔ (A j2 h2 ∨ (j2 = j ∧ h2 = h'))) (hc : cnd U T z n f pr C S i j h' s' sp') (hu : ∀ s2 sp2, cnd U T z n f pr C S i j h' s2 sp2 → s2 = s' ∧ sp2 = sp') (ho : (∀ j2 h2 s2 sp2, A j2 h2 → ¬ cnd U T z n f pr C S i j2 h2 s2 sp2) ∨ ∃ (e : Nat) (h s sp : Int), bst U T z n f pr C S A i e h s sp ∧ LE4 s' sp' j h' s sp e h) : bst U T z n f pr C S A' i j h' s' sp' := by
  refine ⟨hc, (hA _ _).mpr (Or.inr ⟨rfl, rfl⟩), fun j2 h2 s2 sp2 a2 c2 => ?_⟩
  rcases (hA _ _).mp a2 with w | ⟨w1, w2⟩
  · rcases ho with ho | ⟨e, h, s, sp, b, l⟩
    · exact absurd c2 (ho _ _ _ _ w)
    · have l2 := b.2.2 _ _ _ _ w c2
      unfold LE4 at l l2 ⊢
      omega
  · subst w1
    subst w2
    obtain ⟨q1, q2⟩ := hu _ _ c2
    unfold LE4
    omega
theorem SPN_u (hU : okU U) {f f1 f2 : Nat → Int32} {i j c c' : Nat} {h : Int} (hf : prg j 0 65535 f) (a : SPN U f i j h c f1) (b : SPN U f i j h c' f2) : c = c' ∧ ∀ k, k < c → f1 k = f2 k := by
  rcases a with ⟨a1, a2, a3⟩ | ⟨a1, a2⟩ <;> rcases b with ⟨b1, b2, b3⟩ | ⟨b1, b2⟩
  · exact ⟨by omega, fun k hk => (a3 k hk).trans (b3 k (by omega)).symm⟩
  · omega
  · omega
  · exact hU.1 _ _ _ _ _ _ _ (fun k hk => hf (i + k) (by omega)) a2 b2
theorem SPN_r (hU : okU U) {f f' : Nat → Int32} {i j c : Nat} {h : Int} (hj : j ≤ 300) (hf : prg j 0 65535 f) (a : SPN U f i j h c f') : c ≤ 300 ∧ prg c 0 65535 f' := by
  rcases a with ⟨a1, a2, a3⟩ | ⟨a1, a2⟩
  · exact ⟨by omega, fun k hk => by rw [a3 k (by omega)]; exact hf (i + k) (by omega)⟩
  · exact hU.2.2.1 _ _ _ _ _ (fun k hk => hf (i + k) (by omega)) a2
theorem cnd_u (hU : okU U) {z n : Nat} {f : Nat → Int32} {pr : Int} {C S : Nat → Int32} {i j : Nat} {h s sp s' sp' : Int} (hn : n ≤ 300) (hf : prg n 0 65535 f) (a : cnd U T z n f pr C S i j h s sp) (b : cnd U T z n f pr C S i j h s' sp') : s = s' ∧ sp = sp' := by
  obtain ⟨a1, a2, a3, a4, ⟨c, f1, a5, a6⟩, a7⟩ := a
  obtain ⟨b1, b2, b3, b4, ⟨c', f2, b5, b6⟩, b7⟩ := b
  have hj : prg j 0 65535 f := fun k hk => hf k (by omega)
  obtain ⟨q1, q2⟩ := SPN_u hU hj a5 b5
  have e : cT T c f1 = cT T c' f2 := cT_congr (by rw [q1]) (by omega) (fun _ _ _ _ _ _ => rfl) (SPN_r hU (by omega) hj a5).2 (fun k hk => q2 k (by omega))
  exact ⟨by rw [a6, b6, e], by rw [a7, b7]⟩
theorem SPN_iff {z n : Nat} {f g f' : Nat → Int32} {i j c : Nat} {h : Int} (hj : j ≤ n) (hh : h < z) (hf : prg n 0 65535 f) (hfg : ∀ k, k < n → f k = g k) (hV : okU V) (he : ∀ h, h < z → ∀ (n c : Nat) (f f' : Nat → Int32), prg n 0 65535 f → (U h n f c f' ↔ V h n f c f')) : SPN U f i j h c f' ↔ SPN V g i j h c f' := by
  have s1 : prg ((j - i : Nat) : Int) 0 65535 (fun k => f (i + k)) := fun k hk => hf (i + k) (by omega)
  constructor
  · rintro (⟨a1, a2, a3⟩ | ⟨a1, a2⟩)
    · exact Or.inl ⟨a1, a2, fun k hk => by rw [a3 k hk, hfg _ (by omega)]⟩
    · exact Or.inr ⟨a1, hV.2.1 _ _ _ _ _ _ (fun k hk => hfg _ (by omega)) ((he _ (by omega) _ _ _ _ s1).mp a2)⟩
  · rintro (⟨a1, a2, a3⟩ | ⟨a1, a2⟩)
    · exact Or.inl ⟨a1, a2, fun k hk => by rw [a3 k hk, hfg _ (by omega)]⟩
    · exact Or.inr ⟨a1, (he _ (by omega) _ _ _ _ s1).mpr (hV.2.1 _ _ _ _ _ _ (fun k hk => (hfg _ (by omega)).symm) a2)⟩
theorem cnd_iff (hU : okU U) {z n : Nat} {f g : Nat → Int32} {pr : Int} {C S : Nat → Int32} {i j : Nat} {h s sp : Int} (hn : n ≤ 300) (hf : prg n 0 65535 f) (hfg : ∀ k, k < n → f k = g k) (hV : okU V) (he : ∀ h, h < z → ∀ (n c : Nat) (f f' : Nat → Int32), prg n 0 65535 f → (U h n f c f' ↔ V h n f c f')) (hT : ∀ x y : Int32, 0 ≤ x.toInt → x.toInt ≤ 65535 → 0 ≤ y.toInt → y.toInt ≤ 65535 → T x y = T' x y) : cnd U T z n f pr C S i j h s sp ↔ cnd V T' z n g pr C S i j h s sp := by
  have ct : ∀ {c : Nat} {f' : Nat → Int32}, j ≤ n → SPN U f i j h c f' → cT T c f' = cT T' c f' := fun {c f'} hj a => cT_congr rfl (by omega) hT (SPN_r hU (by omega) (fun k hk => hf k (by omega)) a).2 (fun _ _ => rfl)
  constructor
  · rintro ⟨a1, a2, a3, a4, ⟨c, f', a5, a6⟩, a7⟩
    exact ⟨a1, a2, a3, a4, ⟨c, f', (SPN_iff a2 a4 hf hfg hV he).mp a5, by rw [← ct a2 a5]; exact a6⟩, a7⟩
  · rintro ⟨a1, a2, a3, a4, ⟨c, f', a5, a6⟩, a7⟩
    have a5' := (SPN_iff (U := U) a2 a4 hf hfg hV he).mpr a5
    exact ⟨a1, a2, a3, a4, ⟨c, f', a5', by rw [ct a2 a5']; exact a6⟩, a7⟩
theorem PBK_iff (hU : okU U) {z n : Nat} {f g : Nat → Int32} {pr m : Int} {C S E H : Nat → Int32} (hn : n ≤ 300) (hf : prg n 0 65535 f) (hfg : ∀ k, k < n → f k = g k) (hV : okU V) (he : ∀ h, h < z → ∀ (n c : Nat) (f f' : Nat → Int32), prg n 0 65535 f → (U h n f c f' ↔ V h n f c f')) (hT : ∀ x y : Int32, 0 ≤ x.toInt → x.toInt ≤ 65535 → 0 ≤ y.toInt → y.toInt ≤ 65535 → T x y = T' x y) : PBK U T z n f pr m C S E H ↔ PBK V T' z n g pr m C S E H := by
  constructor
  · intro a i h1 h2
    obtain ⟨a0, a1, a2, a3⟩ := a i h1 h2
    exact ⟨a0, (cnd_iff hU hn hf hfg hV he hT).mp a1, trivial, fun j h' s' sp' _ c2 => a3 j h' s' sp' trivial ((cnd_iff hU hn hf hfg hV he hT).mpr c2)⟩
  · intro a i h1 h2
    obtain ⟨a0, a1, a2, a3⟩ := a i h1 h2
    exact ⟨a0, (cnd_iff hU hn hf hfg hV he hT).mpr a1, trivial, fun j h' s' sp' _ c2 => a3 j h' s' sp' trivial ((cnd_iff hU hn hf hfg hV he hT).mp c2)⟩
/-- k spans laid one behind another: up to the place i, a letters -/
def RCH (U : Nat → Nat → (Nat → Int32) → Nat → (Nat → Int32) → Prop) (n : Nat) (f : Nat → Int32) (E H : Nat → Int32) : Nat → Nat → Nat → (Nat → Int32) → Prop
  | 0, i, a, _ => i = 0 ∧ a = 0
  | k + 1, i, a, fm => ∃ (i0 a0 m : Nat) (g : Nat → Int32), RCH U n f E H k i0 a0 fm ∧ i0 < n ∧ SPN U f i0 (E i0).toInt.toNat (H i0).toInt m g ∧ (∀ q, q < m → fm (a0 + q) = g q) ∧ i = (E i0).toInt.toNat ∧ a = a0 + m
theorem RCH_f {n : Nat} {f E H fm fm' : Nat → Int32} : ∀ (k i a : Nat), (∀ q, q < a → fm q = fm' q) → RCH U n f E H k i a fm → RCH U n f E H k i a fm'
  | 0, _, _, _, h => h
  | k + 1, i, a, e, ⟨i0, a0, m, g, h1, h2, h3, h4, h5, h6⟩ => ⟨i0, a0, m, g, RCH_f k _ _ (fun q hq => e q (by omega)) h1, h2, h3, fun q hq => by rw [← e _ (by omega)]; exact h4 q hq, h5, h6⟩
theorem RCH_u (hU : okU U) {n : Nat} {f E H fm fm' : Nat → Int32} (hf : prg n 0 65535 f) (hE : ∀ i, i < n → (E i).toInt.toNat ≤ n) : ∀ (k i a i' a' : Nat), RCH U n f E H k i a fm → RCH U n f E H k i' a' fm' → i = i' ∧ a = a' ∧ ∀ q, q < a → fm q = fm' q
  | 0, i, a, i', a', h, h' => ⟨by rw [h.1, h'.1], by rw [h.2, h'.2], fun q hq => by have := h.2; omega⟩
  | k + 1, i, a, i', a', ⟨i0, a0, m, g, h1, h2, h3, h4, h5, h6⟩, ⟨j0, b0, m', g', h1', h2', h3', h4', h5', h6'⟩ => by
    obtain ⟨e1, e2, e3⟩ := RCH_u hU hf hE k _ _ _ _ h1 h1'
    subst e1
    subst e2
    obtain ⟨q1, q2⟩ := SPN_u hU (fun j hj => hf j (by have := hE i0 h2; omega)) h3 h3'
    subst q1
    refine ⟨by rw [h5, h5'], by rw [h6, h6'], fun q hq => ?_⟩
    by_cases w : q < a0
    · exact e3 q w
    · have t1 := h4 (q - a0) (by omega)
      have t2 := h4' (q - a0) (by omega)
      have t3 : a0 + (q - a0) = q := by omega
      rw [t3] at t1 t2
      rw [t1, t2]
      exact q2 _ (by omega)
theorem RCH_cut {n : Nat} {f E H fm : Nat → Int32} {k : Nat} : ∀ (d i a : Nat), RCH U n f E H (k + d) i a fm → ∃ i0 a0, RCH U n f E H k i0 a0 fm ∧ a0 ≤ a ∧ ((d = 0 ∧ i0 = i) ∨ i0 < n)
  | 0, i, a, h => ⟨i, a, h, Nat.le_refl _, Or.inl ⟨rfl, rfl⟩⟩
  | d + 1, i, a, h => by
    have h : RCH U n f E H ((k + d) + 1) i a fm := h
    obtain ⟨i0, a0, m, g, h1, h2, h3, h4, h5, h6⟩ := h
    obtain ⟨i1, a1, q1, q2, q3⟩ := RCH_cut d _ _ h1
    refine ⟨i1, a1, q1, by omega, Or.inr ?_⟩
    rcases q3 with ⟨_, q3⟩ | q3
    · omega
    · exact q3
theorem RCH_cg {n : Nat} {f E H E' H' fm : Nat → Int32} (hE : ∀ i, i < n → E i = E' i ∧ H i = H' i) : ∀ (k i a : Nat), RCH U n f E H k i a fm → RCH U n f E' H' k i a fm
  | 0, _, _, h => h
  | k + 1, i, a, ⟨i0, a0, m, g, h1, h2, h3, h4, h5, h6⟩ => by
    obtain ⟨e1, e2⟩ := hE i0 h2
    rw [e1] at h3 h5
    rw [e2] at h3
    exact ⟨i0, a0, m, g, RCH_cg hE k _ _ h1, h2, h3, h4, h5, h6⟩
theorem RCH_iff {z n : Nat} {f g E H fm : Nat → Int32} (hE : ∀ i, i < n → (E i).toInt.toNat ≤ n ∧ (H i).toInt < z) (hf : prg n 0 65535 f) (hfg : ∀ k, k < n → f k = g k) (hV : okU V) (he : ∀ h, h < z → ∀ (n c : Nat) (f f' : Nat → Int32), prg n 0 65535 f → (U h n f c f' ↔ V h n f c f')) : ∀ (k i a : Nat), RCH U n f E H k i a fm ↔ RCH V n g E H k i a fm
  | 0, _, _ => Iff.rfl
  | k + 1, i, a => by
    constructor
    · rintro ⟨i0, a0, m, q, h1, h2, h3, h4, h5, h6⟩
      exact ⟨i0, a0, m, q, (RCH_iff hE hf hfg hV he k _ _).mp h1, h2, (SPN_iff (hE i0 h2).1 (hE i0 h2).2 hf hfg hV he).mp h3, h4, h5, h6⟩
    · rintro ⟨i0, a0, m, q, h1, h2, h3, h4, h5, h6⟩
      exact ⟨i0, a0, m, q, (RCH_iff hE hf hfg hV he k _ _).mpr h1, h2, (SPN_iff (hE i0 h2).1 (hE i0 h2).2 hf hfg hV he).mpr h3, h4, h5, h6⟩
theorem PBK_E {z n : Nat} {f : Nat → Int32} {pr : Int} {C S E H : Nat → Int32} (a : PBK U T z n f pr 0 C S E H) : ∀ i, i < n → (E i).toInt.toNat ≤ n ∧ (H i).toInt < z := fun i hi => by
  obtain ⟨_, a1, _⟩ := a i (by omega) hi
  exact ⟨a1.2.1, a1.2.2.2.1⟩
theorem RCH_end (hU : okU U) {n : Nat} {f E H fm fm' : Nat → Int32} {k k' c c' : Nat} (hf : prg n 0 65535 f) (hE : ∀ i, i < n → (E i).toInt.toNat ≤ n) (a : RCH U n f E H k n c fm) (b : RCH U n f E H k' n c' fm') : c = c' ∧ ∀ q, q < c → fm q = fm' q := by
  have e : k = k' := by
    rcases Nat.lt_trichotomy k k' with w | w | w
    · obtain ⟨d, hd⟩ : ∃ d, k' = k + d := ⟨k' - k, by omega⟩
      subst hd
      obtain ⟨i0, a0, q1, _, q3⟩ := RCH_cut d _ _ b
      have := (RCH_u hU hf hE k _ _ _ _ a q1).1
      omega
    · exact w
    · obtain ⟨d, hd⟩ : ∃ d, k = k' + d := ⟨k - k', by omega⟩
      subst hd
      obtain ⟨i0, a0, q1, _, q3⟩ := RCH_cut d _ _ a
      have := (RCH_u hU hf hE k' _ _ _ _ b q1).1
      omega
  subst e
  exact (RCH_u hU hf hE k _ _ _ _ a b).2
theorem RCH_big (hU : okU U) {n : Nat} {f E H fm fm' : Nat → Int32} {k k' i a c : Nat} (hf : prg n 0 65535 f) (hE : ∀ i, i < n → (E i).toInt.toNat ≤ n) (h : RCH U n f E H k i a fm) (ha : 300 < a) (h' : RCH U n f E H k' n c fm') : 300 < c := by
  rcases Nat.lt_or_ge k' k with w | w
  · obtain ⟨d, hd⟩ : ∃ d, k = k' + d := ⟨k - k', by omega⟩
    subst hd
    obtain ⟨i0, a0, q1, _, q3⟩ := RCH_cut d _ _ h
    have := (RCH_u hU hf hE k' _ _ _ _ h' q1).1
    omega
  · obtain ⟨d, hd⟩ : ∃ d, k' = k + d := ⟨k' - k, by omega⟩
    subst hd
    obtain ⟨i0, a0, q1, q2, _⟩ := RCH_cut d _ _ h'
    have := (RCH_u hU hf hE k _ _ _ _ h q1).2.1
    omega
/-- parts() -/
def ptP (U : Nat → Nat → (Nat → Int32) → Nat → (Nat → Int32) → Prop) (T : Int32 → Int32 → Int32) (z n : Nat) (f : Nat → Int32) (pr : Int) (c : Nat) (fm : Nat → Int32) (v : Int) : Prop := (1 ≤ n ∧ n ≤ 60 ∧ 0 ≤ pr ∧ pr ≤ 1000) ∧ ∃ C S E H : Nat → Int32, PBK U T z n f pr 0 C S E H ∧ v = (S 0).toInt ∧ c ≤ 300 ∧ ∃ k, RCH U n f E H k n c fm
theorem pt_ok (hU : okU U) {z n : Nat} {f : Nat → Int32} {pr : Int} (hf : prg n 0 65535 f) (hl : ∀ i, i < n → isLz (f i)) (hlz : ∀ (h n c : Nat) (f f' : Nat → Int32), h < z → prg n 0 65535 f → U h n f c f' → ∀ i, i < c → isLz (f' i)) : okQ (ptP U T z n f pr) := by
  rintro c fm v ⟨b0, C, S, E, H, hB, hv, hc, k, hk⟩
  have hE := PBK_E hB
  refine ⟨⟨hc, ?_⟩, ?_⟩
  · have ll : ∀ (k i a : Nat), RCH U n f E H k i a fm → ∀ q, q < a → isLz (fm q) := by
      intro k
      induction k with
      | zero => intro i a h q hq; have := h.2; omega
      | succ k ih =>
        rintro i a ⟨i0, a0, m, g, h1, h2, h3, h4, h5, h6⟩ q hq
        by_cases w : q < a0
        · exact ih _ _ h1 q w
        · have t1 := h4 (q - a0) (by omega)
          have t3 : a0 + (q - a0) = q := by omega
          rw [t3] at t1
          rw [t1]
          have e1 := (hE i0 h2).1
          rcases h3 with ⟨s1, s2, s3⟩ | ⟨s1, s2⟩
          · rw [s3 _ (by omega)]
            exact hl _ (by omega)
          · exact hlz _ _ _ _ _ (by have := (hE i0 h2).2; omega) (fun j hj => hf (i0 + j) (by omega)) s2 _ (by omega)
    exact ll k n c hk
  · rintro c' fm' v' ⟨_, C', S', E', H', hB', hv', hc', k', hk'⟩
    have u := PBK_u hB hB' n 0 (by omega) (by omega)
    have q := RCH_end hU hf (fun i hi => (hE i hi).1) hk (RCH_cg (fun i hi => ⟨(u i (by omega) hi).2.2.1.symm, (u i (by omega) hi).2.2.2.symm⟩) _ _ _ hk')
    exact ⟨q.1, by rw [hv, hv', (u 0 (by omega) (by omega)).2.1], q.2⟩
theorem pt_iff (hU : okU U) {z n : Nat} {f g : Nat → Int32} {pr : Int} (hf : prg n 0 65535 f) (hfg : ∀ k, k < n → f k = g k) (hV : okU V) (he : ∀ h, h < z → ∀ (n c : Nat) (f f' : Nat → Int32), prg n 0 65535 f → (U h n f c f' ↔ V h n f c f')) (hT : ∀ x y : Int32, 0 ≤ x.toInt → x.toInt ≤ 65535 → 0 ≤ y.toInt → y.toInt ≤ 65535 → T x y = T' x y) : ∀ c fm v, ptP U T z n f pr c fm v ↔ ptP V T' z n g pr c fm v := by
  intro c fm v
  constructor
  · rintro ⟨b0, C, S, E, H, hB, hv, hc, k, hk⟩
    exact ⟨b0, C, S, E, H, (PBK_iff hU (by omega) hf hfg hV he hT).mp hB, hv, hc, k, (RCH_iff (PBK_E hB) hf hfg hV he _ _ _).mp hk⟩
  · rintro ⟨b0, C, S, E, H, hB, hv, hc, k, hk⟩
    have hB' := (PBK_iff hU (by omega) hf hfg hV he hT).mpr hB
    exact ⟨b0, C, S, E, H, hB', hv, hc, k, (RCH_iff (PBK_E hB') hf hfg hV he _ _ _).mpr hk⟩
/-- the spans together are too long -/
theorem pt_big (hU : okU U) {z n : Nat} {f fm : Nat → Int32} {pr : Int} {C S E H : Nat → Int32} {k i a : Nat} (hf : prg n 0 65535 f) (hB : PBK U T z n f pr 0 C S E H) (h : RCH U n f E H k i a fm) (ha : 300 < a) : ∀ c fm v, ¬ ptP U T z n f pr c fm v := by
  rintro c fm' v ⟨_, C', S', E', H', hB', hv', hc', k', hk'⟩
  have u := PBK_u hB hB' n 0 (by omega) (by omega)
  have q := RCH_big hU hf (fun i hi => (PBK_E hB i hi).1) h ha (RCH_cg (fun i hi => ⟨(u i (by omega) hi).2.2.1.symm, (u i (by omega) hi).2.2.2.symm⟩) _ _ _ hk')
  omega
theorem RCH_step {n k i a m : Nat} {f E H fm fm' g : Nat → Int32} (h : RCH U n f E H k i a fm) (hi : i < n) (hs : SPN U f i (E i).toInt.toNat (H i).toInt m g) (h1 : ∀ q, q < a → fm' q = fm q) (h2 : ∀ q, q < m → fm' (a + q) = g q) : RCH U n f E H (k + 1) (E i).toInt.toNat (a + m) fm' :=
  ⟨i, a, m, g, RCH_f k _ _ (fun q hq => (h1 q hq).symm) h, hi, hs, h2, rfl, rfl⟩
end PRT
/-! parts() of the class: offers -/
def lxl (sm sp en c s e : Int) : Prop := sm < c ∨ (sm = c ∧ (sp < s ∨ (sp = s ∧ e < en)))
def F_ib (r : Int32) (sm sp en c s e : Int) : Prop := (r.toInt = 1 ∧ lxl sm sp en c s e) ∨ (r.toInt = 0 ∧ ¬ lxl sm sp en c s e)
def F_of (pr fr en h cs : Int32) (Q1 Q1' Q2 Q2' Q3 Q3' Q4 Q4' : Nat → Int32) : Prop := ∃ sm sp : Int32, sm.toInt = cs.toInt + (Q1 en.toNatClampNeg).toInt + (if 0 < (Q2 en.toNatClampNeg).toInt then pr.toInt else 0) ∧ sp.toInt = 1 + (Q2 en.toNatClampNeg).toInt ∧
  (((Q1 fr.toNatClampNeg = -1 ∨ lxl sm.toInt sp.toInt en.toInt (Q1 fr.toNatClampNeg).toInt (Q2 fr.toNatClampNeg).toInt (Q3 fr.toNatClampNeg).toInt) ∧ Q1' = upd Q1 fr.toNatClampNeg sm ∧ Q2' = upd Q2 fr.toNatClampNeg sp ∧ Q3' = upd Q3 fr.toNatClampNeg en ∧ Q4' = upd Q4 fr.toNatClampNeg h) ∨
   (¬ Q1 fr.toNatClampNeg = -1 ∧ ¬ lxl sm.toInt sp.toInt en.toInt (Q1 fr.toNatClampNeg).toInt (Q2 fr.toNatClampNeg).toInt (Q3 fr.toNatClampNeg).toInt ∧ Q1' = Q1 ∧ Q2' = Q2 ∧ Q3' = Q3 ∧ Q4' = Q4))
/-- what stands behind m is in order -/
def QOK (n m : Int) (Q1 Q2 : Nat → Int32) : Prop := ∀ j : Nat, m < j → (j : Int) ≤ n → 0 ≤ (Q1 j).toInt ∧ (Q1 j).toInt ≤ 70000 * (n - j) ∧ 0 ≤ (Q2 j).toInt ∧ (Q2 j).toInt ≤ n - j ∧ ((j : Int) < n → 1 ≤ (Q2 j).toInt)
/-- the best of those offered at i -/
def BFS (U : Nat → Nat → (Nat → Int32) → Nat → (Nat → Int32) → Prop) (T : Int32 → Int32 → Int32) (z n : Nat) (f : Nat → Int32) (pr : Int) (A : Nat → Int → Prop) (i : Nat) (Q1 Q2 Q3 Q4 : Nat → Int32) : Prop := (Q1 i = -1 ∧ ∀ (j : Nat) (h s sp : Int), A j h → ¬ cnd U T z n f pr Q1 Q2 i j h s sp) ∨ (0 ≤ (Q1 i).toInt ∧ (Q1 i).toInt ≤ 70000 * ((n : Int) - i) ∧ 1 ≤ (Q2 i).toInt ∧ (Q2 i).toInt ≤ (n : Int) - i ∧ 0 ≤ (Q3 i).toInt ∧ bst U T z n f pr Q1 Q2 A i (Q3 i).toInt.toNat (Q4 i).toInt (Q1 i).toInt (Q2 i).toInt)
section PR2
variable {U V : Nat → Nat → (Nat → Int32) → Nat → (Nat → Int32) → Prop} {T T' : Int32 → Int32 → Int32}
theorem QOK_u {n m : Int} {Q1 Q1' Q2 Q2' : Nat → Int32} {i : Nat} {a b : Int32} (h : QOK n m Q1 Q2) (hi : (i : Int) ≤ m) (e1 : Q1' = upd Q1 i a ∨ Q1' = Q1) (e2 : Q2' = upd Q2 i b ∨ Q2' = Q2) : QOK n m Q1' Q2' := by
  intro j h1 h2
  have q := h j h1 h2
  have w1 : Q1' j = Q1 j := by
    rcases e1 with e | e
    · rw [e, pk_un (by omega)]
    · rw [e]
  have w2 : Q2' j = Q2 j := by
    rcases e2 with e | e
    · rw [e, pk_un (by omega)]
    · rw [e]
  rw [w1, w2]; exact q
theorem bst_cg {z n : Nat} {f : Nat → Int32} {pr : Int} {C S C' S' : Nat → Int32} {A : Nat → Int → Prop} {i e : Nat} {h s sp : Int} (hC : ∀ k, i < k → k < n → C k = C' k ∧ S k = S' k) (a : bst U T z n f pr C S A i e h s sp) : bst U T z n f pr C' S' A i e h s sp := by
  obtain ⟨a1, a2, a3⟩ := a
  exact ⟨cnd_cg hC a1, a2, fun j h' s' sp' q c2 => a3 j h' s' sp' q (cnd_cg (fun k k1 k2 => ⟨(hC k k1 k2).1.symm, (hC k k1 k2).2.symm⟩) c2)⟩
theorem BFS_A {z n : Nat} {f : Nat → Int32} {pr : Int} {A A' : Nat → Int → Prop} {i : Nat} {Q1 Q2 Q3 Q4 : Nat → Int32} (b : BFS U T z n f pr A i Q1 Q2 Q3 Q4) (hA : ∀ (j : Nat) (h s sp : Int), cnd U T z n f pr Q1 Q2 i j h s sp → (A' j h ↔ A j h)) : BFS U T z n f pr A' i Q1 Q2 Q3 Q4 := by
  rcases b with ⟨b1, b2⟩ | ⟨b1, b2, b3, b4, b5, b6, b7, b8⟩
  · exact Or.inl ⟨b1, fun j h s sp a c => b2 j h s sp ((hA j h s sp c).mp a) c⟩
  · exact Or.inr ⟨b1, b2, b3, b4, b5, b6, (hA _ _ _ _ b6).mpr b7, fun j h s sp a c => b8 j h s sp ((hA j h s sp c).mp a) c⟩
/-- one more is offered -/
theorem BFS_off (hU : okU U) {z n : Nat} {f g : Nat → Int32} {A A' : Nat → Int → Prop} {pr fr en h cs : Int32} {c i : Nat} {Q1 Q1' Q2 Q2' Q3 Q3' Q4 Q4' : Nat → Int32} (b : BFS U T z n f pr.toInt A i Q1 Q2 Q3 Q4) (ho : F_of pr fr en h cs Q1 Q1' Q2 Q2' Q3 Q3' Q4 Q4') (hq : QOK n i Q1 Q2) (hn : n ≤ 60) (hf : prg n 0 65535 f) (ei : fr.toInt = i) (h1 : fr.toInt < en.toInt) (h2 : en.toInt ≤ n) (hh : -1 ≤ h.toInt ∧ h.toInt < z) (hs : SPN U f i en.toNatClampNeg h.toInt c g) (hc : cs.toInt = cT T c g) (hc0 : 0 ≤ cs.toInt ∧ cs.toInt ≤ 62000) (hp : 0 ≤ pr.toInt ∧ pr.toInt ≤ 1000) (hA : ∀ (j2 : Nat) (h2 : Int), A' j2 h2 ↔ (A j2 h2 ∨ (j2 = en.toNatClampNeg ∧ h2 = h.toInt))) (hl : ∀ (j2 : Nat) (h2 : Int), A j2 h2 → h2 ≤ h.toInt) : BFS U T z n f pr.toInt A' i Q1' Q2' Q3' Q4' ∧ QOK n i Q1' Q2' := by
  have ce := v_clamp (x := en) (by omega)
  have cf : fr.toNatClampNeg = i := ix_eq ei
  obtain ⟨sm, sp, s1, s2, s3⟩ := ho
  rw [cf] at s3
  have q := hq en.toNatClampNeg (by omega) (by omega)
  have ca : cnd U T z n f pr.toInt Q1 Q2 i en.toNatClampNeg h.toInt sm.toInt sp.toInt := by
    refine ⟨by omega, by omega, hh.1, hh.2, ⟨c, g, hs, ?_⟩, ?_⟩
    · rw [s1, hc]
      by_cases w : en.toNatClampNeg < n
      · rw [if_pos w, if_pos (by omega)]; omega
      · rw [if_neg w, if_neg (by omega)]; omega
    · rw [s2]
      by_cases w : en.toNatClampNeg < n
      · rw [if_pos w]
      · rw [if_neg w]; omega
  have bd : 0 ≤ sm.toInt ∧ sm.toInt ≤ 70000 * ((n : Int) - i) ∧ 1 ≤ sp.toInt ∧ sp.toInt ≤ (n : Int) - i := by
    have w : (if 0 < (Q2 en.toNatClampNeg).toInt then pr.toInt else 0) ≤ 1000 ∧ 0 ≤ (if 0 < (Q2 en.toNatClampNeg).toInt then pr.toInt else 0) := by
      split <;> omega
    omega
  rcases s3 with ⟨t1, t2, t3, t4, t5⟩ | ⟨t1, t2, t3, t4, t5, t6⟩
  · have cg : ∀ k, i < k → k < n → Q1 k = Q1' k ∧ Q2 k = Q2' k := fun k k1 k2 => by rw [t2, t3, pk_un (by omega), pk_un (by omega)]; exact ⟨rfl, rfl⟩
    refine ⟨Or.inr ?_, QOK_u hq (by omega) (Or.inl t2) (Or.inl t3)⟩
    rw [t4, t5, pk_us, pk_us]
    have e1 : Q1' i = sm := by rw [t2, pk_us]
    have e2 : Q2' i = sp := by rw [t3, pk_us]
    rw [e1, e2]
    refine ⟨bd.1, bd.2.1, bd.2.2.1, bd.2.2.2, by omega, bst_cg cg ?_⟩
    have ee : en.toInt.toNat = en.toNatClampNeg := by omega
    rw [ee]
    refine bst_new hA ca (fun s2 sp2 c2 => cnd_u hU (by omega) hf c2 ca) ?_
    rcases b with ⟨_, b2⟩ | ⟨b1, b2, b3, b4, b5, b6⟩
    · exact Or.inl b2
    · refine Or.inr ⟨_, _, _, _, b6, ?_⟩
      rcases t1 with t1 | t1
      · exact absurd t1 (v_nn b1)
      · unfold lxl at t1
        unfold LE4
        omega
  · rw [t3, t4, t5, t6]
    refine ⟨?_, hq⟩
    rcases b with ⟨b1, b2⟩ | ⟨b1, b2, b3, b4, b5, b6⟩
    · exact absurd b1 t1
    · refine Or.inr ⟨b1, b2, b3, b4, b5, bst_add b6 hA (fun s' sp' c2 => ?_)⟩
      obtain ⟨w1, w2⟩ := cnd_u hU (by omega) hf c2 ca
      have w3 := hl _ _ b6.2.1
      unfold lxl at t2
      unfold LE4
      omega
/-- all were offered: the best stands -/
theorem BFS_all {z n : Nat} {f : Nat → Int32} {pr : Int} {A : Nat → Int → Prop} {i : Nat} {Q1 Q2 Q3 Q4 : Nat → Int32} (b : BFS U T z n f pr A i Q1 Q2 Q3 Q4) (hi : i < n) (hA : ∀ (j : Nat) (h s sp : Int), cnd U T z n f pr Q1 Q2 i j h s sp → A j h) : 0 ≤ (Q1 i).toInt ∧ (Q1 i).toInt ≤ 70000 * ((n : Int) - i) ∧ 1 ≤ (Q2 i).toInt ∧ (Q2 i).toInt ≤ (n : Int) - i ∧ 0 ≤ (Q3 i).toInt ∧ bst U T z n f pr Q1 Q2 (fun _ _ => True) i (Q3 i).toInt.toNat (Q4 i).toInt (Q1 i).toInt (Q2 i).toInt := by
  rcases b with ⟨b1, b2⟩ | ⟨b1, b2, b3, b4, b5, b6, b7, b8⟩
  · have c : cnd U T z n f pr Q1 Q2 i n (-1) (cT T ((n - i : Nat) : Int) (fun k => f (i + k)) + (if n < n then pr + (Q1 n).toInt else 0)) (1 + (if n < n then (Q2 n).toInt else 0)) := ⟨hi, Nat.le_refl _, by omega, by omega, ⟨n - i, _, Or.inl ⟨rfl, rfl, fun _ _ => rfl⟩, rfl⟩, rfl⟩
    exact absurd c (b2 _ _ _ _ (hA _ _ _ _ c))
  · exact ⟨b1, b2, b3, b4, b5, b6, trivial, fun j h s sp _ c => b8 j h s sp (hA j h s sp c) c⟩
theorem PBK_s {z n : Nat} {f : Nat → Int32} {pr m m' : Int} {i : Nat} {Q1 Q2 Q3 Q4 : Nat → Int32} (a : PBK U T z n f pr m Q1 Q2 Q3 Q4) (em : m = i + 1) (em' : m' = i) (h0 : 0 ≤ (Q3 i).toInt) (b : bst U T z n f pr Q1 Q2 (fun _ _ => True) i (Q3 i).toInt.toNat (Q4 i).toInt (Q1 i).toInt (Q2 i).toInt) : PBK U T z n f pr m' Q1 Q2 Q3 Q4 := by
  intro k h1 h2
  by_cases w : k = i
  · subst w
    exact ⟨h0, b⟩
  · exact a k (by omega) h2
/-- nothing behind m changed -/
theorem PBK_k {z n : Nat} {f : Nat → Int32} {pr m : Int} {C S E H C' S' E' H' : Nat → Int32} (a : PBK U T z n f pr m C S E H) (h : ∀ k : Nat, m ≤ k → k < n → C k = C' k ∧ S k = S' k ∧ E k = E' k ∧ H k = H' k) : PBK U T z n f pr m C' S' E' H' := by
  intro i h1 h2
  obtain ⟨a0, a1⟩ := a i h1 h2
  obtain ⟨e1, e2, e3, e4⟩ := h i h1 h2
  rw [← e1, ← e2, ← e3, ← e4]
  exact ⟨a0, bst_cg (fun k k1 k2 => ⟨(h k (by omega) k2).1, (h k (by omega) k2).2.1⟩) a1⟩
/-- only the place i changed -/
def onlyI (i : Nat) (Q1 Q1' Q2 Q2' Q3 Q3' Q4 Q4' : Nat → Int32) : Prop := ∀ k : Nat, k ≠ i → Q1 k = Q1' k ∧ Q2 k = Q2' k ∧ Q3 k = Q3' k ∧ Q4 k = Q4' k
theorem only_r {i : Nat} {Q1 Q2 Q3 Q4 : Nat → Int32} : onlyI i Q1 Q1 Q2 Q2 Q3 Q3 Q4 Q4 := fun _ _ => ⟨rfl, rfl, rfl, rfl⟩
theorem only_t {i : Nat} {Q1 Q1' Q1x Q2 Q2' Q2x Q3 Q3' Q3x Q4 Q4' Q4x : Nat → Int32} (a : onlyI i Q1 Q1' Q2 Q2' Q3 Q3' Q4 Q4') (b : onlyI i Q1' Q1x Q2' Q2x Q3' Q3x Q4' Q4x) : onlyI i Q1 Q1x Q2 Q2x Q3 Q3x Q4 Q4x := fun k hk => by
  obtain ⟨a1, a2, a3, a4⟩ := a k hk
  obtain ⟨b1, b2, b3, b4⟩ := b k hk
  exact ⟨a1.trans b1, a2.trans b2, a3.trans b3, a4.trans b4⟩
theorem only_of {pr fr en h cs : Int32} {i : Nat} {Q1 Q1' Q2 Q2' Q3 Q3' Q4 Q4' : Nat → Int32} (ho : F_of pr fr en h cs Q1 Q1' Q2 Q2' Q3 Q3' Q4 Q4') (ei : fr.toInt = i) : onlyI i Q1 Q1' Q2 Q2' Q3 Q3' Q4 Q4' := by
  have cf : fr.toNatClampNeg = i := ix_eq ei
  obtain ⟨sm, sp, s1, s2, s3⟩ := ho
  rw [cf] at s3
  intro k hk
  rcases s3 with ⟨t1, t2, t3, t4, t5⟩ | ⟨t1, t2, t3, t4, t5, t6⟩
  · rw [t2, t3, t4, t5, pk_un hk, pk_un hk, pk_un hk, pk_un hk]; exact ⟨rfl, rfl, rfl, rfl⟩
  · rw [t3, t4, t5, t6]; exact ⟨rfl, rfl, rfl, rfl⟩
/-- as it is: what a span costs, letter by letter -/
theorem sh_s {i i' su su' be x r : Int32} {f : Nat → Int32} {b : Nat} (h : su.toInt = cs T (fun k => f (b + k)) (i.toInt - b).toNat) (hb : be = pv (fun k => f (b + k)) (i.toInt - b).toNat) (hx : x = f i.toNatClampNeg) (hr : r.toInt = cF (T be x) be x) (hs : su'.toInt = su.toInt + r.toInt) (h0 : (b : Int) ≤ i.toInt) (hi' : i'.toInt = i.toInt + 1) : su'.toInt = cs T (fun k => f (b + k)) (i'.toInt - b).toNat ∧ x = pv (fun k => f (b + k)) (i'.toInt - b).toNat := by
  have c := v_clamp (x := i) (by omega)
  have e : (i'.toInt - b).toNat = (i.toInt - b).toNat + 1 := by omega
  have e2 : b + (i.toInt - b).toNat = i.toNatClampNeg := by omega
  rw [e, cs, pv, e2, ← hb, ← hx, ← h, ← hr]
  exact ⟨hs, rfl⟩
theorem sh_c {i su be r s : Int32} {f : Nat → Int32} {b : Nat} (h : su.toInt = cs T (fun k => f (b + k)) (i.toInt - b).toNat) (hb : be = pv (fun k => f (b + k)) (i.toInt - b).toNat) (hr : r.toInt = cF (T be 32) be 32) (hs : s.toInt = su.toInt + r.toInt) : s.toInt = cT T (((i.toInt - b).toNat : Nat) : Int) (fun k => f (b + k)) := by
  unfold cT
  have e : (((i.toInt - b).toNat : Nat) : Int).toNat = (i.toInt - b).toNat := by omega
  rw [e, ← hb, ← h, ← hr]
  exact hs
end PR2

end

/-! 59x.a.rows -/
section
set_option maxRecDepth 100000 in
theorem dA296_cX8_step : kDec cX8_step [(0, .aload_n 0, 1), (1, .getfield 9, 3), (4, .iload_n 1, 1), (5, .aload_n 2, 1), (6, .aload_n 0, 1), (7, .getfield 19, 3), (10, .iload_n 3, 1), (11, .invokevirtual 32, 3), (14, .istore 4, 2), (16, .iload 4, 2), (18, .iconst (-1), 1), (19, .if_icmp .ne 5, 3), (24, .iload 4, 2), (26, .invokestatic 38, 3), (29, .istore 5, 2), (31, .aload_n 0, 1), (32, .dup, 1), (33, .getfield 26, 3), (36, .aload_n 0, 1), (37, .getfield 15, 3), (40, .aload_n 0, 1), (41, .getfield 23, 3), (44, .iload 5, 2), (46, .invokevirtual 42, 3)] = true := by decide +kernel
theorem dX8_step_0 : decode cX8_step 0 = .ok (.aload_n 0, 1) := kDec_at dA296_cX8_step 0 rfl
theorem dX8_step_1 : decode cX8_step 1 = .ok (.getfield 9, 3) := kDec_at dA296_cX8_step 1 rfl
theorem dX8_step_4 : decode cX8_step 4 = .ok (.iload_n 1, 1) := kDec_at dA296_cX8_step 2 rfl
theorem dX8_step_5 : decode cX8_step 5 = .ok (.aload_n 2, 1) := kDec_at dA296_cX8_step 3 rfl
theorem dX8_step_6 : decode cX8_step 6 = .ok (.aload_n 0, 1) := kDec_at dA296_cX8_step 4 rfl
theorem dX8_step_7 : decode cX8_step 7 = .ok (.getfield 19, 3) := kDec_at dA296_cX8_step 5 rfl
theorem dX8_step_10 : decode cX8_step 10 = .ok (.iload_n 3, 1) := kDec_at dA296_cX8_step 6 rfl
theorem dX8_step_11 : decode cX8_step 11 = .ok (.invokevirtual 32, 3) := kDec_at dA296_cX8_step 7 rfl
theorem dX8_step_14 : decode cX8_step 14 = .ok (.istore 4, 2) := kDec_at dA296_cX8_step 8 rfl
theorem dX8_step_16 : decode cX8_step 16 = .ok (.iload 4, 2) := kDec_at dA296_cX8_step 9 rfl
theorem dX8_step_18 : decode cX8_step 18 = .ok (.iconst (-1), 1) := kDec_at dA296_cX8_step 10 rfl
theorem dX8_step_19 : decode cX8_step 19 = .ok (.if_icmp .ne 5, 3) := kDec_at dA296_cX8_step 11 rfl
theorem dX8_step_24 : decode cX8_step 24 = .ok (.iload 4, 2) := kDec_at dA296_cX8_step 12 rfl
theorem dX8_step_26 : decode cX8_step 26 = .ok (.invokestatic 38, 3) := kDec_at dA296_cX8_step 13 rfl
theorem dX8_step_29 : decode cX8_step 29 = .ok (.istore 5, 2) := kDec_at dA296_cX8_step 14 rfl
theorem dX8_step_31 : decode cX8_step 31 = .ok (.aload_n 0, 1) := kDec_at dA296_cX8_step 15 rfl
theorem dX8_step_32 : decode cX8_step 32 = .ok (.dup, 1) := kDec_at dA296_cX8_step 16 rfl
theorem dX8_step_33 : decode cX8_step 33 = .ok (.getfield 26, 3) := kDec_at dA296_cX8_step 17 rfl
theorem dX8_step_36 : decode cX8_step 36 = .ok (.aload_n 0, 1) := kDec_at dA296_cX8_step 18 rfl
theorem dX8_step_37 : decode cX8_step 37 = .ok (.getfield 15, 3) := kDec_at dA296_cX8_step 19 rfl
theorem dX8_step_40 : decode cX8_step 40 = .ok (.aload_n 0, 1) := kDec_at dA296_cX8_step 20 rfl
theorem dX8_step_41 : decode cX8_step 41 = .ok (.getfield 23, 3) := kDec_at dA296_cX8_step 21 rfl
theorem dX8_step_44 : decode cX8_step 44 = .ok (.iload 5, 2) := kDec_at dA296_cX8_step 22 rfl
theorem dX8_step_46 : decode cX8_step 46 = .ok (.invokevirtual 42, 3) := kDec_at dA296_cX8_step 23 rfl
set_option maxRecDepth 20000 in
theorem ggX8_step_X2_decode : GoodIn wsX8_step wsX2_decode := goodIn_r _ [15, 16, 17, 18, 19, 20, 21, 22, 23, 24, 25, 14, 26, 27, 28, 29, 30, 31, 32, 33, 34, 35, 36, 37, 38, 39, 40, 41, 42, 43, 44, 45, 46, 47, 48, 49, 50, 51, 52, 53, 54, 55, 56, 91, 92, 93, 94, 95, 96, 97, 98] rfl (by decide +kernel)
set_option maxRecDepth 20000 in
theorem gX8_step_X2_decode : GoodIn wsX8_step (wsV RX8 32 RX2 yX2_decode wsX2_decode) := goodIn_app (goodIn_r _ [11, 12, 13, 14] rfl (by decide +kernel)) ggX8_step_X2_decode
set_option maxRecDepth 20000 in
theorem ggX8_step_X2_letterIn : GoodIn wsX8_step wsX2_letterIn := goodIn_r _ [59] rfl (by decide +kernel)
set_option maxRecDepth 20000 in
theorem gX8_step_X2_letterIn : GoodIn wsX8_step (va_wsS RX8 38 yX2_letterIn wsX2_letterIn) := goodIn_app (goodIn_r _ [57, 58, 14] rfl (by decide +kernel)) ggX8_step_X2_letterIn
set_option maxRecDepth 20000 in
theorem ggX8_step_X3_of : GoodIn wsX8_step wsX3_of := goodIn_r _ [64, 65, 66, 67, 68, 69, 63, 70, 71, 72, 73, 74, 75, 76, 77, 78, 79, 80, 81, 99, 100, 101] rfl (by decide +kernel)
set_option maxRecDepth 20000 in
theorem gX8_step_X3_of : GoodIn wsX8_step (wsV RX8 42 RX3 yX3_of wsX3_of) := goodIn_app (goodIn_r _ [60, 61, 62, 63] rfl (by decide +kernel)) ggX8_step_X3_of
set_option maxRecDepth 100000 in
theorem dA297_cX8_step : kDec cX8_step [(49, .iadd, 1), (50, .putfield 26, 3), (53, .aload_n 0, 1), (54, .iload 5, 2), (56, .putfield 23, 3), (59, .aload_n 0, 1), (60, .dup, 1), (61, .getfield 29, 3), (64, .iconst 1, 1), (65, .iadd, 1), (66, .putfield 29, 3), (69, .aload_n 0, 1), (70, .dup, 1), (71, .getfield 19, 3), (74, .iconst 1, 1), (75, .iload 4, 2), (77, .invokestatic 48, 3), (80, .invokestatic 51, 3), (83, .iadd, 1), (84, .putfield 19, 3), (87, .iconst 1, 1), (88, .ireturn, 1), (22, .iconst 0, 1), (23, .ireturn, 1)] = true := by decide +kernel
theorem dX8_step_49 : decode cX8_step 49 = .ok (.iadd, 1) := kDec_at dA297_cX8_step 0 rfl
theorem dX8_step_50 : decode cX8_step 50 = .ok (.putfield 26, 3) := kDec_at dA297_cX8_step 1 rfl
theorem dX8_step_53 : decode cX8_step 53 = .ok (.aload_n 0, 1) := kDec_at dA297_cX8_step 2 rfl
theorem dX8_step_54 : decode cX8_step 54 = .ok (.iload 5, 2) := kDec_at dA297_cX8_step 3 rfl
theorem dX8_step_56 : decode cX8_step 56 = .ok (.putfield 23, 3) := kDec_at dA297_cX8_step 4 rfl
theorem dX8_step_59 : decode cX8_step 59 = .ok (.aload_n 0, 1) := kDec_at dA297_cX8_step 5 rfl
theorem dX8_step_60 : decode cX8_step 60 = .ok (.dup, 1) := kDec_at dA297_cX8_step 6 rfl
theorem dX8_step_61 : decode cX8_step 61 = .ok (.getfield 29, 3) := kDec_at dA297_cX8_step 7 rfl
theorem dX8_step_64 : decode cX8_step 64 = .ok (.iconst 1, 1) := kDec_at dA297_cX8_step 8 rfl
theorem dX8_step_65 : decode cX8_step 65 = .ok (.iadd, 1) := kDec_at dA297_cX8_step 9 rfl
theorem dX8_step_66 : decode cX8_step 66 = .ok (.putfield 29, 3) := kDec_at dA297_cX8_step 10 rfl
theorem dX8_step_69 : decode cX8_step 69 = .ok (.aload_n 0, 1) := kDec_at dA297_cX8_step 11 rfl
theorem dX8_step_70 : decode cX8_step 70 = .ok (.dup, 1) := kDec_at dA297_cX8_step 12 rfl
theorem dX8_step_71 : decode cX8_step 71 = .ok (.getfield 19, 3) := kDec_at dA297_cX8_step 13 rfl
theorem dX8_step_74 : decode cX8_step 74 = .ok (.iconst 1, 1) := kDec_at dA297_cX8_step 14 rfl
theorem dX8_step_75 : decode cX8_step 75 = .ok (.iload 4, 2) := kDec_at dA297_cX8_step 15 rfl
theorem dX8_step_77 : decode cX8_step 77 = .ok (.invokestatic 48, 3) := kDec_at dA297_cX8_step 16 rfl
theorem dX8_step_80 : decode cX8_step 80 = .ok (.invokestatic 51, 3) := kDec_at dA297_cX8_step 17 rfl
theorem dX8_step_83 : decode cX8_step 83 = .ok (.iadd, 1) := kDec_at dA297_cX8_step 18 rfl
theorem dX8_step_84 : decode cX8_step 84 = .ok (.putfield 19, 3) := kDec_at dA297_cX8_step 19 rfl
theorem dX8_step_87 : decode cX8_step 87 = .ok (.iconst 1, 1) := kDec_at dA297_cX8_step 20 rfl
theorem dX8_step_88 : decode cX8_step 88 = .ok (.ireturn, 1) := kDec_at dA297_cX8_step 21 rfl
theorem dX8_step_22 : decode cX8_step 22 = .ok (.iconst 0, 1) := kDec_at dA297_cX8_step 22 rfl
theorem dX8_step_23 : decode cX8_step 23 = .ok (.ireturn, 1) := kDec_at dA297_cX8_step 23 rfl
set_option maxRecDepth 20000 in
theorem ggX8_step_X2_bytesIn : GoodIn wsX8_step wsX2_bytesIn := goodIn_r _ [84] rfl (by decide +kernel)
set_option maxRecDepth 20000 in
theorem gX8_step_X2_bytesIn : GoodIn wsX8_step (va_wsS RX8 48 yX2_bytesIn wsX2_bytesIn) := goodIn_app (goodIn_r _ [82, 83, 14] rfl (by decide +kernel)) ggX8_step_X2_bytesIn
set_option maxRecDepth 100000 in
theorem dA298_cX8_goOn : kDec cX8_goOn [(0, .iload_n 3, 1), (1, .aload_n 0, 1), (2, .getfield 19, 3), (5, .isub, 1), (6, .istore 4, 2), (8, .iconst 0, 1), (9, .istore 5, 2), (11, .iload 5, 2), (13, .iload 4, 2), (15, .if_icmp .ge 20, 3), (35, .return_, 1), (18, .aload_n 0, 1), (19, .iload_n 1, 1), (20, .aload_n 2, 1), (21, .iload_n 3, 1), (22, .invokevirtual 56, 3), (25, .ifCond .ne 4, 3), (29, .iinc 5 1, 3), (32, .goto (-21), 3), (28, .return_, 1)] = true := by decide +kernel
theorem dX8_goOn_0 : decode cX8_goOn 0 = .ok (.iload_n 3, 1) := kDec_at dA298_cX8_goOn 0 rfl
theorem dX8_goOn_1 : decode cX8_goOn 1 = .ok (.aload_n 0, 1) := kDec_at dA298_cX8_goOn 1 rfl
theorem dX8_goOn_2 : decode cX8_goOn 2 = .ok (.getfield 19, 3) := kDec_at dA298_cX8_goOn 2 rfl
theorem dX8_goOn_5 : decode cX8_goOn 5 = .ok (.isub, 1) := kDec_at dA298_cX8_goOn 3 rfl
theorem dX8_goOn_6 : decode cX8_goOn 6 = .ok (.istore 4, 2) := kDec_at dA298_cX8_goOn 4 rfl
theorem dX8_goOn_8 : decode cX8_goOn 8 = .ok (.iconst 0, 1) := kDec_at dA298_cX8_goOn 5 rfl
theorem dX8_goOn_9 : decode cX8_goOn 9 = .ok (.istore 5, 2) := kDec_at dA298_cX8_goOn 6 rfl
theorem dX8_goOn_11 : decode cX8_goOn 11 = .ok (.iload 5, 2) := kDec_at dA298_cX8_goOn 7 rfl
theorem dX8_goOn_13 : decode cX8_goOn 13 = .ok (.iload 4, 2) := kDec_at dA298_cX8_goOn 8 rfl
theorem dX8_goOn_15 : decode cX8_goOn 15 = .ok (.if_icmp .ge 20, 3) := kDec_at dA298_cX8_goOn 9 rfl
theorem dX8_goOn_35 : decode cX8_goOn 35 = .ok (.return_, 1) := kDec_at dA298_cX8_goOn 10 rfl
theorem dX8_goOn_18 : decode cX8_goOn 18 = .ok (.aload_n 0, 1) := kDec_at dA298_cX8_goOn 11 rfl
theorem dX8_goOn_19 : decode cX8_goOn 19 = .ok (.iload_n 1, 1) := kDec_at dA298_cX8_goOn 12 rfl
theorem dX8_goOn_20 : decode cX8_goOn 20 = .ok (.aload_n 2, 1) := kDec_at dA298_cX8_goOn 13 rfl
theorem dX8_goOn_21 : decode cX8_goOn 21 = .ok (.iload_n 3, 1) := kDec_at dA298_cX8_goOn 14 rfl
theorem dX8_goOn_22 : decode cX8_goOn 22 = .ok (.invokevirtual 56, 3) := kDec_at dA298_cX8_goOn 15 rfl
theorem dX8_goOn_25 : decode cX8_goOn 25 = .ok (.ifCond .ne 4, 3) := kDec_at dA298_cX8_goOn 16 rfl
theorem dX8_goOn_29 : decode cX8_goOn 29 = .ok (.iinc 5 1, 3) := kDec_at dA298_cX8_goOn 17 rfl
theorem dX8_goOn_32 : decode cX8_goOn 32 = .ok (.goto (-21), 3) := kDec_at dA298_cX8_goOn 18 rfl
theorem dX8_goOn_28 : decode cX8_goOn 28 = .ok (.return_, 1) := kDec_at dA298_cX8_goOn 19 rfl
set_option maxRecDepth 20000 in
theorem ggX8_goOn_X8_step : GoodIn wsX8_goOn wsX8_step := goodIn_r _ [6, 7, 1, 8, 9, 10, 11, 12, 13, 14, 15, 16, 17, 18, 19, 20, 21, 22, 23, 24, 25, 26, 27, 28, 29, 30, 31, 32, 33, 34, 35, 36, 37, 38, 39, 40, 41, 42, 43, 44, 45, 46, 47, 48, 49, 50, 51, 52, 53, 54, 55, 56, 57, 58, 59, 60, 61, 62, 63, 64, 65, 66, 67, 68, 69, 70, 71, 72, 73, 74, 75, 76, 77, 78, 79, 80, 81, 82, 83, 84, 85, 86, 87, 88, 89, 90, 91, 92, 93, 94, 95, 96, 97, 98, 99, 100, 101, 102, 103, 104, 105, 106] rfl (by decide +kernel)
set_option maxRecDepth 20000 in
theorem gX8_goOn_X8_step : GoodIn wsX8_goOn (wsV RX8 56 RX8 yX8_step wsX8_step) := goodIn_app (goodIn_r _ [2, 3, 4, 5] rfl (by decide +kernel)) ggX8_goOn_X8_step
set_option maxRecDepth 100000 in
theorem dA299_cX8_sumWith : kDec cX8_sumWith [(0, .aload_n 0, 1), (1, .getfield 26, 3), (4, .aload_n 0, 1), (5, .getfield 15, 3), (8, .aload_n 0, 1), (9, .getfield 23, 3), (12, .iload_n 1, 1), (13, .invokevirtual 42, 3), (16, .iadd, 1), (17, .ireturn, 1)] = true := by decide +kernel
theorem dX8_sumWith_0 : decode cX8_sumWith 0 = .ok (.aload_n 0, 1) := kDec_at dA299_cX8_sumWith 0 rfl
theorem dX8_sumWith_1 : decode cX8_sumWith 1 = .ok (.getfield 26, 3) := kDec_at dA299_cX8_sumWith 1 rfl
theorem dX8_sumWith_4 : decode cX8_sumWith 4 = .ok (.aload_n 0, 1) := kDec_at dA299_cX8_sumWith 2 rfl
theorem dX8_sumWith_5 : decode cX8_sumWith 5 = .ok (.getfield 15, 3) := kDec_at dA299_cX8_sumWith 3 rfl
theorem dX8_sumWith_8 : decode cX8_sumWith 8 = .ok (.aload_n 0, 1) := kDec_at dA299_cX8_sumWith 4 rfl
theorem dX8_sumWith_9 : decode cX8_sumWith 9 = .ok (.getfield 23, 3) := kDec_at dA299_cX8_sumWith 5 rfl
theorem dX8_sumWith_12 : decode cX8_sumWith 12 = .ok (.iload_n 1, 1) := kDec_at dA299_cX8_sumWith 6 rfl
theorem dX8_sumWith_13 : decode cX8_sumWith 13 = .ok (.invokevirtual 42, 3) := kDec_at dA299_cX8_sumWith 7 rfl
theorem dX8_sumWith_16 : decode cX8_sumWith 16 = .ok (.iadd, 1) := kDec_at dA299_cX8_sumWith 8 rfl
theorem dX8_sumWith_17 : decode cX8_sumWith 17 = .ok (.ireturn, 1) := kDec_at dA299_cX8_sumWith 9 rfl
set_option maxRecDepth 20000 in
theorem ggX8_sumWith_X3_of : GoodIn wsX8_sumWith wsX3_of := goodIn_r _ [8, 9, 10, 11, 12, 13, 7, 14, 15, 16, 17, 18, 19, 20, 21, 22, 23, 24, 25, 32, 33, 34] rfl (by decide +kernel)
set_option maxRecDepth 20000 in
theorem gX8_sumWith_X3_of : GoodIn wsX8_sumWith (wsV RX8 42 RX3 yX3_of wsX3_of) := goodIn_app (goodIn_r _ [4, 5, 6, 7] rfl (by decide +kernel)) ggX8_sumWith_X3_of
set_option maxRecDepth 100000 in
theorem dA300_cX8_begin : kDec cX8_begin [(0, .aload_n 0, 1), (1, .iconst 0, 1), (2, .putfield 19, 3), (5, .aload_n 0, 1), (6, .bipush 32, 2), (8, .putfield 23, 3), (11, .aload_n 0, 1), (12, .iconst 0, 1), (13, .putfield 26, 3), (16, .aload_n 0, 1), (17, .iconst 0, 1), (18, .putfield 29, 3), (21, .return_, 1)] = true := by decide +kernel
theorem dX8_begin_0 : decode cX8_begin 0 = .ok (.aload_n 0, 1) := kDec_at dA300_cX8_begin 0 rfl
theorem dX8_begin_1 : decode cX8_begin 1 = .ok (.iconst 0, 1) := kDec_at dA300_cX8_begin 1 rfl
theorem dX8_begin_2 : decode cX8_begin 2 = .ok (.putfield 19, 3) := kDec_at dA300_cX8_begin 2 rfl
theorem dX8_begin_5 : decode cX8_begin 5 = .ok (.aload_n 0, 1) := kDec_at dA300_cX8_begin 3 rfl
theorem dX8_begin_6 : decode cX8_begin 6 = .ok (.bipush 32, 2) := kDec_at dA300_cX8_begin 4 rfl
theorem dX8_begin_8 : decode cX8_begin 8 = .ok (.putfield 23, 3) := kDec_at dA300_cX8_begin 5 rfl
theorem dX8_begin_11 : decode cX8_begin 11 = .ok (.aload_n 0, 1) := kDec_at dA300_cX8_begin 6 rfl
theorem dX8_begin_12 : decode cX8_begin 12 = .ok (.iconst 0, 1) := kDec_at dA300_cX8_begin 7 rfl
theorem dX8_begin_13 : decode cX8_begin 13 = .ok (.putfield 26, 3) := kDec_at dA300_cX8_begin 8 rfl
theorem dX8_begin_16 : decode cX8_begin 16 = .ok (.aload_n 0, 1) := kDec_at dA300_cX8_begin 9 rfl
theorem dX8_begin_17 : decode cX8_begin 17 = .ok (.iconst 0, 1) := kDec_at dA300_cX8_begin 10 rfl
theorem dX8_begin_18 : decode cX8_begin 18 = .ok (.putfield 29, 3) := kDec_at dA300_cX8_begin 11 rfl
theorem dX8_begin_21 : decode cX8_begin 21 = .ok (.return_, 1) := kDec_at dA300_cX8_begin 12 rfl
set_option maxRecDepth 100000 in
theorem dA301_cX8_takeAll : kDec cX8_takeAll [(0, .aload_n 0, 1), (1, .aload_n 1, 1), (2, .getfield 19, 3), (5, .putfield 19, 3), (8, .aload_n 0, 1), (9, .aload_n 1, 1), (10, .getfield 23, 3), (13, .putfield 23, 3), (16, .aload_n 0, 1), (17, .aload_n 1, 1), (18, .getfield 26, 3), (21, .putfield 26, 3), (24, .aload_n 0, 1), (25, .aload_n 1, 1), (26, .getfield 29, 3), (29, .putfield 29, 3), (32, .return_, 1)] = true := by decide +kernel
theorem dX8_takeAll_0 : decode cX8_takeAll 0 = .ok (.aload_n 0, 1) := kDec_at dA301_cX8_takeAll 0 rfl
theorem dX8_takeAll_1 : decode cX8_takeAll 1 = .ok (.aload_n 1, 1) := kDec_at dA301_cX8_takeAll 1 rfl
theorem dX8_takeAll_2 : decode cX8_takeAll 2 = .ok (.getfield 19, 3) := kDec_at dA301_cX8_takeAll 2 rfl
theorem dX8_takeAll_5 : decode cX8_takeAll 5 = .ok (.putfield 19, 3) := kDec_at dA301_cX8_takeAll 3 rfl
theorem dX8_takeAll_8 : decode cX8_takeAll 8 = .ok (.aload_n 0, 1) := kDec_at dA301_cX8_takeAll 4 rfl
theorem dX8_takeAll_9 : decode cX8_takeAll 9 = .ok (.aload_n 1, 1) := kDec_at dA301_cX8_takeAll 5 rfl
theorem dX8_takeAll_10 : decode cX8_takeAll 10 = .ok (.getfield 23, 3) := kDec_at dA301_cX8_takeAll 6 rfl
theorem dX8_takeAll_13 : decode cX8_takeAll 13 = .ok (.putfield 23, 3) := kDec_at dA301_cX8_takeAll 7 rfl
theorem dX8_takeAll_16 : decode cX8_takeAll 16 = .ok (.aload_n 0, 1) := kDec_at dA301_cX8_takeAll 8 rfl
theorem dX8_takeAll_17 : decode cX8_takeAll 17 = .ok (.aload_n 1, 1) := kDec_at dA301_cX8_takeAll 9 rfl
theorem dX8_takeAll_18 : decode cX8_takeAll 18 = .ok (.getfield 26, 3) := kDec_at dA301_cX8_takeAll 10 rfl
theorem dX8_takeAll_21 : decode cX8_takeAll 21 = .ok (.putfield 26, 3) := kDec_at dA301_cX8_takeAll 11 rfl
theorem dX8_takeAll_24 : decode cX8_takeAll 24 = .ok (.aload_n 0, 1) := kDec_at dA301_cX8_takeAll 12 rfl
theorem dX8_takeAll_25 : decode cX8_takeAll 25 = .ok (.aload_n 1, 1) := kDec_at dA301_cX8_takeAll 13 rfl
theorem dX8_takeAll_26 : decode cX8_takeAll 26 = .ok (.getfield 29, 3) := kDec_at dA301_cX8_takeAll 14 rfl
theorem dX8_takeAll_29 : decode cX8_takeAll 29 = .ok (.putfield 29, 3) := kDec_at dA301_cX8_takeAll 15 rfl
theorem dX8_takeAll_32 : decode cX8_takeAll 32 = .ok (.return_, 1) := kDec_at dA301_cX8_takeAll 16 rfl
set_option maxRecDepth 100000 in
theorem dA302_cX4_writtenIn : kDec cX4_writtenIn [(0, .iload_n 1, 1), (1, .ifCond .lt 20, 3), (4, .iload_n 1, 1), (5, .aload_n 0, 1), (6, .getfield 22, 3), (9, .if_icmp .ge 12, 3), (12, .aload_n 0, 1), (13, .getfield 9, 3), (16, .iload_n 1, 1), (17, .iaload, 1), (18, .goto 4, 3), (22, .ireturn, 1)] = true := by decide +kernel
theorem dX4_writtenIn_0 : decode cX4_writtenIn 0 = .ok (.iload_n 1, 1) := kDec_at dA302_cX4_writtenIn 0 rfl
theorem dX4_writtenIn_1 : decode cX4_writtenIn 1 = .ok (.ifCond .lt 20, 3) := kDec_at dA302_cX4_writtenIn 1 rfl
theorem dX4_writtenIn_4 : decode cX4_writtenIn 4 = .ok (.iload_n 1, 1) := kDec_at dA302_cX4_writtenIn 2 rfl
theorem dX4_writtenIn_5 : decode cX4_writtenIn 5 = .ok (.aload_n 0, 1) := kDec_at dA302_cX4_writtenIn 3 rfl
theorem dX4_writtenIn_6 : decode cX4_writtenIn 6 = .ok (.getfield 22, 3) := kDec_at dA302_cX4_writtenIn 4 rfl
theorem dX4_writtenIn_9 : decode cX4_writtenIn 9 = .ok (.if_icmp .ge 12, 3) := kDec_at dA302_cX4_writtenIn 5 rfl
theorem dX4_writtenIn_12 : decode cX4_writtenIn 12 = .ok (.aload_n 0, 1) := kDec_at dA302_cX4_writtenIn 6 rfl
theorem dX4_writtenIn_13 : decode cX4_writtenIn 13 = .ok (.getfield 9, 3) := kDec_at dA302_cX4_writtenIn 7 rfl
theorem dX4_writtenIn_16 : decode cX4_writtenIn 16 = .ok (.iload_n 1, 1) := kDec_at dA302_cX4_writtenIn 8 rfl
theorem dX4_writtenIn_17 : decode cX4_writtenIn 17 = .ok (.iaload, 1) := kDec_at dA302_cX4_writtenIn 9 rfl
theorem dX4_writtenIn_18 : decode cX4_writtenIn 18 = .ok (.goto 4, 3) := kDec_at dA302_cX4_writtenIn 10 rfl
theorem dX4_writtenIn_22 : decode cX4_writtenIn 22 = .ok (.ireturn, 1) := kDec_at dA302_cX4_writtenIn 11 rfl
set_option maxRecDepth 100000 in
theorem dA303_cX4_readIn : kDec cX4_readIn [(0, .iload_n 1, 1), (1, .ifCond .lt 20, 3), (4, .iload_n 1, 1), (5, .aload_n 0, 1), (6, .getfield 22, 3), (9, .if_icmp .ge 12, 3), (12, .aload_n 0, 1), (13, .getfield 15, 3), (16, .iload_n 1, 1), (17, .iaload, 1), (18, .goto 4, 3), (22, .ireturn, 1)] = true := by decide +kernel
theorem dX4_readIn_0 : decode cX4_readIn 0 = .ok (.iload_n 1, 1) := kDec_at dA303_cX4_readIn 0 rfl
theorem dX4_readIn_1 : decode cX4_readIn 1 = .ok (.ifCond .lt 20, 3) := kDec_at dA303_cX4_readIn 1 rfl
theorem dX4_readIn_4 : decode cX4_readIn 4 = .ok (.iload_n 1, 1) := kDec_at dA303_cX4_readIn 2 rfl
theorem dX4_readIn_5 : decode cX4_readIn 5 = .ok (.aload_n 0, 1) := kDec_at dA303_cX4_readIn 3 rfl
theorem dX4_readIn_6 : decode cX4_readIn 6 = .ok (.getfield 22, 3) := kDec_at dA303_cX4_readIn 4 rfl
theorem dX4_readIn_9 : decode cX4_readIn 9 = .ok (.if_icmp .ge 12, 3) := kDec_at dA303_cX4_readIn 5 rfl
theorem dX4_readIn_12 : decode cX4_readIn 12 = .ok (.aload_n 0, 1) := kDec_at dA303_cX4_readIn 6 rfl
theorem dX4_readIn_13 : decode cX4_readIn 13 = .ok (.getfield 15, 3) := kDec_at dA303_cX4_readIn 7 rfl
theorem dX4_readIn_16 : decode cX4_readIn 16 = .ok (.iload_n 1, 1) := kDec_at dA303_cX4_readIn 8 rfl
theorem dX4_readIn_17 : decode cX4_readIn 17 = .ok (.iaload, 1) := kDec_at dA303_cX4_readIn 9 rfl
theorem dX4_readIn_18 : decode cX4_readIn 18 = .ok (.goto 4, 3) := kDec_at dA303_cX4_readIn 10 rfl
theorem dX4_readIn_22 : decode cX4_readIn 22 = .ok (.ireturn, 1) := kDec_at dA303_cX4_readIn 11 rfl
set_option maxRecDepth 100000 in
theorem dA304_cX6_isBetter : kDec cX6_isBetter [(0, .iload_n 2, 1), (1, .aload_n 0, 1), (2, .getfield 26, 3), (5, .iload_n 1, 1), (6, .iaload, 1), (7, .if_icmp .eq 19, 3), (26, .iload_n 3, 1), (27, .aload_n 0, 1), (28, .getfield 30, 3), (31, .iload_n 1, 1), (32, .iaload, 1), (33, .if_icmp .eq 19, 3), (52, .iload 4, 2), (54, .aload_n 0, 1), (55, .getfield 33, 3), (58, .iload_n 1, 1), (59, .iaload, 1), (60, .if_icmp .le 7, 3), (67, .iconst 0, 1), (68, .ireturn, 1), (63, .iconst 1, 1), (64, .goto 4, 3), (36, .iload_n 3, 1), (37, .aload_n 0, 1)] = true := by decide +kernel
theorem dX6_isBetter_0 : decode cX6_isBetter 0 = .ok (.iload_n 2, 1) := kDec_at dA304_cX6_isBetter 0 rfl
theorem dX6_isBetter_1 : decode cX6_isBetter 1 = .ok (.aload_n 0, 1) := kDec_at dA304_cX6_isBetter 1 rfl
theorem dX6_isBetter_2 : decode cX6_isBetter 2 = .ok (.getfield 26, 3) := kDec_at dA304_cX6_isBetter 2 rfl
theorem dX6_isBetter_5 : decode cX6_isBetter 5 = .ok (.iload_n 1, 1) := kDec_at dA304_cX6_isBetter 3 rfl
theorem dX6_isBetter_6 : decode cX6_isBetter 6 = .ok (.iaload, 1) := kDec_at dA304_cX6_isBetter 4 rfl
theorem dX6_isBetter_7 : decode cX6_isBetter 7 = .ok (.if_icmp .eq 19, 3) := kDec_at dA304_cX6_isBetter 5 rfl
theorem dX6_isBetter_26 : decode cX6_isBetter 26 = .ok (.iload_n 3, 1) := kDec_at dA304_cX6_isBetter 6 rfl
theorem dX6_isBetter_27 : decode cX6_isBetter 27 = .ok (.aload_n 0, 1) := kDec_at dA304_cX6_isBetter 7 rfl
theorem dX6_isBetter_28 : decode cX6_isBetter 28 = .ok (.getfield 30, 3) := kDec_at dA304_cX6_isBetter 8 rfl
theorem dX6_isBetter_31 : decode cX6_isBetter 31 = .ok (.iload_n 1, 1) := kDec_at dA304_cX6_isBetter 9 rfl
theorem dX6_isBetter_32 : decode cX6_isBetter 32 = .ok (.iaload, 1) := kDec_at dA304_cX6_isBetter 10 rfl
theorem dX6_isBetter_33 : decode cX6_isBetter 33 = .ok (.if_icmp .eq 19, 3) := kDec_at dA304_cX6_isBetter 11 rfl
theorem dX6_isBetter_52 : decode cX6_isBetter 52 = .ok (.iload 4, 2) := kDec_at dA304_cX6_isBetter 12 rfl
theorem dX6_isBetter_54 : decode cX6_isBetter 54 = .ok (.aload_n 0, 1) := kDec_at dA304_cX6_isBetter 13 rfl
theorem dX6_isBetter_55 : decode cX6_isBetter 55 = .ok (.getfield 33, 3) := kDec_at dA304_cX6_isBetter 14 rfl
theorem dX6_isBetter_58 : decode cX6_isBetter 58 = .ok (.iload_n 1, 1) := kDec_at dA304_cX6_isBetter 15 rfl
theorem dX6_isBetter_59 : decode cX6_isBetter 59 = .ok (.iaload, 1) := kDec_at dA304_cX6_isBetter 16 rfl
theorem dX6_isBetter_60 : decode cX6_isBetter 60 = .ok (.if_icmp .le 7, 3) := kDec_at dA304_cX6_isBetter 17 rfl
theorem dX6_isBetter_67 : decode cX6_isBetter 67 = .ok (.iconst 0, 1) := kDec_at dA304_cX6_isBetter 18 rfl
theorem dX6_isBetter_68 : decode cX6_isBetter 68 = .ok (.ireturn, 1) := kDec_at dA304_cX6_isBetter 19 rfl
theorem dX6_isBetter_63 : decode cX6_isBetter 63 = .ok (.iconst 1, 1) := kDec_at dA304_cX6_isBetter 20 rfl
theorem dX6_isBetter_64 : decode cX6_isBetter 64 = .ok (.goto 4, 3) := kDec_at dA304_cX6_isBetter 21 rfl
theorem dX6_isBetter_36 : decode cX6_isBetter 36 = .ok (.iload_n 3, 1) := kDec_at dA304_cX6_isBetter 22 rfl
theorem dX6_isBetter_37 : decode cX6_isBetter 37 = .ok (.aload_n 0, 1) := kDec_at dA304_cX6_isBetter 23 rfl
set_option maxRecDepth 100000 in
theorem dA305_cX6_isBetter : kDec cX6_isBetter [(38, .getfield 30, 3), (41, .iload_n 1, 1), (42, .iaload, 1), (43, .if_icmp .ge 7, 3), (50, .iconst 0, 1), (51, .ireturn, 1), (46, .iconst 1, 1), (47, .goto 4, 3), (10, .iload_n 2, 1), (11, .aload_n 0, 1), (12, .getfield 26, 3), (15, .iload_n 1, 1), (16, .iaload, 1), (17, .if_icmp .ge 7, 3), (24, .iconst 0, 1), (25, .ireturn, 1), (20, .iconst 1, 1), (21, .goto 4, 3)] = true := by decide +kernel
theorem dX6_isBetter_38 : decode cX6_isBetter 38 = .ok (.getfield 30, 3) := kDec_at dA305_cX6_isBetter 0 rfl
theorem dX6_isBetter_41 : decode cX6_isBetter 41 = .ok (.iload_n 1, 1) := kDec_at dA305_cX6_isBetter 1 rfl
theorem dX6_isBetter_42 : decode cX6_isBetter 42 = .ok (.iaload, 1) := kDec_at dA305_cX6_isBetter 2 rfl
theorem dX6_isBetter_43 : decode cX6_isBetter 43 = .ok (.if_icmp .ge 7, 3) := kDec_at dA305_cX6_isBetter 3 rfl
theorem dX6_isBetter_50 : decode cX6_isBetter 50 = .ok (.iconst 0, 1) := kDec_at dA305_cX6_isBetter 4 rfl
theorem dX6_isBetter_51 : decode cX6_isBetter 51 = .ok (.ireturn, 1) := kDec_at dA305_cX6_isBetter 5 rfl
theorem dX6_isBetter_46 : decode cX6_isBetter 46 = .ok (.iconst 1, 1) := kDec_at dA305_cX6_isBetter 6 rfl
theorem dX6_isBetter_47 : decode cX6_isBetter 47 = .ok (.goto 4, 3) := kDec_at dA305_cX6_isBetter 7 rfl
theorem dX6_isBetter_10 : decode cX6_isBetter 10 = .ok (.iload_n 2, 1) := kDec_at dA305_cX6_isBetter 8 rfl
theorem dX6_isBetter_11 : decode cX6_isBetter 11 = .ok (.aload_n 0, 1) := kDec_at dA305_cX6_isBetter 9 rfl
theorem dX6_isBetter_12 : decode cX6_isBetter 12 = .ok (.getfield 26, 3) := kDec_at dA305_cX6_isBetter 10 rfl
theorem dX6_isBetter_15 : decode cX6_isBetter 15 = .ok (.iload_n 1, 1) := kDec_at dA305_cX6_isBetter 11 rfl
theorem dX6_isBetter_16 : decode cX6_isBetter 16 = .ok (.iaload, 1) := kDec_at dA305_cX6_isBetter 12 rfl
theorem dX6_isBetter_17 : decode cX6_isBetter 17 = .ok (.if_icmp .ge 7, 3) := kDec_at dA305_cX6_isBetter 13 rfl
theorem dX6_isBetter_24 : decode cX6_isBetter 24 = .ok (.iconst 0, 1) := kDec_at dA305_cX6_isBetter 14 rfl
theorem dX6_isBetter_25 : decode cX6_isBetter 25 = .ok (.ireturn, 1) := kDec_at dA305_cX6_isBetter 15 rfl
theorem dX6_isBetter_20 : decode cX6_isBetter 20 = .ok (.iconst 1, 1) := kDec_at dA305_cX6_isBetter 16 rfl
theorem dX6_isBetter_21 : decode cX6_isBetter 21 = .ok (.goto 4, 3) := kDec_at dA305_cX6_isBetter 17 rfl
set_option maxRecDepth 100000 in
theorem dA306_cX6_offer : kDec cX6_offer [(0, .iload_n 1, 1), (1, .ifCond .lt 14, 3), (4, .iload_n 2, 1), (5, .iload_n 1, 1), (6, .if_icmp .le 9, 3), (9, .iload_n 2, 1), (10, .bipush 60, 2), (12, .if_icmp .le 4, 3), (16, .iload 4, 2), (18, .aload_n 0, 1), (19, .getfield 26, 3), (22, .iload_n 2, 1), (23, .iaload, 1), (24, .iadd, 1), (25, .aload_n 0, 1), (26, .getfield 30, 3), (29, .iload_n 2, 1), (30, .iaload, 1), (31, .ifCond .le 10, 3), (41, .iconst 0, 1), (42, .iadd, 1), (43, .istore 5, 2), (45, .iconst 1, 1), (46, .aload_n 0, 1)] = true := by decide +kernel
theorem dX6_offer_0 : decode cX6_offer 0 = .ok (.iload_n 1, 1) := kDec_at dA306_cX6_offer 0 rfl
theorem dX6_offer_1 : decode cX6_offer 1 = .ok (.ifCond .lt 14, 3) := kDec_at dA306_cX6_offer 1 rfl
theorem dX6_offer_4 : decode cX6_offer 4 = .ok (.iload_n 2, 1) := kDec_at dA306_cX6_offer 2 rfl
theorem dX6_offer_5 : decode cX6_offer 5 = .ok (.iload_n 1, 1) := kDec_at dA306_cX6_offer 3 rfl
theorem dX6_offer_6 : decode cX6_offer 6 = .ok (.if_icmp .le 9, 3) := kDec_at dA306_cX6_offer 4 rfl
theorem dX6_offer_9 : decode cX6_offer 9 = .ok (.iload_n 2, 1) := kDec_at dA306_cX6_offer 5 rfl
theorem dX6_offer_10 : decode cX6_offer 10 = .ok (.bipush 60, 2) := kDec_at dA306_cX6_offer 6 rfl
theorem dX6_offer_12 : decode cX6_offer 12 = .ok (.if_icmp .le 4, 3) := kDec_at dA306_cX6_offer 7 rfl
theorem dX6_offer_16 : decode cX6_offer 16 = .ok (.iload 4, 2) := kDec_at dA306_cX6_offer 8 rfl
theorem dX6_offer_18 : decode cX6_offer 18 = .ok (.aload_n 0, 1) := kDec_at dA306_cX6_offer 9 rfl
theorem dX6_offer_19 : decode cX6_offer 19 = .ok (.getfield 26, 3) := kDec_at dA306_cX6_offer 10 rfl
theorem dX6_offer_22 : decode cX6_offer 22 = .ok (.iload_n 2, 1) := kDec_at dA306_cX6_offer 11 rfl
theorem dX6_offer_23 : decode cX6_offer 23 = .ok (.iaload, 1) := kDec_at dA306_cX6_offer 12 rfl
theorem dX6_offer_24 : decode cX6_offer 24 = .ok (.iadd, 1) := kDec_at dA306_cX6_offer 13 rfl
theorem dX6_offer_25 : decode cX6_offer 25 = .ok (.aload_n 0, 1) := kDec_at dA306_cX6_offer 14 rfl
theorem dX6_offer_26 : decode cX6_offer 26 = .ok (.getfield 30, 3) := kDec_at dA306_cX6_offer 15 rfl
theorem dX6_offer_29 : decode cX6_offer 29 = .ok (.iload_n 2, 1) := kDec_at dA306_cX6_offer 16 rfl
theorem dX6_offer_30 : decode cX6_offer 30 = .ok (.iaload, 1) := kDec_at dA306_cX6_offer 17 rfl
theorem dX6_offer_31 : decode cX6_offer 31 = .ok (.ifCond .le 10, 3) := kDec_at dA306_cX6_offer 18 rfl
theorem dX6_offer_41 : decode cX6_offer 41 = .ok (.iconst 0, 1) := kDec_at dA306_cX6_offer 19 rfl
theorem dX6_offer_42 : decode cX6_offer 42 = .ok (.iadd, 1) := kDec_at dA306_cX6_offer 20 rfl
theorem dX6_offer_43 : decode cX6_offer 43 = .ok (.istore 5, 2) := kDec_at dA306_cX6_offer 21 rfl
theorem dX6_offer_45 : decode cX6_offer 45 = .ok (.iconst 1, 1) := kDec_at dA306_cX6_offer 22 rfl
theorem dX6_offer_46 : decode cX6_offer 46 = .ok (.aload_n 0, 1) := kDec_at dA306_cX6_offer 23 rfl
set_option maxRecDepth 100000 in
theorem dA307_cX6_offer : kDec cX6_offer [(47, .getfield 30, 3), (50, .iload_n 2, 1), (51, .iaload, 1), (52, .iadd, 1), (53, .istore 6, 2), (55, .aload_n 0, 1), (56, .getfield 26, 3), (59, .iload_n 1, 1), (60, .iaload, 1), (61, .iconst (-1), 1), (62, .if_icmp .eq 16, 3), (78, .aload_n 0, 1), (79, .getfield 26, 3), (82, .iload_n 1, 1), (83, .iload 5, 2), (85, .iastore, 1), (86, .aload_n 0, 1), (87, .getfield 30, 3), (90, .iload_n 1, 1), (91, .iload 6, 2), (93, .iastore, 1), (94, .aload_n 0, 1), (95, .getfield 33, 3), (98, .iload_n 1, 1)] = true := by decide +kernel
theorem dX6_offer_47 : decode cX6_offer 47 = .ok (.getfield 30, 3) := kDec_at dA307_cX6_offer 0 rfl
theorem dX6_offer_50 : decode cX6_offer 50 = .ok (.iload_n 2, 1) := kDec_at dA307_cX6_offer 1 rfl
theorem dX6_offer_51 : decode cX6_offer 51 = .ok (.iaload, 1) := kDec_at dA307_cX6_offer 2 rfl
theorem dX6_offer_52 : decode cX6_offer 52 = .ok (.iadd, 1) := kDec_at dA307_cX6_offer 3 rfl
theorem dX6_offer_53 : decode cX6_offer 53 = .ok (.istore 6, 2) := kDec_at dA307_cX6_offer 4 rfl
theorem dX6_offer_55 : decode cX6_offer 55 = .ok (.aload_n 0, 1) := kDec_at dA307_cX6_offer 5 rfl
theorem dX6_offer_56 : decode cX6_offer 56 = .ok (.getfield 26, 3) := kDec_at dA307_cX6_offer 6 rfl
theorem dX6_offer_59 : decode cX6_offer 59 = .ok (.iload_n 1, 1) := kDec_at dA307_cX6_offer 7 rfl
theorem dX6_offer_60 : decode cX6_offer 60 = .ok (.iaload, 1) := kDec_at dA307_cX6_offer 8 rfl
theorem dX6_offer_61 : decode cX6_offer 61 = .ok (.iconst (-1), 1) := kDec_at dA307_cX6_offer 9 rfl
theorem dX6_offer_62 : decode cX6_offer 62 = .ok (.if_icmp .eq 16, 3) := kDec_at dA307_cX6_offer 10 rfl
theorem dX6_offer_78 : decode cX6_offer 78 = .ok (.aload_n 0, 1) := kDec_at dA307_cX6_offer 11 rfl
theorem dX6_offer_79 : decode cX6_offer 79 = .ok (.getfield 26, 3) := kDec_at dA307_cX6_offer 12 rfl
theorem dX6_offer_82 : decode cX6_offer 82 = .ok (.iload_n 1, 1) := kDec_at dA307_cX6_offer 13 rfl
theorem dX6_offer_83 : decode cX6_offer 83 = .ok (.iload 5, 2) := kDec_at dA307_cX6_offer 14 rfl
theorem dX6_offer_85 : decode cX6_offer 85 = .ok (.iastore, 1) := kDec_at dA307_cX6_offer 15 rfl
theorem dX6_offer_86 : decode cX6_offer 86 = .ok (.aload_n 0, 1) := kDec_at dA307_cX6_offer 16 rfl
theorem dX6_offer_87 : decode cX6_offer 87 = .ok (.getfield 30, 3) := kDec_at dA307_cX6_offer 17 rfl
theorem dX6_offer_90 : decode cX6_offer 90 = .ok (.iload_n 1, 1) := kDec_at dA307_cX6_offer 18 rfl
theorem dX6_offer_91 : decode cX6_offer 91 = .ok (.iload 6, 2) := kDec_at dA307_cX6_offer 19 rfl
theorem dX6_offer_93 : decode cX6_offer 93 = .ok (.iastore, 1) := kDec_at dA307_cX6_offer 20 rfl
theorem dX6_offer_94 : decode cX6_offer 94 = .ok (.aload_n 0, 1) := kDec_at dA307_cX6_offer 21 rfl
theorem dX6_offer_95 : decode cX6_offer 95 = .ok (.getfield 33, 3) := kDec_at dA307_cX6_offer 22 rfl
theorem dX6_offer_98 : decode cX6_offer 98 = .ok (.iload_n 1, 1) := kDec_at dA307_cX6_offer 23 rfl
set_option maxRecDepth 100000 in
theorem dA308_cX6_offer : kDec cX6_offer [(99, .iload_n 2, 1), (100, .iastore, 1), (101, .aload_n 0, 1), (102, .getfield 36, 3), (105, .iload_n 1, 1), (106, .iload_n 3, 1), (107, .iastore, 1), (108, .return_, 1), (65, .aload_n 0, 1), (66, .iload_n 1, 1), (67, .iload 5, 2), (69, .iload 6, 2), (71, .iload_n 2, 1), (72, .invokevirtual 128, 3), (75, .ifCond .eq 33, 3), (34, .aload_n 0, 1), (35, .getfield 60, 3), (38, .goto 4, 3)] = true := by decide +kernel
theorem dX6_offer_99 : decode cX6_offer 99 = .ok (.iload_n 2, 1) := kDec_at dA308_cX6_offer 0 rfl
theorem dX6_offer_100 : decode cX6_offer 100 = .ok (.iastore, 1) := kDec_at dA308_cX6_offer 1 rfl
theorem dX6_offer_101 : decode cX6_offer 101 = .ok (.aload_n 0, 1) := kDec_at dA308_cX6_offer 2 rfl
theorem dX6_offer_102 : decode cX6_offer 102 = .ok (.getfield 36, 3) := kDec_at dA308_cX6_offer 3 rfl
theorem dX6_offer_105 : decode cX6_offer 105 = .ok (.iload_n 1, 1) := kDec_at dA308_cX6_offer 4 rfl
theorem dX6_offer_106 : decode cX6_offer 106 = .ok (.iload_n 3, 1) := kDec_at dA308_cX6_offer 5 rfl
theorem dX6_offer_107 : decode cX6_offer 107 = .ok (.iastore, 1) := kDec_at dA308_cX6_offer 6 rfl
theorem dX6_offer_108 : decode cX6_offer 108 = .ok (.return_, 1) := kDec_at dA308_cX6_offer 7 rfl
theorem dX6_offer_65 : decode cX6_offer 65 = .ok (.aload_n 0, 1) := kDec_at dA308_cX6_offer 8 rfl
theorem dX6_offer_66 : decode cX6_offer 66 = .ok (.iload_n 1, 1) := kDec_at dA308_cX6_offer 9 rfl
theorem dX6_offer_67 : decode cX6_offer 67 = .ok (.iload 5, 2) := kDec_at dA308_cX6_offer 10 rfl
theorem dX6_offer_69 : decode cX6_offer 69 = .ok (.iload 6, 2) := kDec_at dA308_cX6_offer 11 rfl
theorem dX6_offer_71 : decode cX6_offer 71 = .ok (.iload_n 2, 1) := kDec_at dA308_cX6_offer 12 rfl
theorem dX6_offer_72 : decode cX6_offer 72 = .ok (.invokevirtual 128, 3) := kDec_at dA308_cX6_offer 13 rfl
theorem dX6_offer_75 : decode cX6_offer 75 = .ok (.ifCond .eq 33, 3) := kDec_at dA308_cX6_offer 14 rfl
theorem dX6_offer_34 : decode cX6_offer 34 = .ok (.aload_n 0, 1) := kDec_at dA308_cX6_offer 15 rfl
theorem dX6_offer_35 : decode cX6_offer 35 = .ok (.getfield 60, 3) := kDec_at dA308_cX6_offer 16 rfl
theorem dX6_offer_38 : decode cX6_offer 38 = .ok (.goto 4, 3) := kDec_at dA308_cX6_offer 17 rfl
set_option maxRecDepth 20000 in
theorem ggX6_offer_X6_isBetter : GoodIn wsX6_offer wsX6_isBetter := goodIn_r _ [10, 1, 2, 4, 11, 12, 13, 14, 15, 16, 17, 18, 19, 20, 21, 22] rfl (by decide +kernel)
set_option maxRecDepth 20000 in
theorem gX6_offer_X6_isBetter : GoodIn wsX6_offer (wsV RX6 128 RX6 yX6_isBetter wsX6_isBetter) := goodIn_app (goodIn_r _ [6, 7, 8, 9] rfl (by decide +kernel)) ggX6_offer_X6_isBetter

end
