/-! 5b.parts -/
section
theorem bl_un {U : Nat → Nat → (Nat → Int32) → Nat → (Nat → Int32) → Prop} (hU : okU U) {f f' g : Nat → Int32} {i e c k : Nat} {h n : Int} (a : SPN U f i e h c f') (h0 : 0 ≤ h) (hk : h.toNat = k) (hn : n.toNat = e - i) (hg : ∀ j : Nat, (j : Int) < n → g j = f (i + j)) : U k n.toNat g c f' := by
  rcases a with ⟨a, _⟩ | ⟨_, a⟩
  · omega
  · rw [hn, ← hk]
    exact hU.2.1 _ _ _ _ _ _ (fun j hj => (hg j (by omega)).symm) a

theorem cpS_s {b : Nat} {l l' r i fr x : Int32} {g g' f : Nat → Int32} (h : ∀ j : Nat, (j : Int) < l.toInt → g j = f (b + j)) (hl : l.toInt = i.toInt - fr.toInt) (ha : F_add 300 l l' r g g' x) (hx : x = f i.toNatClampNeg) (hb : fr.toInt = b) (h0 : 0 ≤ l.toInt) (h3 : l.toInt < 300) : ∀ j : Nat, (j : Int) < l'.toInt → g' j = f (b + j) := by
  have c := v_clamp h0
  have e1 := F_add_l ha h3
  intro j hj
  rw [F_add_f ha h3]
  by_cases z : j = l.toNatClampNeg
  · rw [z, pk_us, hx, ix_eq (x := i) (N := b + l.toNatClampNeg) (by omega)]
  · rw [pk_un z]; exact h j (by omega)

set_option maxHeartbeats 40000000 in
set_option maxRecDepth 100000 in
theorem f_X6_build (l : Launch) (dC : Nat → ClassId) (dI : Nat → Nat → Nat) (cI cS : ClassId) (sz : Nat) (oQ : Nat) (nx : Nat) (nd : Nat) (oC : Nat) (oH : Nat) (oK : Nat) (oE : Nat) (nq : Nat) (np : Nat) (nv : Nat) (q1 : Nat) (q2 : Nat) (q3 : Nat) (q4 : Nat) (ap : Nat) (av : Nat) (oP : Nat) (h1 : Nat) (h2 : Nat) (nB : Nat) (aB : Nat) (o4 : Nat) (o5 : Nat) (a41 : Nat) (a42 : Nat) (a43 : Nat) (a51 : Nat) (a52 : Nat) (a53 : Nat) (ax : Nat) (ad : Nat) (pr : Int32) (fQ3 : Nat → Int32) (fQ4 : Nat → Int32) (lp : Int32) (fp : Nat → Int32) (lv : Int32) (fv : Nat → Int32) (lH : Int32) (fH1 : Nat → Int32) (fH2 : Nat → Int32) (ft : Int32) (lB : Int32) (fB : Nat → Int32) (l4 : Int32) (f41 : Nat → Int32) (f42 : Nat → Int32) (f43 : Nat → Int32) (l5 : Int32) (f51 : Nat → Int32) (f52 : Nat → Int32) (f53 : Nat → Int32) (lx : Int32) (fx : Nat → Int32) (ld : Int32) (fd : Nat → Int32) (g_lp : 0 ≤ lp.toInt ∧ lp.toInt ≤ 300) (g_lv : 0 ≤ lv.toInt ∧ lv.toInt ≤ 300) (g_lH : 0 ≤ lH.toInt ∧ lH.toInt ≤ 6) (g_lB : 0 ≤ lB.toInt ∧ lB.toInt ≤ 2400) (g_lx : 0 ≤ lx.toInt ∧ lx.toInt ≤ 300) (g_ld : 0 ≤ ld.toInt ∧ ld.toInt ≤ 300) (hlx6 : 1 ≤ lx.toInt ∧ lx.toInt ≤ 60) (hlt : prg lx.toInt 0 65535 fx) (hEH : ∀ i : Nat, i < lx.toNatClampNeg → (i : Int) < (fQ3 i).toInt ∧ (fQ3 i).toInt ≤ (lx.toNatClampNeg : Int) ∧ -1 ≤ (fQ4 i).toInt ∧ (fQ4 i).toInt < (lH.toNatClampNeg : Int) ∧ ∃ c f', SPN (UC fH1 fH2 f41 f42 f43 f51 f52 f53) fx i (fQ3 i).toInt.toNat (fQ4 i).toInt c f') (hT4 : HT 512 511 hsT f42 f43) (ho4 : (occ f43 512 : Int) ≤ 511) (hT5 : HT 512 511 hsT f52 f53) (ho5 : (occ f53 512 : Int) ≤ 511) (hL4 : prg 256 (-1) 65535 f41) (hL5 : prg 256 (-1) 65535 f51) (hBr : ∀ cd : Int32, okB (Bc cd f42 f43 f52 f53)) : kMi l yX6_build wsX6_build ({ frames := 6, cells := 0, slots := 0, locals := 147 } : Room) [.ref oQ, .ref nx, .ref nd] sz (dC, dI) vwCl [(cI, .int), (cS, .short)] [(oQ, .inr (6, [.ref oC, .ref oH, .ref oK, .ref oE, .ref nq, .ref np, .ref nv, .ref q1, .ref q2, .ref q3, .ref q4, .int pr])), (q3, .inl (cI, 61, .inl fQ3)), (q4, .inl (cI, 61, .inl fQ4)), (np, .inr (5, [.ref ap, .int lp])), (ap, .inl (cI, 300, .inl fp)), (nv, .inr (5, [.ref av, .int lv])), (av, .inl (cI, 300, .inl fv)), (oH, .inr (4, [.ref oP, .ref h1, .ref h2, .int lH])), (h1, .inl (cI, 6, .inl fH1)), (h2, .inl (cI, 6, .inl fH2)), (oP, .inr (7, [.ref oC, .ref nB, .int ft])), (nB, .inr (5, [.ref aB, .int lB])), (aB, .inl (cI, 2400, .inl fB)), (oC, .inr (2, [.ref o4, .ref o5])), (o4, .inr (10, [.ref a41, .ref a42, .ref a43, .int l4])), (a41, .inl (cI, 256, .inl f41)), (a42, .inl (cI, 512, .inl f42)), (a43, .inl (cI, 512, .inl f43)), (o5, .inr (10, [.ref a51, .ref a52, .ref a53, .int l5])), (a51, .inl (cI, 256, .inl f51)), (a52, .inl (cI, 512, .inl f52)), (a53, .inl (cI, 512, .inl f53)), (nx, .inr (5, [.ref ax, .int lx])), (ax, .inl (cI, 300, .inl fx)), (nd, .inr (5, [.ref ad, .int ld])), (ad, .inl (cI, 300, .inl fd))] (va_Nw (.methodLinkNest RX2 52 yX11_isLetter "TextMender")) 0 0 (fun (A : Nat → Prop) (r : Int32) (hh9 : Heap) => ∀ PZ9 : Prop, (∀ (lp' : Int32) (fp' : Nat → Int32) (lv' : Int32) (fv' : Nat → Int32) (ft' : Int32) (lB' : Int32) (fB' : Nat → Int32) (ld' : Int32) (fd' : Nat → Int32), kPD (dC, dI) vwCl A [(oQ, .inr (6, [.ref oC, .ref oH, .ref oK, .ref oE, .ref nq, .ref np, .ref nv, .ref q1, .ref q2, .ref q3, .ref q4, .int pr])), (q3, .inl (cI, 61, .inl fQ3)), (q4, .inl (cI, 61, .inl fQ4)), (np, .inr (5, [.ref ap, .int lp'])), (ap, .inl (cI, 300, .inl fp')), (nv, .inr (5, [.ref av, .int lv'])), (av, .inl (cI, 300, .inl fv')), (oH, .inr (4, [.ref oP, .ref h1, .ref h2, .int lH])), (h1, .inl (cI, 6, .inl fH1)), (h2, .inl (cI, 6, .inl fH2)), (oP, .inr (7, [.ref oC, .ref nB, .int ft'])), (nB, .inr (5, [.ref aB, .int lB'])), (aB, .inl (cI, 2400, .inl fB')), (oC, .inr (2, [.ref o4, .ref o5])), (o4, .inr (10, [.ref a41, .ref a42, .ref a43, .int l4])), (a41, .inl (cI, 256, .inl f41)), (a42, .inl (cI, 512, .inl f42)), (a43, .inl (cI, 512, .inl f43)), (o5, .inr (10, [.ref a51, .ref a52, .ref a53, .int l5])), (a51, .inl (cI, 256, .inl f51)), (a52, .inl (cI, 512, .inl f52)), (a53, .inl (cI, 512, .inl f53)), (nx, .inr (5, [.ref ax, .int lx])), (ax, .inl (cI, 300, .inl fx)), (nd, .inr (5, [.ref ad, .int ld'])), (ad, .inl (cI, 300, .inl fd'))] hh9 → (0 ≤ lp'.toInt ∧ lp'.toInt ≤ 300) → (0 ≤ lv'.toInt ∧ lv'.toInt ≤ 300) → (0 ≤ lB'.toInt ∧ lB'.toInt ≤ 2400) → (0 ≤ ld'.toInt ∧ ld'.toInt ≤ 300) → (0 ≤ r.toInt ∧ r.toInt ≤ 1) → (F_lay (UC fH1 fH2 f41 f42 f43 f51 f52 f53) lx.toNatClampNeg fx fQ3 fQ4 r ld' fd') → PZ9) → PZ9) := by
  refine kMi_of (cc := cX6_build) (maxL := 6) (ret := (some .boolean)) (lv := [(0, .ref oQ), (1, .ref nx), (2, .ref nd)]) (by decide +kernel) rfl rfl (Nat.le_of_ble_eq_true rfl) ?_
  intro p e s m below meth c A QQ ls hx hb hr hts hml hown hlocks hA hQQ hK hX hP hD hS hl
  have hown : s.vm.findClass RX6 = some m.cls := hown
  have hcf := k_cf hx hb hml hown hts
  have hN52 := hX
  have in_X6 : ∀ w ∈ wsX60, w ∈ wsX6_build := fun _ h => List.mem_cons_of_mem _ (List.mem_append_left _ (List.mem_append_left _ (List.mem_append_left _ (List.mem_append_left _ (List.mem_append_left _ (List.mem_append_left _ (List.mem_append_left _ (List.mem_append_left _ (List.mem_append_left _ (List.mem_append_left _ (List.mem_append_left _ (List.mem_append_left _ (List.mem_append_right _ (h))))))))))))))
  replace g_lp := hid g_lp
  replace g_lv := hid g_lv
  replace g_lB := hid g_lB
  have z0 : (0 : Int32).toInt = 0 := rfl
  have z1 : (1 : Int32).toInt = 1 := rfl
  have zm1 : (-1 : Int32).toInt = -1 := rfl
  have okU9 : okU (UC fH1 fH2 f41 f42 f43 f51 f52 f53) := okU_C hBr hL4 hL5
  have cz9 := v_clamp (x := lH) (by omega)
  have cx9 := v_clamp (x := lx) (by omega)
  refine lv_aload_n hx hb dX6_build_0 rfl (lv_at hl 2 rfl) ?_
  refine lv_iconst (v := 0) hx hb dX6_build_1 (by decide) ?_
  refine kV_v (rest := []) (q0 := 0) (ci := 5) hcf (m_X5_cut l dC dI cI cS s.heap.size nd ad ld 0 (v_rr g_ld (by decide) (by decide))) kc_X5_cut gX6_build_X5_cut rfl rfl rfl ⟨Nat.le_of_ble_eq_true rfl, Nat.le_of_ble_eq_true rfl⟩ kX_t hK hP hD hS hA (posT mk_60 0) (posF mk_60 0) (kC_of mk_60 rfl rfl) (by decide +kernel) rfl rfl rfl hl rfl (Nat.le_of_ble_eq_true rfl) dX6_build_2 ⟨Nat.le_of_ble_eq_true rfl, Nat.le_of_ble_eq_true rfl⟩ (fun H locs hB hJ hSn => ?_)
  refine hB _ (fun lu_1 hPD9 hf1_0 hf1_1 hf1_2 => ?_)
  clear hB
  obtain ⟨hPn, hDn⟩ := kJi (m := mk_60) hJ rfl hPD9.1 hPD9.2 (wn := [(oQ, .inr (6, [.ref oC, .ref oH, .ref oK, .ref oE, .ref nq, .ref np, .ref nv, .ref q1, .ref q2, .ref q3, .ref q4, .int pr])), (q3, .inl (cI, 61, .inl fQ3)), (q4, .inl (cI, 61, .inl fQ4)), (np, .inr (5, [.ref ap, .int lp])), (ap, .inl (cI, 300, .inl fp)), (nv, .inr (5, [.ref av, .int lv])), (av, .inl (cI, 300, .inl fv)), (oH, .inr (4, [.ref oP, .ref h1, .ref h2, .int lH])), (h1, .inl (cI, 6, .inl fH1)), (h2, .inl (cI, 6, .inl fH2)), (oP, .inr (7, [.ref oC, .ref nB, .int ft])), (nB, .inr (5, [.ref aB, .int lB])), (aB, .inl (cI, 2400, .inl fB)), (oC, .inr (2, [.ref o4, .ref o5])), (o4, .inr (10, [.ref a41, .ref a42, .ref a43, .int l4])), (a41, .inl (cI, 256, .inl f41)), (a42, .inl (cI, 512, .inl f42)), (a43, .inl (cI, 512, .inl f43)), (o5, .inr (10, [.ref a51, .ref a52, .ref a53, .int l5])), (a51, .inl (cI, 256, .inl f51)), (a52, .inl (cI, 512, .inl f52)), (a53, .inl (cI, 512, .inl f53)), (nx, .inr (5, [.ref ax, .int lx])), (ax, .inl (cI, 300, .inl fx)), (nd, .inr (5, [.ref ad, .int lu_1])), (ad, .inl (cI, 300, .inl fd))]) rfl
  clear hP hD hS hJ hPD9
  have hP := hPn
  have hD := hDn
  have hS := hSn
  clear hPn hDn hSn
  have ha1 : lu_1.toInt = 0 := F_cut_l hf1_2 (by first | decide | omega) (by first | omega | (show (0 : Int) ≤ _; omega))
  refine lv_aload_n hx hb dX6_build_5 rfl (lv_at hl 1 rfl) ?_
  refine kV_i (rest := []) (q0 := 0) (ci := 5) hcf (m_X5_length l dC dI cI cS H.size nx ax lx ) kc_X5_length gX6_build_X5_length rfl rfl rfl ⟨Nat.le_of_ble_eq_true rfl, Nat.le_of_ble_eq_true rfl⟩ kX_t hK hP hD hS hA (posT mk_61 0) (posF mk_61 0) (kC_of mk_61 rfl rfl) (by decide +kernel) rfl rfl rfl hl rfl (Nat.le_of_ble_eq_true rfl) dX6_build_6 ⟨Nat.le_of_ble_eq_true rfl, Nat.le_of_ble_eq_true rfl⟩ (fun r_2 H locs hB hJ hSn => ?_)
  refine hB _ (fun hPD9 hf2_0 => ?_)
  clear hB
  obtain ⟨hPn, hDn⟩ := kJi (m := mk_61) hJ rfl hPD9.1 hPD9.2 (wn := [(oQ, .inr (6, [.ref oC, .ref oH, .ref oK, .ref oE, .ref nq, .ref np, .ref nv, .ref q1, .ref q2, .ref q3, .ref q4, .int pr])), (q3, .inl (cI, 61, .inl fQ3)), (q4, .inl (cI, 61, .inl fQ4)), (np, .inr (5, [.ref ap, .int lp])), (ap, .inl (cI, 300, .inl fp)), (nv, .inr (5, [.ref av, .int lv])), (av, .inl (cI, 300, .inl fv)), (oH, .inr (4, [.ref oP, .ref h1, .ref h2, .int lH])), (h1, .inl (cI, 6, .inl fH1)), (h2, .inl (cI, 6, .inl fH2)), (oP, .inr (7, [.ref oC, .ref nB, .int ft])), (nB, .inr (5, [.ref aB, .int lB])), (aB, .inl (cI, 2400, .inl fB)), (oC, .inr (2, [.ref o4, .ref o5])), (o4, .inr (10, [.ref a41, .ref a42, .ref a43, .int l4])), (a41, .inl (cI, 256, .inl f41)), (a42, .inl (cI, 512, .inl f42)), (a43, .inl (cI, 512, .inl f43)), (o5, .inr (10, [.ref a51, .ref a52, .ref a53, .int l5])), (a51, .inl (cI, 256, .inl f51)), (a52, .inl (cI, 512, .inl f52)), (a53, .inl (cI, 512, .inl f53)), (nx, .inr (5, [.ref ax, .int lx])), (ax, .inl (cI, 300, .inl fx)), (nd, .inr (5, [.ref ad, .int lu_1])), (ad, .inl (cI, 300, .inl fd))]) rfl
  clear hP hD hS hJ hPD9
  have hP := hPn
  have hD := hDn
  have hS := hSn
  clear hPn hDn hSn
  rw [hf2_0]
  refine lv_bipush (v := 60) hx hb dX6_build_9 (by decide) ?_
  refine va_mmin hx hb (by rw [hml]; exact hl.1.symm) hown (hts (.methodLink RX6 68 Lib.Math.min.name) (List.mem_of_getElem? (i := 1) rfl)) (hts (.static Lib.Math.min.name) (List.mem_of_getElem? (i := 2) rfl)) (hts (.initialized "java/lang/Math") (List.mem_of_getElem? (i := 3) rfl)) (hts (.code Lib.Math.min.name Lib.Math.min.code 2 (some .int)) (List.mem_of_getElem? (i := 4) rfl)) (Nat.le_of_ble_eq_true rfl) (Nat.le_of_ble_eq_true rfl) (Nat.zero_le _) (Nat.zero_le _) dX6_build_11 ?_
  refine lv_topi (fun x_3 ex_3 => ?_)
  have tx_3 : x_3.toInt ≤ lx.toInt ∧ x_3.toInt ≤ 60 ∧ (x_3.toInt = lx.toInt ∨ x_3.toInt = 60) := v_min ex_3
  refine lv_istore_n (lv' := [(3, .int x_3), (0, .ref oQ), (1, .ref nx), (2, .ref nd)]) hx hb dX6_build_14 rfl hl (by decide) rfl (fun ls hl => ?_)
  have e9 : x_3 = lx := v_inj (by omega)
  rw [e9] at hl
  refine lv_iconst (v := 0) hx hb dX6_build_15 (by decide) ?_
  refine lv_istore (lv' := [(4, .int 0), (3, .int lx), (0, .ref oQ), (1, .ref nx), (2, .ref nd)]) hx hb dX6_build_16 hl (by decide) rfl (fun ls hl => ?_)
  have LOOP_18 : ∀ (k_18 : Nat) (fr : Int32) (fta : Int32) (lBa : Int32) (lpa : Int32) (lva : Int32) (lda : Int32) (fBa : Nat → Int32) (fpa : Nat → Int32) (fva : Nat → Int32) (fda : Nat → Int32) (H : Heap) (locs : List Loc) (ls : Array Slot), MSd (60 - fr.toInt : Int) k_18 → (0 ≤ fr.toInt ∧ fr.toInt ≤ 60) → (0 ≤ lBa.toInt ∧ lBa.toInt ≤ 2400) → (0 ≤ lpa.toInt ∧ lpa.toInt ≤ 300) → (0 ≤ lva.toInt ∧ lva.toInt ≤ 300) → (0 ≤ lda.toInt ∧ lda.toInt ≤ 300) → (fr.toInt ≤ lx.toInt) → (LYD (UC fH1 fH2 f41 f42 f43 f51 f52 f53) lx.toNatClampNeg fx fQ3 fQ4 fr lda fda) → va_P (dC, dI) vwCl [(oQ, .inr (6, [.ref oC, .ref oH, .ref oK, .ref oE, .ref nq, .ref np, .ref nv, .ref q1, .ref q2, .ref q3, .ref q4, .int pr])), (q3, .inl (cI, 61, .inl fQ3)), (q4, .inl (cI, 61, .inl fQ4)), (np, .inr (5, [.ref ap, .int lpa])), (ap, .inl (cI, 300, .inl fpa)), (nv, .inr (5, [.ref av, .int lva])), (av, .inl (cI, 300, .inl fva)), (oH, .inr (4, [.ref oP, .ref h1, .ref h2, .int lH])), (h1, .inl (cI, 6, .inl fH1)), (h2, .inl (cI, 6, .inl fH2)), (oP, .inr (7, [.ref oC, .ref nB, .int fta])), (nB, .inr (5, [.ref aB, .int lBa])), (aB, .inl (cI, 2400, .inl fBa)), (oC, .inr (2, [.ref o4, .ref o5])), (o4, .inr (10, [.ref a41, .ref a42, .ref a43, .int l4])), (a41, .inl (cI, 256, .inl f41)), (a42, .inl (cI, 512, .inl f42)), (a43, .inl (cI, 512, .inl f43)), (o5, .inr (10, [.ref a51, .ref a52, .ref a53, .int l5])), (a51, .inl (cI, 256, .inl f51)), (a52, .inl (cI, 512, .inl f52)), (a53, .inl (cI, 512, .inl f53)), (nx, .inr (5, [.ref ax, .int lx])), (ax, .inl (cI, 300, .inl fx)), (nd, .inr (5, [.ref ad, .int lda])), (ad, .inl (cI, 300, .inl fda))] H → va_D A [(oQ, .inr (6, [.ref oC, .ref oH, .ref oK, .ref oE, .ref nq, .ref np, .ref nv, .ref q1, .ref q2, .ref q3, .ref q4, .int pr])), (q3, .inl (cI, 61, .inl fQ3)), (q4, .inl (cI, 61, .inl fQ4)), (np, .inr (5, [.ref ap, .int lpa])), (ap, .inl (cI, 300, .inl fpa)), (nv, .inr (5, [.ref av, .int lva])), (av, .inl (cI, 300, .inl fva)), (oH, .inr (4, [.ref oP, .ref h1, .ref h2, .int lH])), (h1, .inl (cI, 6, .inl fH1)), (h2, .inl (cI, 6, .inl fH2)), (oP, .inr (7, [.ref oC, .ref nB, .int fta])), (nB, .inr (5, [.ref aB, .int lBa])), (aB, .inl (cI, 2400, .inl fBa)), (oC, .inr (2, [.ref o4, .ref o5])), (o4, .inr (10, [.ref a41, .ref a42, .ref a43, .int l4])), (a41, .inl (cI, 256, .inl f41)), (a42, .inl (cI, 512, .inl f42)), (a43, .inl (cI, 512, .inl f43)), (o5, .inr (10, [.ref a51, .ref a52, .ref a53, .int l5])), (a51, .inl (cI, 256, .inl f51)), (a52, .inl (cI, 512, .inl f52)), (a53, .inl (cI, 512, .inl f53)), (nx, .inr (5, [.ref ax, .int lx])), (ax, .inl (cI, 300, .inl fx)), (nd, .inr (5, [.ref ad, .int lda])), (ad, .inl (cI, 300, .inl fda))] → va_S A s.heap H locs → lv_has ls 6 [(4, .int fr), (3, .int lx), (0, .ref oQ), (1, .ref nx), (2, .ref nd)] → W p l e (headSpec wsX6_build ({ frames := 6, cells := 0, slots := 0, locals := 147 } : Room)).room s m ([.ref oQ, .ref nx, .ref nd] : List Value).toArray below meth c H locs 0 0 (MQ below QQ ([.ref oQ, .ref nx, .ref nd] : List Value).toArray s 0 0 A) (F0 m 18 ls []) := by
    clear hP hD hS hl
    intro k_18
    induction k_18 with
    | zero =>
      intro fr fta lBa lpa lva lda fBa fpa fva fda H locs ls hm_18 g_fr g_lBa g_lpa g_lva g_lda hfl hly hP hD hS hl
      exact ms_0 hm_18
    | succ k_18 ih_18 =>
      intro fr fta lBa lpa lva lda fBa fpa fva fda H locs ls hm_18 g_fr g_lBa g_lpa g_lva g_lda hfl hly hP hD hS hl
      refine lv_iload hx hb dX6_build_18 (lv_at hl 0 rfl) ?_
      refine lv_iload_n hx hb dX6_build_20 rfl (lv_at hl 1 rfl) ?_
      refine lv_icmp_ge (tgt := 153) hx hb dX6_build_21 (by decide) (fun c_4 => ?_) (fun c_4 => ?_)
      · have tc_4 : lx.toInt ≤ fr.toInt := v_le c_4
        refine lv_iconst (v := 1) hx hb dX6_build_153 (by decide) ?_
        exact kl_z (v := 1) hQQ hx hb hr hlocks hS dX6_build_154 (rfl) (fun PZ9 kZ9 => kZ9 lpa fpa lva fva fta lBa fBa lda fda (⟨hP, hD⟩) (g_lpa) (g_lva) (g_lBa) (g_lda) (by decide) (lay_end hly (by omega) rfl))
      · have tc_4 : fr.toInt < lx.toInt := v_nle c_4
        have cf9 := v_clamp (x := fr) (by omega)
        obtain ⟨hE1, hE2, hE3, hE4, hSP⟩ := hEH fr.toNatClampNeg (by omega)
        refine lv_aload_n hx hb dX6_build_24 rfl (lv_at hl 2 rfl) ?_
        refine va_get (D := (dC, dI)) (ci := 6) (v := .ref np) (C := RX6) (T := TX6) (N := 12) hx hb hts in_X6 hown hK hP 0 rfl rfl 5 (Nat.le_of_ble_eq_true rfl) (hts (.fieldLink RX6 20 "TextMender$Parting" "part" "LTextMender$Numbers;") (List.mem_of_getElem? (i := 5) rfl)) (fun _ h9 => h9) rfl dX6_build_25 ?_
        refine lv_iconst (v := 0) hx hb dX6_build_28 (by decide) ?_
        refine kV_v (rest := []) (q0 := 0) (ci := 5) hcf (m_X5_cut l dC dI cI cS H.size np ap lpa 0 (v_rr g_lpa (by decide) (by decide))) kc_X5_cut gX6_build_X5_cut rfl rfl rfl ⟨Nat.le_of_ble_eq_true rfl, Nat.le_of_ble_eq_true rfl⟩ kX_t hK hP hD hS hA (posT mk_62 0) (posF mk_62 0) (kC_of mk_62 rfl rfl) (by decide +kernel) rfl rfl rfl hl rfl (Nat.le_of_ble_eq_true rfl) dX6_build_29 ⟨Nat.le_of_ble_eq_true rfl, Nat.le_of_ble_eq_true rfl⟩ (fun H locs hB hJ hSn => ?_)
        refine hB _ (fun lu_5 hPD9 hf5_0 hf5_1 hf5_2 => ?_)
        clear hB
        obtain ⟨hPn, hDn⟩ := kJi (m := mk_62) hJ rfl hPD9.1 hPD9.2 (wn := [(oQ, .inr (6, [.ref oC, .ref oH, .ref oK, .ref oE, .ref nq, .ref np, .ref nv, .ref q1, .ref q2, .ref q3, .ref q4, .int pr])), (q3, .inl (cI, 61, .inl fQ3)), (q4, .inl (cI, 61, .inl fQ4)), (np, .inr (5, [.ref ap, .int lu_5])), (ap, .inl (cI, 300, .inl fpa)), (nv, .inr (5, [.ref av, .int lva])), (av, .inl (cI, 300, .inl fva)), (oH, .inr (4, [.ref oP, .ref h1, .ref h2, .int lH])), (h1, .inl (cI, 6, .inl fH1)), (h2, .inl (cI, 6, .inl fH2)), (oP, .inr (7, [.ref oC, .ref nB, .int fta])), (nB, .inr (5, [.ref aB, .int lBa])), (aB, .inl (cI, 2400, .inl fBa)), (oC, .inr (2, [.ref o4, .ref o5])), (o4, .inr (10, [.ref a41, .ref a42, .ref a43, .int l4])), (a41, .inl (cI, 256, .inl f41)), (a42, .inl (cI, 512, .inl f42)), (a43, .inl (cI, 512, .inl f43)), (o5, .inr (10, [.ref a51, .ref a52, .ref a53, .int l5])), (a51, .inl (cI, 256, .inl f51)), (a52, .inl (cI, 512, .inl f52)), (a53, .inl (cI, 512, .inl f53)), (nx, .inr (5, [.ref ax, .int lx])), (ax, .inl (cI, 300, .inl fx)), (nd, .inr (5, [.ref ad, .int lda])), (ad, .inl (cI, 300, .inl fda))]) rfl
        clear hP hD hS hJ hPD9
        have hP := hPn
        have hD := hDn
        have hS := hSn
        clear hPn hDn hSn
        have ha5 : lu_5.toInt = 0 := F_cut_l hf5_2 (by first | decide | omega) (by first | omega | (show (0 : Int) ≤ _; omega))
        refine lv_iload hx hb dX6_build_32 (lv_at hl 0 rfl) ?_
        refine lv_istore (lv' := [(5, .int fr), (4, .int fr), (3, .int lx), (0, .ref oQ), (1, .ref nx), (2, .ref nd)]) hx hb dX6_build_34 hl (by decide) rfl (fun ls hl => ?_)
        have LOOP_36 : ∀ (k_36 : Nat) (i : Int32) (lpb : Int32) (fpb : Nat → Int32) (H : Heap) (locs : List Loc) (ls : Array Slot), MSd (60 - i.toInt : Int) k_36 → (0 ≤ i.toInt ∧ i.toInt ≤ 60) → (0 ≤ lpb.toInt ∧ lpb.toInt ≤ 300) → (fr.toInt ≤ i.toInt) → (lpb.toInt = i.toInt - fr.toInt) → (i.toInt ≤ (fQ3 fr.toNatClampNeg).toInt) → (∀ j : Nat, (j : Int) < lpb.toInt → fpb j = fx (fr.toNatClampNeg + j)) → va_P (dC, dI) vwCl [(oQ, .inr (6, [.ref oC, .ref oH, .ref oK, .ref oE, .ref nq, .ref np, .ref nv, .ref q1, .ref q2, .ref q3, .ref q4, .int pr])), (q3, .inl (cI, 61, .inl fQ3)), (q4, .inl (cI, 61, .inl fQ4)), (np, .inr (5, [.ref ap, .int lpb])), (ap, .inl (cI, 300, .inl fpb)), (nv, .inr (5, [.ref av, .int lva])), (av, .inl (cI, 300, .inl fva)), (oH, .inr (4, [.ref oP, .ref h1, .ref h2, .int lH])), (h1, .inl (cI, 6, .inl fH1)), (h2, .inl (cI, 6, .inl fH2)), (oP, .inr (7, [.ref oC, .ref nB, .int fta])), (nB, .inr (5, [.ref aB, .int lBa])), (aB, .inl (cI, 2400, .inl fBa)), (oC, .inr (2, [.ref o4, .ref o5])), (o4, .inr (10, [.ref a41, .ref a42, .ref a43, .int l4])), (a41, .inl (cI, 256, .inl f41)), (a42, .inl (cI, 512, .inl f42)), (a43, .inl (cI, 512, .inl f43)), (o5, .inr (10, [.ref a51, .ref a52, .ref a53, .int l5])), (a51, .inl (cI, 256, .inl f51)), (a52, .inl (cI, 512, .inl f52)), (a53, .inl (cI, 512, .inl f53)), (nx, .inr (5, [.ref ax, .int lx])), (ax, .inl (cI, 300, .inl fx)), (nd, .inr (5, [.ref ad, .int lda])), (ad, .inl (cI, 300, .inl fda))] H → va_D A [(oQ, .inr (6, [.ref oC, .ref oH, .ref oK, .ref oE, .ref nq, .ref np, .ref nv, .ref q1, .ref q2, .ref q3, .ref q4, .int pr])), (q3, .inl (cI, 61, .inl fQ3)), (q4, .inl (cI, 61, .inl fQ4)), (np, .inr (5, [.ref ap, .int lpb])), (ap, .inl (cI, 300, .inl fpb)), (nv, .inr (5, [.ref av, .int lva])), (av, .inl (cI, 300, .inl fva)), (oH, .inr (4, [.ref oP, .ref h1, .ref h2, .int lH])), (h1, .inl (cI, 6, .inl fH1)), (h2, .inl (cI, 6, .inl fH2)), (oP, .inr (7, [.ref oC, .ref nB, .int fta])), (nB, .inr (5, [.ref aB, .int lBa])), (aB, .inl (cI, 2400, .inl fBa)), (oC, .inr (2, [.ref o4, .ref o5])), (o4, .inr (10, [.ref a41, .ref a42, .ref a43, .int l4])), (a41, .inl (cI, 256, .inl f41)), (a42, .inl (cI, 512, .inl f42)), (a43, .inl (cI, 512, .inl f43)), (o5, .inr (10, [.ref a51, .ref a52, .ref a53, .int l5])), (a51, .inl (cI, 256, .inl f51)), (a52, .inl (cI, 512, .inl f52)), (a53, .inl (cI, 512, .inl f53)), (nx, .inr (5, [.ref ax, .int lx])), (ax, .inl (cI, 300, .inl fx)), (nd, .inr (5, [.ref ad, .int lda])), (ad, .inl (cI, 300, .inl fda))] → va_S A s.heap H locs → lv_has ls 6 [(5, .int i), (4, .int fr), (3, .int lx), (0, .ref oQ), (1, .ref nx), (2, .ref nd)] → W p l e (headSpec wsX6_build ({ frames := 6, cells := 0, slots := 0, locals := 147 } : Room)).room s m ([.ref oQ, .ref nx, .ref nd] : List Value).toArray below meth c H locs 0 0 (MQ below QQ ([.ref oQ, .ref nx, .ref nd] : List Value).toArray s 0 0 A) (F0 m 36 ls []) := by
          clear hP hD hS hl
          try (clear ha5 hf5_0 hf5_1 hf5_2 g_lpa ha1 hf1_0 hf1_1 hf1_2 g_ld)
          intro k_36
          induction k_36 with
          | zero =>
            intro i lpb fpb H locs ls hm_36 g_i g_lpb hfi hlp hie hcp hP hD hS hl
            exact ms_0 hm_36
          | succ k_36 ih_36 =>
            intro i lpb fpb H locs ls hm_36 g_i g_lpb hfi hlp hie hcp hP hD hS hl
            refine lv_iload hx hb dX6_build_36 (lv_at hl 0 rfl) ?_
            refine lv_aload_n hx hb dX6_build_38 rfl (lv_at hl 3 rfl) ?_
            refine va_get (D := (dC, dI)) (ci := 6) (v := .ref q3) (C := RX6) (T := TX6) (N := 12) hx hb hts in_X6 hown hK hP 0 rfl rfl 9 (Nat.le_of_ble_eq_true rfl) (hts (.fieldLink RX6 33 "TextMender$Parting" "endOf" "[I") (List.mem_of_getElem? (i := 6) rfl)) (fun _ h9 => h9) rfl dX6_build_39 ?_
            refine lv_iload hx hb dX6_build_42 (lv_at hl 1 rfl) ?_
            refine va_iald hx hb hK hP 1 0 rfl rfl (v_inR g_fr (by decide) (by decide)) dX6_build_44 ?_
            refine lv_topi (fun x_6 ex_6 => ?_)
            have tE_x_6 : fr.toInt < x_6.toInt ∧ x_6.toInt ≤ lx.toInt := by rw [ex_6]; omega
            refine lv_icmp_ge (tgt := 68) hx hb dX6_build_45 (by decide) (fun c_7 => ?_) (fun c_7 => ?_)
            · have tc_7 : x_6.toInt ≤ i.toInt := v_le c_7
              have hie9 : i.toInt ≤ x_6.toInt := by rw [ex_6]; exact hie
              refine lv_aload_n hx hb dX6_build_68 rfl (lv_at hl 3 rfl) ?_
              refine va_get (D := (dC, dI)) (ci := 6) (v := .ref q4) (C := RX6) (T := TX6) (N := 12) hx hb hts in_X6 hown hK hP 0 rfl rfl 10 (Nat.le_of_ble_eq_true rfl) (hts (.fieldLink RX6 36 "TextMender$Parting" "harmOf" "[I") (List.mem_of_getElem? (i := 7) rfl)) (fun _ h9 => h9) rfl dX6_build_69 ?_
              refine lv_iload hx hb dX6_build_72 (lv_at hl 1 rfl) ?_
              refine va_iald hx hb hK hP 2 0 rfl rfl (v_inR g_fr (by decide) (by decide)) dX6_build_74 ?_
              refine lv_topi (fun x_8 ex_8 => ?_)
              have tH_x_8 : -1 ≤ x_8.toInt ∧ x_8.toInt < lH.toInt := by rw [ex_8]; omega
              refine lv_iconst (v := (-1)) hx hb dX6_build_75 (by decide) ?_
              refine lv_icmp_ne (tgt := 94) hx hb dX6_build_76 (by decide) (fun c_9 => ?_) (fun c_9 => ?_)
              · have tc_9 : ¬ x_8.toInt = (-1) := v_ne c_9
                skip
                refine lv_aload_n hx hb dX6_build_94 rfl (lv_at hl 3 rfl) ?_
                refine va_get (D := (dC, dI)) (ci := 6) (v := .ref oH) (C := RX6) (T := TX6) (N := 12) hx hb hts in_X6 hown hK hP 0 rfl rfl 1 (Nat.le_of_ble_eq_true rfl) (hts (.fieldLink RX6 43 "TextMender$Parting" "harms" "LTextMender$Harms;") (List.mem_of_getElem? (i := 9) rfl)) (fun _ h9 => h9) rfl dX6_build_95 ?_
                refine lv_aload_n hx hb dX6_build_98 rfl (lv_at hl 3 rfl) ?_
                refine va_get (D := (dC, dI)) (ci := 6) (v := .ref q4) (C := RX6) (T := TX6) (N := 12) hx hb hts in_X6 hown hK hP 0 rfl rfl 10 (Nat.le_of_ble_eq_true rfl) (hts (.fieldLink RX6 36 "TextMender$Parting" "harmOf" "[I") (List.mem_of_getElem? (i := 7) rfl)) (fun _ h9 => h9) rfl dX6_build_99 ?_
                refine lv_iload hx hb dX6_build_102 (lv_at hl 1 rfl) ?_
                refine va_iald hx hb hK hP 2 0 rfl rfl (v_inR g_fr (by decide) (by decide)) dX6_build_104 ?_
                refine k_i (y := x_8) ex_8.symm ?_
                refine lv_aload_n hx hb dX6_build_105 rfl (lv_at hl 3 rfl) ?_
                refine va_get (D := (dC, dI)) (ci := 6) (v := .ref np) (C := RX6) (T := TX6) (N := 12) hx hb hts in_X6 hown hK hP 0 rfl rfl 5 (Nat.le_of_ble_eq_true rfl) (hts (.fieldLink RX6 20 "TextMender$Parting" "part" "LTextMender$Numbers;") (List.mem_of_getElem? (i := 5) rfl)) (fun _ h9 => h9) rfl dX6_build_106 ?_
                refine lv_aload_n hx hb dX6_build_109 rfl (lv_at hl 3 rfl) ?_
                refine va_get (D := (dC, dI)) (ci := 6) (v := .ref nv) (C := RX6) (T := TX6) (N := 12) hx hb hts in_X6 hown hK hP 0 rfl rfl 6 (Nat.le_of_ble_eq_true rfl) (hts (.fieldLink RX6 23 "TextMender$Parting" "undone" "LTextMender$Numbers;") (List.mem_of_getElem? (i := 8) rfl)) (fun _ h9 => h9) rfl dX6_build_110 ?_
                refine kV_i (rest := []) (q0 := 0) (ci := 4) hcf (f_X4_takeOff l dC dI cI cS H.size oH np nv oP h1 h2 oC nB aB ap av o4 o5 a41 a42 a43 a51 a52 a53 lH fH1 fH2 fta lBa fBa lpb fpb lva fva l4 f41 f42 f43 l5 f51 f52 f53 x_8 (g_lH) (g_lBa) (g_lpb) (g_lva) (by omega) (by omega) (fun j hj => by rw [hcp j hj]; exact hlt _ (by omega)) (hT4) (ho4) (hT5) (ho5) (hL4) (hL5) (hBr)) kc_X4_takeOff gX6_build_X4_takeOff rfl rfl rfl ⟨Nat.le_of_ble_eq_true rfl, Nat.le_of_ble_eq_true rfl⟩ (kX_1 hN52) hK hP hD hS hA ([4, 5, 6, 7, 8, 9, 0, 1, 2, 3, 10, 11, 12, 13, 14, 15, 16, 17, 18].filterMap (fun j => (posT mk_63 0)[j]?)) (posF mk_63 0) (kCp (ws := [(np, .inr (5, [.ref ap, .int lpb])), (ap, .inl (cI, 300, .inl fpb)), (nv, .inr (5, [.ref av, .int lva])), (av, .inl (cI, 300, .inl fva)), (oH, .inr (4, [.ref oP, .ref h1, .ref h2, .int lH])), (h1, .inl (cI, 6, .inl fH1)), (h2, .inl (cI, 6, .inl fH2)), (oP, .inr (7, [.ref oC, .ref nB, .int fta])), (nB, .inr (5, [.ref aB, .int lBa])), (aB, .inl (cI, 2400, .inl fBa)), (oC, .inr (2, [.ref o4, .ref o5])), (o4, .inr (10, [.ref a41, .ref a42, .ref a43, .int l4])), (a41, .inl (cI, 256, .inl f41)), (a42, .inl (cI, 512, .inl f42)), (a43, .inl (cI, 512, .inl f43)), (o5, .inr (10, [.ref a51, .ref a52, .ref a53, .int l5])), (a51, .inl (cI, 256, .inl f51)), (a52, .inl (cI, 512, .inl f52)), (a53, .inl (cI, 512, .inl f53))]) (kC_of mk_63 rfl rfl) rfl) (by decide +kernel) rfl rfl rfl hl rfl (Nat.le_of_ble_eq_true rfl) dX6_build_113 ⟨Nat.le_of_ble_eq_true rfl, Nat.le_of_ble_eq_true rfl⟩ (fun r_10 H locs hB hJ hSn => ?_)
                refine hB _ (fun ft_10 lB_10 fB_10 ld_10 fd_10 hPD9 hf10_0 hf10_1 hf10_2 hf10_3 => ?_)
                clear hB
                obtain ⟨hPn, hDn⟩ := kJm (m := mk_63) hJ rfl hPD9.1 hPD9.2 [6, 7, 8, 9, 0, 1, 2, 3, 4, 5, 10, 11, 12, 13, 14, 15, 16, 17, 18] (by decide +kernel) (ws := [(np, .inr (5, [.ref ap, .int lpb])), (ap, .inl (cI, 300, .inl fpb)), (nv, .inr (5, [.ref av, .int ld_10])), (av, .inl (cI, 300, .inl fd_10)), (oH, .inr (4, [.ref oP, .ref h1, .ref h2, .int lH])), (h1, .inl (cI, 6, .inl fH1)), (h2, .inl (cI, 6, .inl fH2)), (oP, .inr (7, [.ref oC, .ref nB, .int ft_10])), (nB, .inr (5, [.ref aB, .int lB_10])), (aB, .inl (cI, 2400, .inl fB_10)), (oC, .inr (2, [.ref o4, .ref o5])), (o4, .inr (10, [.ref a41, .ref a42, .ref a43, .int l4])), (a41, .inl (cI, 256, .inl f41)), (a42, .inl (cI, 512, .inl f42)), (a43, .inl (cI, 512, .inl f43)), (o5, .inr (10, [.ref a51, .ref a52, .ref a53, .int l5])), (a51, .inl (cI, 256, .inl f51)), (a52, .inl (cI, 512, .inl f52)), (a53, .inl (cI, 512, .inl f53))]) rfl (wn := [(oQ, .inr (6, [.ref oC, .ref oH, .ref oK, .ref oE, .ref nq, .ref np, .ref nv, .ref q1, .ref q2, .ref q3, .ref q4, .int pr])), (q3, .inl (cI, 61, .inl fQ3)), (q4, .inl (cI, 61, .inl fQ4)), (np, .inr (5, [.ref ap, .int lpb])), (ap, .inl (cI, 300, .inl fpb)), (nv, .inr (5, [.ref av, .int ld_10])), (av, .inl (cI, 300, .inl fd_10)), (oH, .inr (4, [.ref oP, .ref h1, .ref h2, .int lH])), (h1, .inl (cI, 6, .inl fH1)), (h2, .inl (cI, 6, .inl fH2)), (oP, .inr (7, [.ref oC, .ref nB, .int ft_10])), (nB, .inr (5, [.ref aB, .int lB_10])), (aB, .inl (cI, 2400, .inl fB_10)), (oC, .inr (2, [.ref o4, .ref o5])), (o4, .inr (10, [.ref a41, .ref a42, .ref a43, .int l4])), (a41, .inl (cI, 256, .inl f41)), (a42, .inl (cI, 512, .inl f42)), (a43, .inl (cI, 512, .inl f43)), (o5, .inr (10, [.ref a51, .ref a52, .ref a53, .int l5])), (a51, .inl (cI, 256, .inl f51)), (a52, .inl (cI, 512, .inl f52)), (a53, .inl (cI, 512, .inl f53)), (nx, .inr (5, [.ref ax, .int lx])), (ax, .inl (cI, 300, .inl fx)), (nd, .inr (5, [.ref ad, .int lda])), (ad, .inl (cI, 300, .inl fda))]) rfl
                clear hP hD hS hJ hPD9
                have hP := hPn
                have hD := hDn
                have hS := hSn
                clear hPn hDn hSn
                refine lv_if_ne (tgt := 121) hx hb dX6_build_116 (by decide) (fun c_11 => ?_) (fun c_11 => ?_)
                · have tc_11 : ¬ r_10.toInt = 0 := v_ne c_11
                  refine lv_aload_n hx hb dX6_build_121 rfl (lv_at hl 5 rfl) ?_
                  refine lv_aload_n hx hb dX6_build_122 rfl (lv_at hl 3 rfl) ?_
                  refine va_get (D := (dC, dI)) (ci := 6) (v := .ref nv) (C := RX6) (T := TX6) (N := 12) hx hb hts in_X6 hown hK hP 0 rfl rfl 6 (Nat.le_of_ble_eq_true rfl) (hts (.fieldLink RX6 23 "TextMender$Parting" "undone" "LTextMender$Numbers;") (List.mem_of_getElem? (i := 8) rfl)) (fun _ h9 => h9) rfl dX6_build_123 ?_
                  refine kV_i (rest := []) (q0 := 0) (ci := 5) hcf (m_X5_addAll l dC dI cI cS H.size nd nv ad av 300 300 lda fda ld_10 fd_10 (by omega) (by omega) (by omega) (by omega)) kc_X5_addAll gX6_build_X5_addAll rfl rfl rfl ⟨Nat.le_of_ble_eq_true rfl, Nat.le_of_ble_eq_true rfl⟩ kX_t hK hP hD hS hA ([2, 3, 0, 1].filterMap (fun j => (posT mk_64 0)[j]?)) (posF mk_64 0) (kCp (ws := [(nv, .inr (5, [.ref av, .int ld_10])), (av, .inl (cI, 300, .inl fd_10)), (nd, .inr (5, [.ref ad, .int lda])), (ad, .inl (cI, 300, .inl fda))]) (kC_of mk_64 rfl rfl) rfl) (by decide +kernel) rfl rfl rfl hl rfl (Nat.le_of_ble_eq_true rfl) dX6_build_126 ⟨Nat.le_of_ble_eq_true rfl, Nat.le_of_ble_eq_true rfl⟩ (fun r_12 H locs hB hJ hSn => ?_)
                  refine hB _ (fun lu_12 fu_12 hPD9 hf12_0 hf12_1 hf12_2 => ?_)
                  clear hB
                  obtain ⟨hPn, hDn⟩ := kJm (m := mk_64) hJ rfl hPD9.1 hPD9.2 [2, 3, 0, 1] (by decide +kernel) (ws := [(nv, .inr (5, [.ref av, .int ld_10])), (av, .inl (cI, 300, .inl fd_10)), (nd, .inr (5, [.ref ad, .int lu_12])), (ad, .inl (cI, 300, .inl fu_12))]) rfl (wn := [(oQ, .inr (6, [.ref oC, .ref oH, .ref oK, .ref oE, .ref nq, .ref np, .ref nv, .ref q1, .ref q2, .ref q3, .ref q4, .int pr])), (q3, .inl (cI, 61, .inl fQ3)), (q4, .inl (cI, 61, .inl fQ4)), (np, .inr (5, [.ref ap, .int lpb])), (ap, .inl (cI, 300, .inl fpb)), (nv, .inr (5, [.ref av, .int ld_10])), (av, .inl (cI, 300, .inl fd_10)), (oH, .inr (4, [.ref oP, .ref h1, .ref h2, .int lH])), (h1, .inl (cI, 6, .inl fH1)), (h2, .inl (cI, 6, .inl fH2)), (oP, .inr (7, [.ref oC, .ref nB, .int ft_10])), (nB, .inr (5, [.ref aB, .int lB_10])), (aB, .inl (cI, 2400, .inl fB_10)), (oC, .inr (2, [.ref o4, .ref o5])), (o4, .inr (10, [.ref a41, .ref a42, .ref a43, .int l4])), (a41, .inl (cI, 256, .inl f41)), (a42, .inl (cI, 512, .inl f42)), (a43, .inl (cI, 512, .inl f43)), (o5, .inr (10, [.ref a51, .ref a52, .ref a53, .int l5])), (a51, .inl (cI, 256, .inl f51)), (a52, .inl (cI, 512, .inl f52)), (a53, .inl (cI, 512, .inl f53)), (nx, .inr (5, [.ref ax, .int lx])), (ax, .inl (cI, 300, .inl fx)), (nd, .inr (5, [.ref ad, .int lu_12])), (ad, .inl (cI, 300, .inl fu_12))]) rfl
                  clear hP hD hS hJ hPD9
                  have hP := hPn
                  have hD := hDn
                  have hS := hSn
                  clear hPn hDn hSn
                  refine lv_if_ne (tgt := 134) hx hb dX6_build_129 (by decide) (fun c_13 => ?_) (fun c_13 => ?_)
                  · have tc_13 : ¬ r_12.toInt = 0 := v_ne c_13
                    refine lv_iload hx hb dX6_build_134 (lv_at hl 1 rfl) ?_
                    refine lv_iconst (v := 1) hx hb dX6_build_136 (by decide) ?_
                    refine lv_iadd hx hb dX6_build_137 ?_
                    refine lv_topi (fun x_14 ex_14 => ?_)
                    have tx_14 : x_14.toInt = fr.toInt + 1 := v_addR (l2 := 1) (h2 := 1) ex_14 g_fr (by decide) (by decide) (by decide)
                    refine lv_aload_n hx hb dX6_build_138 rfl (lv_at hl 3 rfl) ?_
                    refine va_get (D := (dC, dI)) (ci := 6) (v := .ref q3) (C := RX6) (T := TX6) (N := 12) hx hb hts in_X6 hown hK hP 0 rfl rfl 9 (Nat.le_of_ble_eq_true rfl) (hts (.fieldLink RX6 33 "TextMender$Parting" "endOf" "[I") (List.mem_of_getElem? (i := 6) rfl)) (fun _ h9 => h9) rfl dX6_build_139 ?_
                    refine lv_iload hx hb dX6_build_142 (lv_at hl 1 rfl) ?_
                    refine va_iald hx hb hK hP 1 0 rfl rfl (v_inR g_fr (by decide) (by decide)) dX6_build_144 ?_
                    refine k_i (y := x_6) ex_6.symm ?_
                    refine va_mmax hx hb (by rw [hml]; exact hl.1.symm) hown (hts (.methodLink RX6 147 Lib.Math.max.name) (List.mem_of_getElem? (i := 10) rfl)) (hts (.static Lib.Math.max.name) (List.mem_of_getElem? (i := 11) rfl)) (hts (.initialized "java/lang/Math") (List.mem_of_getElem? (i := 3) rfl)) (hts (.code Lib.Math.max.name Lib.Math.max.code 2 (some .int)) (List.mem_of_getElem? (i := 12) rfl)) (Nat.le_of_ble_eq_true rfl) (Nat.le_of_ble_eq_true rfl) (Nat.zero_le _) (Nat.zero_le _) dX6_build_145 ?_
                    refine lv_topi (fun x_15 ex_15 => ?_)
                    have tx_15 : x_14.toInt ≤ x_15.toInt ∧ x_6.toInt ≤ x_15.toInt ∧ (x_15.toInt = x_14.toInt ∨ x_15.toInt = x_6.toInt) := v_max ex_15
                    refine lv_istore (lv' := [(4, .int x_15), (5, .int i), (3, .int lx), (0, .ref oQ), (1, .ref nx), (2, .ref nd)]) hx hb dX6_build_148 hl (by decide) rfl (fun ls hl => ?_)
                    refine lv_goto (tgt := 18) hx hb dX6_build_150 (by decide) ?_
                    exact ih_18 x_15 ft_10 lB_10 lpb ld_10 lu_12 fB_10 fpb fd_10 fu_12 _ _ _ (ms_lt hm_18 (by show ((60 - x_15.toInt : Int)) < 60 - fr.toInt; omega) (by show (0 : Int) < 60 - fr.toInt; omega)) (by show 0 ≤ x_15.toInt ∧ x_15.toInt ≤ 60; omega) (hf10_0) (g_lpb) (hf10_1) (by show 0 ≤ lu_12.toInt ∧ lu_12.toInt ≤ 300; omega) (by show x_15.toInt ≤ lx.toInt; omega) (lay_s hly (by omega) (by rw [← ex_8, ← ex_6]; exact Or.inr ⟨by omega, okU9.2.1 _ _ _ _ _ _ (fun k hk => hcp k (by omega)) (by rw [show x_6.toInt.toNat - fr.toNatClampNeg = lpb.toInt.toNat by omega]; exact to_1n hf10_3 (by omega))⟩) (m := ld_10.toInt.toNat) (by omega) hf12_2 (by omega) (by omega) (by rw [← ex_6]; omega) (by omega)) hP hD hS (lv_sub hl [0, 2, 3, 4, 5] rfl)
                  · have tc_13 : r_12.toInt = 0 := v_eq c_13
                    refine lv_iconst (v := 0) hx hb dX6_build_132 (by decide) ?_
                    exact kl_z (v := 0) hQQ hx hb hr hlocks hS dX6_build_133 (rfl) (fun PZ9 kZ9 => kZ9 lpb fpb ld_10 fd_10 ft_10 lB_10 fB_10 lu_12 fu_12 (⟨hP, hD⟩) (g_lpb) (hf10_1) (hf10_0) (by omega) (by decide) (lay_no hly (by omega) (by rw [← ex_8, ← ex_6]; exact Or.inr ⟨by omega, okU9.2.1 _ _ _ _ _ _ (fun k hk => hcp k (by omega)) (by rw [show x_6.toInt.toNat - fr.toNatClampNeg = lpb.toInt.toNat by omega]; exact to_1n hf10_3 (by omega))⟩) (m := ld_10.toInt.toNat) (by omega) hf12_2 (by omega) (by omega) rfl))
                · have tc_11 : r_10.toInt = 0 := v_eq c_11
                  refine lv_iconst (v := 0) hx hb dX6_build_119 (by decide) ?_
                  exact kl_z (v := 0) hQQ hx hb hr hlocks hS dX6_build_120 (rfl) (fun PZ9 kZ9 => kZ9 lpb fpb ld_10 fd_10 ft_10 lB_10 fB_10 lda fda (⟨hP, hD⟩) (g_lpb) (hf10_1) (hf10_0) (g_lda) (by decide) (absurd hSP (fun ⟨c9, f9, h9⟩ => to_0 hf10_3 (by omega) c9 f9 (bl_un okU9 h9 (by rw [← ex_8]; omega) (by have c9 := v_clamp (x := x_8) (by omega); rw [← ex_8]; omega) (by rw [← ex_6]; omega) hcp))))
              · have tc_9 : x_8.toInt = (-1) := v_eq c_9
                refine lv_aload_n hx hb dX6_build_79 rfl (lv_at hl 3 rfl) ?_
                refine va_get (D := (dC, dI)) (ci := 6) (v := .ref nv) (C := RX6) (T := TX6) (N := 12) hx hb hts in_X6 hown hK hP 0 rfl rfl 6 (Nat.le_of_ble_eq_true rfl) (hts (.fieldLink RX6 23 "TextMender$Parting" "undone" "LTextMender$Numbers;") (List.mem_of_getElem? (i := 8) rfl)) (fun _ h9 => h9) rfl dX6_build_80 ?_
                refine lv_aload_n hx hb dX6_build_83 rfl (lv_at hl 3 rfl) ?_
                refine va_get (D := (dC, dI)) (ci := 6) (v := .ref np) (C := RX6) (T := TX6) (N := 12) hx hb hts in_X6 hown hK hP 0 rfl rfl 5 (Nat.le_of_ble_eq_true rfl) (hts (.fieldLink RX6 20 "TextMender$Parting" "part" "LTextMender$Numbers;") (List.mem_of_getElem? (i := 5) rfl)) (fun _ h9 => h9) rfl dX6_build_84 ?_
                refine kV_i (rest := []) (q0 := 0) (ci := 5) hcf (m_X5_takeAll l dC dI cI cS H.size nv np av ap 300 300 lva fva lpb fpb (by omega) (by omega) (by omega) (by omega)) kc_X5_takeAll gX6_build_X5_takeAll rfl rfl rfl ⟨Nat.le_of_ble_eq_true rfl, Nat.le_of_ble_eq_true rfl⟩ kX_t hK hP hD hS hA ([2, 3, 0, 1].filterMap (fun j => (posT mk_65 0)[j]?)) (posF mk_65 0) (kCp (ws := [(np, .inr (5, [.ref ap, .int lpb])), (ap, .inl (cI, 300, .inl fpb)), (nv, .inr (5, [.ref av, .int lva])), (av, .inl (cI, 300, .inl fva))]) (kC_of mk_65 rfl rfl) rfl) (by decide +kernel) rfl rfl rfl hl rfl (Nat.le_of_ble_eq_true rfl) dX6_build_87 ⟨Nat.le_of_ble_eq_true rfl, Nat.le_of_ble_eq_true rfl⟩ (fun r_16 H locs hB hJ hSn => ?_)
                refine hB _ (fun lu_16 fu_16 hPD9 hf16_0 hf16_1 hf16_2 => ?_)
                clear hB
                obtain ⟨hPn, hDn⟩ := kJm (m := mk_65) hJ rfl hPD9.1 hPD9.2 [2, 3, 0, 1] (by decide +kernel) (ws := [(np, .inr (5, [.ref ap, .int lpb])), (ap, .inl (cI, 300, .inl fpb)), (nv, .inr (5, [.ref av, .int lu_16])), (av, .inl (cI, 300, .inl fu_16))]) rfl (wn := [(oQ, .inr (6, [.ref oC, .ref oH, .ref oK, .ref oE, .ref nq, .ref np, .ref nv, .ref q1, .ref q2, .ref q3, .ref q4, .int pr])), (q3, .inl (cI, 61, .inl fQ3)), (q4, .inl (cI, 61, .inl fQ4)), (np, .inr (5, [.ref ap, .int lpb])), (ap, .inl (cI, 300, .inl fpb)), (nv, .inr (5, [.ref av, .int lu_16])), (av, .inl (cI, 300, .inl fu_16)), (oH, .inr (4, [.ref oP, .ref h1, .ref h2, .int lH])), (h1, .inl (cI, 6, .inl fH1)), (h2, .inl (cI, 6, .inl fH2)), (oP, .inr (7, [.ref oC, .ref nB, .int fta])), (nB, .inr (5, [.ref aB, .int lBa])), (aB, .inl (cI, 2400, .inl fBa)), (oC, .inr (2, [.ref o4, .ref o5])), (o4, .inr (10, [.ref a41, .ref a42, .ref a43, .int l4])), (a41, .inl (cI, 256, .inl f41)), (a42, .inl (cI, 512, .inl f42)), (a43, .inl (cI, 512, .inl f43)), (o5, .inr (10, [.ref a51, .ref a52, .ref a53, .int l5])), (a51, .inl (cI, 256, .inl f51)), (a52, .inl (cI, 512, .inl f52)), (a53, .inl (cI, 512, .inl f53)), (nx, .inr (5, [.ref ax, .int lx])), (ax, .inl (cI, 300, .inl fx)), (nd, .inr (5, [.ref ad, .int lda])), (ad, .inl (cI, 300, .inl fda))]) rfl
                clear hP hD hS hJ hPD9
                have hP := hPn
                have hD := hDn
                have hS := hSn
                clear hPn hDn hSn
                refine lv_pop hx hb dX6_build_90 rfl ?_
                refine lv_goto (tgt := 121) hx hb dX6_build_91 (by decide) ?_
                refine lv_aload_n hx hb dX6_build_121 rfl (lv_at hl 5 rfl) ?_
                refine lv_aload_n hx hb dX6_build_122 rfl (lv_at hl 3 rfl) ?_
                refine va_get (D := (dC, dI)) (ci := 6) (v := .ref nv) (C := RX6) (T := TX6) (N := 12) hx hb hts in_X6 hown hK hP 0 rfl rfl 6 (Nat.le_of_ble_eq_true rfl) (hts (.fieldLink RX6 23 "TextMender$Parting" "undone" "LTextMender$Numbers;") (List.mem_of_getElem? (i := 8) rfl)) (fun _ h9 => h9) rfl dX6_build_123 ?_
                refine kV_i (rest := []) (q0 := 0) (ci := 5) hcf (m_X5_addAll l dC dI cI cS H.size nd nv ad av 300 300 lda fda lu_16 fu_16 (by omega) (hf16_0) (by omega) (by omega)) kc_X5_addAll gX6_build_X5_addAll rfl rfl rfl ⟨Nat.le_of_ble_eq_true rfl, Nat.le_of_ble_eq_true rfl⟩ kX_t hK hP hD hS hA ([2, 3, 0, 1].filterMap (fun j => (posT mk_64 0)[j]?)) (posF mk_64 0) (kCp (ws := [(nv, .inr (5, [.ref av, .int lu_16])), (av, .inl (cI, 300, .inl fu_16)), (nd, .inr (5, [.ref ad, .int lda])), (ad, .inl (cI, 300, .inl fda))]) (kC_of mk_64 rfl rfl) rfl) (by decide +kernel) rfl rfl rfl hl rfl (Nat.le_of_ble_eq_true rfl) dX6_build_126 ⟨Nat.le_of_ble_eq_true rfl, Nat.le_of_ble_eq_true rfl⟩ (fun r_17 H locs hB hJ hSn => ?_)
                refine hB _ (fun lu_17 fu_17 hPD9 hf17_0 hf17_1 hf17_2 => ?_)
                clear hB
                obtain ⟨hPn, hDn⟩ := kJm (m := mk_64) hJ rfl hPD9.1 hPD9.2 [2, 3, 0, 1] (by decide +kernel) (ws := [(nv, .inr (5, [.ref av, .int lu_16])), (av, .inl (cI, 300, .inl fu_16)), (nd, .inr (5, [.ref ad, .int lu_17])), (ad, .inl (cI, 300, .inl fu_17))]) rfl (wn := [(oQ, .inr (6, [.ref oC, .ref oH, .ref oK, .ref oE, .ref nq, .ref np, .ref nv, .ref q1, .ref q2, .ref q3, .ref q4, .int pr])), (q3, .inl (cI, 61, .inl fQ3)), (q4, .inl (cI, 61, .inl fQ4)), (np, .inr (5, [.ref ap, .int lpb])), (ap, .inl (cI, 300, .inl fpb)), (nv, .inr (5, [.ref av, .int lu_16])), (av, .inl (cI, 300, .inl fu_16)), (oH, .inr (4, [.ref oP, .ref h1, .ref h2, .int lH])), (h1, .inl (cI, 6, .inl fH1)), (h2, .inl (cI, 6, .inl fH2)), (oP, .inr (7, [.ref oC, .ref nB, .int fta])), (nB, .inr (5, [.ref aB, .int lBa])), (aB, .inl (cI, 2400, .inl fBa)), (oC, .inr (2, [.ref o4, .ref o5])), (o4, .inr (10, [.ref a41, .ref a42, .ref a43, .int l4])), (a41, .inl (cI, 256, .inl f41)), (a42, .inl (cI, 512, .inl f42)), (a43, .inl (cI, 512, .inl f43)), (o5, .inr (10, [.ref a51, .ref a52, .ref a53, .int l5])), (a51, .inl (cI, 256, .inl f51)), (a52, .inl (cI, 512, .inl f52)), (a53, .inl (cI, 512, .inl f53)), (nx, .inr (5, [.ref ax, .int lx])), (ax, .inl (cI, 300, .inl fx)), (nd, .inr (5, [.ref ad, .int lu_17])), (ad, .inl (cI, 300, .inl fu_17))]) rfl
                clear hP hD hS hJ hPD9
                have hP := hPn
                have hD := hDn
                have hS := hSn
                clear hPn hDn hSn
                refine lv_if_ne (tgt := 134) hx hb dX6_build_129 (by decide) (fun c_18 => ?_) (fun c_18 => ?_)
                · have tc_18 : ¬ r_17.toInt = 0 := v_ne c_18
                  refine lv_iload hx hb dX6_build_134 (lv_at hl 1 rfl) ?_
                  refine lv_iconst (v := 1) hx hb dX6_build_136 (by decide) ?_
                  refine lv_iadd hx hb dX6_build_137 ?_
                  refine lv_topi (fun x_19 ex_19 => ?_)
                  have tx_19 : x_19.toInt = fr.toInt + 1 := v_addR (l2 := 1) (h2 := 1) ex_19 g_fr (by decide) (by decide) (by decide)
                  refine lv_aload_n hx hb dX6_build_138 rfl (lv_at hl 3 rfl) ?_
                  refine va_get (D := (dC, dI)) (ci := 6) (v := .ref q3) (C := RX6) (T := TX6) (N := 12) hx hb hts in_X6 hown hK hP 0 rfl rfl 9 (Nat.le_of_ble_eq_true rfl) (hts (.fieldLink RX6 33 "TextMender$Parting" "endOf" "[I") (List.mem_of_getElem? (i := 6) rfl)) (fun _ h9 => h9) rfl dX6_build_139 ?_
                  refine lv_iload hx hb dX6_build_142 (lv_at hl 1 rfl) ?_
                  refine va_iald hx hb hK hP 1 0 rfl rfl (v_inR g_fr (by decide) (by decide)) dX6_build_144 ?_
                  refine k_i (y := x_6) ex_6.symm ?_
                  refine va_mmax hx hb (by rw [hml]; exact hl.1.symm) hown (hts (.methodLink RX6 147 Lib.Math.max.name) (List.mem_of_getElem? (i := 10) rfl)) (hts (.static Lib.Math.max.name) (List.mem_of_getElem? (i := 11) rfl)) (hts (.initialized "java/lang/Math") (List.mem_of_getElem? (i := 3) rfl)) (hts (.code Lib.Math.max.name Lib.Math.max.code 2 (some .int)) (List.mem_of_getElem? (i := 12) rfl)) (Nat.le_of_ble_eq_true rfl) (Nat.le_of_ble_eq_true rfl) (Nat.zero_le _) (Nat.zero_le _) dX6_build_145 ?_
                  refine lv_topi (fun x_20 ex_20 => ?_)
                  have tx_20 : x_19.toInt ≤ x_20.toInt ∧ x_6.toInt ≤ x_20.toInt ∧ (x_20.toInt = x_19.toInt ∨ x_20.toInt = x_6.toInt) := v_max ex_20
                  refine lv_istore (lv' := [(4, .int x_20), (5, .int i), (3, .int lx), (0, .ref oQ), (1, .ref nx), (2, .ref nd)]) hx hb dX6_build_148 hl (by decide) rfl (fun ls hl => ?_)
                  refine lv_goto (tgt := 18) hx hb dX6_build_150 (by decide) ?_
                  exact ih_18 x_20 fta lBa lpb lu_16 lu_17 fBa fpb fu_16 fu_17 _ _ _ (ms_lt hm_18 (by show ((60 - x_20.toInt : Int)) < 60 - fr.toInt; omega) (by show (0 : Int) < 60 - fr.toInt; omega)) (by show 0 ≤ x_20.toInt ∧ x_20.toInt ≤ 60; omega) (g_lBa) (g_lpb) (by show 0 ≤ lu_16.toInt ∧ lu_16.toInt ≤ 300; omega) (by show 0 ≤ lu_17.toInt ∧ lu_17.toInt ≤ 300; omega) (by show x_20.toInt ≤ lx.toInt; omega) (lay_s hly (by omega) (by rw [← ex_8, ← ex_6]; exact Or.inl ⟨by rw [c_9]; rfl, rfl, fun k hk => ((addAll_cp hf16_2 (by omega) (by omega)).2 k (by omega)).trans (hcp k (by omega))⟩) (m := x_6.toInt.toNat - fr.toNatClampNeg) (by rw [(addAll_cp hf16_2 (by omega) (by omega)).1]; omega) hf17_2 (by omega) (by omega) (by rw [← ex_6]; omega) (by omega)) hP hD hS (lv_sub hl [0, 2, 3, 4, 5] rfl)
                · have tc_18 : r_17.toInt = 0 := v_eq c_18
                  refine lv_iconst (v := 0) hx hb dX6_build_132 (by decide) ?_
                  exact kl_z (v := 0) hQQ hx hb hr hlocks hS dX6_build_133 (rfl) (fun PZ9 kZ9 => kZ9 lpb fpb lu_16 fu_16 fta lBa fBa lu_17 fu_17 (⟨hP, hD⟩) (g_lpb) (by omega) (g_lBa) (by omega) (by decide) (lay_no hly (by omega) (by rw [← ex_8, ← ex_6]; exact Or.inl ⟨by rw [c_9]; rfl, rfl, fun k hk => ((addAll_cp hf16_2 (by omega) (by omega)).2 k (by omega)).trans (hcp k (by omega))⟩) (m := x_6.toInt.toNat - fr.toNatClampNeg) (by rw [(addAll_cp hf16_2 (by omega) (by omega)).1]; omega) hf17_2 (by omega) (by omega) rfl))
            · have tc_7 : i.toInt < x_6.toInt := v_nle c_7
              refine lv_aload_n hx hb dX6_build_48 rfl (lv_at hl 3 rfl) ?_
              refine va_get (D := (dC, dI)) (ci := 6) (v := .ref np) (C := RX6) (T := TX6) (N := 12) hx hb hts in_X6 hown hK hP 0 rfl rfl 5 (Nat.le_of_ble_eq_true rfl) (hts (.fieldLink RX6 20 "TextMender$Parting" "part" "LTextMender$Numbers;") (List.mem_of_getElem? (i := 5) rfl)) (fun _ h9 => h9) rfl dX6_build_49 ?_
              refine lv_aload_n hx hb dX6_build_52 rfl (lv_at hl 4 rfl) ?_
              refine lv_iload hx hb dX6_build_53 (lv_at hl 0 rfl) ?_
              refine kV_i (rest := [.ref np]) (q0 := 0) (ci := 5) hcf (m_X5_get l dC dI cI cS H.size nx ax 300 lx fx i (by omega) (by omega)) kc_X5_get gX6_build_X5_get rfl rfl rfl ⟨Nat.le_of_ble_eq_true rfl, Nat.le_of_ble_eq_true rfl⟩ kX_t hK hP hD hS hA (posT mk_66 0) (posF mk_66 0) (kC_of mk_66 rfl rfl) (by decide +kernel) rfl rfl rfl hl rfl (Nat.le_of_ble_eq_true rfl) dX6_build_55 ⟨Nat.le_of_ble_eq_true rfl, Nat.le_of_ble_eq_true rfl⟩ (fun r_21 H locs hB hJ hSn => ?_)
              refine hB _ (fun hPD9 hf21_0 => ?_)
              clear hB
              obtain ⟨hPn, hDn⟩ := kJi (m := mk_66) hJ rfl hPD9.1 hPD9.2 (wn := [(oQ, .inr (6, [.ref oC, .ref oH, .ref oK, .ref oE, .ref nq, .ref np, .ref nv, .ref q1, .ref q2, .ref q3, .ref q4, .int pr])), (q3, .inl (cI, 61, .inl fQ3)), (q4, .inl (cI, 61, .inl fQ4)), (np, .inr (5, [.ref ap, .int lpb])), (ap, .inl (cI, 300, .inl fpb)), (nv, .inr (5, [.ref av, .int lva])), (av, .inl (cI, 300, .inl fva)), (oH, .inr (4, [.ref oP, .ref h1, .ref h2, .int lH])), (h1, .inl (cI, 6, .inl fH1)), (h2, .inl (cI, 6, .inl fH2)), (oP, .inr (7, [.ref oC, .ref nB, .int fta])), (nB, .inr (5, [.ref aB, .int lBa])), (aB, .inl (cI, 2400, .inl fBa)), (oC, .inr (2, [.ref o4, .ref o5])), (o4, .inr (10, [.ref a41, .ref a42, .ref a43, .int l4])), (a41, .inl (cI, 256, .inl f41)), (a42, .inl (cI, 512, .inl f42)), (a43, .inl (cI, 512, .inl f43)), (o5, .inr (10, [.ref a51, .ref a52, .ref a53, .int l5])), (a51, .inl (cI, 256, .inl f51)), (a52, .inl (cI, 512, .inl f52)), (a53, .inl (cI, 512, .inl f53)), (nx, .inr (5, [.ref ax, .int lx])), (ax, .inl (cI, 300, .inl fx)), (nd, .inr (5, [.ref ad, .int lda])), (ad, .inl (cI, 300, .inl fda))]) rfl
              clear hP hD hS hJ hPD9
              have hP := hPn
              have hD := hDn
              have hS := hSn
              clear hPn hDn hSn
              have hg21 : r_21 = fx i.toNatClampNeg := F_get_f hf21_0 (by omega) (by omega)
              refine kV_i (rest := []) (q0 := 0) (ci := 5) hcf (m_X5_add l dC dI cI cS H.size np ap 300 lpb fpb r_21 (by omega) (by omega)) kc_X5_add gX6_build_X5_add rfl rfl rfl ⟨Nat.le_of_ble_eq_true rfl, Nat.le_of_ble_eq_true rfl⟩ kX_t hK hP hD hS hA (posT mk_67 0) (posF mk_67 0) (kC_of mk_67 rfl rfl) (by decide +kernel) rfl rfl rfl hl rfl (Nat.le_of_ble_eq_true rfl) dX6_build_58 ⟨Nat.le_of_ble_eq_true rfl, Nat.le_of_ble_eq_true rfl⟩ (fun r_22 H locs hB hJ hSn => ?_)
              refine hB _ (fun lu_22 fu_22 hPD9 hf22_0 hf22_1 hf22_2 => ?_)
              clear hB
              obtain ⟨hPn, hDn⟩ := kJi (m := mk_67) hJ rfl hPD9.1 hPD9.2 (wn := [(oQ, .inr (6, [.ref oC, .ref oH, .ref oK, .ref oE, .ref nq, .ref np, .ref nv, .ref q1, .ref q2, .ref q3, .ref q4, .int pr])), (q3, .inl (cI, 61, .inl fQ3)), (q4, .inl (cI, 61, .inl fQ4)), (np, .inr (5, [.ref ap, .int lu_22])), (ap, .inl (cI, 300, .inl fu_22)), (nv, .inr (5, [.ref av, .int lva])), (av, .inl (cI, 300, .inl fva)), (oH, .inr (4, [.ref oP, .ref h1, .ref h2, .int lH])), (h1, .inl (cI, 6, .inl fH1)), (h2, .inl (cI, 6, .inl fH2)), (oP, .inr (7, [.ref oC, .ref nB, .int fta])), (nB, .inr (5, [.ref aB, .int lBa])), (aB, .inl (cI, 2400, .inl fBa)), (oC, .inr (2, [.ref o4, .ref o5])), (o4, .inr (10, [.ref a41, .ref a42, .ref a43, .int l4])), (a41, .inl (cI, 256, .inl f41)), (a42, .inl (cI, 512, .inl f42)), (a43, .inl (cI, 512, .inl f43)), (o5, .inr (10, [.ref a51, .ref a52, .ref a53, .int l5])), (a51, .inl (cI, 256, .inl f51)), (a52, .inl (cI, 512, .inl f52)), (a53, .inl (cI, 512, .inl f53)), (nx, .inr (5, [.ref ax, .int lx])), (ax, .inl (cI, 300, .inl fx)), (nd, .inr (5, [.ref ad, .int lda])), (ad, .inl (cI, 300, .inl fda))]) rfl
              clear hP hD hS hJ hPD9
              have hP := hPn
              have hD := hDn
              have hS := hSn
              clear hPn hDn hSn
              have ha22 := F_add_l hf22_2 (by omega)
              refine lv_pop hx hb dX6_build_61 rfl ?_
              obtain ⟨x_23, ex_23⟩ : ∃ y : Int32, y = i + 1 := ⟨_, rfl⟩
              have tx_23 : x_23.toInt = i.toInt + 1 := v_addR (l2 := 1) (h2 := 1) ex_23 g_i (by decide) (by decide) (by decide)
              refine lv_iinc (v := x_23) (lv' := [(5, .int x_23), (4, .int fr), (3, .int lx), (0, .ref oQ), (1, .ref nx), (2, .ref nd)]) hx hb dX6_build_62 hl (k := 0) rfl (by rw [ex_23]; rfl) (by decide) rfl (fun ls hl => ?_)
              refine lv_goto (tgt := 36) hx hb dX6_build_65 (by decide) ?_
              exact ih_36 x_23 lu_22 fu_22 _ _ _ (ms_lt hm_36 (by show ((60 - x_23.toInt : Int)) < 60 - i.toInt; omega) (by show (0 : Int) < 60 - i.toInt; omega)) (by show 0 ≤ x_23.toInt ∧ x_23.toInt ≤ 60; omega) (by show 0 ≤ lu_22.toInt ∧ lu_22.toInt ≤ 300; omega) (by show fr.toInt ≤ x_23.toInt; omega) (by show lu_22.toInt = x_23.toInt - fr.toInt; omega) (by rw [← ex_6]; omega) (cpS_s hcp hlp hf22_2 hg21 (by omega) (by omega) (by omega)) hP hD hS (lv_sub hl [0, 1, 2, 3, 4, 5] rfl)
        exact LOOP_36 _ fr lu_5 fpa _ _ _ (ms_s _) (g_fr) (by show 0 ≤ lu_5.toInt ∧ lu_5.toInt ≤ 300; omega) (by show fr.toInt ≤ fr.toInt; omega) (by show lu_5.toInt = fr.toInt - fr.toInt; omega) (by show fr.toInt ≤ (fQ3 fr.toNatClampNeg).toInt; omega) (fun j hj => by omega) hP hD hS (lv_sub hl [0, 1, 2, 3, 4, 5] rfl)
  exact LOOP_18 _ 0 ft lB lp lv lu_1 fB fp fv fd _ _ _ (ms_s _) (by decide) (g_lB) (g_lp) (g_lv) (by show 0 ≤ lu_1.toInt ∧ lu_1.toInt ≤ 300; omega) (by show 0 ≤ lx.toInt; omega) (⟨0, rfl, by omega⟩) hP hD hS (lv_sub hl [0, 1, 2, 3, 4] rfl)

end

/-! 5c.a.rows -/
section
set_option maxRecDepth 100000 in
theorem dA302_cX6_spans : kDec cX6_spans [(0, .aload_n 0, 1), (1, .getfield 30, 3), (4, .iconst 0, 1), (5, .iaload, 1), (6, .ireturn, 1)] = true := by decide +kernel
theorem dX6_spans_0 : decode cX6_spans 0 = .ok (.aload_n 0, 1) := kDec_at dA302_cX6_spans 0 rfl
theorem dX6_spans_1 : decode cX6_spans 1 = .ok (.getfield 30, 3) := kDec_at dA302_cX6_spans 1 rfl
theorem dX6_spans_4 : decode cX6_spans 4 = .ok (.iconst 0, 1) := kDec_at dA302_cX6_spans 2 rfl
theorem dX6_spans_5 : decode cX6_spans 5 = .ok (.iaload, 1) := kDec_at dA302_cX6_spans 3 rfl
theorem dX6_spans_6 : decode cX6_spans 6 = .ok (.ireturn, 1) := kDec_at dA302_cX6_spans 4 rfl
set_option maxRecDepth 100000 in
theorem dA303_cX11_parts : kDec cX11_parts [(0, .aload_n 0, 1), (1, .iconst (-1), 1), (2, .putfield 90, 3), (5, .aload_n 0, 1), (6, .getfield 34, 3), (9, .invokevirtual 94, 3), (12, .ifCond .le 19, 3), (31, .iconst 0, 1), (32, .istore_n 2, 1), (33, .iload_n 2, 1), (34, .ifCond .eq 14, 3), (48, .iconst (-1), 1), (49, .ireturn, 1), (15, .aload_n 0, 1), (16, .getfield 34, 3), (19, .invokevirtual 94, 3), (22, .bipush 60, 2), (24, .if_icmp .gt 7, 3), (27, .iconst 1, 1), (28, .goto 4, 3), (37, .iload_n 1, 1), (38, .ifCond .lt 10, 3), (41, .iload_n 1, 1), (42, .sipush 1000, 3)] = true := by decide +kernel
theorem dX11_parts_0 : decode cX11_parts 0 = .ok (.aload_n 0, 1) := kDec_at dA303_cX11_parts 0 rfl
theorem dX11_parts_1 : decode cX11_parts 1 = .ok (.iconst (-1), 1) := kDec_at dA303_cX11_parts 1 rfl
theorem dX11_parts_2 : decode cX11_parts 2 = .ok (.putfield 90, 3) := kDec_at dA303_cX11_parts 2 rfl
theorem dX11_parts_5 : decode cX11_parts 5 = .ok (.aload_n 0, 1) := kDec_at dA303_cX11_parts 3 rfl
theorem dX11_parts_6 : decode cX11_parts 6 = .ok (.getfield 34, 3) := kDec_at dA303_cX11_parts 4 rfl
theorem dX11_parts_9 : decode cX11_parts 9 = .ok (.invokevirtual 94, 3) := kDec_at dA303_cX11_parts 5 rfl
theorem dX11_parts_12 : decode cX11_parts 12 = .ok (.ifCond .le 19, 3) := kDec_at dA303_cX11_parts 6 rfl
theorem dX11_parts_31 : decode cX11_parts 31 = .ok (.iconst 0, 1) := kDec_at dA303_cX11_parts 7 rfl
theorem dX11_parts_32 : decode cX11_parts 32 = .ok (.istore_n 2, 1) := kDec_at dA303_cX11_parts 8 rfl
theorem dX11_parts_33 : decode cX11_parts 33 = .ok (.iload_n 2, 1) := kDec_at dA303_cX11_parts 9 rfl
theorem dX11_parts_34 : decode cX11_parts 34 = .ok (.ifCond .eq 14, 3) := kDec_at dA303_cX11_parts 10 rfl
theorem dX11_parts_48 : decode cX11_parts 48 = .ok (.iconst (-1), 1) := kDec_at dA303_cX11_parts 11 rfl
theorem dX11_parts_49 : decode cX11_parts 49 = .ok (.ireturn, 1) := kDec_at dA303_cX11_parts 12 rfl
theorem dX11_parts_15 : decode cX11_parts 15 = .ok (.aload_n 0, 1) := kDec_at dA303_cX11_parts 13 rfl
theorem dX11_parts_16 : decode cX11_parts 16 = .ok (.getfield 34, 3) := kDec_at dA303_cX11_parts 14 rfl
theorem dX11_parts_19 : decode cX11_parts 19 = .ok (.invokevirtual 94, 3) := kDec_at dA303_cX11_parts 15 rfl
theorem dX11_parts_22 : decode cX11_parts 22 = .ok (.bipush 60, 2) := kDec_at dA303_cX11_parts 16 rfl
theorem dX11_parts_24 : decode cX11_parts 24 = .ok (.if_icmp .gt 7, 3) := kDec_at dA303_cX11_parts 17 rfl
theorem dX11_parts_27 : decode cX11_parts 27 = .ok (.iconst 1, 1) := kDec_at dA303_cX11_parts 18 rfl
theorem dX11_parts_28 : decode cX11_parts 28 = .ok (.goto 4, 3) := kDec_at dA303_cX11_parts 19 rfl
theorem dX11_parts_37 : decode cX11_parts 37 = .ok (.iload_n 1, 1) := kDec_at dA303_cX11_parts 20 rfl
theorem dX11_parts_38 : decode cX11_parts 38 = .ok (.ifCond .lt 10, 3) := kDec_at dA303_cX11_parts 21 rfl
theorem dX11_parts_41 : decode cX11_parts 41 = .ok (.iload_n 1, 1) := kDec_at dA303_cX11_parts 22 rfl
theorem dX11_parts_42 : decode cX11_parts 42 = .ok (.sipush 1000, 3) := kDec_at dA303_cX11_parts 23 rfl
set_option maxRecDepth 20000 in
theorem ggX11_parts_X5_length : GoodIn wsX11_parts wsX5_length := goodIn_sub (fun _ h => List.mem_cons_of_mem _ (List.mem_append_left _ (List.mem_append_left _ (List.mem_append_left _ (List.mem_append_left _ (List.mem_append_right _ (h))))))) gX5_length_all
set_option maxRecDepth 20000 in
theorem gX11_parts_X5_length : GoodIn wsX11_parts (wsV RX11 94 RX5 yX5_length wsX5_length) := goodIn_app (goodIn_r _ [5, 6, 7, 8] rfl (by decide +kernel)) ggX11_parts_X5_length
set_option maxRecDepth 100000 in
theorem dA304_cX11_parts : kDec cX11_parts [(45, .if_icmp .le 5, 3), (50, .aload_n 0, 1), (51, .getfield 77, 3), (54, .aload_n 0, 1), (55, .getfield 34, 3), (58, .iload_n 1, 1), (59, .invokevirtual 227, 3), (62, .aload_n 0, 1), (63, .getfield 77, 3), (66, .aload_n 0, 1), (67, .getfield 34, 3), (70, .aload_n 0, 1), (71, .getfield 37, 3), (74, .invokevirtual 230, 3), (77, .ifCond .ne 5, 3), (82, .aload_n 0, 1), (83, .aload_n 0, 1), (84, .getfield 37, 3), (87, .invokevirtual 113, 3), (90, .pop, 1), (91, .aload_n 0, 1), (92, .getfield 77, 3), (95, .invokevirtual 233, 3), (98, .ireturn, 1)] = true := by decide +kernel
theorem dX11_parts_45 : decode cX11_parts 45 = .ok (.if_icmp .le 5, 3) := kDec_at dA304_cX11_parts 0 rfl
theorem dX11_parts_50 : decode cX11_parts 50 = .ok (.aload_n 0, 1) := kDec_at dA304_cX11_parts 1 rfl
theorem dX11_parts_51 : decode cX11_parts 51 = .ok (.getfield 77, 3) := kDec_at dA304_cX11_parts 2 rfl
theorem dX11_parts_54 : decode cX11_parts 54 = .ok (.aload_n 0, 1) := kDec_at dA304_cX11_parts 3 rfl
theorem dX11_parts_55 : decode cX11_parts 55 = .ok (.getfield 34, 3) := kDec_at dA304_cX11_parts 4 rfl
theorem dX11_parts_58 : decode cX11_parts 58 = .ok (.iload_n 1, 1) := kDec_at dA304_cX11_parts 5 rfl
theorem dX11_parts_59 : decode cX11_parts 59 = .ok (.invokevirtual 227, 3) := kDec_at dA304_cX11_parts 6 rfl
theorem dX11_parts_62 : decode cX11_parts 62 = .ok (.aload_n 0, 1) := kDec_at dA304_cX11_parts 7 rfl
theorem dX11_parts_63 : decode cX11_parts 63 = .ok (.getfield 77, 3) := kDec_at dA304_cX11_parts 8 rfl
theorem dX11_parts_66 : decode cX11_parts 66 = .ok (.aload_n 0, 1) := kDec_at dA304_cX11_parts 9 rfl
theorem dX11_parts_67 : decode cX11_parts 67 = .ok (.getfield 34, 3) := kDec_at dA304_cX11_parts 10 rfl
theorem dX11_parts_70 : decode cX11_parts 70 = .ok (.aload_n 0, 1) := kDec_at dA304_cX11_parts 11 rfl
theorem dX11_parts_71 : decode cX11_parts 71 = .ok (.getfield 37, 3) := kDec_at dA304_cX11_parts 12 rfl
theorem dX11_parts_74 : decode cX11_parts 74 = .ok (.invokevirtual 230, 3) := kDec_at dA304_cX11_parts 13 rfl
theorem dX11_parts_77 : decode cX11_parts 77 = .ok (.ifCond .ne 5, 3) := kDec_at dA304_cX11_parts 14 rfl
theorem dX11_parts_82 : decode cX11_parts 82 = .ok (.aload_n 0, 1) := kDec_at dA304_cX11_parts 15 rfl
theorem dX11_parts_83 : decode cX11_parts 83 = .ok (.aload_n 0, 1) := kDec_at dA304_cX11_parts 16 rfl
theorem dX11_parts_84 : decode cX11_parts 84 = .ok (.getfield 37, 3) := kDec_at dA304_cX11_parts 17 rfl
theorem dX11_parts_87 : decode cX11_parts 87 = .ok (.invokevirtual 113, 3) := kDec_at dA304_cX11_parts 18 rfl
theorem dX11_parts_90 : decode cX11_parts 90 = .ok (.pop, 1) := kDec_at dA304_cX11_parts 19 rfl
theorem dX11_parts_91 : decode cX11_parts 91 = .ok (.aload_n 0, 1) := kDec_at dA304_cX11_parts 20 rfl
theorem dX11_parts_92 : decode cX11_parts 92 = .ok (.getfield 77, 3) := kDec_at dA304_cX11_parts 21 rfl
theorem dX11_parts_95 : decode cX11_parts 95 = .ok (.invokevirtual 233, 3) := kDec_at dA304_cX11_parts 22 rfl
theorem dX11_parts_98 : decode cX11_parts 98 = .ok (.ireturn, 1) := kDec_at dA304_cX11_parts 23 rfl
set_option maxRecDepth 20000 in
theorem gX6_find_all : wsX6_find.all goodWord = true := by
  unfold wsX6_find
  exact good_c (by decide +kernel) (good_a (good_a (good_a (good_a (good_a (good_a (good_a (good_a (good_a (good_a (good_a ((by decide +kernel)) gX6_clsall) gX5_clsall) gX3_clsall) gX4_clsall) gX8_clsall) gX2_clsall) gX10_clsall) gX5_length_all) gX6_tryAsItIs_all) gX4_length_all) gX6_tryUndone_all)
set_option maxRecDepth 20000 in
theorem ggX11_parts_X6_find : GoodIn wsX11_parts wsX6_find := goodIn_sub (fun _ h => List.mem_cons_of_mem _ (List.mem_append_left _ (List.mem_append_left _ (List.mem_append_left _ (List.mem_append_right _ (h)))))) gX6_find_all
set_option maxRecDepth 20000 in
theorem gX11_parts_X6_find : GoodIn wsX11_parts (wsV RX11 227 RX6 yX6_find wsX6_find) := goodIn_app (goodIn_r _ [9, 10, 11, 12] rfl (by decide +kernel)) ggX11_parts_X6_find
set_option maxRecDepth 20000 in
theorem gX6_build_all : wsX6_build.all goodWord = true := by
  unfold wsX6_build
  exact good_c (by decide +kernel) (good_a (good_a (good_a (good_a (good_a (good_a (good_a (good_a (good_a (good_a (good_a (good_a (good_a ((by decide +kernel)) gX6_clsall) gX5_clsall) gX4_clsall) gX7_clsall) gX2_clsall) gX10_clsall) gX5_cut_all) gX5_length_all) gX5_get_all) gX5_add_all) gX5_takeAll_all) gX4_takeOff_all) gX5_addAll_all)
set_option maxRecDepth 20000 in
theorem ggX11_parts_X6_build : GoodIn wsX11_parts wsX6_build := goodIn_sub (fun _ h => List.mem_cons_of_mem _ (List.mem_append_left _ (List.mem_append_left _ (List.mem_append_right _ (h))))) gX6_build_all
set_option maxRecDepth 20000 in
theorem gX11_parts_X6_build : GoodIn wsX11_parts (wsV RX11 230 RX6 yX6_build wsX6_build) := goodIn_app (goodIn_r _ [14, 15, 16, 12] rfl (by decide +kernel)) ggX11_parts_X6_build
set_option maxRecDepth 20000 in
theorem ggX11_parts_X11_become : GoodIn wsX11_parts wsX11_become := goodIn_sub (fun _ h => List.mem_cons_of_mem _ (List.mem_append_left _ (List.mem_append_right _ (h)))) gX11_become_all
set_option maxRecDepth 20000 in
theorem gX11_parts_X11_become : GoodIn wsX11_parts (wsV RX11 113 RX11 yX11_become wsX11_become) := goodIn_app (goodIn_r _ [17, 18, 19, 13] rfl (by decide +kernel)) ggX11_parts_X11_become
set_option maxRecDepth 20000 in
theorem gX6_spans_all : wsX6_spans.all goodWord = true := by
  unfold wsX6_spans
  exact good_c (by decide +kernel) (good_a ((by decide +kernel)) gX6_clsall)
set_option maxRecDepth 20000 in
theorem ggX11_parts_X6_spans : GoodIn wsX11_parts wsX6_spans := goodIn_sub (fun _ h => List.mem_cons_of_mem _ (List.mem_append_right _ (h))) gX6_spans_all
set_option maxRecDepth 20000 in
theorem gX11_parts_X6_spans : GoodIn wsX11_parts (wsV RX11 233 RX6 yX6_spans wsX6_spans) := goodIn_app (goodIn_r _ [20, 21, 22, 12] rfl (by decide +kernel)) ggX11_parts_X6_spans
set_option maxRecDepth 100000 in
theorem dA305_cX11_parts : kDec cX11_parts [(80, .iconst (-1), 1), (81, .ireturn, 1)] = true := by decide +kernel
theorem dX11_parts_80 : decode cX11_parts 80 = .ok (.iconst (-1), 1) := kDec_at dA305_cX11_parts 0 rfl
theorem dX11_parts_81 : decode cX11_parts 81 = .ok (.ireturn, 1) := kDec_at dA305_cX11_parts 1 rfl

end

/-! 5c.parts -/
section
set_option maxHeartbeats 40000000 in
set_option maxRecDepth 100000 in
theorem f_X6_spans (l : Launch) (dC : Nat → ClassId) (dI : Nat → Nat → Nat) (cI cS : ClassId) (sz : Nat) (oQ : Nat) (oC : Nat) (oH : Nat) (oK : Nat) (oE : Nat) (nq : Nat) (np : Nat) (nv : Nat) (q1 : Nat) (q2 : Nat) (q3 : Nat) (q4 : Nat) (pr : Int32) (fQ2 : Nat → Int32)  : kMi l yX6_spans wsX6_spans ({ frames := 0, cells := 0, slots := 0, locals := 0 } : Room) [.ref oQ] sz (dC, dI) vwCl [(cI, .int), (cS, .short)] [(oQ, .inr (6, [.ref oC, .ref oH, .ref oK, .ref oE, .ref nq, .ref np, .ref nv, .ref q1, .ref q2, .ref q3, .ref q4, .int pr])), (q2, .inl (cI, 61, .inl fQ2))] (fun _ => True) 0 0 (fun (A : Nat → Prop) (r : Int32) (hh9 : Heap) => ∀ PZ9 : Prop, (kPD (dC, dI) vwCl A [(oQ, .inr (6, [.ref oC, .ref oH, .ref oK, .ref oE, .ref nq, .ref np, .ref nv, .ref q1, .ref q2, .ref q3, .ref q4, .int pr])), (q2, .inl (cI, 61, .inl fQ2))] hh9 → (r = fQ2 0) → PZ9) → PZ9) := by
  refine kMi_of (cc := cX6_spans) (maxL := 1) (ret := (some .int)) (lv := [(0, .ref oQ)]) (by decide +kernel) rfl rfl (Nat.le_of_ble_eq_true rfl) ?_
  intro p e s m below meth c A QQ ls hx hb hr hts hml hown hlocks hA hQQ hK hX hP hD hS hl
  have hown : s.vm.findClass RX6 = some m.cls := hown
  have hcf := k_cf hx hb hml hown hts
  have in_X6 : ∀ w ∈ wsX60, w ∈ wsX6_spans := fun _ h => List.mem_cons_of_mem _ (List.mem_append_right _ (h))
  refine lv_aload_n hx hb dX6_spans_0 rfl (lv_at hl 0 rfl) ?_
  refine va_get (D := (dC, dI)) (ci := 6) (v := .ref q2) (C := RX6) (T := TX6) (N := 12) hx hb hts in_X6 hown hK hP 0 rfl rfl 8 (Nat.le_of_ble_eq_true rfl) (hts (.fieldLink RX6 30 "TextMender$Parting" "spansFrom" "[I") (List.mem_of_getElem? (i := 1) rfl)) (fun _ h9 => h9) rfl dX6_spans_1 ?_
  refine lv_iconst (v := 0) hx hb dX6_spans_4 (by decide) ?_
  refine va_iald hx hb hK hP 1 0 rfl rfl (by unfold vp_in; decide) dX6_spans_5 ?_
  refine lv_topi (fun x_1 ex_1 => ?_)
  exact kl_i (v := x_1) hQQ hx hb hr hlocks hS dX6_spans_6 (fun PZ9 kZ9 => kZ9 (⟨hP, hD⟩) (ex_1))

set_option maxHeartbeats 40000000 in
set_option maxRecDepth 100000 in
theorem f_X11_parts (l : Launch) (dC : Nat → ClassId) (dI : Nat → Nat → Nat) (cI cS : ClassId) (sz : Nat) (oX : Nat) (nT : Nat) (nL : Nat) (nM : Nat) (oC : Nat) (oP : Nat) (oH : Nat) (oK : Nat) (oG : Nat) (oR : Nat) (oQ : Nat) (oW : Nat) (oE : Nat) (nq : Nat) (np : Nat) (nv : Nat) (q1 : Nat) (q2 : Nat) (q3 : Nat) (q4 : Nat) (aq : Nat) (ap : Nat) (av : Nat) (h1 : Nat) (h2 : Nat) (nB : Nat) (aB : Nat) (o4 : Nat) (o5 : Nat) (a41 : Nat) (a42 : Nat) (a43 : Nat) (a51 : Nat) (a52 : Nat) (a53 : Nat) (k1 : Nat) (k2 : Nat) (aL : Nat) (aM : Nat) (g1 : Nat) (g2 : Nat) (nw : Nat) (w1 : Nat) (w2 : Nat) (w3 : Nat) (o7 : Nat) (o8 : Nat) (o9 : Nat) (w4 : Nat) (w5 : Nat) (w6 : Nat) (w7 : Nat) (fa : Int32) (pr : Int32) (fQ1 : Nat → Int32) (fQ2 : Nat → Int32) (fQ3 : Nat → Int32) (fQ4 : Nat → Int32) (lq : Int32) (fq : Nat → Int32) (lp : Int32) (fp : Nat → Int32) (lv : Int32) (fv : Nat → Int32) (reE : Int32) (laE : Int32) (suE : Int32) (leE : Int32) (lH : Int32) (fH1 : Nat → Int32) (fH2 : Nat → Int32) (ft : Int32) (lB : Int32) (fB : Nat → Int32) (l4 : Int32) (f41 : Nat → Int32) (f42 : Nat → Int32) (f43 : Nat → Int32) (l5 : Int32) (f51 : Nat → Int32) (f52 : Nat → Int32) (f53 : Nat → Int32) (lK : Int32) (fK1 : Nat → Int32) (fK2 : Nat → Int32) (lL : Int32) (fL : Nat → Int32) (lM : Int32) (fM : Nat → Int32) (gn : Int32) (lG : Int32) (fG1 : Nat → Int32) (fG2 : Nat → Int32) (ke : Int32) (tl : Int32) (fsh : Int32) (wi : Int32) (ri : Int32) (fm : Int32) (lm : Int32) (pe : Int32) (g_lq : 0 ≤ lq.toInt ∧ lq.toInt ≤ 480) (g_lp : 0 ≤ lp.toInt ∧ lp.toInt ≤ 300) (g_lv : 0 ≤ lv.toInt ∧ lv.toInt ≤ 300) (g_lH : 0 ≤ lH.toInt ∧ lH.toInt ≤ 6) (g_lB : 0 ≤ lB.toInt ∧ lB.toInt ≤ 2400) (g_lK : 0 ≤ lK.toInt ∧ lK.toInt ≤ 300) (g_lL : 0 ≤ lL.toInt ∧ lL.toInt ≤ 300) (g_lM : 0 ≤ lM.toInt ∧ lM.toInt ≤ 300) (g_gn : 0 ≤ gn.toInt ∧ gn.toInt ≤ 19) (g_lG : 0 ≤ lG.toInt ∧ lG.toInt ≤ 20) (g_fG2 : rg 0 300 fG2) (g_ke : 0 ≤ ke.toInt ∧ ke.toInt ≤ 200) (g_fsh : 0 ≤ fsh.toInt ∧ fsh.toInt ≤ 1) (g_fm : -1 ≤ fm.toInt ∧ fm.toInt ≤ 800) (g_lm : -1 ≤ lm.toInt ∧ lm.toInt ≤ 800) (hlt : prg lL.toInt 0 65535 fL) (hT4 : HT 512 511 hsT f42 f43) (ho4 : (occ f43 512 : Int) ≤ 511) (hT5 : HT 512 511 hsT f52 f53) (ho5 : (occ f53 512 : Int) ≤ 511) (hL4 : prg 256 (-1) 65535 f41) (hL5 : prg 256 (-1) 65535 f51) (hBr : ∀ cd : Int32, okB (Bc cd f42 f43 f52 f53)) (hT : HT 1024 1023 hsK fK1 fK2) (ho : (occ fK2 1024 : Int) ≤ lK.toInt) (hV : prg 1024 (-1) 200 fK2) : kMi l yX11_parts wsX11_parts ({ frames := 7, cells := 0, slots := 0, locals := 174 } : Room) [.ref oX, .int pe] sz (dC, dI) vwCl [(cI, .int), (cS, .short)] [(oX, .inr (11, [.ref nT, .ref nL, .ref nM, .ref oC, .ref oP, .ref oH, .ref oK, .ref oG, .ref oR, .ref oQ, .ref oW, .int fa])), (oQ, .inr (6, [.ref oC, .ref oH, .ref oK, .ref oE, .ref nq, .ref np, .ref nv, .ref q1, .ref q2, .ref q3, .ref q4, .int pr])), (q1, .inl (cI, 61, .inl fQ1)), (q2, .inl (cI, 61, .inl fQ2)), (q3, .inl (cI, 61, .inl fQ3)), (q4, .inl (cI, 61, .inl fQ4)), (nq, .inr (5, [.ref aq, .int lq])), (aq, .inl (cI, 480, .inl fq)), (np, .inr (5, [.ref ap, .int lp])), (ap, .inl (cI, 300, .inl fp)), (nv, .inr (5, [.ref av, .int lv])), (av, .inl (cI, 300, .inl fv)), (oE, .inr (8, [.ref oC, .ref oK, .int reE, .int laE, .int suE, .int leE])), (oH, .inr (4, [.ref oP, .ref h1, .ref h2, .int lH])), (h1, .inl (cI, 6, .inl fH1)), (h2, .inl (cI, 6, .inl fH2)), (oP, .inr (7, [.ref oC, .ref nB, .int ft])), (nB, .inr (5, [.ref aB, .int lB])), (aB, .inl (cI, 2400, .inl fB)), (oC, .inr (2, [.ref o4, .ref o5])), (o4, .inr (10, [.ref a41, .ref a42, .ref a43, .int l4])), (a41, .inl (cI, 256, .inl f41)), (a42, .inl (cI, 512, .inl f42)), (a43, .inl (cI, 512, .inl f43)), (o5, .inr (10, [.ref a51, .ref a52, .ref a53, .int l5])), (a51, .inl (cI, 256, .inl f51)), (a52, .inl (cI, 512, .inl f52)), (a53, .inl (cI, 512, .inl f53)), (oK, .inr (3, [.ref k1, .ref k2, .int lK])), (k1, .inl (cI, 1024, .inl fK1)), (k2, .inl (cI, 1024, .inl fK2)), (nL, .inr (5, [.ref aL, .int lL])), (aL, .inl (cI, 300, .inl fL)), (nM, .inr (5, [.ref aM, .int lM])), (aM, .inl (cI, 300, .inl fM)), (oG, .inr (0, [.ref g1, .ref g2, .int gn, .int lG])), (g1, .inl (cI, 6000, .inl fG1)), (g2, .inl (cI, 20, .inl fG2)), (oW, .inr (1, [.ref oC, .ref oK, .ref nw, .ref w1, .ref w2, .ref w3, .ref o7, .ref o8, .ref o9, .ref w4, .ref w5, .ref w6, .ref w7, .int ke, .int tl, .int fsh, .int wi, .int ri, .int fm, .int lm]))] (va_Nw (.methodLinkNest RX2 52 yX11_isLetter "TextMender")) 0 0 (fun (A : Nat → Prop) (r : Int32) (hh9 : Heap) => ∀ PZ9 : Prop, (∀ (fa' : Int32) (lq' : Int32) (fq' : Nat → Int32) (reE' : Int32) (laE' : Int32) (suE' : Int32) (leE' : Int32) (fQ1' : Nat → Int32) (fQ2' : Nat → Int32) (fQ3' : Nat → Int32) (fQ4' : Nat → Int32) (pr' : Int32) (lp' : Int32) (fp' : Nat → Int32) (lv' : Int32) (fv' : Nat → Int32) (ft' : Int32) (lB' : Int32) (fB' : Nat → Int32) (lM' : Int32) (fM' : Nat → Int32) (lL' : Int32) (fL' : Nat → Int32) (fsh' : Int32) (gn' : Int32) (lG' : Int32) (fG1' : Nat → Int32) (fG2' : Nat → Int32), kPD (dC, dI) vwCl A [(oX, .inr (11, [.ref nT, .ref nL, .ref nM, .ref oC, .ref oP, .ref oH, .ref oK, .ref oG, .ref oR, .ref oQ, .ref oW, .int fa'])), (oQ, .inr (6, [.ref oC, .ref oH, .ref oK, .ref oE, .ref nq, .ref np, .ref nv, .ref q1, .ref q2, .ref q3, .ref q4, .int pr'])), (q1, .inl (cI, 61, .inl fQ1')), (q2, .inl (cI, 61, .inl fQ2')), (q3, .inl (cI, 61, .inl fQ3')), (q4, .inl (cI, 61, .inl fQ4')), (nq, .inr (5, [.ref aq, .int lq'])), (aq, .inl (cI, 480, .inl fq')), (np, .inr (5, [.ref ap, .int lp'])), (ap, .inl (cI, 300, .inl fp')), (nv, .inr (5, [.ref av, .int lv'])), (av, .inl (cI, 300, .inl fv')), (oE, .inr (8, [.ref oC, .ref oK, .int reE', .int laE', .int suE', .int leE'])), (oH, .inr (4, [.ref oP, .ref h1, .ref h2, .int lH])), (h1, .inl (cI, 6, .inl fH1)), (h2, .inl (cI, 6, .inl fH2)), (oP, .inr (7, [.ref oC, .ref nB, .int ft'])), (nB, .inr (5, [.ref aB, .int lB'])), (aB, .inl (cI, 2400, .inl fB')), (oC, .inr (2, [.ref o4, .ref o5])), (o4, .inr (10, [.ref a41, .ref a42, .ref a43, .int l4])), (a41, .inl (cI, 256, .inl f41)), (a42, .inl (cI, 512, .inl f42)), (a43, .inl (cI, 512, .inl f43)), (o5, .inr (10, [.ref a51, .ref a52, .ref a53, .int l5])), (a51, .inl (cI, 256, .inl f51)), (a52, .inl (cI, 512, .inl f52)), (a53, .inl (cI, 512, .inl f53)), (oK, .inr (3, [.ref k1, .ref k2, .int lK])), (k1, .inl (cI, 1024, .inl fK1)), (k2, .inl (cI, 1024, .inl fK2)), (nL, .inr (5, [.ref aL, .int lL'])), (aL, .inl (cI, 300, .inl fL')), (nM, .inr (5, [.ref aM, .int lM'])), (aM, .inl (cI, 300, .inl fM')), (oG, .inr (0, [.ref g1, .ref g2, .int gn', .int lG'])), (g1, .inl (cI, 6000, .inl fG1')), (g2, .inl (cI, 20, .inl fG2')), (oW, .inr (1, [.ref oC, .ref oK, .ref nw, .ref w1, .ref w2, .ref w3, .ref o7, .ref o8, .ref o9, .ref w4, .ref w5, .ref w6, .ref w7, .int ke, .int tl, .int fsh', .int wi, .int ri, .int fm, .int lm]))] hh9 → (0 ≤ lq'.toInt ∧ lq'.toInt ≤ 480) → (0 ≤ lp'.toInt ∧ lp'.toInt ≤ 300) → (0 ≤ lv'.toInt ∧ lv'.toInt ≤ 300) → (0 ≤ lB'.toInt ∧ lB'.toInt ≤ 2400) → (0 ≤ lM'.toInt ∧ lM'.toInt ≤ 300) → (0 ≤ lL'.toInt ∧ lL'.toInt ≤ 300) → (0 ≤ fsh'.toInt ∧ fsh'.toInt ≤ 1) → (0 ≤ gn'.toInt ∧ gn'.toInt ≤ 19) → (0 ≤ lG'.toInt ∧ lG'.toInt ≤ 20) → (rg 0 300 fG2') → (OC (-1) r fsh fsh' gn gn' lG lG' lL lL' fG1 fG1' fG2 fG2' fL fL' (ptP (UC fH1 fH2 f41 f42 f43 f51 f52 f53) (tcC fK1 fK2) lH.toNatClampNeg lL.toNatClampNeg fL pe.toInt)) → PZ9) → PZ9) := by
  refine kMi_of (cc := cX11_parts) (maxL := 3) (ret := (some .int)) (lv := [(0, .ref oX), (1, .int pe)]) (by decide +kernel) rfl rfl (Nat.le_of_ble_eq_true rfl) ?_
  intro p e s m below meth c A QQ ls hx hb hr hts hml hown hlocks hA hQQ hK hX hP hD hS hl
  have hown : s.vm.findClass RX11 = some m.cls := hown
  have hcf := k_cf hx hb hml hown hts
  have hN52 := hX
  have in_X11 : ∀ w ∈ wsX110, w ∈ wsX11_parts := fun _ h => List.mem_cons_of_mem _ (List.mem_append_left _ (List.mem_append_left _ (List.mem_append_left _ (List.mem_append_left _ (List.mem_append_left _ (List.mem_append_left _ (List.mem_append_left _ (List.mem_append_left _ (List.mem_append_left _ (List.mem_append_left _ (List.mem_append_left _ (List.mem_append_left _ (List.mem_append_left _ (List.mem_append_left _ (List.mem_append_left _ (List.mem_append_right _ (h)))))))))))))))))
  replace g_lq := hid g_lq
  replace g_lp := hid g_lp
  replace g_lv := hid g_lv
  replace g_lB := hid g_lB
  replace g_lM := hid g_lM
  replace g_ke := hid g_ke
  replace g_lm := hid g_lm
  have okU9 : okU (UC fH1 fH2 f41 f42 f43 f51 f52 f53) := okU_C hBr hL4 hL5
  have cz9 := v_clamp (x := lH) (by omega)
  have cL9 := v_clamp (x := lL) (by omega)
  have hf9 : prg (lL.toNatClampNeg : Int) 0 65535 fL := fun j hj => hlt j (by omega)
  refine lv_aload_n hx hb dX11_parts_0 rfl (lv_at hl 0 rfl) ?_
  refine lv_iconst (v := (-1)) hx hb dX11_parts_1 (by decide) ?_
  refine va_put (D := (dC, dI)) (ci := 11) (v := .int (-1)) (ty := .int) (C := RX11) (T := TX11) (N := 12) hx hb hts in_X11 tyX11 tyX11_ok nmX11 hown hK hP hD hS 0 rfl rfl 11 (Nat.le_of_ble_eq_true rfl) (hts (.fieldLink RX11 90 "TextMender" "fault" "I") (List.mem_of_getElem? (i := 1) rfl)) (fun _ h9 => h9) rfl (tyX11_ok 11 (Nat.le_of_ble_eq_true rfl)) rfl rfl (Nat.le_of_ble_eq_true rfl) dX11_parts_2 (kW (wn := [(oX, .inr (11, [.ref nT, .ref nL, .ref nM, .ref oC, .ref oP, .ref oH, .ref oK, .ref oG, .ref oR, .ref oQ, .ref oW, .int (-1)])), (oQ, .inr (6, [.ref oC, .ref oH, .ref oK, .ref oE, .ref nq, .ref np, .ref nv, .ref q1, .ref q2, .ref q3, .ref q4, .int pr])), (q1, .inl (cI, 61, .inl fQ1)), (q2, .inl (cI, 61, .inl fQ2)), (q3, .inl (cI, 61, .inl fQ3)), (q4, .inl (cI, 61, .inl fQ4)), (nq, .inr (5, [.ref aq, .int lq])), (aq, .inl (cI, 480, .inl fq)), (np, .inr (5, [.ref ap, .int lp])), (ap, .inl (cI, 300, .inl fp)), (nv, .inr (5, [.ref av, .int lv])), (av, .inl (cI, 300, .inl fv)), (oE, .inr (8, [.ref oC, .ref oK, .int reE, .int laE, .int suE, .int leE])), (oH, .inr (4, [.ref oP, .ref h1, .ref h2, .int lH])), (h1, .inl (cI, 6, .inl fH1)), (h2, .inl (cI, 6, .inl fH2)), (oP, .inr (7, [.ref oC, .ref nB, .int ft])), (nB, .inr (5, [.ref aB, .int lB])), (aB, .inl (cI, 2400, .inl fB)), (oC, .inr (2, [.ref o4, .ref o5])), (o4, .inr (10, [.ref a41, .ref a42, .ref a43, .int l4])), (a41, .inl (cI, 256, .inl f41)), (a42, .inl (cI, 512, .inl f42)), (a43, .inl (cI, 512, .inl f43)), (o5, .inr (10, [.ref a51, .ref a52, .ref a53, .int l5])), (a51, .inl (cI, 256, .inl f51)), (a52, .inl (cI, 512, .inl f52)), (a53, .inl (cI, 512, .inl f53)), (oK, .inr (3, [.ref k1, .ref k2, .int lK])), (k1, .inl (cI, 1024, .inl fK1)), (k2, .inl (cI, 1024, .inl fK2)), (nL, .inr (5, [.ref aL, .int lL])), (aL, .inl (cI, 300, .inl fL)), (nM, .inr (5, [.ref aM, .int lM])), (aM, .inl (cI, 300, .inl fM)), (oG, .inr (0, [.ref g1, .ref g2, .int gn, .int lG])), (g1, .inl (cI, 6000, .inl fG1)), (g2, .inl (cI, 20, .inl fG2)), (oW, .inr (1, [.ref oC, .ref oK, .ref nw, .ref w1, .ref w2, .ref w3, .ref o7, .ref o8, .ref o9, .ref w4, .ref w5, .ref w6, .ref w7, .int ke, .int tl, .int fsh, .int wi, .int ri, .int fm, .int lm]))]) rfl (fun H locs hPn hDn hSn => ?_))
  clear hP hD hS
  have hP := hPn
  have hD := hDn
  have hS := hSn
  clear hPn hDn hSn
  refine lv_aload_n hx hb dX11_parts_5 rfl (lv_at hl 0 rfl) ?_
  refine va_get (D := (dC, dI)) (ci := 11) (v := .ref nL) (C := RX11) (T := TX11) (N := 12) hx hb hts in_X11 hown hK hP 0 rfl rfl 1 (Nat.le_of_ble_eq_true rfl) (hts (.fieldLink RX11 34 "TextMender" "letters" "LTextMender$Numbers;") (List.mem_of_getElem? (i := 2) rfl)) (fun _ h9 => h9) rfl dX11_parts_6 ?_
  refine kV_i (rest := []) (q0 := 0) (ci := 5) hcf (m_X5_length l dC dI cI cS H.size nL aL lL ) kc_X5_length gX11_parts_X5_length rfl rfl rfl ⟨Nat.le_of_ble_eq_true rfl, Nat.le_of_ble_eq_true rfl⟩ kX_t hK hP hD hS hA (posT mk_146 0) (posF mk_146 0) (kC_of mk_146 rfl rfl) (by decide +kernel) rfl rfl rfl hl rfl (Nat.le_of_ble_eq_true rfl) dX11_parts_9 ⟨Nat.le_of_ble_eq_true rfl, Nat.le_of_ble_eq_true rfl⟩ (fun r_1 H locs hB hJ hSn => ?_)
  refine hB _ (fun hPD9 hf1_0 => ?_)
  clear hB
  obtain ⟨hPn, hDn⟩ := kJi (m := mk_146) hJ rfl hPD9.1 hPD9.2 (wn := [(oX, .inr (11, [.ref nT, .ref nL, .ref nM, .ref oC, .ref oP, .ref oH, .ref oK, .ref oG, .ref oR, .ref oQ, .ref oW, .int (-1)])), (oQ, .inr (6, [.ref oC, .ref oH, .ref oK, .ref oE, .ref nq, .ref np, .ref nv, .ref q1, .ref q2, .ref q3, .ref q4, .int pr])), (q1, .inl (cI, 61, .inl fQ1)), (q2, .inl (cI, 61, .inl fQ2)), (q3, .inl (cI, 61, .inl fQ3)), (q4, .inl (cI, 61, .inl fQ4)), (nq, .inr (5, [.ref aq, .int lq])), (aq, .inl (cI, 480, .inl fq)), (np, .inr (5, [.ref ap, .int lp])), (ap, .inl (cI, 300, .inl fp)), (nv, .inr (5, [.ref av, .int lv])), (av, .inl (cI, 300, .inl fv)), (oE, .inr (8, [.ref oC, .ref oK, .int reE, .int laE, .int suE, .int leE])), (oH, .inr (4, [.ref oP, .ref h1, .ref h2, .int lH])), (h1, .inl (cI, 6, .inl fH1)), (h2, .inl (cI, 6, .inl fH2)), (oP, .inr (7, [.ref oC, .ref nB, .int ft])), (nB, .inr (5, [.ref aB, .int lB])), (aB, .inl (cI, 2400, .inl fB)), (oC, .inr (2, [.ref o4, .ref o5])), (o4, .inr (10, [.ref a41, .ref a42, .ref a43, .int l4])), (a41, .inl (cI, 256, .inl f41)), (a42, .inl (cI, 512, .inl f42)), (a43, .inl (cI, 512, .inl f43)), (o5, .inr (10, [.ref a51, .ref a52, .ref a53, .int l5])), (a51, .inl (cI, 256, .inl f51)), (a52, .inl (cI, 512, .inl f52)), (a53, .inl (cI, 512, .inl f53)), (oK, .inr (3, [.ref k1, .ref k2, .int lK])), (k1, .inl (cI, 1024, .inl fK1)), (k2, .inl (cI, 1024, .inl fK2)), (nL, .inr (5, [.ref aL, .int lL])), (aL, .inl (cI, 300, .inl fL)), (nM, .inr (5, [.ref aM, .int lM])), (aM, .inl (cI, 300, .inl fM)), (oG, .inr (0, [.ref g1, .ref g2, .int gn, .int lG])), (g1, .inl (cI, 6000, .inl fG1)), (g2, .inl (cI, 20, .inl fG2)), (oW, .inr (1, [.ref oC, .ref oK, .ref nw, .ref w1, .ref w2, .ref w3, .ref o7, .ref o8, .ref o9, .ref w4, .ref w5, .ref w6, .ref w7, .int ke, .int tl, .int fsh, .int wi, .int ri, .int fm, .int lm]))]) rfl
  clear hP hD hS hJ hPD9
  have hP := hPn
  have hD := hDn
  have hS := hSn
  clear hPn hDn hSn
  rw [hf1_0]
  refine lv_if_le (tgt := 31) hx hb dX11_parts_12 (by decide) (fun c_2 => ?_) (fun c_2 => ?_)
  · have tc_2 : lL.toInt ≤ 0 := v_le c_2
    refine lv_iconst (v := 0) hx hb dX11_parts_31 (by decide) ?_
    refine lv_istore_n (lv' := [(2, .int 0), (0, .ref oX), (1, .int pe)]) hx hb dX11_parts_32 rfl hl (by decide) rfl (fun ls hl => ?_)
    refine lv_iload_n hx hb dX11_parts_33 rfl (lv_at hl 0 rfl) ?_
    refine lv_if_eq (tgt := 48) hx hb dX11_parts_34 (by decide) (fun c_3 => ?_) (fun c_3 => absurd c_3 (by decide))
    refine lv_iconst (v := (-1)) hx hb dX11_parts_48 (by decide) ?_
    exact kl_i (v := (-1)) hQQ hx hb hr hlocks hS dX11_parts_49 (fun PZ9 kZ9 => kZ9 (-1) lq fq reE laE suE leE fQ1 fQ2 fQ3 fQ4 pr lp fp lv fv ft lB fB lM fM lL fL fsh gn lG fG1 fG2 (⟨hP, hD⟩) (g_lq) (g_lp) (g_lv) (g_lB) (g_lM) (g_lL) (g_fsh) (g_gn) (g_lG) (g_fG2) (OC_n rfl (fun c fm v h => absurd h.1 (by omega))))
  · have tc_2 : 0 < lL.toInt := v_nle c_2
    refine lv_aload_n hx hb dX11_parts_15 rfl (lv_at hl 0 rfl) ?_
    refine va_get (D := (dC, dI)) (ci := 11) (v := .ref nL) (C := RX11) (T := TX11) (N := 12) hx hb hts in_X11 hown hK hP 0 rfl rfl 1 (Nat.le_of_ble_eq_true rfl) (hts (.fieldLink RX11 34 "TextMender" "letters" "LTextMender$Numbers;") (List.mem_of_getElem? (i := 2) rfl)) (fun _ h9 => h9) rfl dX11_parts_16 ?_
    refine kV_i (rest := []) (q0 := 0) (ci := 5) hcf (m_X5_length l dC dI cI cS H.size nL aL lL ) kc_X5_length gX11_parts_X5_length rfl rfl rfl ⟨Nat.le_of_ble_eq_true rfl, Nat.le_of_ble_eq_true rfl⟩ kX_t hK hP hD hS hA (posT mk_146 0) (posF mk_146 0) (kC_of mk_146 rfl rfl) (by decide +kernel) rfl rfl rfl hl rfl (Nat.le_of_ble_eq_true rfl) dX11_parts_19 ⟨Nat.le_of_ble_eq_true rfl, Nat.le_of_ble_eq_true rfl⟩ (fun r_4 H locs hB hJ hSn => ?_)
    refine hB _ (fun hPD9 hf4_0 => ?_)
    clear hB
    obtain ⟨hPn, hDn⟩ := kJi (m := mk_146) hJ rfl hPD9.1 hPD9.2 (wn := [(oX, .inr (11, [.ref nT, .ref nL, .ref nM, .ref oC, .ref oP, .ref oH, .ref oK, .ref oG, .ref oR, .ref oQ, .ref oW, .int (-1)])), (oQ, .inr (6, [.ref oC, .ref oH, .ref oK, .ref oE, .ref nq, .ref np, .ref nv, .ref q1, .ref q2, .ref q3, .ref q4, .int pr])), (q1, .inl (cI, 61, .inl fQ1)), (q2, .inl (cI, 61, .inl fQ2)), (q3, .inl (cI, 61, .inl fQ3)), (q4, .inl (cI, 61, .inl fQ4)), (nq, .inr (5, [.ref aq, .int lq])), (aq, .inl (cI, 480, .inl fq)), (np, .inr (5, [.ref ap, .int lp])), (ap, .inl (cI, 300, .inl fp)), (nv, .inr (5, [.ref av, .int lv])), (av, .inl (cI, 300, .inl fv)), (oE, .inr (8, [.ref oC, .ref oK, .int reE, .int laE, .int suE, .int leE])), (oH, .inr (4, [.ref oP, .ref h1, .ref h2, .int lH])), (h1, .inl (cI, 6, .inl fH1)), (h2, .inl (cI, 6, .inl fH2)), (oP, .inr (7, [.ref oC, .ref nB, .int ft])), (nB, .inr (5, [.ref aB, .int lB])), (aB, .inl (cI, 2400, .inl fB)), (oC, .inr (2, [.ref o4, .ref o5])), (o4, .inr (10, [.ref a41, .ref a42, .ref a43, .int l4])), (a41, .inl (cI, 256, .inl f41)), (a42, .inl (cI, 512, .inl f42)), (a43, .inl (cI, 512, .inl f43)), (o5, .inr (10, [.ref a51, .ref a52, .ref a53, .int l5])), (a51, .inl (cI, 256, .inl f51)), (a52, .inl (cI, 512, .inl f52)), (a53, .inl (cI, 512, .inl f53)), (oK, .inr (3, [.ref k1, .ref k2, .int lK])), (k1, .inl (cI, 1024, .inl fK1)), (k2, .inl (cI, 1024, .inl fK2)), (nL, .inr (5, [.ref aL, .int lL])), (aL, .inl (cI, 300, .inl fL)), (nM, .inr (5, [.ref aM, .int lM])), (aM, .inl (cI, 300, .inl fM)), (oG, .inr (0, [.ref g1, .ref g2, .int gn, .int lG])), (g1, .inl (cI, 6000, .inl fG1)), (g2, .inl (cI, 20, .inl fG2)), (oW, .inr (1, [.ref oC, .ref oK, .ref nw, .ref w1, .ref w2, .ref w3, .ref o7, .ref o8, .ref o9, .ref w4, .ref w5, .ref w6, .ref w7, .int ke, .int tl, .int fsh, .int wi, .int ri, .int fm, .int lm]))]) rfl
    clear hP hD hS hJ hPD9
    have hP := hPn
    have hD := hDn
    have hS := hSn
    clear hPn hDn hSn
    rw [hf4_0]
    refine lv_bipush (v := 60) hx hb dX11_parts_22 (by decide) ?_
    refine lv_icmp_gt (tgt := 31) hx hb dX11_parts_24 (by decide) (fun c_5 => ?_) (fun c_5 => ?_)
    · have tc_5 : 60 < lL.toInt := v_lt c_5
      refine lv_iconst (v := 0) hx hb dX11_parts_31 (by decide) ?_
      refine lv_istore_n (lv' := [(2, .int 0), (0, .ref oX), (1, .int pe)]) hx hb dX11_parts_32 rfl hl (by decide) rfl (fun ls hl => ?_)
      refine lv_iload_n hx hb dX11_parts_33 rfl (lv_at hl 0 rfl) ?_
      refine lv_if_eq (tgt := 48) hx hb dX11_parts_34 (by decide) (fun c_6 => ?_) (fun c_6 => absurd c_6 (by decide))
      refine lv_iconst (v := (-1)) hx hb dX11_parts_48 (by decide) ?_
      exact kl_i (v := (-1)) hQQ hx hb hr hlocks hS dX11_parts_49 (fun PZ9 kZ9 => kZ9 (-1) lq fq reE laE suE leE fQ1 fQ2 fQ3 fQ4 pr lp fp lv fv ft lB fB lM fM lL fL fsh gn lG fG1 fG2 (⟨hP, hD⟩) (g_lq) (g_lp) (g_lv) (g_lB) (g_lM) (g_lL) (g_fsh) (g_gn) (g_lG) (g_fG2) (OC_n rfl (fun c fm v h => absurd h.1 (by omega))))
    · have tc_5 : lL.toInt ≤ 60 := v_nlt c_5
      refine lv_iconst (v := 1) hx hb dX11_parts_27 (by decide) ?_
      refine lv_goto (tgt := 32) hx hb dX11_parts_28 (by decide) ?_
      refine lv_istore_n (lv' := [(2, .int 1), (0, .ref oX), (1, .int pe)]) hx hb dX11_parts_32 rfl hl (by decide) rfl (fun ls hl => ?_)
      refine lv_iload_n hx hb dX11_parts_33 rfl (lv_at hl 0 rfl) ?_
      refine lv_if_eq (tgt := 48) hx hb dX11_parts_34 (by decide) (fun c_7 => absurd c_7 (by decide)) (fun c_7 => ?_)
      refine lv_iload_n hx hb dX11_parts_37 rfl (lv_at hl 2 rfl) ?_
      refine lv_if_lt (tgt := 48) hx hb dX11_parts_38 (by decide) (fun c_8 => ?_) (fun c_8 => ?_)
      · have tc_8 : pe.toInt < 0 := v_lt c_8
        refine lv_iconst (v := (-1)) hx hb dX11_parts_48 (by decide) ?_
        exact kl_i (v := (-1)) hQQ hx hb hr hlocks hS dX11_parts_49 (fun PZ9 kZ9 => kZ9 (-1) lq fq reE laE suE leE fQ1 fQ2 fQ3 fQ4 pr lp fp lv fv ft lB fB lM fM lL fL fsh gn lG fG1 fG2 (⟨hP, hD⟩) (g_lq) (g_lp) (g_lv) (g_lB) (g_lM) (g_lL) (g_fsh) (g_gn) (g_lG) (g_fG2) (OC_n rfl (fun c fm v h => absurd h.1 (by omega))))
      · have tc_8 : 0 ≤ pe.toInt := v_nlt c_8
        refine lv_iload_n hx hb dX11_parts_41 rfl (lv_at hl 2 rfl) ?_
        refine lv_sipush (v := 1000) hx hb dX11_parts_42 (by decide) ?_
        refine lv_icmp_le (tgt := 50) hx hb dX11_parts_45 (by decide) (fun c_9 => ?_) (fun c_9 => ?_)
        · have tc_9 : pe.toInt ≤ 1000 := v_le c_9
          refine lv_aload_n hx hb dX11_parts_50 rfl (lv_at hl 1 rfl) ?_
          refine va_get (D := (dC, dI)) (ci := 11) (v := .ref oQ) (C := RX11) (T := TX11) (N := 12) hx hb hts in_X11 hown hK hP 0 rfl rfl 9 (Nat.le_of_ble_eq_true rfl) (hts (.fieldLink RX11 77 "TextMender" "parting" "LTextMender$Parting;") (List.mem_of_getElem? (i := 3) rfl)) (fun _ h9 => h9) rfl dX11_parts_51 ?_
          refine lv_aload_n hx hb dX11_parts_54 rfl (lv_at hl 1 rfl) ?_
          refine va_get (D := (dC, dI)) (ci := 11) (v := .ref nL) (C := RX11) (T := TX11) (N := 12) hx hb hts in_X11 hown hK hP 0 rfl rfl 1 (Nat.le_of_ble_eq_true rfl) (hts (.fieldLink RX11 34 "TextMender" "letters" "LTextMender$Numbers;") (List.mem_of_getElem? (i := 2) rfl)) (fun _ h9 => h9) rfl dX11_parts_55 ?_
          refine lv_iload_n hx hb dX11_parts_58 rfl (lv_at hl 2 rfl) ?_
          refine kV_v (rest := []) (q0 := 0) (ci := 6) hcf (f_X6_find l dC dI cI cS H.size oQ nL oC oH oK oE nq np nv q1 q2 q3 q4 aq oP h1 h2 o4 o5 a41 a42 a43 a51 a52 a53 k1 k2 aL pr fQ1 fQ2 fQ3 fQ4 lq fq reE laE suE leE lH fH1 fH2 l4 f41 f42 f43 l5 f51 f52 f53 lK fK1 fK2 lL fL pe (g_lq) (g_lH) (g_lK) (g_lL) (by omega) (by omega) (hlt) (hT4) (ho4) (hT5) (ho5) (hL4) (hL5) (hBr) (hT) (ho) (hV)) kc_X6_find gX11_parts_X6_find rfl rfl rfl ⟨Nat.le_of_ble_eq_true rfl, Nat.le_of_ble_eq_true rfl⟩ (kX_1 hN52) hK hP hD hS hA (posT mk_147 0) (posF mk_147 0) (kC_of mk_147 rfl rfl) (by decide +kernel) rfl rfl rfl hl rfl (Nat.le_of_ble_eq_true rfl) dX11_parts_59 ⟨Nat.le_of_ble_eq_true rfl, Nat.le_of_ble_eq_true rfl⟩ (fun H locs hB hJ hSn => ?_)
          refine hB _ (fun lq_10 fq_10 reE_10 laE_10 suE_10 leE_10 fQ1_10 fQ2_10 fQ3_10 fQ4_10 pr_10 hPD9 hf10_0 hf10_1 => ?_)
          clear hB
          obtain ⟨hPn, hDn⟩ := kJi (m := mk_147) hJ rfl hPD9.1 hPD9.2 (wn := [(oX, .inr (11, [.ref nT, .ref nL, .ref nM, .ref oC, .ref oP, .ref oH, .ref oK, .ref oG, .ref oR, .ref oQ, .ref oW, .int (-1)])), (oQ, .inr (6, [.ref oC, .ref oH, .ref oK, .ref oE, .ref nq, .ref np, .ref nv, .ref q1, .ref q2, .ref q3, .ref q4, .int pr_10])), (q1, .inl (cI, 61, .inl fQ1_10)), (q2, .inl (cI, 61, .inl fQ2_10)), (q3, .inl (cI, 61, .inl fQ3_10)), (q4, .inl (cI, 61, .inl fQ4_10)), (nq, .inr (5, [.ref aq, .int lq_10])), (aq, .inl (cI, 480, .inl fq_10)), (np, .inr (5, [.ref ap, .int lp])), (ap, .inl (cI, 300, .inl fp)), (nv, .inr (5, [.ref av, .int lv])), (av, .inl (cI, 300, .inl fv)), (oE, .inr (8, [.ref oC, .ref oK, .int reE_10, .int laE_10, .int suE_10, .int leE_10])), (oH, .inr (4, [.ref oP, .ref h1, .ref h2, .int lH])), (h1, .inl (cI, 6, .inl fH1)), (h2, .inl (cI, 6, .inl fH2)), (oP, .inr (7, [.ref oC, .ref nB, .int ft])), (nB, .inr (5, [.ref aB, .int lB])), (aB, .inl (cI, 2400, .inl fB)), (oC, .inr (2, [.ref o4, .ref o5])), (o4, .inr (10, [.ref a41, .ref a42, .ref a43, .int l4])), (a41, .inl (cI, 256, .inl f41)), (a42, .inl (cI, 512, .inl f42)), (a43, .inl (cI, 512, .inl f43)), (o5, .inr (10, [.ref a51, .ref a52, .ref a53, .int l5])), (a51, .inl (cI, 256, .inl f51)), (a52, .inl (cI, 512, .inl f52)), (a53, .inl (cI, 512, .inl f53)), (oK, .inr (3, [.ref k1, .ref k2, .int lK])), (k1, .inl (cI, 1024, .inl fK1)), (k2, .inl (cI, 1024, .inl fK2)), (nL, .inr (5, [.ref aL, .int lL])), (aL, .inl (cI, 300, .inl fL)), (nM, .inr (5, [.ref aM, .int lM])), (aM, .inl (cI, 300, .inl fM)), (oG, .inr (0, [.ref g1, .ref g2, .int gn, .int lG])), (g1, .inl (cI, 6000, .inl fG1)), (g2, .inl (cI, 20, .inl fG2)), (oW, .inr (1, [.ref oC, .ref oK, .ref nw, .ref w1, .ref w2, .ref w3, .ref o7, .ref o8, .ref o9, .ref w4, .ref w5, .ref w6, .ref w7, .int ke, .int tl, .int fsh, .int wi, .int ri, .int fm, .int lm]))]) rfl
          clear hP hD hS hJ hPD9
          have hP := hPn
          have hD := hDn
          have hS := hSn
          clear hPn hDn hSn
          refine lv_aload_n hx hb dX11_parts_62 rfl (lv_at hl 1 rfl) ?_
          refine va_get (D := (dC, dI)) (ci := 11) (v := .ref oQ) (C := RX11) (T := TX11) (N := 12) hx hb hts in_X11 hown hK hP 0 rfl rfl 9 (Nat.le_of_ble_eq_true rfl) (hts (.fieldLink RX11 77 "TextMender" "parting" "LTextMender$Parting;") (List.mem_of_getElem? (i := 3) rfl)) (fun _ h9 => h9) rfl dX11_parts_63 ?_
          refine lv_aload_n hx hb dX11_parts_66 rfl (lv_at hl 1 rfl) ?_
          refine va_get (D := (dC, dI)) (ci := 11) (v := .ref nL) (C := RX11) (T := TX11) (N := 12) hx hb hts in_X11 hown hK hP 0 rfl rfl 1 (Nat.le_of_ble_eq_true rfl) (hts (.fieldLink RX11 34 "TextMender" "letters" "LTextMender$Numbers;") (List.mem_of_getElem? (i := 2) rfl)) (fun _ h9 => h9) rfl dX11_parts_67 ?_
          refine lv_aload_n hx hb dX11_parts_70 rfl (lv_at hl 1 rfl) ?_
          refine va_get (D := (dC, dI)) (ci := 11) (v := .ref nM) (C := RX11) (T := TX11) (N := 12) hx hb hts in_X11 hown hK hP 0 rfl rfl 2 (Nat.le_of_ble_eq_true rfl) (hts (.fieldLink RX11 37 "TextMender" "made" "LTextMender$Numbers;") (List.mem_of_getElem? (i := 4) rfl)) (fun _ h9 => h9) rfl dX11_parts_71 ?_
          refine kV_i (rest := []) (q0 := 0) (ci := 6) hcf (f_X6_build l dC dI cI cS H.size oQ nL nM oC oH oK oE nq np nv q1 q2 q3 q4 ap av oP h1 h2 nB aB o4 o5 a41 a42 a43 a51 a52 a53 aL aM pr_10 fQ3_10 fQ4_10 lp fp lv fv lH fH1 fH2 ft lB fB l4 f41 f42 f43 l5 f51 f52 f53 lL fL lM fM (g_lp) (g_lv) (g_lH) (g_lB) (g_lL) (g_lM) (by omega) (hlt) (PBK_sp hf10_1) (hT4) (ho4) (hT5) (ho5) (hL4) (hL5) (hBr)) kc_X6_build gX11_parts_X6_build rfl rfl rfl ⟨Nat.le_of_ble_eq_true rfl, Nat.le_of_ble_eq_true rfl⟩ (kX_1 hN52) hK hP hD hS hA (posT mk_148 0) (posF mk_148 0) (kC_of mk_148 rfl rfl) (by decide +kernel) rfl rfl rfl hl rfl (Nat.le_of_ble_eq_true rfl) dX11_parts_74 ⟨Nat.le_of_ble_eq_true rfl, Nat.le_of_ble_eq_true rfl⟩ (fun r_11 H locs hB hJ hSn => ?_)
          refine hB _ (fun lp_11 fp_11 lv_11 fv_11 ft_11 lB_11 fB_11 ld_11 fd_11 hPD9 hf11_0 hf11_1 hf11_2 hf11_3 hf11_4 hf11_5 => ?_)
          clear hB
          obtain ⟨hPn, hDn⟩ := kJi (m := mk_148) hJ rfl hPD9.1 hPD9.2 (wn := [(oX, .inr (11, [.ref nT, .ref nL, .ref nM, .ref oC, .ref oP, .ref oH, .ref oK, .ref oG, .ref oR, .ref oQ, .ref oW, .int (-1)])), (oQ, .inr (6, [.ref oC, .ref oH, .ref oK, .ref oE, .ref nq, .ref np, .ref nv, .ref q1, .ref q2, .ref q3, .ref q4, .int pr_10])), (q1, .inl (cI, 61, .inl fQ1_10)), (q2, .inl (cI, 61, .inl fQ2_10)), (q3, .inl (cI, 61, .inl fQ3_10)), (q4, .inl (cI, 61, .inl fQ4_10)), (nq, .inr (5, [.ref aq, .int lq_10])), (aq, .inl (cI, 480, .inl fq_10)), (np, .inr (5, [.ref ap, .int lp_11])), (ap, .inl (cI, 300, .inl fp_11)), (nv, .inr (5, [.ref av, .int lv_11])), (av, .inl (cI, 300, .inl fv_11)), (oE, .inr (8, [.ref oC, .ref oK, .int reE_10, .int laE_10, .int suE_10, .int leE_10])), (oH, .inr (4, [.ref oP, .ref h1, .ref h2, .int lH])), (h1, .inl (cI, 6, .inl fH1)), (h2, .inl (cI, 6, .inl fH2)), (oP, .inr (7, [.ref oC, .ref nB, .int ft_11])), (nB, .inr (5, [.ref aB, .int lB_11])), (aB, .inl (cI, 2400, .inl fB_11)), (oC, .inr (2, [.ref o4, .ref o5])), (o4, .inr (10, [.ref a41, .ref a42, .ref a43, .int l4])), (a41, .inl (cI, 256, .inl f41)), (a42, .inl (cI, 512, .inl f42)), (a43, .inl (cI, 512, .inl f43)), (o5, .inr (10, [.ref a51, .ref a52, .ref a53, .int l5])), (a51, .inl (cI, 256, .inl f51)), (a52, .inl (cI, 512, .inl f52)), (a53, .inl (cI, 512, .inl f53)), (oK, .inr (3, [.ref k1, .ref k2, .int lK])), (k1, .inl (cI, 1024, .inl fK1)), (k2, .inl (cI, 1024, .inl fK2)), (nL, .inr (5, [.ref aL, .int lL])), (aL, .inl (cI, 300, .inl fL)), (nM, .inr (5, [.ref aM, .int ld_11])), (aM, .inl (cI, 300, .inl fd_11)), (oG, .inr (0, [.ref g1, .ref g2, .int gn, .int lG])), (g1, .inl (cI, 6000, .inl fG1)), (g2, .inl (cI, 20, .inl fG2)), (oW, .inr (1, [.ref oC, .ref oK, .ref nw, .ref w1, .ref w2, .ref w3, .ref o7, .ref o8, .ref o9, .ref w4, .ref w5, .ref w6, .ref w7, .int ke, .int tl, .int fsh, .int wi, .int ri, .int fm, .int lm]))]) rfl
          clear hP hD hS hJ hPD9
          have hP := hPn
          have hD := hDn
          have hS := hSn
          clear hPn hDn hSn
          refine lv_if_ne (tgt := 82) hx hb dX11_parts_77 (by decide) (fun c_12 => ?_) (fun c_12 => ?_)
          · have tc_12 : ¬ r_11.toInt = 0 := v_ne c_12
            refine lv_aload_n hx hb dX11_parts_82 rfl (lv_at hl 1 rfl) ?_
            refine lv_aload_n hx hb dX11_parts_83 rfl (lv_at hl 1 rfl) ?_
            refine va_get (D := (dC, dI)) (ci := 11) (v := .ref nM) (C := RX11) (T := TX11) (N := 12) hx hb hts in_X11 hown hK hP 0 rfl rfl 2 (Nat.le_of_ble_eq_true rfl) (hts (.fieldLink RX11 37 "TextMender" "made" "LTextMender$Numbers;") (List.mem_of_getElem? (i := 4) rfl)) (fun _ h9 => h9) rfl dX11_parts_84 ?_
            refine kV_i (rest := []) (q0 := 0) (ci := 11) hcf (f_X11_bec l dC dI cI cS H.size oX nM nT nL oC oP oH oK oG oR oQ oW aL aM g1 g2 nw w1 w2 w3 o7 o8 o9 w4 w5 w6 w7 (-1) lL fL ld_11 fd_11 gn lG fG1 fG2 ke tl fsh wi ri fm lm (g_lL) (hf11_3) (g_gn) (g_lG) (g_fG2) (g_ke) (g_fsh) (g_fm) (g_lm)) kc_X11_become gX11_parts_X11_become rfl rfl rfl ⟨Nat.le_of_ble_eq_true rfl, Nat.le_of_ble_eq_true rfl⟩ kX_t hK hP hD hS hA (posT mk_149 0) (posF mk_149 0) (kC_of mk_149 rfl rfl) (by decide +kernel) rfl rfl rfl hl rfl (Nat.le_of_ble_eq_true rfl) dX11_parts_87 ⟨Nat.le_of_ble_eq_true rfl, Nat.le_of_ble_eq_true rfl⟩ (fun r_13 H locs hB hJ hSn => ?_)
            refine hB _ (fun lL_13 fL_13 fsh_13 gn_13 lG_13 fG1_13 fG2_13 hPD9 hf13_0 hf13_1 hf13_2 hf13_3 hf13_4 hf13_5 hf13_6 hf13_7 => ?_)
            clear hB
            obtain ⟨hPn, hDn⟩ := kJi (m := mk_149) hJ rfl hPD9.1 hPD9.2 (wn := [(oX, .inr (11, [.ref nT, .ref nL, .ref nM, .ref oC, .ref oP, .ref oH, .ref oK, .ref oG, .ref oR, .ref oQ, .ref oW, .int (-1)])), (oQ, .inr (6, [.ref oC, .ref oH, .ref oK, .ref oE, .ref nq, .ref np, .ref nv, .ref q1, .ref q2, .ref q3, .ref q4, .int pr_10])), (q1, .inl (cI, 61, .inl fQ1_10)), (q2, .inl (cI, 61, .inl fQ2_10)), (q3, .inl (cI, 61, .inl fQ3_10)), (q4, .inl (cI, 61, .inl fQ4_10)), (nq, .inr (5, [.ref aq, .int lq_10])), (aq, .inl (cI, 480, .inl fq_10)), (np, .inr (5, [.ref ap, .int lp_11])), (ap, .inl (cI, 300, .inl fp_11)), (nv, .inr (5, [.ref av, .int lv_11])), (av, .inl (cI, 300, .inl fv_11)), (oE, .inr (8, [.ref oC, .ref oK, .int reE_10, .int laE_10, .int suE_10, .int leE_10])), (oH, .inr (4, [.ref oP, .ref h1, .ref h2, .int lH])), (h1, .inl (cI, 6, .inl fH1)), (h2, .inl (cI, 6, .inl fH2)), (oP, .inr (7, [.ref oC, .ref nB, .int ft_11])), (nB, .inr (5, [.ref aB, .int lB_11])), (aB, .inl (cI, 2400, .inl fB_11)), (oC, .inr (2, [.ref o4, .ref o5])), (o4, .inr (10, [.ref a41, .ref a42, .ref a43, .int l4])), (a41, .inl (cI, 256, .inl f41)), (a42, .inl (cI, 512, .inl f42)), (a43, .inl (cI, 512, .inl f43)), (o5, .inr (10, [.ref a51, .ref a52, .ref a53, .int l5])), (a51, .inl (cI, 256, .inl f51)), (a52, .inl (cI, 512, .inl f52)), (a53, .inl (cI, 512, .inl f53)), (oK, .inr (3, [.ref k1, .ref k2, .int lK])), (k1, .inl (cI, 1024, .inl fK1)), (k2, .inl (cI, 1024, .inl fK2)), (nL, .inr (5, [.ref aL, .int lL_13])), (aL, .inl (cI, 300, .inl fL_13)), (nM, .inr (5, [.ref aM, .int ld_11])), (aM, .inl (cI, 300, .inl fd_11)), (oG, .inr (0, [.ref g1, .ref g2, .int gn_13, .int lG_13])), (g1, .inl (cI, 6000, .inl fG1_13)), (g2, .inl (cI, 20, .inl fG2_13)), (oW, .inr (1, [.ref oC, .ref oK, .ref nw, .ref w1, .ref w2, .ref w3, .ref o7, .ref o8, .ref o9, .ref w4, .ref w5, .ref w6, .ref w7, .int ke, .int tl, .int fsh_13, .int wi, .int ri, .int fm, .int lm]))]) rfl
            clear hP hD hS hJ hPD9
            have hP := hPn
            have hD := hDn
            have hS := hSn
            clear hPn hDn hSn
            refine lv_pop hx hb dX11_parts_90 rfl ?_
            refine lv_aload_n hx hb dX11_parts_91 rfl (lv_at hl 1 rfl) ?_
            refine va_get (D := (dC, dI)) (ci := 11) (v := .ref oQ) (C := RX11) (T := TX11) (N := 12) hx hb hts in_X11 hown hK hP 0 rfl rfl 9 (Nat.le_of_ble_eq_true rfl) (hts (.fieldLink RX11 77 "TextMender" "parting" "LTextMender$Parting;") (List.mem_of_getElem? (i := 3) rfl)) (fun _ h9 => h9) rfl dX11_parts_92 ?_
            refine kV_i (rest := []) (q0 := 0) (ci := 6) hcf (f_X6_spans l dC dI cI cS H.size oQ oC oH oK oE nq np nv q1 q2 q3 q4 pr_10 fQ2_10 ) kc_X6_spans gX11_parts_X6_spans rfl rfl rfl ⟨Nat.le_of_ble_eq_true rfl, Nat.le_of_ble_eq_true rfl⟩ kX_t hK hP hD hS hA (posT mk_150 0) (posF mk_150 0) (kC_of mk_150 rfl rfl) (by decide +kernel) rfl rfl rfl hl rfl (Nat.le_of_ble_eq_true rfl) dX11_parts_95 ⟨Nat.le_of_ble_eq_true rfl, Nat.le_of_ble_eq_true rfl⟩ (fun r_14 H locs hB hJ hSn => ?_)
            refine hB _ (fun hPD9 hf14_0 => ?_)
            clear hB
            obtain ⟨hPn, hDn⟩ := kJi (m := mk_150) hJ rfl hPD9.1 hPD9.2 (wn := [(oX, .inr (11, [.ref nT, .ref nL, .ref nM, .ref oC, .ref oP, .ref oH, .ref oK, .ref oG, .ref oR, .ref oQ, .ref oW, .int (-1)])), (oQ, .inr (6, [.ref oC, .ref oH, .ref oK, .ref oE, .ref nq, .ref np, .ref nv, .ref q1, .ref q2, .ref q3, .ref q4, .int pr_10])), (q1, .inl (cI, 61, .inl fQ1_10)), (q2, .inl (cI, 61, .inl fQ2_10)), (q3, .inl (cI, 61, .inl fQ3_10)), (q4, .inl (cI, 61, .inl fQ4_10)), (nq, .inr (5, [.ref aq, .int lq_10])), (aq, .inl (cI, 480, .inl fq_10)), (np, .inr (5, [.ref ap, .int lp_11])), (ap, .inl (cI, 300, .inl fp_11)), (nv, .inr (5, [.ref av, .int lv_11])), (av, .inl (cI, 300, .inl fv_11)), (oE, .inr (8, [.ref oC, .ref oK, .int reE_10, .int laE_10, .int suE_10, .int leE_10])), (oH, .inr (4, [.ref oP, .ref h1, .ref h2, .int lH])), (h1, .inl (cI, 6, .inl fH1)), (h2, .inl (cI, 6, .inl fH2)), (oP, .inr (7, [.ref oC, .ref nB, .int ft_11])), (nB, .inr (5, [.ref aB, .int lB_11])), (aB, .inl (cI, 2400, .inl fB_11)), (oC, .inr (2, [.ref o4, .ref o5])), (o4, .inr (10, [.ref a41, .ref a42, .ref a43, .int l4])), (a41, .inl (cI, 256, .inl f41)), (a42, .inl (cI, 512, .inl f42)), (a43, .inl (cI, 512, .inl f43)), (o5, .inr (10, [.ref a51, .ref a52, .ref a53, .int l5])), (a51, .inl (cI, 256, .inl f51)), (a52, .inl (cI, 512, .inl f52)), (a53, .inl (cI, 512, .inl f53)), (oK, .inr (3, [.ref k1, .ref k2, .int lK])), (k1, .inl (cI, 1024, .inl fK1)), (k2, .inl (cI, 1024, .inl fK2)), (nL, .inr (5, [.ref aL, .int lL_13])), (aL, .inl (cI, 300, .inl fL_13)), (nM, .inr (5, [.ref aM, .int ld_11])), (aM, .inl (cI, 300, .inl fd_11)), (oG, .inr (0, [.ref g1, .ref g2, .int gn_13, .int lG_13])), (g1, .inl (cI, 6000, .inl fG1_13)), (g2, .inl (cI, 20, .inl fG2_13)), (oW, .inr (1, [.ref oC, .ref oK, .ref nw, .ref w1, .ref w2, .ref w3, .ref o7, .ref o8, .ref o9, .ref w4, .ref w5, .ref w6, .ref w7, .int ke, .int tl, .int fsh_13, .int wi, .int ri, .int fm, .int lm]))]) rfl
            clear hP hD hS hJ hPD9
            have hP := hPn
            have hD := hDn
            have hS := hSn
            clear hPn hDn hSn
            exact kl_i (v := r_14) hQQ hx hb hr hlocks hS dX11_parts_98 (fun PZ9 kZ9 => kZ9 (-1) lq_10 fq_10 reE_10 laE_10 suE_10 leE_10 fQ1_10 fQ2_10 fQ3_10 fQ4_10 pr_10 lp_11 fp_11 lv_11 fv_11 ft_11 lB_11 fB_11 ld_11 fd_11 lL_13 fL_13 fsh_13 gn_13 lG_13 fG1_13 fG2_13 (⟨hP, hD⟩) (hf10_0) (hf11_0) (hf11_1) (hf11_2) (hf11_3) (hf13_0) (hf13_1) (hf13_2) (hf13_3) (hf13_4) (OC_y (lay_pt hf10_1 hf11_5 (by omega) (by omega) (by omega) (v_eq hf14_0)) hf13_6 hf13_7))
          · have tc_12 : r_11.toInt = 0 := v_eq c_12
            refine lv_iconst (v := (-1)) hx hb dX11_parts_80 (by decide) ?_
            exact kl_i (v := (-1)) hQQ hx hb hr hlocks hS dX11_parts_81 (fun PZ9 kZ9 => kZ9 (-1) lq_10 fq_10 reE_10 laE_10 suE_10 leE_10 fQ1_10 fQ2_10 fQ3_10 fQ4_10 pr_10 lp_11 fp_11 lv_11 fv_11 ft_11 lB_11 fB_11 ld_11 fd_11 lL fL fsh gn lG fG1 fG2 (⟨hP, hD⟩) (hf10_0) (hf11_0) (hf11_1) (hf11_2) (hf11_3) (g_lL) (g_fsh) (g_gn) (g_lG) (g_fG2) (OC_n rfl (lay_pn okU9 hf9 hf10_1 hf11_5 (by omega))))
        · have tc_9 : 1000 < pe.toInt := v_nle c_9
          refine lv_iconst (v := (-1)) hx hb dX11_parts_48 (by decide) ?_
          exact kl_i (v := (-1)) hQQ hx hb hr hlocks hS dX11_parts_49 (fun PZ9 kZ9 => kZ9 (-1) lq fq reE laE suE leE fQ1 fQ2 fQ3 fQ4 pr lp fp lv fv ft lB fB lM fM lL fL fsh gn lG fG1 fG2 (⟨hP, hD⟩) (g_lq) (g_lp) (g_lv) (g_lB) (g_lM) (g_lL) (g_fsh) (g_gn) (g_lG) (g_fG2) (OC_n rfl (fun c fm v h => absurd h.1 (by omega))))

end

/-! 5d.a.rows -/
section
set_option maxRecDepth 100000 in
theorem dA306_cX12_takeSpan : kDec cX12_takeSpan [(0, .aload_n 0, 1), (1, .iload_n 2, 1), (2, .iload_n 1, 1), (3, .isub, 1), (4, .putfield 135, 3), (7, .iload_n 1, 1), (8, .istore 4, 2), (10, .iload 4, 2), (12, .iload_n 2, 1), (13, .if_icmp .ge 25, 3), (38, .iload_n 3, 1), (39, .iconst (-1), 1), (40, .if_icmp .eq 22, 3), (62, .iconst 1, 1), (63, .goto 4, 3), (67, .ireturn, 1), (43, .aload_n 0, 1), (44, .aload_n 0, 1), (45, .getfield 30, 3), (48, .iload_n 3, 1), (49, .iaload, 1), (50, .aload_n 0, 1), (51, .getfield 33, 3), (54, .iload_n 3, 1)] = true := by decide +kernel
theorem dX12_takeSpan_0 : decode cX12_takeSpan 0 = .ok (.aload_n 0, 1) := kDec_at dA306_cX12_takeSpan 0 rfl
theorem dX12_takeSpan_1 : decode cX12_takeSpan 1 = .ok (.iload_n 2, 1) := kDec_at dA306_cX12_takeSpan 1 rfl
theorem dX12_takeSpan_2 : decode cX12_takeSpan 2 = .ok (.iload_n 1, 1) := kDec_at dA306_cX12_takeSpan 2 rfl
theorem dX12_takeSpan_3 : decode cX12_takeSpan 3 = .ok (.isub, 1) := kDec_at dA306_cX12_takeSpan 3 rfl
theorem dX12_takeSpan_4 : decode cX12_takeSpan 4 = .ok (.putfield 135, 3) := kDec_at dA306_cX12_takeSpan 4 rfl
theorem dX12_takeSpan_7 : decode cX12_takeSpan 7 = .ok (.iload_n 1, 1) := kDec_at dA306_cX12_takeSpan 5 rfl
theorem dX12_takeSpan_8 : decode cX12_takeSpan 8 = .ok (.istore 4, 2) := kDec_at dA306_cX12_takeSpan 6 rfl
theorem dX12_takeSpan_10 : decode cX12_takeSpan 10 = .ok (.iload 4, 2) := kDec_at dA306_cX12_takeSpan 7 rfl
theorem dX12_takeSpan_12 : decode cX12_takeSpan 12 = .ok (.iload_n 2, 1) := kDec_at dA306_cX12_takeSpan 8 rfl
theorem dX12_takeSpan_13 : decode cX12_takeSpan 13 = .ok (.if_icmp .ge 25, 3) := kDec_at dA306_cX12_takeSpan 9 rfl
theorem dX12_takeSpan_38 : decode cX12_takeSpan 38 = .ok (.iload_n 3, 1) := kDec_at dA306_cX12_takeSpan 10 rfl
theorem dX12_takeSpan_39 : decode cX12_takeSpan 39 = .ok (.iconst (-1), 1) := kDec_at dA306_cX12_takeSpan 11 rfl
theorem dX12_takeSpan_40 : decode cX12_takeSpan 40 = .ok (.if_icmp .eq 22, 3) := kDec_at dA306_cX12_takeSpan 12 rfl
theorem dX12_takeSpan_62 : decode cX12_takeSpan 62 = .ok (.iconst 1, 1) := kDec_at dA306_cX12_takeSpan 13 rfl
theorem dX12_takeSpan_63 : decode cX12_takeSpan 63 = .ok (.goto 4, 3) := kDec_at dA306_cX12_takeSpan 14 rfl
theorem dX12_takeSpan_67 : decode cX12_takeSpan 67 = .ok (.ireturn, 1) := kDec_at dA306_cX12_takeSpan 15 rfl
theorem dX12_takeSpan_43 : decode cX12_takeSpan 43 = .ok (.aload_n 0, 1) := kDec_at dA306_cX12_takeSpan 16 rfl
theorem dX12_takeSpan_44 : decode cX12_takeSpan 44 = .ok (.aload_n 0, 1) := kDec_at dA306_cX12_takeSpan 17 rfl
theorem dX12_takeSpan_45 : decode cX12_takeSpan 45 = .ok (.getfield 30, 3) := kDec_at dA306_cX12_takeSpan 18 rfl
theorem dX12_takeSpan_48 : decode cX12_takeSpan 48 = .ok (.iload_n 3, 1) := kDec_at dA306_cX12_takeSpan 19 rfl
theorem dX12_takeSpan_49 : decode cX12_takeSpan 49 = .ok (.iaload, 1) := kDec_at dA306_cX12_takeSpan 20 rfl
theorem dX12_takeSpan_50 : decode cX12_takeSpan 50 = .ok (.aload_n 0, 1) := kDec_at dA306_cX12_takeSpan 21 rfl
theorem dX12_takeSpan_51 : decode cX12_takeSpan 51 = .ok (.getfield 33, 3) := kDec_at dA306_cX12_takeSpan 22 rfl
theorem dX12_takeSpan_54 : decode cX12_takeSpan 54 = .ok (.iload_n 3, 1) := kDec_at dA306_cX12_takeSpan 23 rfl
set_option maxRecDepth 100000 in
theorem dA307_cX12_takeSpan : kDec cX12_takeSpan [(55, .iaload, 1), (56, .invokevirtual 174, 3), (59, .ifCond .eq 7, 3), (66, .iconst 0, 1), (16, .aload_n 0, 1), (17, .getfield 64, 3), (20, .iload 4, 2), (22, .iload_n 1, 1), (23, .isub, 1), (24, .aload_n 0, 1), (25, .getfield 16, 3), (28, .iload 4, 2), (30, .iaload, 1), (31, .iastore, 1), (32, .iinc 4 1, 3), (35, .goto (-25), 3)] = true := by decide +kernel
theorem dX12_takeSpan_55 : decode cX12_takeSpan 55 = .ok (.iaload, 1) := kDec_at dA307_cX12_takeSpan 0 rfl
theorem dX12_takeSpan_56 : decode cX12_takeSpan 56 = .ok (.invokevirtual 174, 3) := kDec_at dA307_cX12_takeSpan 1 rfl
theorem dX12_takeSpan_59 : decode cX12_takeSpan 59 = .ok (.ifCond .eq 7, 3) := kDec_at dA307_cX12_takeSpan 2 rfl
theorem dX12_takeSpan_66 : decode cX12_takeSpan 66 = .ok (.iconst 0, 1) := kDec_at dA307_cX12_takeSpan 3 rfl
theorem dX12_takeSpan_16 : decode cX12_takeSpan 16 = .ok (.aload_n 0, 1) := kDec_at dA307_cX12_takeSpan 4 rfl
theorem dX12_takeSpan_17 : decode cX12_takeSpan 17 = .ok (.getfield 64, 3) := kDec_at dA307_cX12_takeSpan 5 rfl
theorem dX12_takeSpan_20 : decode cX12_takeSpan 20 = .ok (.iload 4, 2) := kDec_at dA307_cX12_takeSpan 6 rfl
theorem dX12_takeSpan_22 : decode cX12_takeSpan 22 = .ok (.iload_n 1, 1) := kDec_at dA307_cX12_takeSpan 7 rfl
theorem dX12_takeSpan_23 : decode cX12_takeSpan 23 = .ok (.isub, 1) := kDec_at dA307_cX12_takeSpan 8 rfl
theorem dX12_takeSpan_24 : decode cX12_takeSpan 24 = .ok (.aload_n 0, 1) := kDec_at dA307_cX12_takeSpan 9 rfl
theorem dX12_takeSpan_25 : decode cX12_takeSpan 25 = .ok (.getfield 16, 3) := kDec_at dA307_cX12_takeSpan 10 rfl
theorem dX12_takeSpan_28 : decode cX12_takeSpan 28 = .ok (.iload 4, 2) := kDec_at dA307_cX12_takeSpan 11 rfl
theorem dX12_takeSpan_30 : decode cX12_takeSpan 30 = .ok (.iaload, 1) := kDec_at dA307_cX12_takeSpan 12 rfl
theorem dX12_takeSpan_31 : decode cX12_takeSpan 31 = .ok (.iastore, 1) := kDec_at dA307_cX12_takeSpan 13 rfl
theorem dX12_takeSpan_32 : decode cX12_takeSpan 32 = .ok (.iinc 4 1, 3) := kDec_at dA307_cX12_takeSpan 14 rfl
theorem dX12_takeSpan_35 : decode cX12_takeSpan 35 = .ok (.goto (-25), 3) := kDec_at dA307_cX12_takeSpan 15 rfl
set_option maxRecDepth 20000 in
theorem ggX12_takeSpan_X12_undoes : GoodIn wsX12_takeSpan wsX12_undoes := goodIn_sub (fun _ h => List.mem_cons_of_mem _ (List.mem_append_right _ (h))) gX12_undoes_all
set_option maxRecDepth 20000 in
theorem gX12_takeSpan_X12_undoes : GoodIn wsX12_takeSpan (wsV RX12 174 RX12 yX12_undoes wsX12_undoes) := goodIn_app (goodIn_r _ [6, 7, 8, 9] rfl (by decide +kernel)) ggX12_takeSpan_X12_undoes

end

/-! 5d.parts -/
section
/-! parts() of the reference -/
def QOR (n m : Int) (Q1 Q2 : Nat → Int32) : Prop := ∀ j : Nat, m < j → (j : Int) < n → 0 ≤ (Q1 j).toInt ∧ (Q1 j).toInt ≤ 70000 * (n - j) ∧ 1 ≤ (Q2 j).toInt ∧ (Q2 j).toInt ≤ n - j
def BFR (U : Nat → Nat → (Nat → Int32) → Nat → (Nat → Int32) → Prop) (T : Int32 → Int32 → Int32) (z n : Nat) (f : Nat → Int32) (pr : Int) (A : Nat → Int → Prop) (i : Nat) (Q1 Q2 Q3 Q4 : Nat → Int32) : Prop := ((Q2 i).toInt = 0 ∧ ∀ (j : Nat) (h s sp : Int), A j h → ¬ cnd U T z n f pr Q1 Q2 i j h s sp) ∨ (0 ≤ (Q1 i).toInt ∧ (Q1 i).toInt ≤ 70000 * ((n : Int) - i) ∧ 1 ≤ (Q2 i).toInt ∧ (Q2 i).toInt ≤ (n : Int) - i ∧ 0 ≤ (Q3 i).toInt ∧ bst U T z n f pr Q1 Q2 A i (Q3 i).toInt.toNat (Q4 i).toInt (Q1 i).toInt (Q2 i).toInt)
/-- what takeSpan answers -/
def F_ts (U : Nat → Nat → (Nat → Int32) → Nat → (Nat → Int32) → Prop) (r l : Int32) (g f : Nat → Int32) (i j : Nat) (h : Int) : Prop := (r.toInt = 1 ∧ ∃ c : Nat, l.toInt = c ∧ SPN U f i j h c g) ∨ (r.toInt = 0 ∧ ∀ (c : Nat) (f2 : Nat → Int32), ¬ SPN U f i j h c f2)
section PR5
variable {U : Nat → Nat → (Nat → Int32) → Nat → (Nat → Int32) → Prop} {T : Int32 → Int32 → Int32}
theorem ts_1 {r l : Int32} {g f : Nat → Int32} {i j : Nat} {h : Int} (a : F_ts U r l g f i j h) (e : ¬ r.toInt = 0) : ∃ c : Nat, l.toInt = c ∧ SPN U f i j h c g := a.elim (fun z => z.2) (fun z => absurd z.1 e)
theorem ts_0 {r l : Int32} {g f : Nat → Int32} {i j : Nat} {h : Int} (a : F_ts U r l g f i j h) (e : r.toInt = 0) : ∀ (c : Nat) (f2 : Nat → Int32), ¬ SPN U f i j h c f2 := a.elim (fun z => by have := z.1; omega) (fun z => z.2)
theorem BFR_A {z n : Nat} {f : Nat → Int32} {pr : Int} {A A' : Nat → Int → Prop} {i : Nat} {Q1 Q2 Q3 Q4 : Nat → Int32} (b : BFR U T z n f pr A i Q1 Q2 Q3 Q4) (hA : ∀ (j : Nat) (h s sp : Int), cnd U T z n f pr Q1 Q2 i j h s sp → (A' j h ↔ A j h)) : BFR U T z n f pr A' i Q1 Q2 Q3 Q4 := by
  rcases b with ⟨b1, b2⟩ | ⟨b1, b2, b3, b4, b5, b6, b7, b8⟩
  · exact Or.inl ⟨b1, fun j h s sp a c => b2 j h s sp ((hA j h s sp c).mp a) c⟩
  · exact Or.inr ⟨b1, b2, b3, b4, b5, b6, (hA _ _ _ _ b6).mpr b7, fun j h s sp a c => b8 j h s sp ((hA j h s sp c).mp a) c⟩
theorem BFR_0 {z n : Nat} {f : Nat → Int32} {pr : Int} {A : Nat → Int → Prop} {i : Nat} {Q1 Q2 Q3 Q4 : Nat → Int32} (h : (Q2 i).toInt = 0) (hA : ∀ (j : Nat) (h : Int), A j h → n < j) : BFR U T z n f pr A i Q1 Q2 Q3 Q4 := Or.inl ⟨h, fun j h' s sp a c => by have := hA j h' a; have := c.2.1; omega⟩
theorem BFR_no {z n : Nat} {f : Nat → Int32} {pr : Int} {A A' : Nat → Int → Prop} {i j0 : Nat} {h0 : Int} {Q1 Q2 Q3 Q4 : Nat → Int32} (b : BFR U T z n f pr A i Q1 Q2 Q3 Q4) (hA : ∀ (j : Nat) (h : Int), A' j h ↔ (A j h ∨ (j = j0 ∧ h = h0))) (hn : ∀ (c : Nat) (f2 : Nat → Int32), ¬ SPN U f i j0 h0 c f2) : BFR U T z n f pr A' i Q1 Q2 Q3 Q4 := by
  refine BFR_A b (fun j h s sp c => ⟨fun a => ?_, fun a => (hA j h).mpr (Or.inl a)⟩)
  rcases (hA j h).mp a with w | ⟨w1, w2⟩
  · exact w
  · subst w1
    subst w2
    obtain ⟨_, _, _, _, ⟨c', f', c5, _⟩, _⟩ := c
    exact absurd c5 (hn _ _)
/-- c and sp are what it costs -/
theorem cnd_of {z n : Nat} {f g : Nat → Int32} {pr co x c sp : Int} {C S : Nat → Int32} {i j m : Nat} {h : Int} (h1 : i < j) (h2 : j ≤ n) (h3 : -1 ≤ h ∧ h < z) (hs : SPN U f i j h m g) (hx : x = cT T m g) (hc : c = x + (if j < n then pr + (C j).toInt else 0)) (hp : sp = 1 + (if j < n then (S j).toInt else 0)) : cnd U T z n f pr C S i j h c sp := ⟨h1, h2, h3.1, h3.2, ⟨m, g, hs, by rw [hc, hx]⟩, hp⟩
theorem BFR_keep (hU : okU U) {z n : Nat} {f : Nat → Int32} {pr c sp : Int} {A A' : Nat → Int → Prop} {i j0 : Nat} {h0 : Int} {Q1 Q2 Q3 Q4 : Nat → Int32} (b : BFR U T z n f pr A i Q1 Q2 Q3 Q4) (hn : n ≤ 300) (hf : prg n 0 65535 f) (hA : ∀ (j : Nat) (h : Int), A' j h ↔ (A j h ∨ (j = j0 ∧ h = h0))) (hc : cnd U T z n f pr Q1 Q2 i j0 h0 c sp) (h1 : ¬ (Q2 i).toInt = 0) (h2 : (Q1 i).toInt < c ∨ ((Q1 i).toInt = c ∧ (Q2 i).toInt ≤ sp)) (hl : ∀ (j : Nat) (h : Int), A j h → j0 < j ∨ (j = j0 ∧ h ≤ h0)) : BFR U T z n f pr A' i Q1 Q2 Q3 Q4 := by
  rcases b with ⟨b1, _⟩ | ⟨b1, b2, b3, b4, b5, b6⟩
  · exact absurd b1 h1
  · refine Or.inr ⟨b1, b2, b3, b4, b5, bst_add b6 hA (fun s' sp' c2 => ?_)⟩
    obtain ⟨w1, w2⟩ := cnd_u hU hn hf c2 hc
    have w3 := hl _ _ b6.2.1
    unfold LE4
    omega
theorem BFR_set (hU : okU U) {z n : Nat} {f : Nat → Int32} {pr : Int} {A A' : Nat → Int → Prop} {i j0 : Nat} {c sp en h0 : Int32} {Q1 Q1' Q2 Q2' Q3 Q3' Q4 Q4' : Nat → Int32} (b : BFR U T z n f pr A i Q1 Q2 Q3 Q4) (hn : n ≤ 300) (hf : prg n 0 65535 f) (hA : ∀ (j : Nat) (h : Int), A' j h ↔ (A j h ∨ (j = j0 ∧ h = h0.toInt))) (hc : cnd U T z n f pr Q1 Q2 i j0 h0.toInt c.toInt sp.toInt) (ej : en.toInt = j0) (h2 : (Q2 i).toInt ≤ 0 ∨ c.toInt < (Q1 i).toInt ∨ (c.toInt = (Q1 i).toInt ∧ sp.toInt < (Q2 i).toInt)) (bd : 0 ≤ c.toInt ∧ c.toInt ≤ 70000 * ((n : Int) - i) ∧ 1 ≤ sp.toInt ∧ sp.toInt ≤ (n : Int) - i) (e1 : Q1' = upd Q1 i c) (e2 : Q2' = upd Q2 i sp) (e3 : Q3' = upd Q3 i en) (e4 : Q4' = upd Q4 i h0) : BFR U T z n f pr A' i Q1' Q2' Q3' Q4' := by
  have cg : ∀ k, i < k → k < n → Q1 k = Q1' k ∧ Q2 k = Q2' k := fun k k1 k2 => by rw [e1, e2, pk_un (by omega), pk_un (by omega)]; exact ⟨rfl, rfl⟩
  refine Or.inr ?_
  have f1 : Q1' i = c := by rw [e1, pk_us]
  have f2 : Q2' i = sp := by rw [e2, pk_us]
  have f3 : Q3' i = en := by rw [e3, pk_us]
  have f4 : Q4' i = h0 := by rw [e4, pk_us]
  rw [f1, f2, f3, f4]
  refine ⟨bd.1, bd.2.1, bd.2.2.1, bd.2.2.2, by omega, bst_cg cg ?_⟩
  have ee : en.toInt.toNat = j0 := by omega
  rw [ee]
  refine bst_new hA hc (fun s2 sp2 c2 => cnd_u hU hn hf c2 hc) ?_
  rcases b with ⟨_, b2⟩ | ⟨b1, b2, b3, b4, b5, b6⟩
  · exact Or.inl b2
  · refine Or.inr ⟨_, _, _, _, b6, ?_⟩
    unfold LE4
    omega
theorem BFR_all {z n : Nat} {f : Nat → Int32} {pr : Int} {A : Nat → Int → Prop} {i : Nat} {Q1 Q2 Q3 Q4 : Nat → Int32} (b : BFR U T z n f pr A i Q1 Q2 Q3 Q4) (hi : i < n) (hA : ∀ (j : Nat) (h s sp : Int), cnd U T z n f pr Q1 Q2 i j h s sp → A j h) : 0 ≤ (Q1 i).toInt ∧ (Q1 i).toInt ≤ 70000 * ((n : Int) - i) ∧ 1 ≤ (Q2 i).toInt ∧ (Q2 i).toInt ≤ (n : Int) - i ∧ 0 ≤ (Q3 i).toInt ∧ bst U T z n f pr Q1 Q2 (fun _ _ => True) i (Q3 i).toInt.toNat (Q4 i).toInt (Q1 i).toInt (Q2 i).toInt := by
  rcases b with ⟨b1, b2⟩ | ⟨b1, b2, b3, b4, b5, b6, b7, b8⟩
  · have c : cnd U T z n f pr Q1 Q2 i n (-1) (cT T ((n - i : Nat) : Int) (fun k => f (i + k)) + (if n < n then pr + (Q1 n).toInt else 0)) (1 + (if n < n then (Q2 n).toInt else 0)) := ⟨hi, Nat.le_refl _, by omega, by omega, ⟨n - i, _, Or.inl ⟨rfl, rfl, fun _ _ => rfl⟩, rfl⟩, rfl⟩
    exact absurd c (b2 _ _ _ _ (hA _ _ _ _ c))
  · exact ⟨b1, b2, b3, b4, b5, b6, trivial, fun j h s sp _ c => b8 j h s sp (hA j h s sp c) c⟩
theorem QOR_u {n m : Int} {Q1 Q1' Q2 Q2' : Nat → Int32} {i : Nat} {a b : Int32} (h : QOR n m Q1 Q2) (hi : (i : Int) ≤ m) (e1 : Q1' = upd Q1 i a ∨ Q1' = Q1) (e2 : Q2' = upd Q2 i b ∨ Q2' = Q2) : QOR n m Q1' Q2' := by
  intro j h1 h2
  have q := h j h1 h2
  have w1 : Q1' j = Q1 j := by
    rcases e1 with e | e
    · rw [e, pk_un (by omega)]
    · rw [e]
  have w2 : Q2' j = Q2 j := by
    rcases e2 with e | e
    · rw [e, pk_un (by omega)]
    · rw [e]
  rw [w1, w2]; exact q
theorem QOR_dn {n m m' : Int} {i : Nat} {Q1 Q2 : Nat → Int32} (h : QOR n m Q1 Q2) (em : m = i) (em' : m' = i - 1) (b : 0 ≤ (Q1 i).toInt ∧ (Q1 i).toInt ≤ 70000 * (n - i) ∧ 1 ≤ (Q2 i).toInt ∧ (Q2 i).toInt ≤ n - i) : QOR n m' Q1 Q2 := by
  intro j h1 h2
  by_cases e : j = i
  · subst e; exact b
  · exact h j (by omega) h2
theorem only_4 {i : Nat} {a b c d : Int32} {Q1 Q1' Q2 Q2' Q3 Q3' Q4 Q4' : Nat → Int32} (e1 : Q1' = upd Q1 i a) (e2 : Q2' = upd Q2 i b) (e3 : Q3' = upd Q3 i c) (e4 : Q4' = upd Q4 i d) : onlyI i Q1 Q1' Q2 Q2' Q3 Q3' Q4 Q4' := fun k hk => by
  rw [e1, e2, e3, e4, pk_un hk, pk_un hk, pk_un hk, pk_un hk]; exact ⟨rfl, rfl, rfl, rfl⟩
theorem only_2 {i : Nat} {b : Int32} {Q1 Q2 Q2' Q3 Q4 : Nat → Int32} (e2 : Q2' = upd Q2 i b) : onlyI i Q1 Q1 Q2 Q2' Q3 Q3 Q4 Q4 := fun k hk => by
  rw [e2, pk_un hk]; exact ⟨rfl, rfl, rfl, rfl⟩
/-- the reference lays a span behind the others -/
theorem lay_r {n m : Nat} {f E H g g2 g' : Nat → Int32} {fr fr' l l2 l' k : Int32} (h : LYD U n f E H fr l g) (hi : fr.toNatClampNeg < n) (hs : SPN U f fr.toNatClampNeg (E fr.toNatClampNeg).toInt.toNat (H fr.toNatClampNeg).toInt m g2) (hm : l2.toInt = m) (hc : CPB l.toInt k.toInt g g' g2) (hk : k.toInt = l2.toInt) (h0 : 0 ≤ l.toInt) (hl : l'.toInt = l.toInt + l2.toInt) (hf : fr'.toInt = (E fr.toNatClampNeg).toInt) (hE : 0 ≤ (E fr.toNatClampNeg).toInt) : LYD U n f E H fr' l' g' := by
  obtain ⟨q, hq⟩ := h
  have st := RCH_step hq hi hs (fm' := g') (fun p hp => hc.2 p (Or.inl (by omega))) (fun p hp => hc.1 p (by omega))
  have e1 : fr'.toNatClampNeg = (E fr.toNatClampNeg).toInt.toNat := ix_eq (by omega)
  have e2 : l'.toInt.toNat = l.toInt.toNat + m := by omega
  exact ⟨q + 1, by rw [e1, e2]; exact st⟩
theorem lay_rn (hU : okU U) {z n m : Nat} {f E H C S g g2 g' : Nat → Int32} {pr : Int} {fr l l2 k : Int32} (hf : prg n 0 65535 f) (hB : PBK U T z n f pr 0 C S E H) (h : LYD U n f E H fr l g) (hi : fr.toNatClampNeg < n) (hs : SPN U f fr.toNatClampNeg (E fr.toNatClampNeg).toInt.toNat (H fr.toNatClampNeg).toInt m g2) (hm : l2.toInt = m) (hc : CPB l.toInt k.toInt g g' g2) (hk : k.toInt = l2.toInt) (h0 : 0 ≤ l.toInt) (h3 : 300 < l.toInt + l2.toInt) : ∀ c fm v, ¬ ptP U T z n f pr c fm v := by
  obtain ⟨q, hq⟩ := h
  have st := RCH_step hq hi hs (fm' := g') (fun p hp => hc.2 p (Or.inl (by omega))) (fun p hp => hc.1 p (by omega))
  exact pt_big hU hf hB st (by omega)
theorem lay_rp {z n : Nat} {f fm E H C S : Nat → Int32} {pr v : Int} {fr l : Int32} (hB : PBK U T z n f pr 0 C S E H) (h : LYD U n f E H fr l fm) (hn : fr.toInt = n) (hl : 0 ≤ l.toInt ∧ l.toInt ≤ 300) (h0 : 1 ≤ n ∧ n ≤ 60 ∧ 0 ≤ pr ∧ pr ≤ 1000) (hv : v = (S 0).toInt) : ∃ c : Nat, l.toInt = c ∧ ptP U T z n f pr c fm v := by
  obtain ⟨k, hk⟩ := h
  rw [ix_eq hn] at hk
  exact ⟨l.toInt.toNat, by omega, h0, C, S, E, H, hB, hv, by omega, k, hk⟩
end PR5

theorem ts_as {U : Nat → Nat → (Nat → Int32) → Nat → (Nat → Int32) → Prop} {r l : Int32} {g f : Nat → Int32} {i j : Nat} {h : Int} (hr : r.toInt = 1) (hh : h = -1) (hl : l.toInt = (j : Int) - i) (hcp : ∀ k : Nat, (k : Int) < l.toInt → g k = f (i + k)) (hij : i ≤ j) : F_ts U r l g f i j h := Or.inl ⟨hr, j - i, by omega, Or.inl ⟨hh, rfl, fun k hk => hcp k (by omega)⟩⟩
theorem ts_un {U : Nat → Nat → (Nat → Int32) → Nat → (Nat → Int32) → Prop} (hU : okU U) {r q l : Int32} {g f w : Nat → Int32} {i j k : Nat} {h n : Int} (ht : F_to U q l g k n w) (hk : h = k) (hn : n = (j : Int) - i) (hw : ∀ p : Nat, (p : Int) < n → w p = f (i + p)) (hr : r.toInt = q.toInt) (hij : i ≤ j) : F_ts U r l g f i j h := by
  have e : n.toNat = j - i := by omega
  have ek : h.toNat = k := by omega
  unfold F_to at ht
  rw [e] at ht
  rcases ht with ⟨a, c, a1, a2⟩ | ⟨a, a1⟩
  · refine Or.inl ⟨by rw [hr, a]; rfl, c, a1, Or.inr ⟨by omega, ?_⟩⟩
    rw [ek]
    exact hU.2.1 _ _ _ _ _ _ (fun p hp => hw p (by omega)) a2
  · refine Or.inr ⟨by rw [hr, a]; rfl, fun c f2 w2 => ?_⟩
    rcases w2 with ⟨w2, _⟩ | ⟨_, w2⟩
    · omega
    · rw [ek] at w2
      exact a1 c f2 (hU.2.1 _ _ _ _ _ _ (fun p hp => (hw p (by omega)).symm) w2)
theorem tsp_s {b : Nat} {k k' fo a x : Int32} {g g' f : Nat → Int32} (h : ∀ j : Nat, (j : Int) < k.toInt - fo.toInt → g j = f (b + j)) (eb : fo.toInt = b) (ex : x = f k.toNatClampNeg) (eg : g' = upd g a.toNatClampNeg x) (ha : a.toInt = k.toInt - fo.toInt) (h0 : fo.toInt ≤ k.toInt) (hk : k'.toInt = k.toInt + 1) : ∀ j : Nat, (j : Int) < k'.toInt - fo.toInt → g' j = f (b + j) := by
  intro j hj
  have c := v_clamp (x := a) (by omega)
  rw [eg]
  by_cases z : j = a.toNatClampNeg
  · rw [z, pk_us, ex, ix_eq (x := k) (N := b + a.toNatClampNeg) (by omega)]
  · rw [pk_un z]; exact h j (by omega)
theorem ts_y {U : Nat → Nat → (Nat → Int32) → Nat → (Nat → Int32) → Prop} {r l : Int32} {g f : Nat → Int32} {i j : Nat} {h : Int} (a : F_ts U r l g f i j h) (e : ∃ c f', SPN U f i j h c f') : ∃ c : Nat, l.toInt = c ∧ SPN U f i j h c g := by
  rcases a with ⟨_, a⟩ | ⟨_, a⟩
  · exact a
  · obtain ⟨c, f', e⟩ := e
    exact absurd e (a _ _)

set_option maxHeartbeats 40000000 in
set_option maxRecDepth 100000 in
theorem f_X12_takeSpan (l : Launch) (dC : Nat → ClassId) (dI : Nat → Nat → Nat) (cI cS : ClassId) (sz : Nat) (oM : Nat) (mT : Nat) (mS : Nat) (mX : Nat) (mL : Nat) (mB : Nat) (mD : Nat) (m1 : Nat) (m2 : Nat) (mR : Nat) (x1 : Nat) (x2 : Nat) (x3 : Nat) (mH : Nat) (mY : Nat) (mE : Nat) (mW : Nat) (mO : Nat) (y1 : Nat) (y2 : Nat) (y3 : Nat) (y4 : Nat) (mZ : Nat) (zt : Int32) (zp : Int32) (zf : Int32) (zh : Int32) (zr : Int32) (zc : Int32) (zy : Int32) (za : Int32) (zb : Int32) (zs : Int32) (zq : Int32) (zw : Int32) (ze : Int32) (zn : Int32) (zm : Int32) (zl : Int32) (zk : Int32) (zd : Int32) (eY : Nat → Int32) (eB : Nat → Int32) (eL : Nat → Int32) (eE : Nat → Int32) (eW : Nat → Int32) (eO : Nat → Int32) (eS : Nat → Int32) (eX : Nat → Int32) (e1 : Nat → Int32) (e2 : Nat → Int32) (fo : Int32) (to_ : Int32) (ha : Int32) (g_zt : 0 ≤ zt.toInt ∧ zt.toInt ≤ 900) (g_zp : 0 ≤ zp.toInt ∧ zp.toInt ≤ 20) (g_zf : 0 ≤ zf.toInt ∧ zf.toInt ≤ 19) (g_zh : 0 ≤ zh.toInt ∧ zh.toInt ≤ 6) (g_zr : 0 ≤ zr.toInt ∧ zr.toInt ≤ 258) (g_zc : 0 ≤ zc.toInt ∧ zc.toInt ≤ 300) (g_zy : 0 ≤ zy.toInt ∧ zy.toInt ≤ 65536) (g_za : 0 ≤ za.toInt ∧ za.toInt ≤ 5) (g_zb : 0 ≤ zb.toInt ∧ zb.toInt ≤ 5) (g_zs : 0 ≤ zs.toInt ∧ zs.toInt ≤ 2000000) (g_zq : -1 ≤ zq.toInt ∧ zq.toInt ≤ 2000000) (g_zn : 0 ≤ zn.toInt ∧ zn.toInt ≤ 2600) (g_zm : 0 ≤ zm.toInt ∧ zm.toInt ≤ 2600) (g_zk : 0 ≤ zk.toInt ∧ zk.toInt ≤ 300) (g_eY : rg 0 255 eY) (g_eB : rg (-1) 255 eB) (g_eL : rg (-1) 65535 eL) (g_eE : rg 0 65535 eE) (g_eW : rg 0 65535 eW) (g_eO : rg 0 65535 eO) (g_eS : rg 0 300 eS) (g_eX : rg 0 65535 eX) (g_e1 : rg 0 5 e1) (g_e2 : rg 0 5 e2) (g_fo : 0 ≤ fo.toInt ∧ fo.toInt ≤ 300) (g_to_ : 0 ≤ to_.toInt ∧ to_.toInt ≤ 300) (g_ha : -1 ≤ ha.toInt ∧ ha.toInt ≤ 5) (hft : fo.toInt ≤ to_.toInt) (hto : to_.toInt ≤ (eS 0).toInt) (hha : ha.toInt < zh.toInt) (hxl : ∀ j : Nat, (j : Int) < (eS 0).toInt → isLz (eX j)) (hlb : LBr eL eB) (hlz : LZ eL) : kMi l yX12_takeSpan wsX12_takeSpan ({ frames := 5, cells := 0, slots := 0, locals := 120 } : Room) [.ref oM, .int fo, .int to_, .int ha] sz (dC, dI) vwCl [(cI, .int), (cS, .short)] [(oM, .inr (12, [.ref mT, .int zt, .ref mS, .ref mX, .int zp, .int zf, .ref mL, .ref mB, .ref mD, .ref m1, .ref m2, .int zh, .ref mR, .int zr, .ref x1, .ref x2, .ref x3, .int zc, .ref mH, .int zy, .int za, .int zb, .int zs, .int zq, .int zw, .int ze, .ref mY, .int zn, .ref mE, .int zm, .int zl, .ref mW, .int zk, .ref mO, .int zd, .ref y1, .ref y2, .ref y3, .ref y4, .ref mZ])), (mY, .inl (cI, 2600, .inl eY)), (mB, .inl (cS, 131072, .inl eB)), (mL, .inl (cI, 512, .inl eL)), (mE, .inl (cI, 2600, .inl eE)), (mW, .inl (cI, 300, .inl eW)), (mO, .inl (cI, 300, .inl eO)), (mS, .inl (cI, 21, .inl eS)), (mX, .inl (cI, 6300, .inl eX)), (m1, .inl (cI, 6, .inl e1)), (m2, .inl (cI, 6, .inl e2))] (fun _ => True) 0 0 (fun (A : Nat → Prop) (r : Int32) (hh9 : Heap) => ∀ PZ9 : Prop, (∀ (zn' : Int32) (eY' : Nat → Int32) (zd' : Int32) (zm' : Int32) (zl' : Int32) (eE' : Nat → Int32) (zk' : Int32) (eW' : Nat → Int32) (eO' : Nat → Int32), kPD (dC, dI) vwCl A [(oM, .inr (12, [.ref mT, .int zt, .ref mS, .ref mX, .int zp, .int zf, .ref mL, .ref mB, .ref mD, .ref m1, .ref m2, .int zh, .ref mR, .int zr, .ref x1, .ref x2, .ref x3, .int zc, .ref mH, .int zy, .int za, .int zb, .int zs, .int zq, .int zw, .int ze, .ref mY, .int zn', .ref mE, .int zm', .int zl', .ref mW, .int zk', .ref mO, .int zd', .ref y1, .ref y2, .ref y3, .ref y4, .ref mZ])), (mY, .inl (cI, 2600, .inl eY')), (mB, .inl (cS, 131072, .inl eB)), (mL, .inl (cI, 512, .inl eL)), (mE, .inl (cI, 2600, .inl eE')), (mW, .inl (cI, 300, .inl eW')), (mO, .inl (cI, 300, .inl eO')), (mS, .inl (cI, 21, .inl eS)), (mX, .inl (cI, 6300, .inl eX)), (m1, .inl (cI, 6, .inl e1)), (m2, .inl (cI, 6, .inl e2))] hh9 → (0 ≤ zn'.toInt ∧ zn'.toInt ≤ 2600) → (rg 0 255 eY') → (0 ≤ zm'.toInt ∧ zm'.toInt ≤ 2600) → (rg 0 65535 eE') → (0 ≤ zk'.toInt ∧ zk'.toInt ≤ 300) → (rg 0 65535 eW') → (rg 0 65535 eO') → (0 ≤ r.toInt ∧ r.toInt ≤ 1) → (F_ts (UR e1 e2 eL eB) r zk' eW' eX fo.toNatClampNeg to_.toNatClampNeg ha.toInt) → PZ9) → PZ9) := by
  refine kMi_of (cc := cX12_takeSpan) (maxL := 5) (ret := (some .boolean)) (lv := [(0, .ref oM), (1, .int fo), (2, .int to_), (3, .int ha)]) (by decide +kernel) rfl rfl (Nat.le_of_ble_eq_true rfl) ?_
  intro p e s m below meth c A QQ ls hx hb hr hts hml hown hlocks hA hQQ hK hX hP hD hS hl
  have hown : s.vm.findClass RX12 = some m.cls := hown
  have hcf := k_cf hx hb hml hown hts
  have in_X12 : ∀ w ∈ wsX120, w ∈ wsX12_takeSpan := fun _ h => List.mem_cons_of_mem _ (List.mem_append_left _ (List.mem_append_right _ (h)))
  replace g_zt := hid g_zt
  replace g_zp := hid g_zp
  replace g_zf := hid g_zf
  replace g_zr := hid g_zr
  replace g_zc := hid g_zc
  replace g_zy := hid g_zy
  replace g_za := hid g_za
  replace g_zb := hid g_zb
  replace g_zs := hid g_zs
  replace g_zq := hid g_zq
  replace g_zn := hid g_zn
  replace g_zm := hid g_zm
  replace g_zk := hid g_zk
  have hU : okU (UR e1 e2 eL eB) := okU_R g_eB g_eL
  have hlb9 := hlb
  have z0 : (0 : Int32).toInt = 0 := rfl
  have z1 : (1 : Int32).toInt = 1 := rfl
  have zm1 : (-1 : Int32).toInt = -1 := rfl
  have cf0 := v_clamp (x := fo) (by omega)
  have ct0 := v_clamp (x := to_) (by omega)
  refine lv_aload_n hx hb dX12_takeSpan_0 rfl (lv_at hl 0 rfl) ?_
  refine lv_iload_n hx hb dX12_takeSpan_1 rfl (lv_at hl 2 rfl) ?_
  refine lv_iload_n hx hb dX12_takeSpan_2 rfl (lv_at hl 1 rfl) ?_
  refine lv_isub hx hb dX12_takeSpan_3 ?_
  refine lv_topi (fun x_1 ex_1 => ?_)
  have tx_1 : x_1.toInt = to_.toInt - fo.toInt := v_subR ex_1 g_to_ g_fo (by decide) (by decide)
  refine va_put (D := (dC, dI)) (ci := 12) (v := .int x_1) (ty := .int) (C := RX12) (T := TX12) (N := 40) hx hb hts in_X12 tyX12 tyX12_ok nmX12 hown hK hP hD hS 0 rfl rfl 32 (Nat.le_of_ble_eq_true rfl) (hts (.fieldLink RX12 135 "TextMenderModel" "workMany" "I") (List.mem_of_getElem? (i := 1) rfl)) (fun _ h9 => h9) rfl (tyX12_ok 32 (Nat.le_of_ble_eq_true rfl)) rfl rfl (Nat.le_of_ble_eq_true rfl) dX12_takeSpan_4 (kW (wn := [(oM, .inr (12, [.ref mT, .int zt, .ref mS, .ref mX, .int zp, .int zf, .ref mL, .ref mB, .ref mD, .ref m1, .ref m2, .int zh, .ref mR, .int zr, .ref x1, .ref x2, .ref x3, .int zc, .ref mH, .int zy, .int za, .int zb, .int zs, .int zq, .int zw, .int ze, .ref mY, .int zn, .ref mE, .int zm, .int zl, .ref mW, .int x_1, .ref mO, .int zd, .ref y1, .ref y2, .ref y3, .ref y4, .ref mZ])), (mY, .inl (cI, 2600, .inl eY)), (mB, .inl (cS, 131072, .inl eB)), (mL, .inl (cI, 512, .inl eL)), (mE, .inl (cI, 2600, .inl eE)), (mW, .inl (cI, 300, .inl eW)), (mO, .inl (cI, 300, .inl eO)), (mS, .inl (cI, 21, .inl eS)), (mX, .inl (cI, 6300, .inl eX)), (m1, .inl (cI, 6, .inl e1)), (m2, .inl (cI, 6, .inl e2))]) rfl (fun H locs hPn hDn hSn => ?_))
  clear hP hD hS
  have hP := hPn
  have hD := hDn
  have hS := hSn
  clear hPn hDn hSn
  refine lv_iload_n hx hb dX12_takeSpan_7 rfl (lv_at hl 1 rfl) ?_
  refine lv_istore (lv' := [(4, .int fo), (0, .ref oM), (1, .int fo), (2, .int to_), (3, .int ha)]) hx hb dX12_takeSpan_8 hl (by decide) rfl (fun ls hl => ?_)
  have LOOP_10 : ∀ (k_10 : Nat) (k : Int32) (eWa : Nat → Int32) (H : Heap) (locs : List Loc) (ls : Array Slot), MSd (300 - k.toInt : Int) k_10 → (0 ≤ k.toInt ∧ k.toInt ≤ 300) → (rg 0 65535 eWa) → (fo.toInt ≤ k.toInt ∧ k.toInt ≤ to_.toInt) → (∀ j : Nat, (j : Int) < k.toInt - fo.toInt → eWa j = eX (fo.toNatClampNeg + j)) → va_P (dC, dI) vwCl [(oM, .inr (12, [.ref mT, .int zt, .ref mS, .ref mX, .int zp, .int zf, .ref mL, .ref mB, .ref mD, .ref m1, .ref m2, .int zh, .ref mR, .int zr, .ref x1, .ref x2, .ref x3, .int zc, .ref mH, .int zy, .int za, .int zb, .int zs, .int zq, .int zw, .int ze, .ref mY, .int zn, .ref mE, .int zm, .int zl, .ref mW, .int x_1, .ref mO, .int zd, .ref y1, .ref y2, .ref y3, .ref y4, .ref mZ])), (mY, .inl (cI, 2600, .inl eY)), (mB, .inl (cS, 131072, .inl eB)), (mL, .inl (cI, 512, .inl eL)), (mE, .inl (cI, 2600, .inl eE)), (mW, .inl (cI, 300, .inl eWa)), (mO, .inl (cI, 300, .inl eO)), (mS, .inl (cI, 21, .inl eS)), (mX, .inl (cI, 6300, .inl eX)), (m1, .inl (cI, 6, .inl e1)), (m2, .inl (cI, 6, .inl e2))] H → va_D A [(oM, .inr (12, [.ref mT, .int zt, .ref mS, .ref mX, .int zp, .int zf, .ref mL, .ref mB, .ref mD, .ref m1, .ref m2, .int zh, .ref mR, .int zr, .ref x1, .ref x2, .ref x3, .int zc, .ref mH, .int zy, .int za, .int zb, .int zs, .int zq, .int zw, .int ze, .ref mY, .int zn, .ref mE, .int zm, .int zl, .ref mW, .int x_1, .ref mO, .int zd, .ref y1, .ref y2, .ref y3, .ref y4, .ref mZ])), (mY, .inl (cI, 2600, .inl eY)), (mB, .inl (cS, 131072, .inl eB)), (mL, .inl (cI, 512, .inl eL)), (mE, .inl (cI, 2600, .inl eE)), (mW, .inl (cI, 300, .inl eWa)), (mO, .inl (cI, 300, .inl eO)), (mS, .inl (cI, 21, .inl eS)), (mX, .inl (cI, 6300, .inl eX)), (m1, .inl (cI, 6, .inl e1)), (m2, .inl (cI, 6, .inl e2))] → va_S A s.heap H locs → lv_has ls 5 [(4, .int k), (0, .ref oM), (1, .int fo), (2, .int to_), (3, .int ha)] → W p l e (headSpec wsX12_takeSpan ({ frames := 5, cells := 0, slots := 0, locals := 120 } : Room)).room s m ([.ref oM, .int fo, .int to_, .int ha] : List Value).toArray below meth c H locs 0 0 (MQ below QQ ([.ref oM, .int fo, .int to_, .int ha] : List Value).toArray s 0 0 A) (F0 m 10 ls []) := by
    clear hP hD hS hl
    intro k_10
    induction k_10 with
    | zero =>
      intro k eWa H locs ls hm_10 g_k g_eWa hkf hcp hP hD hS hl
      exact ms_0 hm_10
    | succ k_10 ih_10 =>
      intro k eWa H locs ls hm_10 g_k g_eWa hkf hcp hP hD hS hl
      refine lv_iload hx hb dX12_takeSpan_10 (lv_at hl 0 rfl) ?_
      refine lv_iload_n hx hb dX12_takeSpan_12 rfl (lv_at hl 3 rfl) ?_
      refine lv_icmp_ge (tgt := 38) hx hb dX12_takeSpan_13 (by decide) (fun c_2 => ?_) (fun c_2 => ?_)
      · have tc_2 : to_.toInt ≤ k.toInt := v_le c_2
        refine lv_iload_n hx hb dX12_takeSpan_38 rfl (lv_at hl 4 rfl) ?_
        refine lv_iconst (v := (-1)) hx hb dX12_takeSpan_39 (by decide) ?_
        refine lv_icmp_eq (tgt := 62) hx hb dX12_takeSpan_40 (by decide) (fun c_3 => ?_) (fun c_3 => ?_)
        · have tc_3 : ha.toInt = (-1) := v_eq c_3
          refine lv_iconst (v := 1) hx hb dX12_takeSpan_62 (by decide) ?_
          refine lv_goto (tgt := 67) hx hb dX12_takeSpan_63 (by decide) ?_
          exact kl_z (v := 1) hQQ hx hb hr hlocks hS dX12_takeSpan_67 (rfl) (fun PZ9 kZ9 => kZ9 zn eY zd zm zl eE x_1 eWa eO (⟨hP, hD⟩) (g_zn) (g_eY) (g_zm) (g_eE) (by omega) (g_eWa) (g_eO) (by decide) (ts_as rfl (by omega) (by omega) (fun k9 hk9 => hcp k9 (by omega)) (by omega)))
        · have tc_3 : ¬ ha.toInt = (-1) := v_ne c_3
          refine lv_aload_n hx hb dX12_takeSpan_43 rfl (lv_at hl 1 rfl) ?_
          refine lv_aload_n hx hb dX12_takeSpan_44 rfl (lv_at hl 1 rfl) ?_
          refine va_get (D := (dC, dI)) (ci := 12) (v := .ref m1) (C := RX12) (T := TX12) (N := 40) hx hb hts in_X12 hown hK hP 0 rfl rfl 9 (Nat.le_of_ble_eq_true rfl) (hts (.fieldLink RX12 30 "TextMenderModel" "harmA" "[I") (List.mem_of_getElem? (i := 4) rfl)) (fun _ h9 => h9) rfl dX12_takeSpan_45 ?_
          refine lv_iload_n hx hb dX12_takeSpan_48 rfl (lv_at hl 4 rfl) ?_
          refine va_iald hx hb hK hP 9 0 rfl rfl (v_in (by omega)) dX12_takeSpan_49 ?_
          refine lv_topi (fun x_4 ex_4 => ?_)
          have tx_4 : 0 ≤ x_4.toInt ∧ x_4.toInt ≤ 5 := rg_at g_e1 ex_4
          refine lv_aload_n hx hb dX12_takeSpan_50 rfl (lv_at hl 1 rfl) ?_
          refine va_get (D := (dC, dI)) (ci := 12) (v := .ref m2) (C := RX12) (T := TX12) (N := 40) hx hb hts in_X12 hown hK hP 0 rfl rfl 10 (Nat.le_of_ble_eq_true rfl) (hts (.fieldLink RX12 33 "TextMenderModel" "harmB" "[I") (List.mem_of_getElem? (i := 5) rfl)) (fun _ h9 => h9) rfl dX12_takeSpan_51 ?_
          refine lv_iload_n hx hb dX12_takeSpan_54 rfl (lv_at hl 4 rfl) ?_
          refine va_iald hx hb hK hP 10 0 rfl rfl (v_in (by omega)) dX12_takeSpan_55 ?_
          refine lv_topi (fun x_5 ex_5 => ?_)
          have tx_5 : 0 ≤ x_5.toInt ∧ x_5.toInt ≤ 5 := rg_at g_e2 ex_5
          refine kV_i (rest := []) (q0 := 0) (ci := 12) hcf (f_X12_undoes l dC dI cI cS H.size oM mT mS mX mL mB mD m1 m2 mR x1 x2 x3 mH mY mE mW mO y1 y2 y3 y4 mZ zt zp zf zh zr zc zy za zb zs zq zw ze zn zm zl x_1 zd eY eB eL eE eWa eO x_4 x_5 (g_zt) (g_zp) (g_zf) (g_zh) (g_zr) (g_zc) (g_zy) (g_za) (g_zb) (g_zs) (g_zq) (g_zn) (g_zm) (by omega) (g_eY) (g_eB) (g_eL) (g_eE) (g_eWa) (g_eO) (v_rr tx_4 (by decide) (by decide)) (v_rr tx_5 (by decide) (by decide)) (fun j hj => by rw [hcp j (by omega)]; exact hxl _ (by omega)) (hlb)) kc_X12_undoes gX12_takeSpan_X12_undoes rfl rfl rfl ⟨Nat.le_of_ble_eq_true rfl, Nat.le_of_ble_eq_true rfl⟩ kX_t hK hP hD hS hA (posT mk_170 0) (posF mk_170 0) (kC_of mk_170 rfl rfl) (by decide +kernel) rfl rfl rfl hl rfl (Nat.le_of_ble_eq_true rfl) dX12_takeSpan_56 ⟨Nat.le_of_ble_eq_true rfl, Nat.le_of_ble_eq_true rfl⟩ (fun r_6 H locs hB hJ hSn => ?_)
          refine hB _ (fun zn_6 eY_6 zd_6 zm_6 zl_6 eE_6 zk_6 eW_6 eO_6 hPD9 hf6_0 hf6_1 hf6_2 hf6_3 hf6_4 hf6_5 hf6_6 hf6_7 hf6_8 => ?_)
          clear hB
          obtain ⟨hPn, hDn⟩ := kJi (m := mk_170) hJ rfl hPD9.1 hPD9.2 (wn := [(oM, .inr (12, [.ref mT, .int zt, .ref mS, .ref mX, .int zp, .int zf, .ref mL, .ref mB, .ref mD, .ref m1, .ref m2, .int zh, .ref mR, .int zr, .ref x1, .ref x2, .ref x3, .int zc, .ref mH, .int zy, .int za, .int zb, .int zs, .int zq, .int zw, .int ze, .ref mY, .int zn_6, .ref mE, .int zm_6, .int zl_6, .ref mW, .int zk_6, .ref mO, .int zd_6, .ref y1, .ref y2, .ref y3, .ref y4, .ref mZ])), (mY, .inl (cI, 2600, .inl eY_6)), (mB, .inl (cS, 131072, .inl eB)), (mL, .inl (cI, 512, .inl eL)), (mE, .inl (cI, 2600, .inl eE_6)), (mW, .inl (cI, 300, .inl eW_6)), (mO, .inl (cI, 300, .inl eO_6)), (mS, .inl (cI, 21, .inl eS)), (mX, .inl (cI, 6300, .inl eX)), (m1, .inl (cI, 6, .inl e1)), (m2, .inl (cI, 6, .inl e2))]) rfl
          clear hP hD hS hJ hPD9
          have hP := hPn
          have hD := hDn
          have hS := hSn
          clear hPn hDn hSn
          refine lv_if_eq (tgt := 66) hx hb dX12_takeSpan_59 (by decide) (fun c_7 => ?_) (fun c_7 => ?_)
          · have tc_7 : r_6.toInt = 0 := v_eq c_7
            refine lv_iconst (v := 0) hx hb dX12_takeSpan_66 (by decide) ?_
            exact kl_z (v := 0) hQQ hx hb hr hlocks hS dX12_takeSpan_67 (rfl) (fun PZ9 kZ9 => kZ9 zn_6 eY_6 zd_6 zm_6 zl_6 eE_6 zk_6 eW_6 eO_6 (⟨hP, hD⟩) (hf6_0) (hf6_1) (hf6_2) (hf6_3) (hf6_4) (hf6_5) (hf6_6) (by decide) (ts_un hU (to_ur (h := ha.toNatClampNeg) hf6_8 ex_4 ex_5 rfl) (by have c9 := v_clamp (x := ha) (by omega); omega) (by omega) (fun p9 hp9 => hcp p9 (by omega)) (by omega) (by omega)))
          · have tc_7 : ¬ r_6.toInt = 0 := v_ne c_7
            refine lv_iconst (v := 1) hx hb dX12_takeSpan_62 (by decide) ?_
            refine lv_goto (tgt := 67) hx hb dX12_takeSpan_63 (by decide) ?_
            exact kl_z (v := 1) hQQ hx hb hr hlocks hS dX12_takeSpan_67 (rfl) (fun PZ9 kZ9 => kZ9 zn_6 eY_6 zd_6 zm_6 zl_6 eE_6 zk_6 eW_6 eO_6 (⟨hP, hD⟩) (hf6_0) (hf6_1) (hf6_2) (hf6_3) (hf6_4) (hf6_5) (hf6_6) (by decide) (ts_un hU (to_ur (h := ha.toNatClampNeg) hf6_8 ex_4 ex_5 rfl) (by have c9 := v_clamp (x := ha) (by omega); omega) (by omega) (fun p9 hp9 => hcp p9 (by omega)) (by omega) (by omega)))
      · have tc_2 : k.toInt < to_.toInt := v_nle c_2
        refine lv_aload_n hx hb dX12_takeSpan_16 rfl (lv_at hl 1 rfl) ?_
        refine va_get (D := (dC, dI)) (ci := 12) (v := .ref mW) (C := RX12) (T := TX12) (N := 40) hx hb hts in_X12 hown hK hP 0 rfl rfl 31 (Nat.le_of_ble_eq_true rfl) (hts (.fieldLink RX12 64 "TextMenderModel" "work" "[I") (List.mem_of_getElem? (i := 2) rfl)) (fun _ h9 => h9) rfl dX12_takeSpan_17 ?_
        refine lv_iload hx hb dX12_takeSpan_20 (lv_at hl 0 rfl) ?_
        refine lv_iload_n hx hb dX12_takeSpan_22 rfl (lv_at hl 2 rfl) ?_
        refine lv_isub hx hb dX12_takeSpan_23 ?_
        refine lv_topi (fun x_8 ex_8 => ?_)
        have tx_8 : x_8.toInt = k.toInt - fo.toInt := v_subR ex_8 g_k g_fo (by decide) (by decide)
        refine lv_aload_n hx hb dX12_takeSpan_24 rfl (lv_at hl 1 rfl) ?_
        refine va_get (D := (dC, dI)) (ci := 12) (v := .ref mX) (C := RX12) (T := TX12) (N := 40) hx hb hts in_X12 hown hK hP 0 rfl rfl 3 (Nat.le_of_ble_eq_true rfl) (hts (.fieldLink RX12 16 "TextMenderModel" "texts" "[I") (List.mem_of_getElem? (i := 3) rfl)) (fun _ h9 => h9) rfl dX12_takeSpan_25 ?_
        refine lv_iload hx hb dX12_takeSpan_28 (lv_at hl 0 rfl) ?_
        refine va_iald hx hb hK hP 8 0 rfl rfl (v_inR g_k (by decide) (by decide)) dX12_takeSpan_30 ?_
        refine lv_topi (fun x_9 ex_9 => ?_)
        have tx_9 : 0 ≤ x_9.toInt ∧ x_9.toInt ≤ 65535 := rg_at g_eX ex_9
        obtain ⟨f_10, ef_10⟩ : ∃ g : Nat → Int32, g = upd eWa (x_8 : Int32).toNatClampNeg x_9 := ⟨_, rfl⟩
        refine va_iast hx hb hK hP hD hS 5 0 rfl rfl (v_in (by omega)) dX12_takeSpan_31 (kWf (g := f_10) (F := fun f_10 => [(oM, .inr (12, [.ref mT, .int zt, .ref mS, .ref mX, .int zp, .int zf, .ref mL, .ref mB, .ref mD, .ref m1, .ref m2, .int zh, .ref mR, .int zr, .ref x1, .ref x2, .ref x3, .int zc, .ref mH, .int zy, .int za, .int zb, .int zs, .int zq, .int zw, .int ze, .ref mY, .int zn, .ref mE, .int zm, .int zl, .ref mW, .int x_1, .ref mO, .int zd, .ref y1, .ref y2, .ref y3, .ref y4, .ref mZ])), (mY, .inl (cI, 2600, .inl eY)), (mB, .inl (cS, 131072, .inl eB)), (mL, .inl (cI, 512, .inl eL)), (mE, .inl (cI, 2600, .inl eE)), (mW, .inl (cI, 300, .inl f_10)), (mO, .inl (cI, 300, .inl eO)), (mS, .inl (cI, 21, .inl eS)), (mX, .inl (cI, 6300, .inl eX)), (m1, .inl (cI, 6, .inl e1)), (m2, .inl (cI, 6, .inl e2))]) ef_10 rfl (fun H locs hPn hDn hSn => ?_))
        clear hP hD hS
        have hP := hPn
        have hD := hDn
        have hS := hSn
        clear hPn hDn hSn
        have g_f10 : rg 0 65535 f_10 := rg_upd ef_10 g_eWa (by omega)
        obtain ⟨x_11, ex_11⟩ : ∃ y : Int32, y = k + 1 := ⟨_, rfl⟩
        have tx_11 : x_11.toInt = k.toInt + 1 := v_addR (l2 := 1) (h2 := 1) ex_11 g_k (by decide) (by decide) (by decide)
        refine lv_iinc (v := x_11) (lv' := [(4, .int x_11), (0, .ref oM), (1, .int fo), (2, .int to_), (3, .int ha)]) hx hb dX12_takeSpan_32 hl (k := 0) rfl (by rw [ex_11]; rfl) (by decide) rfl (fun ls hl => ?_)
        refine lv_goto (tgt := 10) hx hb dX12_takeSpan_35 (by decide) ?_
        exact ih_10 x_11 f_10 _ _ _ (ms_lt hm_10 (by show ((300 - x_11.toInt : Int)) < 300 - k.toInt; omega) (by show (0 : Int) < 300 - k.toInt; omega)) (by show 0 ≤ x_11.toInt ∧ x_11.toInt ≤ 300; omega) (g_f10) (by show fo.toInt ≤ x_11.toInt ∧ x_11.toInt ≤ to_.toInt; omega) (tsp_s hcp (by omega) ex_9 ef_10 (by omega) (by omega) (by omega)) hP hD hS (lv_sub hl [0, 1, 2, 3, 4] rfl)
  exact LOOP_10 _ fo eW _ _ _ (ms_s _) (g_fo) (g_eW) (by show fo.toInt ≤ fo.toInt ∧ fo.toInt ≤ to_.toInt; omega) (fun j hj => by omega) hP hD hS (lv_sub hl [0, 1, 2, 3, 4] rfl)

end

/-! 5e.a.rows -/
section
set_option maxRecDepth 100000 in
theorem dA308_cX12_parts : kDec cX12_parts [(0, .aload_n 0, 1), (1, .iconst 0, 1), (2, .putfield 85, 3), (5, .aload_n 0, 1), (6, .iconst (-1), 1), (7, .putfield 55, 3), (10, .aload_n 0, 1), (11, .getfield 13, 3), (14, .iconst 0, 1), (15, .iaload, 1), (16, .istore_n 2, 1), (17, .iload_n 2, 1), (18, .iconst 1, 1), (19, .if_icmp .lt 20, 3), (39, .iconst (-1), 1), (40, .ireturn, 1), (22, .iload_n 2, 1), (23, .bipush 60, 2), (25, .if_icmp .gt 14, 3), (28, .iload_n 1, 1), (29, .ifCond .lt 10, 3), (32, .iload_n 1, 1), (33, .sipush 1000, 3), (36, .if_icmp .le 5, 3)] = true := by decide +kernel
theorem dX12_parts_0 : decode cX12_parts 0 = .ok (.aload_n 0, 1) := kDec_at dA308_cX12_parts 0 rfl
theorem dX12_parts_1 : decode cX12_parts 1 = .ok (.iconst 0, 1) := kDec_at dA308_cX12_parts 1 rfl
theorem dX12_parts_2 : decode cX12_parts 2 = .ok (.putfield 85, 3) := kDec_at dA308_cX12_parts 2 rfl
theorem dX12_parts_5 : decode cX12_parts 5 = .ok (.aload_n 0, 1) := kDec_at dA308_cX12_parts 3 rfl
theorem dX12_parts_6 : decode cX12_parts 6 = .ok (.iconst (-1), 1) := kDec_at dA308_cX12_parts 4 rfl
theorem dX12_parts_7 : decode cX12_parts 7 = .ok (.putfield 55, 3) := kDec_at dA308_cX12_parts 5 rfl
theorem dX12_parts_10 : decode cX12_parts 10 = .ok (.aload_n 0, 1) := kDec_at dA308_cX12_parts 6 rfl
theorem dX12_parts_11 : decode cX12_parts 11 = .ok (.getfield 13, 3) := kDec_at dA308_cX12_parts 7 rfl
theorem dX12_parts_14 : decode cX12_parts 14 = .ok (.iconst 0, 1) := kDec_at dA308_cX12_parts 8 rfl
theorem dX12_parts_15 : decode cX12_parts 15 = .ok (.iaload, 1) := kDec_at dA308_cX12_parts 9 rfl
theorem dX12_parts_16 : decode cX12_parts 16 = .ok (.istore_n 2, 1) := kDec_at dA308_cX12_parts 10 rfl
theorem dX12_parts_17 : decode cX12_parts 17 = .ok (.iload_n 2, 1) := kDec_at dA308_cX12_parts 11 rfl
theorem dX12_parts_18 : decode cX12_parts 18 = .ok (.iconst 1, 1) := kDec_at dA308_cX12_parts 12 rfl
theorem dX12_parts_19 : decode cX12_parts 19 = .ok (.if_icmp .lt 20, 3) := kDec_at dA308_cX12_parts 13 rfl
theorem dX12_parts_39 : decode cX12_parts 39 = .ok (.iconst (-1), 1) := kDec_at dA308_cX12_parts 14 rfl
theorem dX12_parts_40 : decode cX12_parts 40 = .ok (.ireturn, 1) := kDec_at dA308_cX12_parts 15 rfl
theorem dX12_parts_22 : decode cX12_parts 22 = .ok (.iload_n 2, 1) := kDec_at dA308_cX12_parts 16 rfl
theorem dX12_parts_23 : decode cX12_parts 23 = .ok (.bipush 60, 2) := kDec_at dA308_cX12_parts 17 rfl
theorem dX12_parts_25 : decode cX12_parts 25 = .ok (.if_icmp .gt 14, 3) := kDec_at dA308_cX12_parts 18 rfl
theorem dX12_parts_28 : decode cX12_parts 28 = .ok (.iload_n 1, 1) := kDec_at dA308_cX12_parts 19 rfl
theorem dX12_parts_29 : decode cX12_parts 29 = .ok (.ifCond .lt 10, 3) := kDec_at dA308_cX12_parts 20 rfl
theorem dX12_parts_32 : decode cX12_parts 32 = .ok (.iload_n 1, 1) := kDec_at dA308_cX12_parts 21 rfl
theorem dX12_parts_33 : decode cX12_parts 33 = .ok (.sipush 1000, 3) := kDec_at dA308_cX12_parts 22 rfl
theorem dX12_parts_36 : decode cX12_parts 36 = .ok (.if_icmp .le 5, 3) := kDec_at dA308_cX12_parts 23 rfl
set_option maxRecDepth 100000 in
theorem dA309_cX12_parts : kDec cX12_parts [(41, .iload_n 2, 1), (42, .iconst 1, 1), (43, .isub, 1), (44, .istore_n 3, 1), (45, .iload_n 3, 1), (46, .ifCond .lt 197, 3), (243, .iconst 0, 1), (244, .istore_n 3, 1), (245, .iconst 0, 1), (246, .istore 4, 2), (248, .iload 4, 2), (250, .iload_n 2, 1), (251, .if_icmp .ge 86, 3), (337, .aload_n 0, 1), (338, .getfield 73, 3), (341, .iconst 0, 1), (342, .iaload, 1), (343, .istore 4, 2), (345, .aload_n 0, 1), (346, .aload_n 0, 1), (347, .getfield 82, 3), (350, .iload_n 3, 1), (351, .invokevirtual 154, 3), (354, .iload 4, 2)] = true := by decide +kernel
theorem dX12_parts_41 : decode cX12_parts 41 = .ok (.iload_n 2, 1) := kDec_at dA309_cX12_parts 0 rfl
theorem dX12_parts_42 : decode cX12_parts 42 = .ok (.iconst 1, 1) := kDec_at dA309_cX12_parts 1 rfl
theorem dX12_parts_43 : decode cX12_parts 43 = .ok (.isub, 1) := kDec_at dA309_cX12_parts 2 rfl
theorem dX12_parts_44 : decode cX12_parts 44 = .ok (.istore_n 3, 1) := kDec_at dA309_cX12_parts 3 rfl
theorem dX12_parts_45 : decode cX12_parts 45 = .ok (.iload_n 3, 1) := kDec_at dA309_cX12_parts 4 rfl
theorem dX12_parts_46 : decode cX12_parts 46 = .ok (.ifCond .lt 197, 3) := kDec_at dA309_cX12_parts 5 rfl
theorem dX12_parts_243 : decode cX12_parts 243 = .ok (.iconst 0, 1) := kDec_at dA309_cX12_parts 6 rfl
theorem dX12_parts_244 : decode cX12_parts 244 = .ok (.istore_n 3, 1) := kDec_at dA309_cX12_parts 7 rfl
theorem dX12_parts_245 : decode cX12_parts 245 = .ok (.iconst 0, 1) := kDec_at dA309_cX12_parts 8 rfl
theorem dX12_parts_246 : decode cX12_parts 246 = .ok (.istore 4, 2) := kDec_at dA309_cX12_parts 9 rfl
theorem dX12_parts_248 : decode cX12_parts 248 = .ok (.iload 4, 2) := kDec_at dA309_cX12_parts 10 rfl
theorem dX12_parts_250 : decode cX12_parts 250 = .ok (.iload_n 2, 1) := kDec_at dA309_cX12_parts 11 rfl
theorem dX12_parts_251 : decode cX12_parts 251 = .ok (.if_icmp .ge 86, 3) := kDec_at dA309_cX12_parts 12 rfl
theorem dX12_parts_337 : decode cX12_parts 337 = .ok (.aload_n 0, 1) := kDec_at dA309_cX12_parts 13 rfl
theorem dX12_parts_338 : decode cX12_parts 338 = .ok (.getfield 73, 3) := kDec_at dA309_cX12_parts 14 rfl
theorem dX12_parts_341 : decode cX12_parts 341 = .ok (.iconst 0, 1) := kDec_at dA309_cX12_parts 15 rfl
theorem dX12_parts_342 : decode cX12_parts 342 = .ok (.iaload, 1) := kDec_at dA309_cX12_parts 16 rfl
theorem dX12_parts_343 : decode cX12_parts 343 = .ok (.istore 4, 2) := kDec_at dA309_cX12_parts 17 rfl
theorem dX12_parts_345 : decode cX12_parts 345 = .ok (.aload_n 0, 1) := kDec_at dA309_cX12_parts 18 rfl
theorem dX12_parts_346 : decode cX12_parts 346 = .ok (.aload_n 0, 1) := kDec_at dA309_cX12_parts 19 rfl
theorem dX12_parts_347 : decode cX12_parts 347 = .ok (.getfield 82, 3) := kDec_at dA309_cX12_parts 20 rfl
theorem dX12_parts_350 : decode cX12_parts 350 = .ok (.iload_n 3, 1) := kDec_at dA309_cX12_parts 21 rfl
theorem dX12_parts_351 : decode cX12_parts 351 = .ok (.invokevirtual 154, 3) := kDec_at dA309_cX12_parts 22 rfl
theorem dX12_parts_354 : decode cX12_parts 354 = .ok (.iload 4, 2) := kDec_at dA309_cX12_parts 23 rfl
set_option maxRecDepth 20000 in
theorem ggX12_parts_X12_become : GoodIn wsX12_parts wsX12_become := goodIn_sub (fun _ h => List.mem_cons_of_mem _ (List.mem_append_right _ (h))) gX12_become_all
set_option maxRecDepth 20000 in
theorem gX12_parts_X12_become : GoodIn wsX12_parts (wsV RX12 154 RX12 yX12_become wsX12_become) := goodIn_app (goodIn_r _ [19, 20, 21, 15] rfl (by decide +kernel)) ggX12_parts_X12_become
set_option maxRecDepth 100000 in
theorem dA310_cX12_parts : kDec cX12_parts [(356, .ireturn, 1), (254, .aload_n 0, 1), (255, .iload 4, 2), (257, .aload_n 0, 1), (258, .getfield 76, 3), (261, .iload 4, 2), (263, .iaload, 1), (264, .aload_n 0, 1), (265, .getfield 79, 3), (268, .iload 4, 2), (270, .iaload, 1), (271, .invokevirtual 199, 3), (274, .pop, 1), (275, .iconst 0, 1), (276, .istore 5, 2), (278, .iload 5, 2), (280, .aload_n 0, 1), (281, .getfield 135, 3), (284, .if_icmp .ge 25, 3), (309, .iload_n 3, 1), (310, .aload_n 0, 1), (311, .getfield 135, 3), (314, .iadd, 1), (315, .istore_n 3, 1)] = true := by decide +kernel
theorem dX12_parts_356 : decode cX12_parts 356 = .ok (.ireturn, 1) := kDec_at dA310_cX12_parts 0 rfl
theorem dX12_parts_254 : decode cX12_parts 254 = .ok (.aload_n 0, 1) := kDec_at dA310_cX12_parts 1 rfl
theorem dX12_parts_255 : decode cX12_parts 255 = .ok (.iload 4, 2) := kDec_at dA310_cX12_parts 2 rfl
theorem dX12_parts_257 : decode cX12_parts 257 = .ok (.aload_n 0, 1) := kDec_at dA310_cX12_parts 3 rfl
theorem dX12_parts_258 : decode cX12_parts 258 = .ok (.getfield 76, 3) := kDec_at dA310_cX12_parts 4 rfl
theorem dX12_parts_261 : decode cX12_parts 261 = .ok (.iload 4, 2) := kDec_at dA310_cX12_parts 5 rfl
theorem dX12_parts_263 : decode cX12_parts 263 = .ok (.iaload, 1) := kDec_at dA310_cX12_parts 6 rfl
theorem dX12_parts_264 : decode cX12_parts 264 = .ok (.aload_n 0, 1) := kDec_at dA310_cX12_parts 7 rfl
theorem dX12_parts_265 : decode cX12_parts 265 = .ok (.getfield 79, 3) := kDec_at dA310_cX12_parts 8 rfl
theorem dX12_parts_268 : decode cX12_parts 268 = .ok (.iload 4, 2) := kDec_at dA310_cX12_parts 9 rfl
theorem dX12_parts_270 : decode cX12_parts 270 = .ok (.iaload, 1) := kDec_at dA310_cX12_parts 10 rfl
theorem dX12_parts_271 : decode cX12_parts 271 = .ok (.invokevirtual 199, 3) := kDec_at dA310_cX12_parts 11 rfl
theorem dX12_parts_274 : decode cX12_parts 274 = .ok (.pop, 1) := kDec_at dA310_cX12_parts 12 rfl
theorem dX12_parts_275 : decode cX12_parts 275 = .ok (.iconst 0, 1) := kDec_at dA310_cX12_parts 13 rfl
theorem dX12_parts_276 : decode cX12_parts 276 = .ok (.istore 5, 2) := kDec_at dA310_cX12_parts 14 rfl
theorem dX12_parts_278 : decode cX12_parts 278 = .ok (.iload 5, 2) := kDec_at dA310_cX12_parts 15 rfl
theorem dX12_parts_280 : decode cX12_parts 280 = .ok (.aload_n 0, 1) := kDec_at dA310_cX12_parts 16 rfl
theorem dX12_parts_281 : decode cX12_parts 281 = .ok (.getfield 135, 3) := kDec_at dA310_cX12_parts 17 rfl
theorem dX12_parts_284 : decode cX12_parts 284 = .ok (.if_icmp .ge 25, 3) := kDec_at dA310_cX12_parts 18 rfl
theorem dX12_parts_309 : decode cX12_parts 309 = .ok (.iload_n 3, 1) := kDec_at dA310_cX12_parts 19 rfl
theorem dX12_parts_310 : decode cX12_parts 310 = .ok (.aload_n 0, 1) := kDec_at dA310_cX12_parts 20 rfl
theorem dX12_parts_311 : decode cX12_parts 311 = .ok (.getfield 135, 3) := kDec_at dA310_cX12_parts 21 rfl
theorem dX12_parts_314 : decode cX12_parts 314 = .ok (.iadd, 1) := kDec_at dA310_cX12_parts 22 rfl
theorem dX12_parts_315 : decode cX12_parts 315 = .ok (.istore_n 3, 1) := kDec_at dA310_cX12_parts 23 rfl
set_option maxRecDepth 20000 in
theorem gX12_takeSpan_all : wsX12_takeSpan.all goodWord = true := by
  unfold wsX12_takeSpan
  exact good_c (by decide +kernel) (good_a (good_a ((by decide +kernel)) gX12_clsall) gX12_undoes_all)
set_option maxRecDepth 20000 in
theorem ggX12_parts_X12_takeSpan : GoodIn wsX12_parts wsX12_takeSpan := goodIn_sub (fun _ h => List.mem_cons_of_mem _ (List.mem_append_left _ (List.mem_append_left _ (List.mem_append_right _ (h))))) gX12_takeSpan_all
set_option maxRecDepth 20000 in
theorem gX12_parts_X12_takeSpan : GoodIn wsX12_parts (wsV RX12 199 RX12 yX12_takeSpan wsX12_takeSpan) := goodIn_app (goodIn_r _ [12, 13, 14, 15] rfl (by decide +kernel)) ggX12_parts_X12_takeSpan
set_option maxRecDepth 100000 in
theorem dA311_cX12_parts : kDec cX12_parts [(316, .iload_n 3, 1), (317, .sipush 300, 3), (320, .if_icmp .le 5, 3), (325, .aload_n 0, 1), (326, .getfield 76, 3), (329, .iload 4, 2), (331, .iaload, 1), (332, .istore 4, 2), (334, .goto (-86), 3), (323, .iconst (-1), 1), (324, .ireturn, 1), (287, .aload_n 0, 1), (288, .getfield 82, 3), (291, .iload_n 3, 1), (292, .iload 5, 2), (294, .iadd, 1), (295, .aload_n 0, 1), (296, .getfield 64, 3), (299, .iload 5, 2), (301, .iaload, 1), (302, .iastore, 1), (303, .iinc 5 1, 3), (306, .goto (-28), 3), (49, .aload_n 0, 1)] = true := by decide +kernel
theorem dX12_parts_316 : decode cX12_parts 316 = .ok (.iload_n 3, 1) := kDec_at dA311_cX12_parts 0 rfl
theorem dX12_parts_317 : decode cX12_parts 317 = .ok (.sipush 300, 3) := kDec_at dA311_cX12_parts 1 rfl
theorem dX12_parts_320 : decode cX12_parts 320 = .ok (.if_icmp .le 5, 3) := kDec_at dA311_cX12_parts 2 rfl
theorem dX12_parts_325 : decode cX12_parts 325 = .ok (.aload_n 0, 1) := kDec_at dA311_cX12_parts 3 rfl
theorem dX12_parts_326 : decode cX12_parts 326 = .ok (.getfield 76, 3) := kDec_at dA311_cX12_parts 4 rfl
theorem dX12_parts_329 : decode cX12_parts 329 = .ok (.iload 4, 2) := kDec_at dA311_cX12_parts 5 rfl
theorem dX12_parts_331 : decode cX12_parts 331 = .ok (.iaload, 1) := kDec_at dA311_cX12_parts 6 rfl
theorem dX12_parts_332 : decode cX12_parts 332 = .ok (.istore 4, 2) := kDec_at dA311_cX12_parts 7 rfl
theorem dX12_parts_334 : decode cX12_parts 334 = .ok (.goto (-86), 3) := kDec_at dA311_cX12_parts 8 rfl
theorem dX12_parts_323 : decode cX12_parts 323 = .ok (.iconst (-1), 1) := kDec_at dA311_cX12_parts 9 rfl
theorem dX12_parts_324 : decode cX12_parts 324 = .ok (.ireturn, 1) := kDec_at dA311_cX12_parts 10 rfl
theorem dX12_parts_287 : decode cX12_parts 287 = .ok (.aload_n 0, 1) := kDec_at dA311_cX12_parts 11 rfl
theorem dX12_parts_288 : decode cX12_parts 288 = .ok (.getfield 82, 3) := kDec_at dA311_cX12_parts 12 rfl
theorem dX12_parts_291 : decode cX12_parts 291 = .ok (.iload_n 3, 1) := kDec_at dA311_cX12_parts 13 rfl
theorem dX12_parts_292 : decode cX12_parts 292 = .ok (.iload 5, 2) := kDec_at dA311_cX12_parts 14 rfl
theorem dX12_parts_294 : decode cX12_parts 294 = .ok (.iadd, 1) := kDec_at dA311_cX12_parts 15 rfl
theorem dX12_parts_295 : decode cX12_parts 295 = .ok (.aload_n 0, 1) := kDec_at dA311_cX12_parts 16 rfl
theorem dX12_parts_296 : decode cX12_parts 296 = .ok (.getfield 64, 3) := kDec_at dA311_cX12_parts 17 rfl
theorem dX12_parts_299 : decode cX12_parts 299 = .ok (.iload 5, 2) := kDec_at dA311_cX12_parts 18 rfl
theorem dX12_parts_301 : decode cX12_parts 301 = .ok (.iaload, 1) := kDec_at dA311_cX12_parts 19 rfl
theorem dX12_parts_302 : decode cX12_parts 302 = .ok (.iastore, 1) := kDec_at dA311_cX12_parts 20 rfl
theorem dX12_parts_303 : decode cX12_parts 303 = .ok (.iinc 5 1, 3) := kDec_at dA311_cX12_parts 21 rfl
theorem dX12_parts_306 : decode cX12_parts 306 = .ok (.goto (-28), 3) := kDec_at dA311_cX12_parts 22 rfl
theorem dX12_parts_49 : decode cX12_parts 49 = .ok (.aload_n 0, 1) := kDec_at dA311_cX12_parts 23 rfl
set_option maxRecDepth 100000 in
theorem dA312_cX12_parts : kDec cX12_parts [(50, .getfield 73, 3), (53, .iload_n 3, 1), (54, .iconst 0, 1), (55, .iastore, 1), (56, .iload_n 2, 1), (57, .istore 4, 2), (59, .iload 4, 2), (61, .iload_n 3, 1), (62, .if_icmp .le 175, 3), (237, .iinc 3 (-1), 3), (240, .goto (-195), 3), (65, .iconst (-1), 1), (66, .istore 5, 2), (68, .iload 5, 2), (70, .aload_n 0, 1), (71, .getfield 161, 3), (74, .if_icmp .ge 157, 3), (231, .iinc 4 (-1), 3), (234, .goto (-175), 3), (77, .aload_n 0, 1), (78, .iload_n 3, 1), (79, .iload 4, 2), (81, .iload 5, 2), (83, .invokevirtual 199, 3)] = true := by decide +kernel
theorem dX12_parts_50 : decode cX12_parts 50 = .ok (.getfield 73, 3) := kDec_at dA312_cX12_parts 0 rfl
theorem dX12_parts_53 : decode cX12_parts 53 = .ok (.iload_n 3, 1) := kDec_at dA312_cX12_parts 1 rfl
theorem dX12_parts_54 : decode cX12_parts 54 = .ok (.iconst 0, 1) := kDec_at dA312_cX12_parts 2 rfl
theorem dX12_parts_55 : decode cX12_parts 55 = .ok (.iastore, 1) := kDec_at dA312_cX12_parts 3 rfl
theorem dX12_parts_56 : decode cX12_parts 56 = .ok (.iload_n 2, 1) := kDec_at dA312_cX12_parts 4 rfl
theorem dX12_parts_57 : decode cX12_parts 57 = .ok (.istore 4, 2) := kDec_at dA312_cX12_parts 5 rfl
theorem dX12_parts_59 : decode cX12_parts 59 = .ok (.iload 4, 2) := kDec_at dA312_cX12_parts 6 rfl
theorem dX12_parts_61 : decode cX12_parts 61 = .ok (.iload_n 3, 1) := kDec_at dA312_cX12_parts 7 rfl
theorem dX12_parts_62 : decode cX12_parts 62 = .ok (.if_icmp .le 175, 3) := kDec_at dA312_cX12_parts 8 rfl
theorem dX12_parts_237 : decode cX12_parts 237 = .ok (.iinc 3 (-1), 3) := kDec_at dA312_cX12_parts 9 rfl
theorem dX12_parts_240 : decode cX12_parts 240 = .ok (.goto (-195), 3) := kDec_at dA312_cX12_parts 10 rfl
theorem dX12_parts_65 : decode cX12_parts 65 = .ok (.iconst (-1), 1) := kDec_at dA312_cX12_parts 11 rfl
theorem dX12_parts_66 : decode cX12_parts 66 = .ok (.istore 5, 2) := kDec_at dA312_cX12_parts 12 rfl
theorem dX12_parts_68 : decode cX12_parts 68 = .ok (.iload 5, 2) := kDec_at dA312_cX12_parts 13 rfl
theorem dX12_parts_70 : decode cX12_parts 70 = .ok (.aload_n 0, 1) := kDec_at dA312_cX12_parts 14 rfl
theorem dX12_parts_71 : decode cX12_parts 71 = .ok (.getfield 161, 3) := kDec_at dA312_cX12_parts 15 rfl
theorem dX12_parts_74 : decode cX12_parts 74 = .ok (.if_icmp .ge 157, 3) := kDec_at dA312_cX12_parts 16 rfl
theorem dX12_parts_231 : decode cX12_parts 231 = .ok (.iinc 4 (-1), 3) := kDec_at dA312_cX12_parts 17 rfl
theorem dX12_parts_234 : decode cX12_parts 234 = .ok (.goto (-175), 3) := kDec_at dA312_cX12_parts 18 rfl
theorem dX12_parts_77 : decode cX12_parts 77 = .ok (.aload_n 0, 1) := kDec_at dA312_cX12_parts 19 rfl
theorem dX12_parts_78 : decode cX12_parts 78 = .ok (.iload_n 3, 1) := kDec_at dA312_cX12_parts 20 rfl
theorem dX12_parts_79 : decode cX12_parts 79 = .ok (.iload 4, 2) := kDec_at dA312_cX12_parts 21 rfl
theorem dX12_parts_81 : decode cX12_parts 81 = .ok (.iload 5, 2) := kDec_at dA312_cX12_parts 22 rfl
theorem dX12_parts_83 : decode cX12_parts 83 = .ok (.invokevirtual 199, 3) := kDec_at dA312_cX12_parts 23 rfl
set_option maxRecDepth 100000 in
theorem dA313_cX12_parts : kDec cX12_parts [(86, .ifCond .ne 6, 3), (92, .aload_n 0, 1), (93, .aload_n 0, 1), (94, .getfield 64, 3), (97, .iconst 0, 1), (98, .aload_n 0, 1), (99, .getfield 135, 3), (102, .invokevirtual 189, 3), (105, .iload 4, 2), (107, .iload_n 2, 1), (108, .if_icmp .ge 15, 3), (123, .iconst 0, 1), (124, .iadd, 1), (125, .istore 6, 2), (127, .iconst 1, 1), (128, .iload 4, 2), (130, .iload_n 2, 1), (131, .if_icmp .ge 13, 3), (144, .iconst 0, 1), (145, .iadd, 1), (146, .istore 7, 2), (148, .aload_n 0, 1), (149, .getfield 73, 3), (152, .iload_n 3, 1)] = true := by decide +kernel
theorem dX12_parts_86 : decode cX12_parts 86 = .ok (.ifCond .ne 6, 3) := kDec_at dA313_cX12_parts 0 rfl
theorem dX12_parts_92 : decode cX12_parts 92 = .ok (.aload_n 0, 1) := kDec_at dA313_cX12_parts 1 rfl
theorem dX12_parts_93 : decode cX12_parts 93 = .ok (.aload_n 0, 1) := kDec_at dA313_cX12_parts 2 rfl
theorem dX12_parts_94 : decode cX12_parts 94 = .ok (.getfield 64, 3) := kDec_at dA313_cX12_parts 3 rfl
theorem dX12_parts_97 : decode cX12_parts 97 = .ok (.iconst 0, 1) := kDec_at dA313_cX12_parts 4 rfl
theorem dX12_parts_98 : decode cX12_parts 98 = .ok (.aload_n 0, 1) := kDec_at dA313_cX12_parts 5 rfl
theorem dX12_parts_99 : decode cX12_parts 99 = .ok (.getfield 135, 3) := kDec_at dA313_cX12_parts 6 rfl
theorem dX12_parts_102 : decode cX12_parts 102 = .ok (.invokevirtual 189, 3) := kDec_at dA313_cX12_parts 7 rfl
theorem dX12_parts_105 : decode cX12_parts 105 = .ok (.iload 4, 2) := kDec_at dA313_cX12_parts 8 rfl
theorem dX12_parts_107 : decode cX12_parts 107 = .ok (.iload_n 2, 1) := kDec_at dA313_cX12_parts 9 rfl
theorem dX12_parts_108 : decode cX12_parts 108 = .ok (.if_icmp .ge 15, 3) := kDec_at dA313_cX12_parts 10 rfl
theorem dX12_parts_123 : decode cX12_parts 123 = .ok (.iconst 0, 1) := kDec_at dA313_cX12_parts 11 rfl
theorem dX12_parts_124 : decode cX12_parts 124 = .ok (.iadd, 1) := kDec_at dA313_cX12_parts 12 rfl
theorem dX12_parts_125 : decode cX12_parts 125 = .ok (.istore 6, 2) := kDec_at dA313_cX12_parts 13 rfl
theorem dX12_parts_127 : decode cX12_parts 127 = .ok (.iconst 1, 1) := kDec_at dA313_cX12_parts 14 rfl
theorem dX12_parts_128 : decode cX12_parts 128 = .ok (.iload 4, 2) := kDec_at dA313_cX12_parts 15 rfl
theorem dX12_parts_130 : decode cX12_parts 130 = .ok (.iload_n 2, 1) := kDec_at dA313_cX12_parts 16 rfl
theorem dX12_parts_131 : decode cX12_parts 131 = .ok (.if_icmp .ge 13, 3) := kDec_at dA313_cX12_parts 17 rfl
theorem dX12_parts_144 : decode cX12_parts 144 = .ok (.iconst 0, 1) := kDec_at dA313_cX12_parts 18 rfl
theorem dX12_parts_145 : decode cX12_parts 145 = .ok (.iadd, 1) := kDec_at dA313_cX12_parts 19 rfl
theorem dX12_parts_146 : decode cX12_parts 146 = .ok (.istore 7, 2) := kDec_at dA313_cX12_parts 20 rfl
theorem dX12_parts_148 : decode cX12_parts 148 = .ok (.aload_n 0, 1) := kDec_at dA313_cX12_parts 21 rfl
theorem dX12_parts_149 : decode cX12_parts 149 = .ok (.getfield 73, 3) := kDec_at dA313_cX12_parts 22 rfl
theorem dX12_parts_152 : decode cX12_parts 152 = .ok (.iload_n 3, 1) := kDec_at dA313_cX12_parts 23 rfl
set_option maxRecDepth 20000 in
theorem ggX12_parts_X12_costOf_ : GoodIn wsX12_parts wsX12_costOf_ := goodIn_sub (fun _ h => List.mem_cons_of_mem _ (List.mem_append_left _ (List.mem_append_right _ (h)))) gX12_costOf__all
set_option maxRecDepth 20000 in
theorem gX12_parts_X12_costOf_ : GoodIn wsX12_parts (wsV RX12 189 RX12 yX12_costOf_ wsX12_costOf_) := goodIn_app (goodIn_r _ [16, 17, 18, 15] rfl (by decide +kernel)) ggX12_parts_X12_costOf_
set_option maxRecDepth 100000 in
theorem dA314_cX12_parts : kDec cX12_parts [(153, .iaload, 1), (154, .ifCond .le 39, 3), (193, .aload_n 0, 1), (194, .getfield 70, 3), (197, .iload_n 3, 1), (198, .iload 6, 2), (200, .iastore, 1), (201, .aload_n 0, 1), (202, .getfield 73, 3), (205, .iload_n 3, 1), (206, .iload 7, 2), (208, .iastore, 1), (209, .aload_n 0, 1), (210, .getfield 76, 3), (213, .iload_n 3, 1), (214, .iload 4, 2), (216, .iastore, 1), (217, .aload_n 0, 1), (218, .getfield 79, 3), (221, .iload_n 3, 1), (222, .iload 5, 2), (224, .iastore, 1), (225, .iinc 5 1, 3), (228, .goto (-160), 3)] = true := by decide +kernel
theorem dX12_parts_153 : decode cX12_parts 153 = .ok (.iaload, 1) := kDec_at dA314_cX12_parts 0 rfl
theorem dX12_parts_154 : decode cX12_parts 154 = .ok (.ifCond .le 39, 3) := kDec_at dA314_cX12_parts 1 rfl
theorem dX12_parts_193 : decode cX12_parts 193 = .ok (.aload_n 0, 1) := kDec_at dA314_cX12_parts 2 rfl
theorem dX12_parts_194 : decode cX12_parts 194 = .ok (.getfield 70, 3) := kDec_at dA314_cX12_parts 3 rfl
theorem dX12_parts_197 : decode cX12_parts 197 = .ok (.iload_n 3, 1) := kDec_at dA314_cX12_parts 4 rfl
theorem dX12_parts_198 : decode cX12_parts 198 = .ok (.iload 6, 2) := kDec_at dA314_cX12_parts 5 rfl
theorem dX12_parts_200 : decode cX12_parts 200 = .ok (.iastore, 1) := kDec_at dA314_cX12_parts 6 rfl
theorem dX12_parts_201 : decode cX12_parts 201 = .ok (.aload_n 0, 1) := kDec_at dA314_cX12_parts 7 rfl
theorem dX12_parts_202 : decode cX12_parts 202 = .ok (.getfield 73, 3) := kDec_at dA314_cX12_parts 8 rfl
theorem dX12_parts_205 : decode cX12_parts 205 = .ok (.iload_n 3, 1) := kDec_at dA314_cX12_parts 9 rfl
theorem dX12_parts_206 : decode cX12_parts 206 = .ok (.iload 7, 2) := kDec_at dA314_cX12_parts 10 rfl
theorem dX12_parts_208 : decode cX12_parts 208 = .ok (.iastore, 1) := kDec_at dA314_cX12_parts 11 rfl
theorem dX12_parts_209 : decode cX12_parts 209 = .ok (.aload_n 0, 1) := kDec_at dA314_cX12_parts 12 rfl
theorem dX12_parts_210 : decode cX12_parts 210 = .ok (.getfield 76, 3) := kDec_at dA314_cX12_parts 13 rfl
theorem dX12_parts_213 : decode cX12_parts 213 = .ok (.iload_n 3, 1) := kDec_at dA314_cX12_parts 14 rfl
theorem dX12_parts_214 : decode cX12_parts 214 = .ok (.iload 4, 2) := kDec_at dA314_cX12_parts 15 rfl
theorem dX12_parts_216 : decode cX12_parts 216 = .ok (.iastore, 1) := kDec_at dA314_cX12_parts 16 rfl
theorem dX12_parts_217 : decode cX12_parts 217 = .ok (.aload_n 0, 1) := kDec_at dA314_cX12_parts 17 rfl
theorem dX12_parts_218 : decode cX12_parts 218 = .ok (.getfield 79, 3) := kDec_at dA314_cX12_parts 18 rfl
theorem dX12_parts_221 : decode cX12_parts 221 = .ok (.iload_n 3, 1) := kDec_at dA314_cX12_parts 19 rfl
theorem dX12_parts_222 : decode cX12_parts 222 = .ok (.iload 5, 2) := kDec_at dA314_cX12_parts 20 rfl
theorem dX12_parts_224 : decode cX12_parts 224 = .ok (.iastore, 1) := kDec_at dA314_cX12_parts 21 rfl
theorem dX12_parts_225 : decode cX12_parts 225 = .ok (.iinc 5 1, 3) := kDec_at dA314_cX12_parts 22 rfl
theorem dX12_parts_228 : decode cX12_parts 228 = .ok (.goto (-160), 3) := kDec_at dA314_cX12_parts 23 rfl
set_option maxRecDepth 100000 in
theorem dA315_cX12_parts : kDec cX12_parts [(157, .iload 6, 2), (159, .aload_n 0, 1), (160, .getfield 70, 3), (163, .iload_n 3, 1), (164, .iaload, 1), (165, .if_icmp .gt 60, 3), (168, .iload 6, 2), (170, .aload_n 0, 1), (171, .getfield 70, 3), (174, .iload_n 3, 1), (175, .iaload, 1), (176, .if_icmp .ne 17, 3), (179, .iload 7, 2), (181, .aload_n 0, 1), (182, .getfield 73, 3), (185, .iload_n 3, 1), (186, .iaload, 1), (187, .if_icmp .lt 6, 3), (190, .goto 35, 3), (111, .iload_n 1, 1), (112, .aload_n 0, 1), (113, .getfield 70, 3), (116, .iload 4, 2), (118, .iaload, 1)] = true := by decide +kernel
theorem dX12_parts_157 : decode cX12_parts 157 = .ok (.iload 6, 2) := kDec_at dA315_cX12_parts 0 rfl
theorem dX12_parts_159 : decode cX12_parts 159 = .ok (.aload_n 0, 1) := kDec_at dA315_cX12_parts 1 rfl
theorem dX12_parts_160 : decode cX12_parts 160 = .ok (.getfield 70, 3) := kDec_at dA315_cX12_parts 2 rfl
theorem dX12_parts_163 : decode cX12_parts 163 = .ok (.iload_n 3, 1) := kDec_at dA315_cX12_parts 3 rfl
theorem dX12_parts_164 : decode cX12_parts 164 = .ok (.iaload, 1) := kDec_at dA315_cX12_parts 4 rfl
theorem dX12_parts_165 : decode cX12_parts 165 = .ok (.if_icmp .gt 60, 3) := kDec_at dA315_cX12_parts 5 rfl
theorem dX12_parts_168 : decode cX12_parts 168 = .ok (.iload 6, 2) := kDec_at dA315_cX12_parts 6 rfl
theorem dX12_parts_170 : decode cX12_parts 170 = .ok (.aload_n 0, 1) := kDec_at dA315_cX12_parts 7 rfl
theorem dX12_parts_171 : decode cX12_parts 171 = .ok (.getfield 70, 3) := kDec_at dA315_cX12_parts 8 rfl
theorem dX12_parts_174 : decode cX12_parts 174 = .ok (.iload_n 3, 1) := kDec_at dA315_cX12_parts 9 rfl
theorem dX12_parts_175 : decode cX12_parts 175 = .ok (.iaload, 1) := kDec_at dA315_cX12_parts 10 rfl
theorem dX12_parts_176 : decode cX12_parts 176 = .ok (.if_icmp .ne 17, 3) := kDec_at dA315_cX12_parts 11 rfl
theorem dX12_parts_179 : decode cX12_parts 179 = .ok (.iload 7, 2) := kDec_at dA315_cX12_parts 12 rfl
theorem dX12_parts_181 : decode cX12_parts 181 = .ok (.aload_n 0, 1) := kDec_at dA315_cX12_parts 13 rfl
theorem dX12_parts_182 : decode cX12_parts 182 = .ok (.getfield 73, 3) := kDec_at dA315_cX12_parts 14 rfl
theorem dX12_parts_185 : decode cX12_parts 185 = .ok (.iload_n 3, 1) := kDec_at dA315_cX12_parts 15 rfl
theorem dX12_parts_186 : decode cX12_parts 186 = .ok (.iaload, 1) := kDec_at dA315_cX12_parts 16 rfl
theorem dX12_parts_187 : decode cX12_parts 187 = .ok (.if_icmp .lt 6, 3) := kDec_at dA315_cX12_parts 17 rfl
theorem dX12_parts_190 : decode cX12_parts 190 = .ok (.goto 35, 3) := kDec_at dA315_cX12_parts 18 rfl
theorem dX12_parts_111 : decode cX12_parts 111 = .ok (.iload_n 1, 1) := kDec_at dA315_cX12_parts 19 rfl
theorem dX12_parts_112 : decode cX12_parts 112 = .ok (.aload_n 0, 1) := kDec_at dA315_cX12_parts 20 rfl
theorem dX12_parts_113 : decode cX12_parts 113 = .ok (.getfield 70, 3) := kDec_at dA315_cX12_parts 21 rfl
theorem dX12_parts_116 : decode cX12_parts 116 = .ok (.iload 4, 2) := kDec_at dA315_cX12_parts 22 rfl
theorem dX12_parts_118 : decode cX12_parts 118 = .ok (.iaload, 1) := kDec_at dA315_cX12_parts 23 rfl
set_option maxRecDepth 100000 in
theorem dA316_cX12_parts : kDec cX12_parts [(119, .iadd, 1), (120, .goto 4, 3), (134, .aload_n 0, 1), (135, .getfield 73, 3), (138, .iload 4, 2), (140, .iaload, 1), (141, .goto 4, 3), (89, .goto 136, 3)] = true := by decide +kernel
theorem dX12_parts_119 : decode cX12_parts 119 = .ok (.iadd, 1) := kDec_at dA316_cX12_parts 0 rfl
theorem dX12_parts_120 : decode cX12_parts 120 = .ok (.goto 4, 3) := kDec_at dA316_cX12_parts 1 rfl
theorem dX12_parts_134 : decode cX12_parts 134 = .ok (.aload_n 0, 1) := kDec_at dA316_cX12_parts 2 rfl
theorem dX12_parts_135 : decode cX12_parts 135 = .ok (.getfield 73, 3) := kDec_at dA316_cX12_parts 3 rfl
theorem dX12_parts_138 : decode cX12_parts 138 = .ok (.iload 4, 2) := kDec_at dA316_cX12_parts 4 rfl
theorem dX12_parts_140 : decode cX12_parts 140 = .ok (.iaload, 1) := kDec_at dA316_cX12_parts 5 rfl
theorem dX12_parts_141 : decode cX12_parts 141 = .ok (.goto 4, 3) := kDec_at dA316_cX12_parts 6 rfl
theorem dX12_parts_89 : decode cX12_parts 89 = .ok (.goto 136, 3) := kDec_at dA316_cX12_parts 7 rfl

end

/-! 5e.parts -/
section
set_option maxHeartbeats 40000000 in
set_option maxRecDepth 100000 in
theorem f_X12_parts (l : Launch) (dC : Nat → ClassId) (dI : Nat → Nat → Nat) (cI cS : ClassId) (sz : Nat) (oM : Nat) (mT : Nat) (mS : Nat) (mX : Nat) (mL : Nat) (mB : Nat) (mD : Nat) (m1 : Nat) (m2 : Nat) (mR : Nat) (x1 : Nat) (x2 : Nat) (x3 : Nat) (mH : Nat) (mY : Nat) (mE : Nat) (mW : Nat) (mO : Nat) (y1 : Nat) (y2 : Nat) (y3 : Nat) (y4 : Nat) (mZ : Nat) (zt : Int32) (zp : Int32) (zf : Int32) (zh : Int32) (zr : Int32) (zc : Int32) (zy : Int32) (za : Int32) (zb : Int32) (zs : Int32) (zq : Int32) (zw : Int32) (ze : Int32) (zn : Int32) (zm : Int32) (zl : Int32) (zk : Int32) (zd : Int32) (eY : Nat → Int32) (eB : Nat → Int32) (eL : Nat → Int32) (eE : Nat → Int32) (eW : Nat → Int32) (eO : Nat → Int32) (eS : Nat → Int32) (eX : Nat → Int32) (e1 : Nat → Int32) (e2 : Nat → Int32) (er1 : Nat → Int32) (er2 : Nat → Int32) (er3 : Nat → Int32) (er4 : Nat → Int32) (ec1 : Nat → Int32) (ec2 : Nat → Int32) (ec3 : Nat → Int32) (eZ : Nat → Int32) (pe : Int32) (g_zt : 0 ≤ zt.toInt ∧ zt.toInt ≤ 900) (g_zp : 0 ≤ zp.toInt ∧ zp.toInt ≤ 20) (g_zf : 0 ≤ zf.toInt ∧ zf.toInt ≤ 19) (g_zh : 0 ≤ zh.toInt ∧ zh.toInt ≤ 6) (g_zr : 0 ≤ zr.toInt ∧ zr.toInt ≤ 258) (g_zc : 0 ≤ zc.toInt ∧ zc.toInt ≤ 300) (g_zy : 0 ≤ zy.toInt ∧ zy.toInt ≤ 65536) (g_za : 0 ≤ za.toInt ∧ za.toInt ≤ 5) (g_zb : 0 ≤ zb.toInt ∧ zb.toInt ≤ 5) (g_zs : 0 ≤ zs.toInt ∧ zs.toInt ≤ 2000000) (g_zq : -1 ≤ zq.toInt ∧ zq.toInt ≤ 2000000) (g_zn : 0 ≤ zn.toInt ∧ zn.toInt ≤ 2600) (g_zm : 0 ≤ zm.toInt ∧ zm.toInt ≤ 2600) (g_zk : 0 ≤ zk.toInt ∧ zk.toInt ≤ 300) (g_eY : rg 0 255 eY) (g_eB : rg (-1) 255 eB) (g_eL : rg (-1) 65535 eL) (g_eE : rg 0 65535 eE) (g_eW : rg 0 65535 eW) (g_eO : rg 0 65535 eO) (g_eS : rg 0 300 eS) (g_eX : rg 0 65535 eX) (g_e1 : rg 0 5 e1) (g_e2 : rg 0 5 e2) (g_eZ : rg 0 65535 eZ) (hxl : ∀ j : Nat, (j : Int) < (eS 0).toInt → isLz (eX j)) (hlb : LBr eL eB) (hlz : LZ eL) (hV : rg 0 200 ec3) (hzs : zs.toInt ≤ 1000000) : kMi l yX12_parts wsX12_parts ({ frames := 6, cells := 0, slots := 0, locals := 144 } : Room) [.ref oM, .int pe] sz (dC, dI) vwCl [(cI, .int), (cS, .short)] [(oM, .inr (12, [.ref mT, .int zt, .ref mS, .ref mX, .int zp, .int zf, .ref mL, .ref mB, .ref mD, .ref m1, .ref m2, .int zh, .ref mR, .int zr, .ref x1, .ref x2, .ref x3, .int zc, .ref mH, .int zy, .int za, .int zb, .int zs, .int zq, .int zw, .int ze, .ref mY, .int zn, .ref mE, .int zm, .int zl, .ref mW, .int zk, .ref mO, .int zd, .ref y1, .ref y2, .ref y3, .ref y4, .ref mZ])), (mY, .inl (cI, 2600, .inl eY)), (mB, .inl (cS, 131072, .inl eB)), (mL, .inl (cI, 512, .inl eL)), (mE, .inl (cI, 2600, .inl eE)), (mW, .inl (cI, 300, .inl eW)), (mO, .inl (cI, 300, .inl eO)), (mS, .inl (cI, 21, .inl eS)), (mX, .inl (cI, 6300, .inl eX)), (m1, .inl (cI, 6, .inl e1)), (m2, .inl (cI, 6, .inl e2)), (y1, .inl (cI, 61, .inl er1)), (y2, .inl (cI, 61, .inl er2)), (y3, .inl (cI, 61, .inl er3)), (y4, .inl (cI, 61, .inl er4)), (x1, .inl (cI, 300, .inl ec1)), (x2, .inl (cI, 300, .inl ec2)), (x3, .inl (cI, 300, .inl ec3)), (mZ, .inl (cI, 600, .inl eZ))] (fun _ => True) 0 0 (fun (A : Nat → Prop) (r : Int32) (hh9 : Heap) => ∀ PZ9 : Prop, (∀ (ze' : Int32) (zw' : Int32) (er1' : Nat → Int32) (er2' : Nat → Int32) (er3' : Nat → Int32) (er4' : Nat → Int32) (eZ' : Nat → Int32) (zn' : Int32) (eY' : Nat → Int32) (zd' : Int32) (zm' : Int32) (zl' : Int32) (eE' : Nat → Int32) (zk' : Int32) (eW' : Nat → Int32) (eO' : Nat → Int32) (zp' : Int32) (zf' : Int32) (zs' : Int32) (eS' : Nat → Int32) (eX' : Nat → Int32), kPD (dC, dI) vwCl A [(oM, .inr (12, [.ref mT, .int zt, .ref mS, .ref mX, .int zp', .int zf', .ref mL, .ref mB, .ref mD, .ref m1, .ref m2, .int zh, .ref mR, .int zr, .ref x1, .ref x2, .ref x3, .int zc, .ref mH, .int zy, .int za, .int zb, .int zs', .int zq, .int zw', .int ze', .ref mY, .int zn', .ref mE, .int zm', .int zl', .ref mW, .int zk', .ref mO, .int zd', .ref y1, .ref y2, .ref y3, .ref y4, .ref mZ])), (mY, .inl (cI, 2600, .inl eY')), (mB, .inl (cS, 131072, .inl eB)), (mL, .inl (cI, 512, .inl eL)), (mE, .inl (cI, 2600, .inl eE')), (mW, .inl (cI, 300, .inl eW')), (mO, .inl (cI, 300, .inl eO')), (mS, .inl (cI, 21, .inl eS')), (mX, .inl (cI, 6300, .inl eX')), (m1, .inl (cI, 6, .inl e1)), (m2, .inl (cI, 6, .inl e2)), (y1, .inl (cI, 61, .inl er1')), (y2, .inl (cI, 61, .inl er2')), (y3, .inl (cI, 61, .inl er3')), (y4, .inl (cI, 61, .inl er4')), (x1, .inl (cI, 300, .inl ec1)), (x2, .inl (cI, 300, .inl ec2)), (x3, .inl (cI, 300, .inl ec3)), (mZ, .inl (cI, 600, .inl eZ'))] hh9 → (rg 0 65535 eZ') → (0 ≤ zn'.toInt ∧ zn'.toInt ≤ 2600) → (rg 0 255 eY') → (0 ≤ zm'.toInt ∧ zm'.toInt ≤ 2600) → (rg 0 65535 eE') → (0 ≤ zk'.toInt ∧ zk'.toInt ≤ 300) → (rg 0 65535 eW') → (rg 0 65535 eO') → (0 ≤ zp'.toInt ∧ zp'.toInt ≤ 20) → (0 ≤ zf'.toInt ∧ zf'.toInt ≤ 19) → (0 ≤ zs'.toInt ∧ zs'.toInt ≤ 2000000) → (rg 0 300 eS') → (rg 0 65535 eX') → (zs'.toInt ≤ zs.toInt + 1 ∧ zs.toInt ≤ zs'.toInt) → (F_st zs zs' eX eX' eS eS') → (OR (-1) r zs zs' zp zp' zf zf' eS eS' eX eX' (ptP (UR e1 e2 eL eB) (tcR zc.toInt ec1 ec2 ec3) zh.toNatClampNeg (eS 0).toInt.toNat eX pe.toInt)) → PZ9) → PZ9) := by
  refine kMi_of (cc := cX12_parts) (maxL := 8) (ret := (some .int)) (lv := [(0, .ref oM), (1, .int pe)]) (by decide +kernel) rfl rfl (Nat.le_of_ble_eq_true rfl) ?_
  intro p e s m below meth c A QQ ls hx hb hr hts hml hown hlocks hA hQQ hK hX hP hD hS hl
  have hown : s.vm.findClass RX12 = some m.cls := hown
  have hcf := k_cf hx hb hml hown hts
  have in_X12 : ∀ w ∈ wsX120, w ∈ wsX12_parts := fun _ h => List.mem_cons_of_mem _ (List.mem_append_left _ (List.mem_append_left _ (List.mem_append_left _ (List.mem_append_right _ (h)))))
  replace g_zt := hid g_zt
  replace g_zr := hid g_zr
  replace g_zy := hid g_zy
  replace g_za := hid g_za
  replace g_zb := hid g_zb
  replace g_zq := hid g_zq
  replace g_zn := hid g_zn
  replace g_zm := hid g_zm
  replace g_zk := hid g_zk
  have hU : okU (UR e1 e2 eL eB) := okU_R g_eB g_eL
  have hlb9 := hlb
  have z0 : (0 : Int32).toInt = 0 := rfl
  have z1 : (1 : Int32).toInt = 1 := rfl
  have zm1 : (-1 : Int32).toInt = -1 := rfl
  have cz0 := v_clamp (x := zh) (by omega)
  have gS0 := g_eS 0
  have hs3 : (eS 0).toInt.toNat ≤ 300 := by omega
  have hx9 : prg (((eS 0).toInt.toNat : Nat) : Int) 0 65535 eX := rg_prg g_eX
  refine lv_aload_n hx hb dX12_parts_0 rfl (lv_at hl 0 rfl) ?_
  refine lv_iconst (v := 0) hx hb dX12_parts_1 (by decide) ?_
  refine va_put (D := (dC, dI)) (ci := 12) (v := .int 0) (ty := .int) (C := RX12) (T := TX12) (N := 40) hx hb hts in_X12 tyX12 tyX12_ok nmX12 hown hK hP hD hS 0 rfl rfl 25 (Nat.le_of_ble_eq_true rfl) (hts (.fieldLink RX12 85 "TextMenderModel" "thrown" "I") (List.mem_of_getElem? (i := 1) rfl)) (fun _ h9 => h9) rfl (tyX12_ok 25 (Nat.le_of_ble_eq_true rfl)) rfl rfl (Nat.le_of_ble_eq_true rfl) dX12_parts_2 (kW (wn := [(oM, .inr (12, [.ref mT, .int zt, .ref mS, .ref mX, .int zp, .int zf, .ref mL, .ref mB, .ref mD, .ref m1, .ref m2, .int zh, .ref mR, .int zr, .ref x1, .ref x2, .ref x3, .int zc, .ref mH, .int zy, .int za, .int zb, .int zs, .int zq, .int zw, .int 0, .ref mY, .int zn, .ref mE, .int zm, .int zl, .ref mW, .int zk, .ref mO, .int zd, .ref y1, .ref y2, .ref y3, .ref y4, .ref mZ])), (mY, .inl (cI, 2600, .inl eY)), (mB, .inl (cS, 131072, .inl eB)), (mL, .inl (cI, 512, .inl eL)), (mE, .inl (cI, 2600, .inl eE)), (mW, .inl (cI, 300, .inl eW)), (mO, .inl (cI, 300, .inl eO)), (mS, .inl (cI, 21, .inl eS)), (mX, .inl (cI, 6300, .inl eX)), (m1, .inl (cI, 6, .inl e1)), (m2, .inl (cI, 6, .inl e2)), (y1, .inl (cI, 61, .inl er1)), (y2, .inl (cI, 61, .inl er2)), (y3, .inl (cI, 61, .inl er3)), (y4, .inl (cI, 61, .inl er4)), (x1, .inl (cI, 300, .inl ec1)), (x2, .inl (cI, 300, .inl ec2)), (x3, .inl (cI, 300, .inl ec3)), (mZ, .inl (cI, 600, .inl eZ))]) rfl (fun H locs hPn hDn hSn => ?_))
  clear hP hD hS
  have hP := hPn
  have hD := hDn
  have hS := hSn
  clear hPn hDn hSn
  refine lv_aload_n hx hb dX12_parts_5 rfl (lv_at hl 0 rfl) ?_
  refine lv_iconst (v := (-1)) hx hb dX12_parts_6 (by decide) ?_
  refine va_put (D := (dC, dI)) (ci := 12) (v := .int (-1)) (ty := .int) (C := RX12) (T := TX12) (N := 40) hx hb hts in_X12 tyX12 tyX12_ok nmX12 hown hK hP hD hS 0 rfl rfl 24 (Nat.le_of_ble_eq_true rfl) (hts (.fieldLink RX12 55 "TextMenderModel" "where" "I") (List.mem_of_getElem? (i := 2) rfl)) (fun _ h9 => h9) rfl (tyX12_ok 24 (Nat.le_of_ble_eq_true rfl)) rfl rfl (Nat.le_of_ble_eq_true rfl) dX12_parts_7 (kW (wn := [(oM, .inr (12, [.ref mT, .int zt, .ref mS, .ref mX, .int zp, .int zf, .ref mL, .ref mB, .ref mD, .ref m1, .ref m2, .int zh, .ref mR, .int zr, .ref x1, .ref x2, .ref x3, .int zc, .ref mH, .int zy, .int za, .int zb, .int zs, .int zq, .int (-1), .int 0, .ref mY, .int zn, .ref mE, .int zm, .int zl, .ref mW, .int zk, .ref mO, .int zd, .ref y1, .ref y2, .ref y3, .ref y4, .ref mZ])), (mY, .inl (cI, 2600, .inl eY)), (mB, .inl (cS, 131072, .inl eB)), (mL, .inl (cI, 512, .inl eL)), (mE, .inl (cI, 2600, .inl eE)), (mW, .inl (cI, 300, .inl eW)), (mO, .inl (cI, 300, .inl eO)), (mS, .inl (cI, 21, .inl eS)), (mX, .inl (cI, 6300, .inl eX)), (m1, .inl (cI, 6, .inl e1)), (m2, .inl (cI, 6, .inl e2)), (y1, .inl (cI, 61, .inl er1)), (y2, .inl (cI, 61, .inl er2)), (y3, .inl (cI, 61, .inl er3)), (y4, .inl (cI, 61, .inl er4)), (x1, .inl (cI, 300, .inl ec1)), (x2, .inl (cI, 300, .inl ec2)), (x3, .inl (cI, 300, .inl ec3)), (mZ, .inl (cI, 600, .inl eZ))]) rfl (fun H locs hPn hDn hSn => ?_))
  clear hP hD hS
  have hP := hPn
  have hD := hDn
  have hS := hSn
  clear hPn hDn hSn
  refine lv_aload_n hx hb dX12_parts_10 rfl (lv_at hl 0 rfl) ?_
  refine va_get (D := (dC, dI)) (ci := 12) (v := .ref mS) (C := RX12) (T := TX12) (N := 40) hx hb hts in_X12 hown hK hP 0 rfl rfl 2 (Nat.le_of_ble_eq_true rfl) (hts (.fieldLink RX12 13 "TextMenderModel" "sizes" "[I") (List.mem_of_getElem? (i := 3) rfl)) (fun _ h9 => h9) rfl dX12_parts_11 ?_
  refine lv_iconst (v := 0) hx hb dX12_parts_14 (by decide) ?_
  refine va_iald hx hb hK hP 7 0 rfl rfl (by unfold vp_in; decide) dX12_parts_15 ?_
  refine lv_topi (fun x_1 ex_1 => ?_)
  have tx_1 : 0 ≤ x_1.toInt ∧ x_1.toInt ≤ 300 := rg_at g_eS ex_1
  have hs9 : x_1.toInt = (eS 0).toInt := by rw [ex_1]; rfl
  refine lv_istore_n (lv' := [(2, .int x_1), (0, .ref oM), (1, .int pe)]) hx hb dX12_parts_16 rfl hl (by decide) rfl (fun ls hl => ?_)
  refine lv_iload_n hx hb dX12_parts_17 rfl (lv_at hl 0 rfl) ?_
  refine lv_iconst (v := 1) hx hb dX12_parts_18 (by decide) ?_
  refine lv_icmp_lt (tgt := 39) hx hb dX12_parts_19 (by decide) (fun c_2 => ?_) (fun c_2 => ?_)
  · have tc_2 : x_1.toInt < 1 := v_lt c_2
    refine lv_iconst (v := (-1)) hx hb dX12_parts_39 (by decide) ?_
    exact kl_i (v := (-1)) hQQ hx hb hr hlocks hS dX12_parts_40 (fun PZ9 kZ9 => kZ9 0 (-1) er1 er2 er3 er4 eZ zn eY zd zm zl eE zk eW eO zp zf zs eS eX (⟨hP, hD⟩) (g_eZ) (g_zn) (g_eY) (g_zm) (g_eE) (g_zk) (g_eW) (g_eO) (g_zp) (g_zf) (g_zs) (g_eS) (g_eX) (by show zs.toInt ≤ zs.toInt + 1 ∧ zs.toInt ≤ zs.toInt; omega) (by first | exact Or.inl (by omega) | exact Or.inr ⟨rfl, rfl, rfl⟩) (OR_n rfl (fun c fm v h => absurd h.1 (by omega))))
  · have tc_2 : 1 ≤ x_1.toInt := v_nlt c_2
    refine lv_iload_n hx hb dX12_parts_22 rfl (lv_at hl 0 rfl) ?_
    refine lv_bipush (v := 60) hx hb dX12_parts_23 (by decide) ?_
    refine lv_icmp_gt (tgt := 39) hx hb dX12_parts_25 (by decide) (fun c_3 => ?_) (fun c_3 => ?_)
    · have tc_3 : 60 < x_1.toInt := v_lt c_3
      refine lv_iconst (v := (-1)) hx hb dX12_parts_39 (by decide) ?_
      exact kl_i (v := (-1)) hQQ hx hb hr hlocks hS dX12_parts_40 (fun PZ9 kZ9 => kZ9 0 (-1) er1 er2 er3 er4 eZ zn eY zd zm zl eE zk eW eO zp zf zs eS eX (⟨hP, hD⟩) (g_eZ) (g_zn) (g_eY) (g_zm) (g_eE) (g_zk) (g_eW) (g_eO) (g_zp) (g_zf) (g_zs) (g_eS) (g_eX) (by show zs.toInt ≤ zs.toInt + 1 ∧ zs.toInt ≤ zs.toInt; omega) (by first | exact Or.inl (by omega) | exact Or.inr ⟨rfl, rfl, rfl⟩) (OR_n rfl (fun c fm v h => absurd h.1 (by omega))))
    · have tc_3 : x_1.toInt ≤ 60 := v_nlt c_3
      refine lv_iload_n hx hb dX12_parts_28 rfl (lv_at hl 2 rfl) ?_
      refine lv_if_lt (tgt := 39) hx hb dX12_parts_29 (by decide) (fun c_4 => ?_) (fun c_4 => ?_)
      · have tc_4 : pe.toInt < 0 := v_lt c_4
        refine lv_iconst (v := (-1)) hx hb dX12_parts_39 (by decide) ?_
        exact kl_i (v := (-1)) hQQ hx hb hr hlocks hS dX12_parts_40 (fun PZ9 kZ9 => kZ9 0 (-1) er1 er2 er3 er4 eZ zn eY zd zm zl eE zk eW eO zp zf zs eS eX (⟨hP, hD⟩) (g_eZ) (g_zn) (g_eY) (g_zm) (g_eE) (g_zk) (g_eW) (g_eO) (g_zp) (g_zf) (g_zs) (g_eS) (g_eX) (by show zs.toInt ≤ zs.toInt + 1 ∧ zs.toInt ≤ zs.toInt; omega) (by first | exact Or.inl (by omega) | exact Or.inr ⟨rfl, rfl, rfl⟩) (OR_n rfl (fun c fm v h => absurd h.1 (by omega))))
      · have tc_4 : 0 ≤ pe.toInt := v_nlt c_4
        refine lv_iload_n hx hb dX12_parts_32 rfl (lv_at hl 2 rfl) ?_
        refine lv_sipush (v := 1000) hx hb dX12_parts_33 (by decide) ?_
        refine lv_icmp_le (tgt := 41) hx hb dX12_parts_36 (by decide) (fun c_5 => ?_) (fun c_5 => ?_)
        · have tc_5 : pe.toInt ≤ 1000 := v_le c_5
          refine lv_iload_n hx hb dX12_parts_41 rfl (lv_at hl 0 rfl) ?_
          refine lv_iconst (v := 1) hx hb dX12_parts_42 (by decide) ?_
          refine lv_isub hx hb dX12_parts_43 ?_
          refine lv_topi (fun x_6 ex_6 => ?_)
          have tx_6 : x_6.toInt = x_1.toInt - 1 := v_subR (l2 := 1) (h2 := 1) ex_6 tx_1 (by decide) (by decide) (by decide)
          refine lv_istore_n (lv' := [(3, .int x_6), (2, .int x_1), (0, .ref oM), (1, .int pe)]) hx hb dX12_parts_44 rfl hl (by decide) rfl (fun ls hl => ?_)
          have LOOP_45 : ∀ (k_45 : Nat) (i : Int32) (zna : Int32) (zda : Int32) (zma : Int32) (zla : Int32) (zka : Int32) (eYa : Nat → Int32) (eEa : Nat → Int32) (eWa : Nat → Int32) (eOa : Nat → Int32) (er1a : Nat → Int32) (er2a : Nat → Int32) (er3a : Nat → Int32) (er4a : Nat → Int32) (H : Heap) (locs : List Loc) (ls : Array Slot), MSd (i.toInt + 1 : Int) k_45 → (-1 ≤ i.toInt ∧ i.toInt ≤ 59) → (0 ≤ zna.toInt ∧ zna.toInt ≤ 2600) → (0 ≤ zma.toInt ∧ zma.toInt ≤ 2600) → (0 ≤ zka.toInt ∧ zka.toInt ≤ 300) → (rg 0 255 eYa) → (rg 0 65535 eEa) → (rg 0 65535 eWa) → (rg 0 65535 eOa) → (i.toInt < x_1.toInt) → (QOR ((eS 0).toInt.toNat : Int) (i.toInt) er1a er2a) → (PBK (UR e1 e2 eL eB) (tcR zc.toInt ec1 ec2 ec3) zh.toNatClampNeg (eS 0).toInt.toNat eX pe.toInt (i.toInt + 1) er1a er2a er3a er4a) → va_P (dC, dI) vwCl [(oM, .inr (12, [.ref mT, .int zt, .ref mS, .ref mX, .int zp, .int zf, .ref mL, .ref mB, .ref mD, .ref m1, .ref m2, .int zh, .ref mR, .int zr, .ref x1, .ref x2, .ref x3, .int zc, .ref mH, .int zy, .int za, .int zb, .int zs, .int zq, .int (-1), .int 0, .ref mY, .int zna, .ref mE, .int zma, .int zla, .ref mW, .int zka, .ref mO, .int zda, .ref y1, .ref y2, .ref y3, .ref y4, .ref mZ])), (mY, .inl (cI, 2600, .inl eYa)), (mB, .inl (cS, 131072, .inl eB)), (mL, .inl (cI, 512, .inl eL)), (mE, .inl (cI, 2600, .inl eEa)), (mW, .inl (cI, 300, .inl eWa)), (mO, .inl (cI, 300, .inl eOa)), (mS, .inl (cI, 21, .inl eS)), (mX, .inl (cI, 6300, .inl eX)), (m1, .inl (cI, 6, .inl e1)), (m2, .inl (cI, 6, .inl e2)), (y1, .inl (cI, 61, .inl er1a)), (y2, .inl (cI, 61, .inl er2a)), (y3, .inl (cI, 61, .inl er3a)), (y4, .inl (cI, 61, .inl er4a)), (x1, .inl (cI, 300, .inl ec1)), (x2, .inl (cI, 300, .inl ec2)), (x3, .inl (cI, 300, .inl ec3)), (mZ, .inl (cI, 600, .inl eZ))] H → va_D A [(oM, .inr (12, [.ref mT, .int zt, .ref mS, .ref mX, .int zp, .int zf, .ref mL, .ref mB, .ref mD, .ref m1, .ref m2, .int zh, .ref mR, .int zr, .ref x1, .ref x2, .ref x3, .int zc, .ref mH, .int zy, .int za, .int zb, .int zs, .int zq, .int (-1), .int 0, .ref mY, .int zna, .ref mE, .int zma, .int zla, .ref mW, .int zka, .ref mO, .int zda, .ref y1, .ref y2, .ref y3, .ref y4, .ref mZ])), (mY, .inl (cI, 2600, .inl eYa)), (mB, .inl (cS, 131072, .inl eB)), (mL, .inl (cI, 512, .inl eL)), (mE, .inl (cI, 2600, .inl eEa)), (mW, .inl (cI, 300, .inl eWa)), (mO, .inl (cI, 300, .inl eOa)), (mS, .inl (cI, 21, .inl eS)), (mX, .inl (cI, 6300, .inl eX)), (m1, .inl (cI, 6, .inl e1)), (m2, .inl (cI, 6, .inl e2)), (y1, .inl (cI, 61, .inl er1a)), (y2, .inl (cI, 61, .inl er2a)), (y3, .inl (cI, 61, .inl er3a)), (y4, .inl (cI, 61, .inl er4a)), (x1, .inl (cI, 300, .inl ec1)), (x2, .inl (cI, 300, .inl ec2)), (x3, .inl (cI, 300, .inl ec3)), (mZ, .inl (cI, 600, .inl eZ))] → va_S A s.heap H locs → lv_has ls 8 [(3, .int i), (2, .int x_1), (0, .ref oM), (1, .int pe)] → W p l e (headSpec wsX12_parts ({ frames := 6, cells := 0, slots := 0, locals := 144 } : Room)).room s m ([.ref oM, .int pe] : List Value).toArray below meth c H locs 0 0 (MQ below QQ ([.ref oM, .int pe] : List Value).toArray s 0 0 A) (F0 m 45 ls []) := by
            clear hP hD hS hl
            intro k_45
            induction k_45 with
            | zero =>
              intro i zna zda zma zla zka eYa eEa eWa eOa er1a er2a er3a er4a H locs ls hm_45 g_i g_zna g_zma g_zka g_eYa g_eEa g_eWa g_eOa hin hqa hpb hP hD hS hl
              exact ms_0 hm_45
            | succ k_45 ih_45 =>
              intro i zna zda zma zla zka eYa eEa eWa eOa er1a er2a er3a er4a H locs ls hm_45 g_i g_zna g_zma g_zka g_eYa g_eEa g_eWa g_eOa hin hqa hpb hP hD hS hl
              refine lv_iload_n hx hb dX12_parts_45 rfl (lv_at hl 0 rfl) ?_
              refine lv_if_lt (tgt := 243) hx hb dX12_parts_46 (by decide) (fun c_7 => ?_) (fun c_7 => ?_)
              · have tc_7 : i.toInt < 0 := v_lt c_7
                have hpb0 : PBK (UR e1 e2 eL eB) (tcR zc.toInt ec1 ec2 ec3) zh.toNatClampNeg (eS 0).toInt.toNat eX pe.toInt (0) er1a er2a er3a er4a := fun i9 h1 h2 => hpb i9 (by omega) h2
                refine lv_iconst (v := 0) hx hb dX12_parts_243 (by decide) ?_
                refine lv_istore_n (lv' := [(3, .int 0), (2, .int x_1), (0, .ref oM), (1, .int pe)]) hx hb dX12_parts_244 rfl hl (by decide) rfl (fun ls hl => ?_)
                refine lv_iconst (v := 0) hx hb dX12_parts_245 (by decide) ?_
                refine lv_istore (lv' := [(4, .int 0), (3, .int 0), (2, .int x_1), (0, .ref oM), (1, .int pe)]) hx hb dX12_parts_246 hl (by decide) rfl (fun ls hl => ?_)
                have LOOP_248 : ∀ (k_248 : Nat) (al : Int32) (i2 : Int32) (znd : Int32) (zdd : Int32) (zmd : Int32) (zld : Int32) (zkd : Int32) (eYd : Nat → Int32) (eEd : Nat → Int32) (eWd : Nat → Int32) (eOd : Nat → Int32) (eZd : Nat → Int32) (H : Heap) (locs : List Loc) (ls : Array Slot), MSd (60 - i2.toInt : Int) k_248 → (0 ≤ al.toInt ∧ al.toInt ≤ 300) → (0 ≤ i2.toInt ∧ i2.toInt ≤ 60) → (0 ≤ znd.toInt ∧ znd.toInt ≤ 2600) → (0 ≤ zmd.toInt ∧ zmd.toInt ≤ 2600) → (0 ≤ zkd.toInt ∧ zkd.toInt ≤ 300) → (rg 0 255 eYd) → (rg 0 65535 eEd) → (rg 0 65535 eWd) → (rg 0 65535 eOd) → (rg 0 65535 eZd) → (i2.toInt ≤ x_1.toInt) → (LYD (UR e1 e2 eL eB) (eS 0).toInt.toNat eX er3a er4a i2 al eZd) → va_P (dC, dI) vwCl [(oM, .inr (12, [.ref mT, .int zt, .ref mS, .ref mX, .int zp, .int zf, .ref mL, .ref mB, .ref mD, .ref m1, .ref m2, .int zh, .ref mR, .int zr, .ref x1, .ref x2, .ref x3, .int zc, .ref mH, .int zy, .int za, .int zb, .int zs, .int zq, .int (-1), .int 0, .ref mY, .int znd, .ref mE, .int zmd, .int zld, .ref mW, .int zkd, .ref mO, .int zdd, .ref y1, .ref y2, .ref y3, .ref y4, .ref mZ])), (mY, .inl (cI, 2600, .inl eYd)), (mB, .inl (cS, 131072, .inl eB)), (mL, .inl (cI, 512, .inl eL)), (mE, .inl (cI, 2600, .inl eEd)), (mW, .inl (cI, 300, .inl eWd)), (mO, .inl (cI, 300, .inl eOd)), (mS, .inl (cI, 21, .inl eS)), (mX, .inl (cI, 6300, .inl eX)), (m1, .inl (cI, 6, .inl e1)), (m2, .inl (cI, 6, .inl e2)), (y1, .inl (cI, 61, .inl er1a)), (y2, .inl (cI, 61, .inl er2a)), (y3, .inl (cI, 61, .inl er3a)), (y4, .inl (cI, 61, .inl er4a)), (x1, .inl (cI, 300, .inl ec1)), (x2, .inl (cI, 300, .inl ec2)), (x3, .inl (cI, 300, .inl ec3)), (mZ, .inl (cI, 600, .inl eZd))] H → va_D A [(oM, .inr (12, [.ref mT, .int zt, .ref mS, .ref mX, .int zp, .int zf, .ref mL, .ref mB, .ref mD, .ref m1, .ref m2, .int zh, .ref mR, .int zr, .ref x1, .ref x2, .ref x3, .int zc, .ref mH, .int zy, .int za, .int zb, .int zs, .int zq, .int (-1), .int 0, .ref mY, .int znd, .ref mE, .int zmd, .int zld, .ref mW, .int zkd, .ref mO, .int zdd, .ref y1, .ref y2, .ref y3, .ref y4, .ref mZ])), (mY, .inl (cI, 2600, .inl eYd)), (mB, .inl (cS, 131072, .inl eB)), (mL, .inl (cI, 512, .inl eL)), (mE, .inl (cI, 2600, .inl eEd)), (mW, .inl (cI, 300, .inl eWd)), (mO, .inl (cI, 300, .inl eOd)), (mS, .inl (cI, 21, .inl eS)), (mX, .inl (cI, 6300, .inl eX)), (m1, .inl (cI, 6, .inl e1)), (m2, .inl (cI, 6, .inl e2)), (y1, .inl (cI, 61, .inl er1a)), (y2, .inl (cI, 61, .inl er2a)), (y3, .inl (cI, 61, .inl er3a)), (y4, .inl (cI, 61, .inl er4a)), (x1, .inl (cI, 300, .inl ec1)), (x2, .inl (cI, 300, .inl ec2)), (x3, .inl (cI, 300, .inl ec3)), (mZ, .inl (cI, 600, .inl eZd))] → va_S A s.heap H locs → lv_has ls 8 [(4, .int i2), (3, .int al), (2, .int x_1), (0, .ref oM), (1, .int pe)] → W p l e (headSpec wsX12_parts ({ frames := 6, cells := 0, slots := 0, locals := 144 } : Room)).room s m ([.ref oM, .int pe] : List Value).toArray below meth c H locs 0 0 (MQ below QQ ([.ref oM, .int pe] : List Value).toArray s 0 0 A) (F0 m 248 ls []) := by
                  clear hP hD hS hl
                  try (clear g_zna g_zma g_zka)
                  intro k_248
                  induction k_248 with
                  | zero =>
                    intro al i2 znd zdd zmd zld zkd eYd eEd eWd eOd eZd H locs ls hm_248 g_al g_i2 g_znd g_zmd g_zkd g_eYd g_eEd g_eWd g_eOd g_eZd hi2 hly hP hD hS hl
                    exact ms_0 hm_248
                  | succ k_248 ih_248 =>
                    intro al i2 znd zdd zmd zld zkd eYd eEd eWd eOd eZd H locs ls hm_248 g_al g_i2 g_znd g_zmd g_zkd g_eYd g_eEd g_eWd g_eOd g_eZd hi2 hly hP hD hS hl
                    refine lv_iload hx hb dX12_parts_248 (lv_at hl 0 rfl) ?_
                    refine lv_iload_n hx hb dX12_parts_250 rfl (lv_at hl 2 rfl) ?_
                    refine lv_icmp_ge (tgt := 337) hx hb dX12_parts_251 (by decide) (fun c_8 => ?_) (fun c_8 => ?_)
                    · have tc_8 : x_1.toInt ≤ i2.toInt := v_le c_8
                      refine lv_aload_n hx hb dX12_parts_337 rfl (lv_at hl 3 rfl) ?_
                      refine va_get (D := (dC, dI)) (ci := 12) (v := .ref y2) (C := RX12) (T := TX12) (N := 40) hx hb hts in_X12 hown hK hP 0 rfl rfl 36 (Nat.le_of_ble_eq_true rfl) (hts (.fieldLink RX12 73 "TextMenderModel" "restSpans" "[I") (List.mem_of_getElem? (i := 4) rfl)) (fun _ h9 => h9) rfl dX12_parts_338 ?_
                      refine lv_iconst (v := 0) hx hb dX12_parts_341 (by decide) ?_
                      refine va_iald hx hb hK hP 12 0 rfl rfl (by unfold vp_in; decide) dX12_parts_342 ?_
                      refine lv_topi (fun x_9 ex_9 => ?_)
                      refine lv_istore (lv' := [(4, .int x_9), (3, .int al), (2, .int x_1), (0, .ref oM), (1, .int pe)]) hx hb dX12_parts_343 hl (by decide) rfl (fun ls hl => ?_)
                      refine lv_aload_n hx hb dX12_parts_345 rfl (lv_at hl 3 rfl) ?_
                      refine lv_aload_n hx hb dX12_parts_346 rfl (lv_at hl 3 rfl) ?_
                      refine va_get (D := (dC, dI)) (ci := 12) (v := .ref mZ) (C := RX12) (T := TX12) (N := 40) hx hb hts in_X12 hown hK hP 0 rfl rfl 39 (Nat.le_of_ble_eq_true rfl) (hts (.fieldLink RX12 82 "TextMenderModel" "came2" "[I") (List.mem_of_getElem? (i := 11) rfl)) (fun _ h9 => h9) rfl dX12_parts_347 ?_
                      refine lv_iload_n hx hb dX12_parts_350 rfl (lv_at hl 1 rfl) ?_
                      refine kV_v (rest := []) (q0 := 0) (ci := 12) hcf (f_X12_bec l dC dI cI cS H.size oM mZ mT mS mX mL mB mD m1 m2 mR x1 x2 x3 mH mY mE mW mO y1 y2 y3 y4 mZ 600 zt zp zf zh zr zc zy za zb zs zq (-1) 0 znd zmd zld zkd zdd eS eX eZd al (g_zt) (g_zp) (g_zf) (g_zh) (g_zr) (g_zc) (g_zy) (g_za) (g_zb) (g_zs) (g_zq) (g_znd) (g_zmd) (g_zkd) (g_eS) (g_eX) (g_al) (by omega) (by omega) (prg_of g_eZd) (by omega)) kc_X12_become gX12_parts_X12_become rfl rfl rfl ⟨Nat.le_of_ble_eq_true rfl, Nat.le_of_ble_eq_true rfl⟩ kX_t hK hP hD hS hA (posT mk_179 0) (posF mk_179 0) (kC_of mk_179 rfl rfl) (by decide +kernel) rfl rfl rfl hl rfl (Nat.le_of_ble_eq_true rfl) dX12_parts_351 ⟨Nat.le_of_ble_eq_true rfl, Nat.le_of_ble_eq_true rfl⟩ (fun H locs hB hJ hSn => ?_)
                      refine hB _ (fun zp_10 zf_10 zs_10 eS_10 eX_10 hPD9 hf10_0 hf10_1 hf10_2 hf10_3 hf10_4 hf10_5 hf10_6 => ?_)
                      clear hB
                      obtain ⟨hPn, hDn⟩ := kJi (m := mk_179) hJ rfl hPD9.1 hPD9.2 (wn := [(oM, .inr (12, [.ref mT, .int zt, .ref mS, .ref mX, .int zp_10, .int zf_10, .ref mL, .ref mB, .ref mD, .ref m1, .ref m2, .int zh, .ref mR, .int zr, .ref x1, .ref x2, .ref x3, .int zc, .ref mH, .int zy, .int za, .int zb, .int zs_10, .int zq, .int (-1), .int 0, .ref mY, .int znd, .ref mE, .int zmd, .int zld, .ref mW, .int zkd, .ref mO, .int zdd, .ref y1, .ref y2, .ref y3, .ref y4, .ref mZ])), (mY, .inl (cI, 2600, .inl eYd)), (mB, .inl (cS, 131072, .inl eB)), (mL, .inl (cI, 512, .inl eL)), (mE, .inl (cI, 2600, .inl eEd)), (mW, .inl (cI, 300, .inl eWd)), (mO, .inl (cI, 300, .inl eOd)), (mS, .inl (cI, 21, .inl eS_10)), (mX, .inl (cI, 6300, .inl eX_10)), (m1, .inl (cI, 6, .inl e1)), (m2, .inl (cI, 6, .inl e2)), (y1, .inl (cI, 61, .inl er1a)), (y2, .inl (cI, 61, .inl er2a)), (y3, .inl (cI, 61, .inl er3a)), (y4, .inl (cI, 61, .inl er4a)), (x1, .inl (cI, 300, .inl ec1)), (x2, .inl (cI, 300, .inl ec2)), (x3, .inl (cI, 300, .inl ec3)), (mZ, .inl (cI, 600, .inl eZd))]) rfl
                      clear hP hD hS hJ hPD9
                      have hP := hPn
                      have hD := hDn
                      have hS := hSn
                      clear hPn hDn hSn
                      refine lv_iload hx hb dX12_parts_354 (lv_at hl 0 rfl) ?_
                      exact kl_i (v := x_9) hQQ hx hb hr hlocks hS dX12_parts_356 (fun PZ9 kZ9 => kZ9 0 (-1) er1a er2a er3a er4a eZd znd eYd zdd zmd zld eEd zkd eWd eOd zp_10 zf_10 zs_10 eS_10 eX_10 (⟨hP, hD⟩) (g_eZd) (g_znd) (g_eYd) (g_zmd) (g_eEd) (g_zkd) (g_eWd) (g_eOd) (hf10_0) (hf10_1) (hf10_2) (hf10_3) (hf10_4) (by show zs_10.toInt ≤ zs.toInt + 1 ∧ zs.toInt ≤ zs_10.toInt; omega) (by first | exact Or.inl (by omega) | exact Or.inr ⟨rfl, rfl, rfl⟩) (OR_y (lay_rp hpb0 hly (by omega) (by omega) (by omega) (v_eq ex_9)) hf10_6 (by omega)))
                    · have tc_8 : i2.toInt < x_1.toInt := v_nle c_8
                      have ci2 := v_clamp (x := i2) (by omega)
                      obtain ⟨hE1, hE2, hE3, hE4, hSP⟩ := PBK_sp hpb0 i2.toNatClampNeg (by omega)
                      refine lv_aload_n hx hb dX12_parts_254 rfl (lv_at hl 3 rfl) ?_
                      refine lv_iload hx hb dX12_parts_255 (lv_at hl 0 rfl) ?_
                      refine lv_aload_n hx hb dX12_parts_257 rfl (lv_at hl 3 rfl) ?_
                      refine va_get (D := (dC, dI)) (ci := 12) (v := .ref y3) (C := RX12) (T := TX12) (N := 40) hx hb hts in_X12 hown hK hP 0 rfl rfl 37 (Nat.le_of_ble_eq_true rfl) (hts (.fieldLink RX12 76 "TextMenderModel" "restEnd" "[I") (List.mem_of_getElem? (i := 9) rfl)) (fun _ h9 => h9) rfl dX12_parts_258 ?_
                      refine lv_iload hx hb dX12_parts_261 (lv_at hl 0 rfl) ?_
                      refine va_iald hx hb hK hP 13 0 rfl rfl (v_inR g_i2 (by decide) (by decide)) dX12_parts_263 ?_
                      refine lv_topi (fun x_11 ex_11 => ?_)
                      refine lv_aload_n hx hb dX12_parts_264 rfl (lv_at hl 3 rfl) ?_
                      refine va_get (D := (dC, dI)) (ci := 12) (v := .ref y4) (C := RX12) (T := TX12) (N := 40) hx hb hts in_X12 hown hK hP 0 rfl rfl 38 (Nat.le_of_ble_eq_true rfl) (hts (.fieldLink RX12 79 "TextMenderModel" "restHarm" "[I") (List.mem_of_getElem? (i := 10) rfl)) (fun _ h9 => h9) rfl dX12_parts_265 ?_
                      refine lv_iload hx hb dX12_parts_268 (lv_at hl 0 rfl) ?_
                      refine va_iald hx hb hK hP 14 0 rfl rfl (v_inR g_i2 (by decide) (by decide)) dX12_parts_270 ?_
                      refine lv_topi (fun x_12 ex_12 => ?_)
                      have tE_x_11 : i2.toInt < x_11.toInt ∧ x_11.toInt ≤ (eS 0).toInt ∧ -1 ≤ x_12.toInt ∧ x_12.toInt < zh.toInt := by rw [ex_11, ex_12]; omega
                      refine kV_i (rest := []) (q0 := 0) (ci := 12) hcf (f_X12_takeSpan l dC dI cI cS H.size oM mT mS mX mL mB mD m1 m2 mR x1 x2 x3 mH mY mE mW mO y1 y2 y3 y4 mZ zt zp zf zh zr zc zy za zb zs zq (-1) 0 znd zmd zld zkd zdd eYd eB eL eEd eWd eOd eS eX e1 e2 i2 x_11 x_12 (g_zt) (g_zp) (g_zf) (g_zh) (g_zr) (g_zc) (g_zy) (g_za) (g_zb) (g_zs) (g_zq) (g_znd) (g_zmd) (g_zkd) (g_eYd) (g_eB) (g_eL) (g_eEd) (g_eWd) (g_eOd) (g_eS) (g_eX) (g_e1) (g_e2) (v_rr g_i2 (by decide) (by decide)) (by omega) (by omega) (by omega) (by omega) (by omega) (hxl) (hlb) (hlz)) kc_X12_takeSpan gX12_parts_X12_takeSpan rfl rfl rfl ⟨Nat.le_of_ble_eq_true rfl, Nat.le_of_ble_eq_true rfl⟩ kX_t hK hP hD hS hA (posT mk_180 0) (posF mk_180 0) (kC_of mk_180 rfl rfl) (by decide +kernel) rfl rfl rfl hl rfl (Nat.le_of_ble_eq_true rfl) dX12_parts_271 ⟨Nat.le_of_ble_eq_true rfl, Nat.le_of_ble_eq_true rfl⟩ (fun r_13 H locs hB hJ hSn => ?_)
                      refine hB _ (fun zn_13 eY_13 zd_13 zm_13 zl_13 eE_13 zk_13 eW_13 eO_13 hPD9 hf13_0 hf13_1 hf13_2 hf13_3 hf13_4 hf13_5 hf13_6 hf13_7 hf13_8 => ?_)
                      clear hB
                      obtain ⟨hPn, hDn⟩ := kJi (m := mk_180) hJ rfl hPD9.1 hPD9.2 (wn := [(oM, .inr (12, [.ref mT, .int zt, .ref mS, .ref mX, .int zp, .int zf, .ref mL, .ref mB, .ref mD, .ref m1, .ref m2, .int zh, .ref mR, .int zr, .ref x1, .ref x2, .ref x3, .int zc, .ref mH, .int zy, .int za, .int zb, .int zs, .int zq, .int (-1), .int 0, .ref mY, .int zn_13, .ref mE, .int zm_13, .int zl_13, .ref mW, .int zk_13, .ref mO, .int zd_13, .ref y1, .ref y2, .ref y3, .ref y4, .ref mZ])), (mY, .inl (cI, 2600, .inl eY_13)), (mB, .inl (cS, 131072, .inl eB)), (mL, .inl (cI, 512, .inl eL)), (mE, .inl (cI, 2600, .inl eE_13)), (mW, .inl (cI, 300, .inl eW_13)), (mO, .inl (cI, 300, .inl eO_13)), (mS, .inl (cI, 21, .inl eS)), (mX, .inl (cI, 6300, .inl eX)), (m1, .inl (cI, 6, .inl e1)), (m2, .inl (cI, 6, .inl e2)), (y1, .inl (cI, 61, .inl er1a)), (y2, .inl (cI, 61, .inl er2a)), (y3, .inl (cI, 61, .inl er3a)), (y4, .inl (cI, 61, .inl er4a)), (x1, .inl (cI, 300, .inl ec1)), (x2, .inl (cI, 300, .inl ec2)), (x3, .inl (cI, 300, .inl ec3)), (mZ, .inl (cI, 600, .inl eZd))]) rfl
                      clear hP hD hS hJ hPD9
                      have hP := hPn
                      have hD := hDn
                      have hS := hSn
                      clear hPn hDn hSn
                      refine lv_pop hx hb dX12_parts_274 rfl ?_
                      obtain ⟨m9, hm9, hsp9⟩ := ts_y hf13_8 (by rw [ix_eq (x := x_11) (N := (er3a i2.toNatClampNeg).toInt.toNat) (by rw [ex_11]; omega), ex_12]; exact hSP)
                      rw [ix_eq (x := x_11) (N := (er3a i2.toNatClampNeg).toInt.toNat) (by rw [ex_11]; omega), ex_12] at hsp9
                      refine lv_iconst (v := 0) hx hb dX12_parts_275 (by decide) ?_
                      refine lv_istore (lv' := [(5, .int 0), (4, .int i2), (3, .int al), (2, .int x_1), (0, .ref oM), (1, .int pe)]) hx hb dX12_parts_276 hl (by decide) rfl (fun ls hl => ?_)
                      have LOOP_278 : ∀ (k_278 : Nat) (k : Int32) (eZe : Nat → Int32) (H : Heap) (locs : List Loc) (ls : Array Slot), MSd (300 - k.toInt : Int) k_278 → (0 ≤ k.toInt ∧ k.toInt ≤ 300) → (rg 0 65535 eZe) → (k.toInt ≤ zk_13.toInt) → (CPB al.toInt k.toInt eZd eZe eW_13) → va_P (dC, dI) vwCl [(oM, .inr (12, [.ref mT, .int zt, .ref mS, .ref mX, .int zp, .int zf, .ref mL, .ref mB, .ref mD, .ref m1, .ref m2, .int zh, .ref mR, .int zr, .ref x1, .ref x2, .ref x3, .int zc, .ref mH, .int zy, .int za, .int zb, .int zs, .int zq, .int (-1), .int 0, .ref mY, .int zn_13, .ref mE, .int zm_13, .int zl_13, .ref mW, .int zk_13, .ref mO, .int zd_13, .ref y1, .ref y2, .ref y3, .ref y4, .ref mZ])), (mY, .inl (cI, 2600, .inl eY_13)), (mB, .inl (cS, 131072, .inl eB)), (mL, .inl (cI, 512, .inl eL)), (mE, .inl (cI, 2600, .inl eE_13)), (mW, .inl (cI, 300, .inl eW_13)), (mO, .inl (cI, 300, .inl eO_13)), (mS, .inl (cI, 21, .inl eS)), (mX, .inl (cI, 6300, .inl eX)), (m1, .inl (cI, 6, .inl e1)), (m2, .inl (cI, 6, .inl e2)), (y1, .inl (cI, 61, .inl er1a)), (y2, .inl (cI, 61, .inl er2a)), (y3, .inl (cI, 61, .inl er3a)), (y4, .inl (cI, 61, .inl er4a)), (x1, .inl (cI, 300, .inl ec1)), (x2, .inl (cI, 300, .inl ec2)), (x3, .inl (cI, 300, .inl ec3)), (mZ, .inl (cI, 600, .inl eZe))] H → va_D A [(oM, .inr (12, [.ref mT, .int zt, .ref mS, .ref mX, .int zp, .int zf, .ref mL, .ref mB, .ref mD, .ref m1, .ref m2, .int zh, .ref mR, .int zr, .ref x1, .ref x2, .ref x3, .int zc, .ref mH, .int zy, .int za, .int zb, .int zs, .int zq, .int (-1), .int 0, .ref mY, .int zn_13, .ref mE, .int zm_13, .int zl_13, .ref mW, .int zk_13, .ref mO, .int zd_13, .ref y1, .ref y2, .ref y3, .ref y4, .ref mZ])), (mY, .inl (cI, 2600, .inl eY_13)), (mB, .inl (cS, 131072, .inl eB)), (mL, .inl (cI, 512, .inl eL)), (mE, .inl (cI, 2600, .inl eE_13)), (mW, .inl (cI, 300, .inl eW_13)), (mO, .inl (cI, 300, .inl eO_13)), (mS, .inl (cI, 21, .inl eS)), (mX, .inl (cI, 6300, .inl eX)), (m1, .inl (cI, 6, .inl e1)), (m2, .inl (cI, 6, .inl e2)), (y1, .inl (cI, 61, .inl er1a)), (y2, .inl (cI, 61, .inl er2a)), (y3, .inl (cI, 61, .inl er3a)), (y4, .inl (cI, 61, .inl er4a)), (x1, .inl (cI, 300, .inl ec1)), (x2, .inl (cI, 300, .inl ec2)), (x3, .inl (cI, 300, .inl ec3)), (mZ, .inl (cI, 600, .inl eZe))] → va_S A s.heap H locs → lv_has ls 8 [(5, .int k), (4, .int i2), (3, .int al), (2, .int x_1), (0, .ref oM), (1, .int pe)] → W p l e (headSpec wsX12_parts ({ frames := 6, cells := 0, slots := 0, locals := 144 } : Room)).room s m ([.ref oM, .int pe] : List Value).toArray below meth c H locs 0 0 (MQ below QQ ([.ref oM, .int pe] : List Value).toArray s 0 0 A) (F0 m 278 ls []) := by
                        clear hP hD hS hl
                        try (clear g_znd g_zmd g_zkd g_zna g_zma g_zka)
                        intro k_278
                        induction k_278 with
                        | zero =>
                          intro k eZe H locs ls hm_278 g_k g_eZe hkz hcb hP hD hS hl
                          exact ms_0 hm_278
                        | succ k_278 ih_278 =>
                          intro k eZe H locs ls hm_278 g_k g_eZe hkz hcb hP hD hS hl
                          refine lv_iload hx hb dX12_parts_278 (lv_at hl 0 rfl) ?_
                          refine lv_aload_n hx hb dX12_parts_280 rfl (lv_at hl 4 rfl) ?_
                          refine va_get (D := (dC, dI)) (ci := 12) (v := .int zk_13) (C := RX12) (T := TX12) (N := 40) hx hb hts in_X12 hown hK hP 0 rfl rfl 32 (Nat.le_of_ble_eq_true rfl) (hts (.fieldLink RX12 135 "TextMenderModel" "workMany" "I") (List.mem_of_getElem? (i := 7) rfl)) (fun _ h9 => h9) rfl dX12_parts_281 ?_
                          refine lv_icmp_ge (tgt := 309) hx hb dX12_parts_284 (by decide) (fun c_14 => ?_) (fun c_14 => ?_)
                          · have tc_14 : zk_13.toInt ≤ k.toInt := v_le c_14
                            refine lv_iload_n hx hb dX12_parts_309 rfl (lv_at hl 2 rfl) ?_
                            refine lv_aload_n hx hb dX12_parts_310 rfl (lv_at hl 4 rfl) ?_
                            refine va_get (D := (dC, dI)) (ci := 12) (v := .int zk_13) (C := RX12) (T := TX12) (N := 40) hx hb hts in_X12 hown hK hP 0 rfl rfl 32 (Nat.le_of_ble_eq_true rfl) (hts (.fieldLink RX12 135 "TextMenderModel" "workMany" "I") (List.mem_of_getElem? (i := 7) rfl)) (fun _ h9 => h9) rfl dX12_parts_311 ?_
                            refine lv_iadd hx hb dX12_parts_314 ?_
                            refine lv_topi (fun x_15 ex_15 => ?_)
                            have tx_15 : x_15.toInt = al.toInt + zk_13.toInt := v_addR ex_15 g_al hf13_4 (by decide) (by decide)
                            refine lv_istore_n (lv' := [(3, .int x_15), (5, .int k), (4, .int i2), (2, .int x_1), (0, .ref oM), (1, .int pe)]) hx hb dX12_parts_315 rfl hl (by decide) rfl (fun ls hl => ?_)
                            refine lv_iload_n hx hb dX12_parts_316 rfl (lv_at hl 0 rfl) ?_
                            refine lv_sipush (v := 300) hx hb dX12_parts_317 (by decide) ?_
                            refine lv_icmp_le (tgt := 325) hx hb dX12_parts_320 (by decide) (fun c_16 => ?_) (fun c_16 => ?_)
                            · have tc_16 : x_15.toInt ≤ 300 := v_le c_16
                              refine lv_aload_n hx hb dX12_parts_325 rfl (lv_at hl 4 rfl) ?_
                              refine va_get (D := (dC, dI)) (ci := 12) (v := .ref y3) (C := RX12) (T := TX12) (N := 40) hx hb hts in_X12 hown hK hP 0 rfl rfl 37 (Nat.le_of_ble_eq_true rfl) (hts (.fieldLink RX12 76 "TextMenderModel" "restEnd" "[I") (List.mem_of_getElem? (i := 9) rfl)) (fun _ h9 => h9) rfl dX12_parts_326 ?_
                              refine lv_iload hx hb dX12_parts_329 (lv_at hl 2 rfl) ?_
                              refine va_iald hx hb hK hP 13 0 rfl rfl (v_inR g_i2 (by decide) (by decide)) dX12_parts_331 ?_
                              refine k_i (y := x_11) ex_11.symm ?_
                              refine lv_istore (lv' := [(4, .int x_11), (3, .int x_15), (5, .int k), (2, .int x_1), (0, .ref oM), (1, .int pe)]) hx hb dX12_parts_332 hl (by decide) rfl (fun ls hl => ?_)
                              refine lv_goto (tgt := 248) hx hb dX12_parts_334 (by decide) ?_
                              exact ih_248 x_15 x_11 zn_13 zd_13 zm_13 zl_13 zk_13 eY_13 eE_13 eW_13 eO_13 eZe _ _ _ (ms_lt hm_248 (by show ((60 - x_11.toInt : Int)) < 60 - i2.toInt; omega) (by show (0 : Int) < 60 - i2.toInt; omega)) (by show 0 ≤ x_15.toInt ∧ x_15.toInt ≤ 300; omega) (by show 0 ≤ x_11.toInt ∧ x_11.toInt ≤ 60; omega) (hf13_0) (hf13_2) (hf13_4) (hf13_1) (hf13_3) (hf13_5) (hf13_6) (g_eZe) (by show x_11.toInt ≤ x_1.toInt; omega) (lay_r hly (by omega) hsp9 hm9 hcb (by omega) (by omega) (by omega) (by rw [← ex_11]) (by omega)) hP hD hS (lv_sub hl [0, 1, 3, 4, 5] rfl)
                            · have tc_16 : 300 < x_15.toInt := v_nle c_16
                              refine lv_iconst (v := (-1)) hx hb dX12_parts_323 (by decide) ?_
                              exact kl_i (v := (-1)) hQQ hx hb hr hlocks hS dX12_parts_324 (fun PZ9 kZ9 => kZ9 0 (-1) er1a er2a er3a er4a eZe zn_13 eY_13 zd_13 zm_13 zl_13 eE_13 zk_13 eW_13 eO_13 zp zf zs eS eX (⟨hP, hD⟩) (g_eZe) (hf13_0) (hf13_1) (hf13_2) (hf13_3) (hf13_4) (hf13_5) (hf13_6) (g_zp) (g_zf) (g_zs) (g_eS) (g_eX) (by show zs.toInt ≤ zs.toInt + 1 ∧ zs.toInt ≤ zs.toInt; omega) (by first | exact Or.inl (by omega) | exact Or.inr ⟨rfl, rfl, rfl⟩) (OR_n rfl (lay_rn hU hx9 hpb0 hly (by omega) hsp9 hm9 hcb (by omega) (by omega) (by omega))))
                          · have tc_14 : k.toInt < zk_13.toInt := v_nle c_14
                            refine lv_aload_n hx hb dX12_parts_287 rfl (lv_at hl 4 rfl) ?_
                            refine va_get (D := (dC, dI)) (ci := 12) (v := .ref mZ) (C := RX12) (T := TX12) (N := 40) hx hb hts in_X12 hown hK hP 0 rfl rfl 39 (Nat.le_of_ble_eq_true rfl) (hts (.fieldLink RX12 82 "TextMenderModel" "came2" "[I") (List.mem_of_getElem? (i := 11) rfl)) (fun _ h9 => h9) rfl dX12_parts_288 ?_
                            refine lv_iload_n hx hb dX12_parts_291 rfl (lv_at hl 2 rfl) ?_
                            refine lv_iload hx hb dX12_parts_292 (lv_at hl 0 rfl) ?_
                            refine lv_iadd hx hb dX12_parts_294 ?_
                            refine lv_topi (fun x_17 ex_17 => ?_)
                            have tx_17 : x_17.toInt = al.toInt + k.toInt := v_addR ex_17 g_al g_k (by decide) (by decide)
                            refine lv_aload_n hx hb dX12_parts_295 rfl (lv_at hl 4 rfl) ?_
                            refine va_get (D := (dC, dI)) (ci := 12) (v := .ref mW) (C := RX12) (T := TX12) (N := 40) hx hb hts in_X12 hown hK hP 0 rfl rfl 31 (Nat.le_of_ble_eq_true rfl) (hts (.fieldLink RX12 64 "TextMenderModel" "work" "[I") (List.mem_of_getElem? (i := 6) rfl)) (fun _ h9 => h9) rfl dX12_parts_296 ?_
                            refine lv_iload hx hb dX12_parts_299 (lv_at hl 0 rfl) ?_
                            refine va_iald hx hb hK hP 5 0 rfl rfl (v_in (by omega)) dX12_parts_301 ?_
                            refine lv_topi (fun x_18 ex_18 => ?_)
                            have tx_18 : 0 ≤ x_18.toInt ∧ x_18.toInt ≤ 65535 := rg_at hf13_5 ex_18
                            obtain ⟨f_19, ef_19⟩ : ∃ g : Nat → Int32, g = upd eZe (x_17 : Int32).toNatClampNeg x_18 := ⟨_, rfl⟩
                            refine va_iast hx hb hK hP hD hS 18 0 rfl rfl (v_in (by omega)) dX12_parts_302 (kWf (g := f_19) (F := fun f_19 => [(oM, .inr (12, [.ref mT, .int zt, .ref mS, .ref mX, .int zp, .int zf, .ref mL, .ref mB, .ref mD, .ref m1, .ref m2, .int zh, .ref mR, .int zr, .ref x1, .ref x2, .ref x3, .int zc, .ref mH, .int zy, .int za, .int zb, .int zs, .int zq, .int (-1), .int 0, .ref mY, .int zn_13, .ref mE, .int zm_13, .int zl_13, .ref mW, .int zk_13, .ref mO, .int zd_13, .ref y1, .ref y2, .ref y3, .ref y4, .ref mZ])), (mY, .inl (cI, 2600, .inl eY_13)), (mB, .inl (cS, 131072, .inl eB)), (mL, .inl (cI, 512, .inl eL)), (mE, .inl (cI, 2600, .inl eE_13)), (mW, .inl (cI, 300, .inl eW_13)), (mO, .inl (cI, 300, .inl eO_13)), (mS, .inl (cI, 21, .inl eS)), (mX, .inl (cI, 6300, .inl eX)), (m1, .inl (cI, 6, .inl e1)), (m2, .inl (cI, 6, .inl e2)), (y1, .inl (cI, 61, .inl er1a)), (y2, .inl (cI, 61, .inl er2a)), (y3, .inl (cI, 61, .inl er3a)), (y4, .inl (cI, 61, .inl er4a)), (x1, .inl (cI, 300, .inl ec1)), (x2, .inl (cI, 300, .inl ec2)), (x3, .inl (cI, 300, .inl ec3)), (mZ, .inl (cI, 600, .inl f_19))]) ef_19 rfl (fun H locs hPn hDn hSn => ?_))
                            clear hP hD hS
                            have hP := hPn
                            have hD := hDn
                            have hS := hSn
                            clear hPn hDn hSn
                            have g_f19 : rg 0 65535 f_19 := rg_upd ef_19 g_eZe (by omega)
                            obtain ⟨x_20, ex_20⟩ : ∃ y : Int32, y = k + 1 := ⟨_, rfl⟩
                            have tx_20 : x_20.toInt = k.toInt + 1 := v_addR (l2 := 1) (h2 := 1) ex_20 g_k (by decide) (by decide) (by decide)
                            refine lv_iinc (v := x_20) (lv' := [(5, .int x_20), (4, .int i2), (3, .int al), (2, .int x_1), (0, .ref oM), (1, .int pe)]) hx hb dX12_parts_303 hl (k := 0) rfl (by rw [ex_20]; rfl) (by decide) rfl (fun ls hl => ?_)
                            refine lv_goto (tgt := 278) hx hb dX12_parts_306 (by decide) ?_
                            exact ih_278 x_20 f_19 _ _ _ (ms_lt hm_278 (by show ((300 - x_20.toInt : Int)) < 300 - k.toInt; omega) (by show (0 : Int) < 300 - k.toInt; omega)) (by show 0 ≤ x_20.toInt ∧ x_20.toInt ≤ 300; omega) (g_f19) (by show x_20.toInt ≤ zk_13.toInt; omega) (CPB_s hcb (by omega) (by omega) ex_18 ef_19 (by omega) (by omega)) hP hD hS (lv_sub hl [0, 1, 2, 3, 4, 5] rfl)
                      exact LOOP_278 _ 0 eZd _ _ _ (ms_s _) (by decide) (g_eZd) (by show 0 ≤ zk_13.toInt; omega) (CPB_0 (by decide)) hP hD hS (lv_sub hl [0, 1, 2, 3, 4, 5] rfl)
                exact LOOP_248 _ 0 0 zna zda zma zla zka eYa eEa eWa eOa eZ _ _ _ (ms_s _) (by decide) (by decide) (g_zna) (g_zma) (g_zka) (g_eYa) (g_eEa) (g_eWa) (g_eOa) (g_eZ) (by show 0 ≤ x_1.toInt; omega) (⟨0, rfl, rfl⟩) hP hD hS (lv_sub hl [0, 1, 2, 3, 4] rfl)
              · have tc_7 : 0 ≤ i.toInt := v_nlt c_7
                have ci9 := v_clamp (x := i) (by omega)
                refine lv_aload_n hx hb dX12_parts_49 rfl (lv_at hl 2 rfl) ?_
                refine va_get (D := (dC, dI)) (ci := 12) (v := .ref y2) (C := RX12) (T := TX12) (N := 40) hx hb hts in_X12 hown hK hP 0 rfl rfl 36 (Nat.le_of_ble_eq_true rfl) (hts (.fieldLink RX12 73 "TextMenderModel" "restSpans" "[I") (List.mem_of_getElem? (i := 4) rfl)) (fun _ h9 => h9) rfl dX12_parts_50 ?_
                refine lv_iload_n hx hb dX12_parts_53 rfl (lv_at hl 0 rfl) ?_
                refine lv_iconst (v := 0) hx hb dX12_parts_54 (by decide) ?_
                obtain ⟨f_21, ef_21⟩ : ∃ g : Nat → Int32, g = upd er2a (i : Int32).toNatClampNeg 0 := ⟨_, rfl⟩
                refine va_iast hx hb hK hP hD hS 12 0 rfl rfl (v_in (by omega)) dX12_parts_55 (kWf (g := f_21) (F := fun f_21 => [(oM, .inr (12, [.ref mT, .int zt, .ref mS, .ref mX, .int zp, .int zf, .ref mL, .ref mB, .ref mD, .ref m1, .ref m2, .int zh, .ref mR, .int zr, .ref x1, .ref x2, .ref x3, .int zc, .ref mH, .int zy, .int za, .int zb, .int zs, .int zq, .int (-1), .int 0, .ref mY, .int zna, .ref mE, .int zma, .int zla, .ref mW, .int zka, .ref mO, .int zda, .ref y1, .ref y2, .ref y3, .ref y4, .ref mZ])), (mY, .inl (cI, 2600, .inl eYa)), (mB, .inl (cS, 131072, .inl eB)), (mL, .inl (cI, 512, .inl eL)), (mE, .inl (cI, 2600, .inl eEa)), (mW, .inl (cI, 300, .inl eWa)), (mO, .inl (cI, 300, .inl eOa)), (mS, .inl (cI, 21, .inl eS)), (mX, .inl (cI, 6300, .inl eX)), (m1, .inl (cI, 6, .inl e1)), (m2, .inl (cI, 6, .inl e2)), (y1, .inl (cI, 61, .inl er1a)), (y2, .inl (cI, 61, .inl f_21)), (y3, .inl (cI, 61, .inl er3a)), (y4, .inl (cI, 61, .inl er4a)), (x1, .inl (cI, 300, .inl ec1)), (x2, .inl (cI, 300, .inl ec2)), (x3, .inl (cI, 300, .inl ec3)), (mZ, .inl (cI, 600, .inl eZ))]) ef_21 rfl (fun H locs hPn hDn hSn => ?_))
                clear hP hD hS
                have hP := hPn
                have hD := hDn
                have hS := hSn
                clear hPn hDn hSn
                refine lv_iload_n hx hb dX12_parts_56 rfl (lv_at hl 1 rfl) ?_
                refine lv_istore (lv' := [(4, .int x_1), (3, .int i), (2, .int x_1), (0, .ref oM), (1, .int pe)]) hx hb dX12_parts_57 hl (by decide) rfl (fun ls hl => ?_)
                have LOOP_59 : ∀ (k_59 : Nat) (j : Int32) (znb : Int32) (zdb : Int32) (zmb : Int32) (zlb : Int32) (zkb : Int32) (eYb : Nat → Int32) (eEb : Nat → Int32) (eWb : Nat → Int32) (eOb : Nat → Int32) (er1b : Nat → Int32) (er2b : Nat → Int32) (er3b : Nat → Int32) (er4b : Nat → Int32) (H : Heap) (locs : List Loc) (ls : Array Slot), MSd (j.toInt - i.toInt : Int) k_59 → (i.toInt ≤ j.toInt ∧ j.toInt ≤ x_1.toInt) → (0 ≤ znb.toInt ∧ znb.toInt ≤ 2600) → (0 ≤ zmb.toInt ∧ zmb.toInt ≤ 2600) → (0 ≤ zkb.toInt ∧ zkb.toInt ≤ 300) → (rg 0 255 eYb) → (rg 0 65535 eEb) → (rg 0 65535 eWb) → (rg 0 65535 eOb) → (QOR ((eS 0).toInt.toNat : Int) (i.toNatClampNeg : Int) er1b er2b) → (onlyI i.toNatClampNeg er1a er1b er2a er2b er3a er3b er4a er4b) → (BFR (UR e1 e2 eL eB) (tcR zc.toInt ec1 ec2 ec3) zh.toNatClampNeg (eS 0).toInt.toNat eX pe.toInt (fun j2 _ => j.toInt < (j2 : Int)) i.toNatClampNeg er1b er2b er3b er4b) → va_P (dC, dI) vwCl [(oM, .inr (12, [.ref mT, .int zt, .ref mS, .ref mX, .int zp, .int zf, .ref mL, .ref mB, .ref mD, .ref m1, .ref m2, .int zh, .ref mR, .int zr, .ref x1, .ref x2, .ref x3, .int zc, .ref mH, .int zy, .int za, .int zb, .int zs, .int zq, .int (-1), .int 0, .ref mY, .int znb, .ref mE, .int zmb, .int zlb, .ref mW, .int zkb, .ref mO, .int zdb, .ref y1, .ref y2, .ref y3, .ref y4, .ref mZ])), (mY, .inl (cI, 2600, .inl eYb)), (mB, .inl (cS, 131072, .inl eB)), (mL, .inl (cI, 512, .inl eL)), (mE, .inl (cI, 2600, .inl eEb)), (mW, .inl (cI, 300, .inl eWb)), (mO, .inl (cI, 300, .inl eOb)), (mS, .inl (cI, 21, .inl eS)), (mX, .inl (cI, 6300, .inl eX)), (m1, .inl (cI, 6, .inl e1)), (m2, .inl (cI, 6, .inl e2)), (y1, .inl (cI, 61, .inl er1b)), (y2, .inl (cI, 61, .inl er2b)), (y3, .inl (cI, 61, .inl er3b)), (y4, .inl (cI, 61, .inl er4b)), (x1, .inl (cI, 300, .inl ec1)), (x2, .inl (cI, 300, .inl ec2)), (x3, .inl (cI, 300, .inl ec3)), (mZ, .inl (cI, 600, .inl eZ))] H → va_D A [(oM, .inr (12, [.ref mT, .int zt, .ref mS, .ref mX, .int zp, .int zf, .ref mL, .ref mB, .ref mD, .ref m1, .ref m2, .int zh, .ref mR, .int zr, .ref x1, .ref x2, .ref x3, .int zc, .ref mH, .int zy, .int za, .int zb, .int zs, .int zq, .int (-1), .int 0, .ref mY, .int znb, .ref mE, .int zmb, .int zlb, .ref mW, .int zkb, .ref mO, .int zdb, .ref y1, .ref y2, .ref y3, .ref y4, .ref mZ])), (mY, .inl (cI, 2600, .inl eYb)), (mB, .inl (cS, 131072, .inl eB)), (mL, .inl (cI, 512, .inl eL)), (mE, .inl (cI, 2600, .inl eEb)), (mW, .inl (cI, 300, .inl eWb)), (mO, .inl (cI, 300, .inl eOb)), (mS, .inl (cI, 21, .inl eS)), (mX, .inl (cI, 6300, .inl eX)), (m1, .inl (cI, 6, .inl e1)), (m2, .inl (cI, 6, .inl e2)), (y1, .inl (cI, 61, .inl er1b)), (y2, .inl (cI, 61, .inl er2b)), (y3, .inl (cI, 61, .inl er3b)), (y4, .inl (cI, 61, .inl er4b)), (x1, .inl (cI, 300, .inl ec1)), (x2, .inl (cI, 300, .inl ec2)), (x3, .inl (cI, 300, .inl ec3)), (mZ, .inl (cI, 600, .inl eZ))] → va_S A s.heap H locs → lv_has ls 8 [(4, .int j), (3, .int i), (2, .int x_1), (0, .ref oM), (1, .int pe)] → W p l e (headSpec wsX12_parts ({ frames := 6, cells := 0, slots := 0, locals := 144 } : Room)).room s m ([.ref oM, .int pe] : List Value).toArray below meth c H locs 0 0 (MQ below QQ ([.ref oM, .int pe] : List Value).toArray s 0 0 A) (F0 m 59 ls []) := by
                  clear hP hD hS hl
                  try (clear g_zna g_zma g_zka hzs)
                  intro k_59
                  induction k_59 with
                  | zero =>
                    intro j znb zdb zmb zlb zkb eYb eEb eWb eOb er1b er2b er3b er4b H locs ls hm_59 g_j g_znb g_zmb g_zkb g_eYb g_eEb g_eWb g_eOb hqb hob hbb hP hD hS hl
                    exact ms_0 hm_59
                  | succ k_59 ih_59 =>
                    intro j znb zdb zmb zlb zkb eYb eEb eWb eOb er1b er2b er3b er4b H locs ls hm_59 g_j g_znb g_zmb g_zkb g_eYb g_eEb g_eWb g_eOb hqb hob hbb hP hD hS hl
                    refine lv_iload hx hb dX12_parts_59 (lv_at hl 0 rfl) ?_
                    refine lv_iload_n hx hb dX12_parts_61 rfl (lv_at hl 1 rfl) ?_
                    refine lv_icmp_le (tgt := 237) hx hb dX12_parts_62 (by decide) (fun c_22 => ?_) (fun c_22 => ?_)
                    · have tc_22 : j.toInt ≤ i.toInt := v_le c_22
                      have rw22_0 := v_rng j
                      obtain ⟨x_23, ex_23⟩ : ∃ y : Int32, y = i + (-1) := ⟨_, rfl⟩
                      have tx_23 : x_23.toInt = i.toInt + (-1) := v_addR (l2 := (-1)) (h2 := (-1)) ex_23 g_i (by decide) (by decide) (by decide)
                      refine lv_iinc (v := x_23) (lv' := [(3, .int x_23), (4, .int j), (2, .int x_1), (0, .ref oM), (1, .int pe)]) hx hb dX12_parts_237 hl (k := 1) rfl (by rw [ex_23]; rfl) (by decide) rfl (fun ls hl => ?_)
                      refine lv_goto (tgt := 45) hx hb dX12_parts_240 (by decide) ?_
                      exact ih_45 x_23 znb zdb zmb zlb zkb eYb eEb eWb eOb er1b er2b er3b er4b _ _ _ (ms_lt hm_45 (by show ((x_23.toInt + 1 : Int)) < i.toInt + 1; omega) (by show (0 : Int) < i.toInt + 1; omega)) (by show -1 ≤ x_23.toInt ∧ x_23.toInt ≤ 59; omega) (g_znb) (g_zmb) (g_zkb) (g_eYb) (g_eEb) (g_eWb) (g_eOb) (by show x_23.toInt < x_1.toInt; omega) (QOR_dn (i := i.toNatClampNeg) hqb rfl (by omega) ⟨(BFR_all hbb (by omega) (fun j2 h2 s sp c9 => by have c8 := c9.1; show j.toInt < (j2 : Int); omega)).1, (BFR_all hbb (by omega) (fun j2 h2 s sp c9 => by have c8 := c9.1; show j.toInt < (j2 : Int); omega)).2.1, (BFR_all hbb (by omega) (fun j2 h2 s sp c9 => by have c8 := c9.1; show j.toInt < (j2 : Int); omega)).2.2.1, (BFR_all hbb (by omega) (fun j2 h2 s sp c9 => by have c8 := c9.1; show j.toInt < (j2 : Int); omega)).2.2.2.1⟩) (PBK_s (i := i.toNatClampNeg) (PBK_k hpb (fun k k1 k2 => hob k (by omega))) (by omega) (by omega) (BFR_all hbb (by omega) (fun j2 h2 s sp c9 => by have c8 := c9.1; show j.toInt < (j2 : Int); omega)).2.2.2.2.1 (BFR_all hbb (by omega) (fun j2 h2 s sp c9 => by have c8 := c9.1; show j.toInt < (j2 : Int); omega)).2.2.2.2.2) hP hD hS (lv_sub hl [0, 2, 3, 4] rfl)
                    · have tc_22 : i.toInt < j.toInt := v_nle c_22
                      have rw22_0 := v_rng j
                      have cj9 := v_clamp (x := j) (by omega)
                      refine lv_iconst (v := (-1)) hx hb dX12_parts_65 (by decide) ?_
                      refine lv_istore (lv' := [(5, .int (-1)), (4, .int j), (3, .int i), (2, .int x_1), (0, .ref oM), (1, .int pe)]) hx hb dX12_parts_66 hl (by decide) rfl (fun ls hl => ?_)
                      have LOOP_68 : ∀ (k_68 : Nat) (h : Int32) (znc : Int32) (zdc : Int32) (zmc : Int32) (zlc : Int32) (zkc : Int32) (eYc : Nat → Int32) (eEc : Nat → Int32) (eWc : Nat → Int32) (eOc : Nat → Int32) (er1c : Nat → Int32) (er2c : Nat → Int32) (er3c : Nat → Int32) (er4c : Nat → Int32) (H : Heap) (locs : List Loc) (ls : Array Slot), MSd (zh.toInt - h.toInt : Int) k_68 → (-1 ≤ h.toInt ∧ h.toInt ≤ zh.toInt) → (0 ≤ znc.toInt ∧ znc.toInt ≤ 2600) → (0 ≤ zmc.toInt ∧ zmc.toInt ≤ 2600) → (0 ≤ zkc.toInt ∧ zkc.toInt ≤ 300) → (rg 0 255 eYc) → (rg 0 65535 eEc) → (rg 0 65535 eWc) → (rg 0 65535 eOc) → (QOR ((eS 0).toInt.toNat : Int) (i.toNatClampNeg : Int) er1c er2c) → (onlyI i.toNatClampNeg er1a er1c er2a er2c er3a er3c er4a er4c) → (BFR (UR e1 e2 eL eB) (tcR zc.toInt ec1 ec2 ec3) zh.toNatClampNeg (eS 0).toInt.toNat eX pe.toInt (fun j2 h2 => j.toInt < (j2 : Int) ∨ ((j2 : Int) = j.toInt ∧ h2 < h.toInt)) i.toNatClampNeg er1c er2c er3c er4c) → va_P (dC, dI) vwCl [(oM, .inr (12, [.ref mT, .int zt, .ref mS, .ref mX, .int zp, .int zf, .ref mL, .ref mB, .ref mD, .ref m1, .ref m2, .int zh, .ref mR, .int zr, .ref x1, .ref x2, .ref x3, .int zc, .ref mH, .int zy, .int za, .int zb, .int zs, .int zq, .int (-1), .int 0, .ref mY, .int znc, .ref mE, .int zmc, .int zlc, .ref mW, .int zkc, .ref mO, .int zdc, .ref y1, .ref y2, .ref y3, .ref y4, .ref mZ])), (mY, .inl (cI, 2600, .inl eYc)), (mB, .inl (cS, 131072, .inl eB)), (mL, .inl (cI, 512, .inl eL)), (mE, .inl (cI, 2600, .inl eEc)), (mW, .inl (cI, 300, .inl eWc)), (mO, .inl (cI, 300, .inl eOc)), (mS, .inl (cI, 21, .inl eS)), (mX, .inl (cI, 6300, .inl eX)), (m1, .inl (cI, 6, .inl e1)), (m2, .inl (cI, 6, .inl e2)), (y1, .inl (cI, 61, .inl er1c)), (y2, .inl (cI, 61, .inl er2c)), (y3, .inl (cI, 61, .inl er3c)), (y4, .inl (cI, 61, .inl er4c)), (x1, .inl (cI, 300, .inl ec1)), (x2, .inl (cI, 300, .inl ec2)), (x3, .inl (cI, 300, .inl ec3)), (mZ, .inl (cI, 600, .inl eZ))] H → va_D A [(oM, .inr (12, [.ref mT, .int zt, .ref mS, .ref mX, .int zp, .int zf, .ref mL, .ref mB, .ref mD, .ref m1, .ref m2, .int zh, .ref mR, .int zr, .ref x1, .ref x2, .ref x3, .int zc, .ref mH, .int zy, .int za, .int zb, .int zs, .int zq, .int (-1), .int 0, .ref mY, .int znc, .ref mE, .int zmc, .int zlc, .ref mW, .int zkc, .ref mO, .int zdc, .ref y1, .ref y2, .ref y3, .ref y4, .ref mZ])), (mY, .inl (cI, 2600, .inl eYc)), (mB, .inl (cS, 131072, .inl eB)), (mL, .inl (cI, 512, .inl eL)), (mE, .inl (cI, 2600, .inl eEc)), (mW, .inl (cI, 300, .inl eWc)), (mO, .inl (cI, 300, .inl eOc)), (mS, .inl (cI, 21, .inl eS)), (mX, .inl (cI, 6300, .inl eX)), (m1, .inl (cI, 6, .inl e1)), (m2, .inl (cI, 6, .inl e2)), (y1, .inl (cI, 61, .inl er1c)), (y2, .inl (cI, 61, .inl er2c)), (y3, .inl (cI, 61, .inl er3c)), (y4, .inl (cI, 61, .inl er4c)), (x1, .inl (cI, 300, .inl ec1)), (x2, .inl (cI, 300, .inl ec2)), (x3, .inl (cI, 300, .inl ec3)), (mZ, .inl (cI, 600, .inl eZ))] → va_S A s.heap H locs → lv_has ls 8 [(5, .int h), (4, .int j), (3, .int i), (2, .int x_1), (0, .ref oM), (1, .int pe)] → W p l e (headSpec wsX12_parts ({ frames := 6, cells := 0, slots := 0, locals := 144 } : Room)).room s m ([.ref oM, .int pe] : List Value).toArray below meth c H locs 0 0 (MQ below QQ ([.ref oM, .int pe] : List Value).toArray s 0 0 A) (F0 m 68 ls []) := by
                        clear hP hD hS hl
                        try (clear g_znb g_zmb g_zkb g_zna g_zma g_zka hzs)
                        intro k_68
                        induction k_68 with
                        | zero =>
                          intro h znc zdc zmc zlc zkc eYc eEc eWc eOc er1c er2c er3c er4c H locs ls hm_68 g_h g_znc g_zmc g_zkc g_eYc g_eEc g_eWc g_eOc hqc hoc hbc hP hD hS hl
                          exact ms_0 hm_68
                        | succ k_68 ih_68 =>
                          intro h znc zdc zmc zlc zkc eYc eEc eWc eOc er1c er2c er3c er4c H locs ls hm_68 g_h g_znc g_zmc g_zkc g_eYc g_eEc g_eWc g_eOc hqc hoc hbc hP hD hS hl
                          refine lv_iload hx hb dX12_parts_68 (lv_at hl 0 rfl) ?_
                          refine lv_aload_n hx hb dX12_parts_70 rfl (lv_at hl 4 rfl) ?_
                          refine va_get (D := (dC, dI)) (ci := 12) (v := .int zh) (C := RX12) (T := TX12) (N := 40) hx hb hts in_X12 hown hK hP 0 rfl rfl 11 (Nat.le_of_ble_eq_true rfl) (hts (.fieldLink RX12 161 "TextMenderModel" "harms" "I") (List.mem_of_getElem? (i := 5) rfl)) (fun _ h9 => h9) rfl dX12_parts_71 ?_
                          refine lv_icmp_ge (tgt := 231) hx hb dX12_parts_74 (by decide) (fun c_24 => ?_) (fun c_24 => ?_)
                          · have tc_24 : zh.toInt ≤ h.toInt := v_le c_24
                            obtain ⟨x_25, ex_25⟩ : ∃ y : Int32, y = j + (-1) := ⟨_, rfl⟩
                            have tx_25 : x_25.toInt = j.toInt + (-1) := v_add ex_25 (by show -2147483648 ≤ j.toInt + (-1); omega) (by show j.toInt + (-1) < 2147483648; omega)
                            refine lv_iinc (v := x_25) (lv' := [(4, .int x_25), (5, .int h), (3, .int i), (2, .int x_1), (0, .ref oM), (1, .int pe)]) hx hb dX12_parts_231 hl (k := 1) rfl (by rw [ex_25]; rfl) (by decide) rfl (fun ls hl => ?_)
                            refine lv_goto (tgt := 59) hx hb dX12_parts_234 (by decide) ?_
                            exact ih_59 x_25 znc zdc zmc zlc zkc eYc eEc eWc eOc er1c er2c er3c er4c _ _ _ (ms_lt hm_59 (by show ((x_25.toInt - i.toInt : Int)) < j.toInt - i.toInt; omega) (by show (0 : Int) < j.toInt - i.toInt; omega)) (by show i.toInt ≤ x_25.toInt ∧ x_25.toInt ≤ x_1.toInt; omega) (g_znc) (g_zmc) (g_zkc) (g_eYc) (g_eEc) (g_eWc) (g_eOc) (hqc) (hoc) (BFR_A hbc (fun j2 h2 s sp c9 => by have c8 := c9.2.2.2.1; show x_25.toInt < (j2 : Int) ↔ (j.toInt < (j2 : Int) ∨ ((j2 : Int) = j.toInt ∧ h2 < h.toInt)); omega)) hP hD hS (lv_sub hl [0, 2, 3, 4, 5] rfl)
                          · have tc_24 : h.toInt < zh.toInt := v_nle c_24
                            refine lv_aload_n hx hb dX12_parts_77 rfl (lv_at hl 4 rfl) ?_
                            refine lv_iload_n hx hb dX12_parts_78 rfl (lv_at hl 2 rfl) ?_
                            refine lv_iload hx hb dX12_parts_79 (lv_at hl 1 rfl) ?_
                            refine lv_iload hx hb dX12_parts_81 (lv_at hl 0 rfl) ?_
                            refine kV_i (rest := []) (q0 := 0) (ci := 12) hcf (f_X12_takeSpan l dC dI cI cS H.size oM mT mS mX mL mB mD m1 m2 mR x1 x2 x3 mH mY mE mW mO y1 y2 y3 y4 mZ zt zp zf zh zr zc zy za zb zs zq (-1) 0 znc zmc zlc zkc zdc eYc eB eL eEc eWc eOc eS eX e1 e2 i j h (g_zt) (g_zp) (g_zf) (g_zh) (g_zr) (g_zc) (g_zy) (g_za) (g_zb) (g_zs) (g_zq) (g_znc) (g_zmc) (g_zkc) (g_eYc) (g_eB) (g_eL) (g_eEc) (g_eWc) (g_eOc) (g_eS) (g_eX) (g_e1) (g_e2) (by omega) (by omega) (by omega) (by omega) (by omega) (by omega) (hxl) (hlb) (hlz)) kc_X12_takeSpan gX12_parts_X12_takeSpan rfl rfl rfl ⟨Nat.le_of_ble_eq_true rfl, Nat.le_of_ble_eq_true rfl⟩ kX_t hK hP hD hS hA (posT mk_180 0) (posF mk_180 0) (kC_of mk_180 rfl rfl) (by decide +kernel) rfl rfl rfl hl rfl (Nat.le_of_ble_eq_true rfl) dX12_parts_83 ⟨Nat.le_of_ble_eq_true rfl, Nat.le_of_ble_eq_true rfl⟩ (fun r_26 H locs hB hJ hSn => ?_)
                            refine hB _ (fun zn_26 eY_26 zd_26 zm_26 zl_26 eE_26 zk_26 eW_26 eO_26 hPD9 hf26_0 hf26_1 hf26_2 hf26_3 hf26_4 hf26_5 hf26_6 hf26_7 hf26_8 => ?_)
                            clear hB
                            obtain ⟨hPn, hDn⟩ := kJi (m := mk_180) hJ rfl hPD9.1 hPD9.2 (wn := [(oM, .inr (12, [.ref mT, .int zt, .ref mS, .ref mX, .int zp, .int zf, .ref mL, .ref mB, .ref mD, .ref m1, .ref m2, .int zh, .ref mR, .int zr, .ref x1, .ref x2, .ref x3, .int zc, .ref mH, .int zy, .int za, .int zb, .int zs, .int zq, .int (-1), .int 0, .ref mY, .int zn_26, .ref mE, .int zm_26, .int zl_26, .ref mW, .int zk_26, .ref mO, .int zd_26, .ref y1, .ref y2, .ref y3, .ref y4, .ref mZ])), (mY, .inl (cI, 2600, .inl eY_26)), (mB, .inl (cS, 131072, .inl eB)), (mL, .inl (cI, 512, .inl eL)), (mE, .inl (cI, 2600, .inl eE_26)), (mW, .inl (cI, 300, .inl eW_26)), (mO, .inl (cI, 300, .inl eO_26)), (mS, .inl (cI, 21, .inl eS)), (mX, .inl (cI, 6300, .inl eX)), (m1, .inl (cI, 6, .inl e1)), (m2, .inl (cI, 6, .inl e2)), (y1, .inl (cI, 61, .inl er1c)), (y2, .inl (cI, 61, .inl er2c)), (y3, .inl (cI, 61, .inl er3c)), (y4, .inl (cI, 61, .inl er4c)), (x1, .inl (cI, 300, .inl ec1)), (x2, .inl (cI, 300, .inl ec2)), (x3, .inl (cI, 300, .inl ec3)), (mZ, .inl (cI, 600, .inl eZ))]) rfl
                            clear hP hD hS hJ hPD9
                            have hP := hPn
                            have hD := hDn
                            have hS := hSn
                            clear hPn hDn hSn
                            refine lv_if_ne (tgt := 92) hx hb dX12_parts_86 (by decide) (fun c_27 => ?_) (fun c_27 => ?_)
                            · have tc_27 : ¬ r_26.toInt = 0 := v_ne c_27
                              obtain ⟨m9, hm9, hsp9⟩ := ts_1 hf26_8 (by omega)
                              refine lv_aload_n hx hb dX12_parts_92 rfl (lv_at hl 4 rfl) ?_
                              refine lv_aload_n hx hb dX12_parts_93 rfl (lv_at hl 4 rfl) ?_
                              refine va_get (D := (dC, dI)) (ci := 12) (v := .ref mW) (C := RX12) (T := TX12) (N := 40) hx hb hts in_X12 hown hK hP 0 rfl rfl 31 (Nat.le_of_ble_eq_true rfl) (hts (.fieldLink RX12 64 "TextMenderModel" "work" "[I") (List.mem_of_getElem? (i := 6) rfl)) (fun _ h9 => h9) rfl dX12_parts_94 ?_
                              refine lv_iconst (v := 0) hx hb dX12_parts_97 (by decide) ?_
                              refine lv_aload_n hx hb dX12_parts_98 rfl (lv_at hl 4 rfl) ?_
                              refine va_get (D := (dC, dI)) (ci := 12) (v := .int zk_26) (C := RX12) (T := TX12) (N := 40) hx hb hts in_X12 hown hK hP 0 rfl rfl 32 (Nat.le_of_ble_eq_true rfl) (hts (.fieldLink RX12 135 "TextMenderModel" "workMany" "I") (List.mem_of_getElem? (i := 7) rfl)) (fun _ h9 => h9) rfl dX12_parts_99 ?_
                              refine kV_i (rest := []) (q0 := 0) (ci := 12) hcf (f_X12_costOf_ l dC dI cI cS H.size oM mW mT mS mX mL mB mD m1 m2 mR x1 x2 x3 mH mY mE mW mO y1 y2 y3 y4 mZ 300 zt zp zf zh zr zc zy za zb zs zq (-1) 0 zn_26 zm_26 zl_26 zk_26 zd_26 ec1 ec2 ec3 eW_26 0 zk_26 (g_zt) (g_zp) (g_zf) (g_zh) (g_zr) (g_zc) (g_zy) (g_za) (g_zb) (g_zs) (g_zq) (hf26_0) (hf26_2) (hf26_4) (by decide) (hf26_4) (by omega) (by omega) (hV) (prg_of hf26_5)) kc_X12_costOf_ gX12_parts_X12_costOf_ rfl rfl rfl ⟨Nat.le_of_ble_eq_true rfl, Nat.le_of_ble_eq_true rfl⟩ kX_t hK hP hD hS hA ([0, 2, 3, 4, 1].filterMap (fun j => (posT mk_181 0)[j]?)) (posF mk_181 0) (kCp (ws := [(oM, .inr (12, [.ref mT, .int zt, .ref mS, .ref mX, .int zp, .int zf, .ref mL, .ref mB, .ref mD, .ref m1, .ref m2, .int zh, .ref mR, .int zr, .ref x1, .ref x2, .ref x3, .int zc, .ref mH, .int zy, .int za, .int zb, .int zs, .int zq, .int (-1), .int 0, .ref mY, .int zn_26, .ref mE, .int zm_26, .int zl_26, .ref mW, .int zk_26, .ref mO, .int zd_26, .ref y1, .ref y2, .ref y3, .ref y4, .ref mZ])), (mW, .inl (cI, 300, .inl eW_26)), (x1, .inl (cI, 300, .inl ec1)), (x2, .inl (cI, 300, .inl ec2)), (x3, .inl (cI, 300, .inl ec3))]) (kC_of mk_181 rfl rfl) rfl) (by decide +kernel) rfl rfl rfl hl rfl (Nat.le_of_ble_eq_true rfl) dX12_parts_102 ⟨Nat.le_of_ble_eq_true rfl, Nat.le_of_ble_eq_true rfl⟩ (fun r_28 H locs hB hJ hSn => ?_)
                              refine hB _ (fun hPD9 hf28_0 hf28_1 => ?_)
                              clear hB
                              obtain ⟨hPn, hDn⟩ := kJm (m := mk_181) hJ rfl hPD9.1 hPD9.2 [0, 4, 1, 2, 3] (by decide +kernel) (ws := [(oM, .inr (12, [.ref mT, .int zt, .ref mS, .ref mX, .int zp, .int zf, .ref mL, .ref mB, .ref mD, .ref m1, .ref m2, .int zh, .ref mR, .int zr, .ref x1, .ref x2, .ref x3, .int zc, .ref mH, .int zy, .int za, .int zb, .int zs, .int zq, .int (-1), .int 0, .ref mY, .int zn_26, .ref mE, .int zm_26, .int zl_26, .ref mW, .int zk_26, .ref mO, .int zd_26, .ref y1, .ref y2, .ref y3, .ref y4, .ref mZ])), (mW, .inl (cI, 300, .inl eW_26)), (x1, .inl (cI, 300, .inl ec1)), (x2, .inl (cI, 300, .inl ec2)), (x3, .inl (cI, 300, .inl ec3))]) rfl (wn := [(oM, .inr (12, [.ref mT, .int zt, .ref mS, .ref mX, .int zp, .int zf, .ref mL, .ref mB, .ref mD, .ref m1, .ref m2, .int zh, .ref mR, .int zr, .ref x1, .ref x2, .ref x3, .int zc, .ref mH, .int zy, .int za, .int zb, .int zs, .int zq, .int (-1), .int 0, .ref mY, .int zn_26, .ref mE, .int zm_26, .int zl_26, .ref mW, .int zk_26, .ref mO, .int zd_26, .ref y1, .ref y2, .ref y3, .ref y4, .ref mZ])), (mY, .inl (cI, 2600, .inl eY_26)), (mB, .inl (cS, 131072, .inl eB)), (mL, .inl (cI, 512, .inl eL)), (mE, .inl (cI, 2600, .inl eE_26)), (mW, .inl (cI, 300, .inl eW_26)), (mO, .inl (cI, 300, .inl eO_26)), (mS, .inl (cI, 21, .inl eS)), (mX, .inl (cI, 6300, .inl eX)), (m1, .inl (cI, 6, .inl e1)), (m2, .inl (cI, 6, .inl e2)), (y1, .inl (cI, 61, .inl er1c)), (y2, .inl (cI, 61, .inl er2c)), (y3, .inl (cI, 61, .inl er3c)), (y4, .inl (cI, 61, .inl er4c)), (x1, .inl (cI, 300, .inl ec1)), (x2, .inl (cI, 300, .inl ec2)), (x3, .inl (cI, 300, .inl ec3)), (mZ, .inl (cI, 600, .inl eZ))]) rfl
                              clear hP hD hS hJ hPD9
                              have hP := hPn
                              have hD := hDn
                              have hS := hSn
                              clear hPn hDn hSn
                              refine lv_iload hx hb dX12_parts_105 (lv_at hl 1 rfl) ?_
                              refine lv_iload_n hx hb dX12_parts_107 rfl (lv_at hl 3 rfl) ?_
                              refine lv_icmp_ge (tgt := 123) hx hb dX12_parts_108 (by decide) (fun c_29 => ?_) (fun c_29 => ?_)
                              · have tc_29 : x_1.toInt ≤ j.toInt := v_le c_29
                                refine lv_iconst (v := 0) hx hb dX12_parts_123 (by decide) ?_
                                refine lv_iadd hx hb dX12_parts_124 ?_
                                refine lv_topi (fun x_30 ex_30 => ?_)
                                have tx_30 : x_30.toInt = r_28.toInt + 0 := v_addR (l2 := 0) (h2 := 0) ex_30 hf28_0 (by decide) (by decide) (by decide)
                                refine lv_istore (lv' := [(6, .int x_30), (5, .int h), (4, .int j), (3, .int i), (2, .int x_1), (0, .ref oM), (1, .int pe)]) hx hb dX12_parts_125 hl (by decide) rfl (fun ls hl => ?_)
                                refine lv_iconst (v := 1) hx hb dX12_parts_127 (by decide) ?_
                                refine lv_iload hx hb dX12_parts_128 (lv_at hl 2 rfl) ?_
                                refine lv_iload_n hx hb dX12_parts_130 rfl (lv_at hl 4 rfl) ?_
                                refine lv_icmp_ge (tgt := 144) hx hb dX12_parts_131 (by decide) (fun c_31 => ?_) (fun c_31 => by exfalso; have tc_31 : j.toInt < x_1.toInt := v_nle c_31; omega)
                                have tc_31 : x_1.toInt ≤ j.toInt := v_le c_31
                                refine lv_iconst (v := 0) hx hb dX12_parts_144 (by decide) ?_
                                refine lv_iadd hx hb dX12_parts_145 ?_
                                refine k_i (y := 1) (by decide) ?_
                                refine lv_istore (lv' := [(7, .int 1), (6, .int x_30), (5, .int h), (4, .int j), (3, .int i), (2, .int x_1), (0, .ref oM), (1, .int pe)]) hx hb dX12_parts_146 hl (by decide) rfl (fun ls hl => ?_)
                                refine lv_aload_n hx hb dX12_parts_148 rfl (lv_at hl 6 rfl) ?_
                                refine va_get (D := (dC, dI)) (ci := 12) (v := .ref y2) (C := RX12) (T := TX12) (N := 40) hx hb hts in_X12 hown hK hP 0 rfl rfl 36 (Nat.le_of_ble_eq_true rfl) (hts (.fieldLink RX12 73 "TextMenderModel" "restSpans" "[I") (List.mem_of_getElem? (i := 4) rfl)) (fun _ h9 => h9) rfl dX12_parts_149 ?_
                                refine lv_iload_n hx hb dX12_parts_152 rfl (lv_at hl 4 rfl) ?_
                                refine va_iald hx hb hK hP 12 0 rfl rfl (v_in (by omega)) dX12_parts_153 ?_
                                refine lv_topi (fun x_32 ex_32 => ?_)
                                refine lv_if_le (tgt := 193) hx hb dX12_parts_154 (by decide) (fun c_33 => ?_) (fun c_33 => ?_)
                                · have tc_33 : x_32.toInt ≤ 0 := v_le c_33
                                  refine lv_aload_n hx hb dX12_parts_193 rfl (lv_at hl 6 rfl) ?_
                                  refine va_get (D := (dC, dI)) (ci := 12) (v := .ref y1) (C := RX12) (T := TX12) (N := 40) hx hb hts in_X12 hown hK hP 0 rfl rfl 35 (Nat.le_of_ble_eq_true rfl) (hts (.fieldLink RX12 70 "TextMenderModel" "restCost" "[I") (List.mem_of_getElem? (i := 8) rfl)) (fun _ h9 => h9) rfl dX12_parts_194 ?_
                                  refine lv_iload_n hx hb dX12_parts_197 rfl (lv_at hl 4 rfl) ?_
                                  refine lv_iload hx hb dX12_parts_198 (lv_at hl 1 rfl) ?_
                                  obtain ⟨f_34, ef_34⟩ : ∃ g : Nat → Int32, g = upd er1c (i : Int32).toNatClampNeg x_30 := ⟨_, rfl⟩
                                  refine va_iast hx hb hK hP hD hS 11 0 rfl rfl (v_in (by omega)) dX12_parts_200 (kWf (g := f_34) (F := fun f_34 => [(oM, .inr (12, [.ref mT, .int zt, .ref mS, .ref mX, .int zp, .int zf, .ref mL, .ref mB, .ref mD, .ref m1, .ref m2, .int zh, .ref mR, .int zr, .ref x1, .ref x2, .ref x3, .int zc, .ref mH, .int zy, .int za, .int zb, .int zs, .int zq, .int (-1), .int 0, .ref mY, .int zn_26, .ref mE, .int zm_26, .int zl_26, .ref mW, .int zk_26, .ref mO, .int zd_26, .ref y1, .ref y2, .ref y3, .ref y4, .ref mZ])), (mY, .inl (cI, 2600, .inl eY_26)), (mB, .inl (cS, 131072, .inl eB)), (mL, .inl (cI, 512, .inl eL)), (mE, .inl (cI, 2600, .inl eE_26)), (mW, .inl (cI, 300, .inl eW_26)), (mO, .inl (cI, 300, .inl eO_26)), (mS, .inl (cI, 21, .inl eS)), (mX, .inl (cI, 6300, .inl eX)), (m1, .inl (cI, 6, .inl e1)), (m2, .inl (cI, 6, .inl e2)), (y1, .inl (cI, 61, .inl f_34)), (y2, .inl (cI, 61, .inl er2c)), (y3, .inl (cI, 61, .inl er3c)), (y4, .inl (cI, 61, .inl er4c)), (x1, .inl (cI, 300, .inl ec1)), (x2, .inl (cI, 300, .inl ec2)), (x3, .inl (cI, 300, .inl ec3)), (mZ, .inl (cI, 600, .inl eZ))]) ef_34 rfl (fun H locs hPn hDn hSn => ?_))
                                  clear hP hD hS
                                  have hP := hPn
                                  have hD := hDn
                                  have hS := hSn
                                  clear hPn hDn hSn
                                  refine lv_aload_n hx hb dX12_parts_201 rfl (lv_at hl 6 rfl) ?_
                                  refine va_get (D := (dC, dI)) (ci := 12) (v := .ref y2) (C := RX12) (T := TX12) (N := 40) hx hb hts in_X12 hown hK hP 0 rfl rfl 36 (Nat.le_of_ble_eq_true rfl) (hts (.fieldLink RX12 73 "TextMenderModel" "restSpans" "[I") (List.mem_of_getElem? (i := 4) rfl)) (fun _ h9 => h9) rfl dX12_parts_202 ?_
                                  refine lv_iload_n hx hb dX12_parts_205 rfl (lv_at hl 4 rfl) ?_
                                  refine lv_iload hx hb dX12_parts_206 (lv_at hl 0 rfl) ?_
                                  obtain ⟨f_35, ef_35⟩ : ∃ g : Nat → Int32, g = upd er2c (i : Int32).toNatClampNeg 1 := ⟨_, rfl⟩
                                  refine va_iast hx hb hK hP hD hS 12 0 rfl rfl (v_in (by omega)) dX12_parts_208 (kWf (g := f_35) (F := fun f_35 => [(oM, .inr (12, [.ref mT, .int zt, .ref mS, .ref mX, .int zp, .int zf, .ref mL, .ref mB, .ref mD, .ref m1, .ref m2, .int zh, .ref mR, .int zr, .ref x1, .ref x2, .ref x3, .int zc, .ref mH, .int zy, .int za, .int zb, .int zs, .int zq, .int (-1), .int 0, .ref mY, .int zn_26, .ref mE, .int zm_26, .int zl_26, .ref mW, .int zk_26, .ref mO, .int zd_26, .ref y1, .ref y2, .ref y3, .ref y4, .ref mZ])), (mY, .inl (cI, 2600, .inl eY_26)), (mB, .inl (cS, 131072, .inl eB)), (mL, .inl (cI, 512, .inl eL)), (mE, .inl (cI, 2600, .inl eE_26)), (mW, .inl (cI, 300, .inl eW_26)), (mO, .inl (cI, 300, .inl eO_26)), (mS, .inl (cI, 21, .inl eS)), (mX, .inl (cI, 6300, .inl eX)), (m1, .inl (cI, 6, .inl e1)), (m2, .inl (cI, 6, .inl e2)), (y1, .inl (cI, 61, .inl f_34)), (y2, .inl (cI, 61, .inl f_35)), (y3, .inl (cI, 61, .inl er3c)), (y4, .inl (cI, 61, .inl er4c)), (x1, .inl (cI, 300, .inl ec1)), (x2, .inl (cI, 300, .inl ec2)), (x3, .inl (cI, 300, .inl ec3)), (mZ, .inl (cI, 600, .inl eZ))]) ef_35 rfl (fun H locs hPn hDn hSn => ?_))
                                  clear hP hD hS
                                  have hP := hPn
                                  have hD := hDn
                                  have hS := hSn
                                  clear hPn hDn hSn
                                  refine lv_aload_n hx hb dX12_parts_209 rfl (lv_at hl 6 rfl) ?_
                                  refine va_get (D := (dC, dI)) (ci := 12) (v := .ref y3) (C := RX12) (T := TX12) (N := 40) hx hb hts in_X12 hown hK hP 0 rfl rfl 37 (Nat.le_of_ble_eq_true rfl) (hts (.fieldLink RX12 76 "TextMenderModel" "restEnd" "[I") (List.mem_of_getElem? (i := 9) rfl)) (fun _ h9 => h9) rfl dX12_parts_210 ?_
                                  refine lv_iload_n hx hb dX12_parts_213 rfl (lv_at hl 4 rfl) ?_
                                  refine lv_iload hx hb dX12_parts_214 (lv_at hl 3 rfl) ?_
                                  obtain ⟨f_36, ef_36⟩ : ∃ g : Nat → Int32, g = upd er3c (i : Int32).toNatClampNeg j := ⟨_, rfl⟩
                                  refine va_iast hx hb hK hP hD hS 13 0 rfl rfl (v_in (by omega)) dX12_parts_216 (kWf (g := f_36) (F := fun f_36 => [(oM, .inr (12, [.ref mT, .int zt, .ref mS, .ref mX, .int zp, .int zf, .ref mL, .ref mB, .ref mD, .ref m1, .ref m2, .int zh, .ref mR, .int zr, .ref x1, .ref x2, .ref x3, .int zc, .ref mH, .int zy, .int za, .int zb, .int zs, .int zq, .int (-1), .int 0, .ref mY, .int zn_26, .ref mE, .int zm_26, .int zl_26, .ref mW, .int zk_26, .ref mO, .int zd_26, .ref y1, .ref y2, .ref y3, .ref y4, .ref mZ])), (mY, .inl (cI, 2600, .inl eY_26)), (mB, .inl (cS, 131072, .inl eB)), (mL, .inl (cI, 512, .inl eL)), (mE, .inl (cI, 2600, .inl eE_26)), (mW, .inl (cI, 300, .inl eW_26)), (mO, .inl (cI, 300, .inl eO_26)), (mS, .inl (cI, 21, .inl eS)), (mX, .inl (cI, 6300, .inl eX)), (m1, .inl (cI, 6, .inl e1)), (m2, .inl (cI, 6, .inl e2)), (y1, .inl (cI, 61, .inl f_34)), (y2, .inl (cI, 61, .inl f_35)), (y3, .inl (cI, 61, .inl f_36)), (y4, .inl (cI, 61, .inl er4c)), (x1, .inl (cI, 300, .inl ec1)), (x2, .inl (cI, 300, .inl ec2)), (x3, .inl (cI, 300, .inl ec3)), (mZ, .inl (cI, 600, .inl eZ))]) ef_36 rfl (fun H locs hPn hDn hSn => ?_))
                                  clear hP hD hS
                                  have hP := hPn
                                  have hD := hDn
                                  have hS := hSn
                                  clear hPn hDn hSn
                                  refine lv_aload_n hx hb dX12_parts_217 rfl (lv_at hl 6 rfl) ?_
                                  refine va_get (D := (dC, dI)) (ci := 12) (v := .ref y4) (C := RX12) (T := TX12) (N := 40) hx hb hts in_X12 hown hK hP 0 rfl rfl 38 (Nat.le_of_ble_eq_true rfl) (hts (.fieldLink RX12 79 "TextMenderModel" "restHarm" "[I") (List.mem_of_getElem? (i := 10) rfl)) (fun _ h9 => h9) rfl dX12_parts_218 ?_
                                  refine lv_iload_n hx hb dX12_parts_221 rfl (lv_at hl 4 rfl) ?_
                                  refine lv_iload hx hb dX12_parts_222 (lv_at hl 2 rfl) ?_
                                  obtain ⟨f_37, ef_37⟩ : ∃ g : Nat → Int32, g = upd er4c (i : Int32).toNatClampNeg h := ⟨_, rfl⟩
                                  refine va_iast hx hb hK hP hD hS 14 0 rfl rfl (v_in (by omega)) dX12_parts_224 (kWf (g := f_37) (F := fun f_37 => [(oM, .inr (12, [.ref mT, .int zt, .ref mS, .ref mX, .int zp, .int zf, .ref mL, .ref mB, .ref mD, .ref m1, .ref m2, .int zh, .ref mR, .int zr, .ref x1, .ref x2, .ref x3, .int zc, .ref mH, .int zy, .int za, .int zb, .int zs, .int zq, .int (-1), .int 0, .ref mY, .int zn_26, .ref mE, .int zm_26, .int zl_26, .ref mW, .int zk_26, .ref mO, .int zd_26, .ref y1, .ref y2, .ref y3, .ref y4, .ref mZ])), (mY, .inl (cI, 2600, .inl eY_26)), (mB, .inl (cS, 131072, .inl eB)), (mL, .inl (cI, 512, .inl eL)), (mE, .inl (cI, 2600, .inl eE_26)), (mW, .inl (cI, 300, .inl eW_26)), (mO, .inl (cI, 300, .inl eO_26)), (mS, .inl (cI, 21, .inl eS)), (mX, .inl (cI, 6300, .inl eX)), (m1, .inl (cI, 6, .inl e1)), (m2, .inl (cI, 6, .inl e2)), (y1, .inl (cI, 61, .inl f_34)), (y2, .inl (cI, 61, .inl f_35)), (y3, .inl (cI, 61, .inl f_36)), (y4, .inl (cI, 61, .inl f_37)), (x1, .inl (cI, 300, .inl ec1)), (x2, .inl (cI, 300, .inl ec2)), (x3, .inl (cI, 300, .inl ec3)), (mZ, .inl (cI, 600, .inl eZ))]) ef_37 rfl (fun H locs hPn hDn hSn => ?_))
                                  clear hP hD hS
                                  have hP := hPn
                                  have hD := hDn
                                  have hS := hSn
                                  clear hPn hDn hSn
                                  obtain ⟨x_38, ex_38⟩ : ∃ y : Int32, y = h + 1 := ⟨_, rfl⟩
                                  have tx_38 : x_38.toInt = h.toInt + 1 := v_add ex_38 (by show -2147483648 ≤ h.toInt + 1; omega) (by show h.toInt + 1 < 2147483648; omega)
                                  refine lv_iinc (v := x_38) (lv' := [(5, .int x_38), (7, .int 1), (6, .int x_30), (4, .int j), (3, .int i), (2, .int x_1), (0, .ref oM), (1, .int pe)]) hx hb dX12_parts_225 hl (k := 2) rfl (by rw [ex_38]; rfl) (by decide) rfl (fun ls hl => ?_)
                                  refine lv_goto (tgt := 68) hx hb dX12_parts_228 (by decide) ?_
                                  exact ih_68 x_38 zn_26 zd_26 zm_26 zl_26 zk_26 eY_26 eE_26 eW_26 eO_26 f_34 f_35 f_36 f_37 _ _ _ (ms_lt hm_68 (by show ((zh.toInt - x_38.toInt : Int)) < zh.toInt - h.toInt; omega) (by show (0 : Int) < zh.toInt - h.toInt; omega)) (by show -1 ≤ x_38.toInt ∧ x_38.toInt ≤ zh.toInt; omega) (hf26_0) (hf26_2) (hf26_4) (hf26_1) (hf26_3) (hf26_5) (hf26_6) (QOR_u hqc (by omega) (Or.inl ef_34) (Or.inl ef_35)) (only_t hoc (only_4 ef_34 ef_35 ef_36 ef_37)) (BFR_set hU hbc hs3 hx9 (fun j2 h2 => by show (j.toInt < (j2 : Int) ∨ ((j2 : Int) = j.toInt ∧ h2 < x_38.toInt)) ↔ ((j.toInt < (j2 : Int) ∨ ((j2 : Int) = j.toInt ∧ h2 < h.toInt)) ∨ (j2 = j.toNatClampNeg ∧ h2 = h.toInt)); omega) (cnd_of (i := i.toNatClampNeg) (j := j.toNatClampNeg) (h := h.toInt) (c := (x_30 : Int32).toInt) (sp := (1 : Int32).toInt) (co := 0) (x := r_28.toInt) (by omega) (by omega) (by omega) hsp9 (by rw [← hm9]; exact hf28_1) (by rw [if_neg (by omega)]; omega) (by rw [if_neg (by omega)]; omega)) (by omega) (by rw [← ex_32]; omega) (by omega) ef_34 ef_35 ef_36 ef_37) hP hD hS (lv_sub hl [0, 3, 4, 5, 6, 7] rfl)
                                · have tc_33 : 0 < x_32.toInt := v_nle c_33
                                  refine lv_iload hx hb dX12_parts_157 (lv_at hl 1 rfl) ?_
                                  refine lv_aload_n hx hb dX12_parts_159 rfl (lv_at hl 6 rfl) ?_
                                  refine va_get (D := (dC, dI)) (ci := 12) (v := .ref y1) (C := RX12) (T := TX12) (N := 40) hx hb hts in_X12 hown hK hP 0 rfl rfl 35 (Nat.le_of_ble_eq_true rfl) (hts (.fieldLink RX12 70 "TextMenderModel" "restCost" "[I") (List.mem_of_getElem? (i := 8) rfl)) (fun _ h9 => h9) rfl dX12_parts_160 ?_
                                  refine lv_iload_n hx hb dX12_parts_163 rfl (lv_at hl 4 rfl) ?_
                                  refine va_iald hx hb hK hP 11 0 rfl rfl (v_in (by omega)) dX12_parts_164 ?_
                                  refine lv_topi (fun x_39 ex_39 => ?_)
                                  refine lv_icmp_gt (tgt := 225) hx hb dX12_parts_165 (by decide) (fun c_40 => ?_) (fun c_40 => ?_)
                                  · have tc_40 : x_39.toInt < x_30.toInt := v_lt c_40
                                    have rw40_1 := v_rng x_39
                                    obtain ⟨x_41, ex_41⟩ : ∃ y : Int32, y = h + 1 := ⟨_, rfl⟩
                                    have tx_41 : x_41.toInt = h.toInt + 1 := v_add ex_41 (by show -2147483648 ≤ h.toInt + 1; omega) (by show h.toInt + 1 < 2147483648; omega)
                                    refine lv_iinc (v := x_41) (lv' := [(5, .int x_41), (7, .int 1), (6, .int x_30), (4, .int j), (3, .int i), (2, .int x_1), (0, .ref oM), (1, .int pe)]) hx hb dX12_parts_225 hl (k := 2) rfl (by rw [ex_41]; rfl) (by decide) rfl (fun ls hl => ?_)
                                    refine lv_goto (tgt := 68) hx hb dX12_parts_228 (by decide) ?_
                                    exact ih_68 x_41 zn_26 zd_26 zm_26 zl_26 zk_26 eY_26 eE_26 eW_26 eO_26 er1c er2c er3c er4c _ _ _ (ms_lt hm_68 (by show ((zh.toInt - x_41.toInt : Int)) < zh.toInt - h.toInt; omega) (by show (0 : Int) < zh.toInt - h.toInt; omega)) (by show -1 ≤ x_41.toInt ∧ x_41.toInt ≤ zh.toInt; omega) (hf26_0) (hf26_2) (hf26_4) (hf26_1) (hf26_3) (hf26_5) (hf26_6) (hqc) (hoc) (BFR_keep hU hbc hs3 hx9 (fun j2 h2 => by show (j.toInt < (j2 : Int) ∨ ((j2 : Int) = j.toInt ∧ h2 < x_41.toInt)) ↔ ((j.toInt < (j2 : Int) ∨ ((j2 : Int) = j.toInt ∧ h2 < h.toInt)) ∨ (j2 = j.toNatClampNeg ∧ h2 = h.toInt)); omega) (cnd_of (i := i.toNatClampNeg) (j := j.toNatClampNeg) (h := h.toInt) (c := (x_30 : Int32).toInt) (sp := (1 : Int32).toInt) (co := 0) (x := r_28.toInt) (by omega) (by omega) (by omega) hsp9 (by rw [← hm9]; exact hf28_1) (by rw [if_neg (by omega)]; omega) (by rw [if_neg (by omega)]; omega)) (by rw [← ex_32]; omega) (by rw [← ex_39, ← ex_32]; omega) (fun j2 h2 q9 => by have q8 : j.toInt < (j2 : Int) ∨ ((j2 : Int) = j.toInt ∧ h2 < h.toInt) := q9; omega)) hP hD hS (lv_sub hl [0, 3, 4, 5, 6, 7] rfl)
                                  · have tc_40 : x_30.toInt ≤ x_39.toInt := v_nlt c_40
                                    have rw40_1 := v_rng x_39
                                    refine lv_iload hx hb dX12_parts_168 (lv_at hl 1 rfl) ?_
                                    refine lv_aload_n hx hb dX12_parts_170 rfl (lv_at hl 6 rfl) ?_
                                    refine va_get (D := (dC, dI)) (ci := 12) (v := .ref y1) (C := RX12) (T := TX12) (N := 40) hx hb hts in_X12 hown hK hP 0 rfl rfl 35 (Nat.le_of_ble_eq_true rfl) (hts (.fieldLink RX12 70 "TextMenderModel" "restCost" "[I") (List.mem_of_getElem? (i := 8) rfl)) (fun _ h9 => h9) rfl dX12_parts_171 ?_
                                    refine lv_iload_n hx hb dX12_parts_174 rfl (lv_at hl 4 rfl) ?_
                                    refine va_iald hx hb hK hP 11 0 rfl rfl (v_in (by omega)) dX12_parts_175 ?_
                                    refine k_i (y := x_39) ex_39.symm ?_
                                    refine lv_icmp_ne (tgt := 193) hx hb dX12_parts_176 (by decide) (fun c_42 => ?_) (fun c_42 => ?_)
                                    · have tc_42 : ¬ x_30.toInt = x_39.toInt := v_ne c_42
                                      refine lv_aload_n hx hb dX12_parts_193 rfl (lv_at hl 6 rfl) ?_
                                      refine va_get (D := (dC, dI)) (ci := 12) (v := .ref y1) (C := RX12) (T := TX12) (N := 40) hx hb hts in_X12 hown hK hP 0 rfl rfl 35 (Nat.le_of_ble_eq_true rfl) (hts (.fieldLink RX12 70 "TextMenderModel" "restCost" "[I") (List.mem_of_getElem? (i := 8) rfl)) (fun _ h9 => h9) rfl dX12_parts_194 ?_
                                      refine lv_iload_n hx hb dX12_parts_197 rfl (lv_at hl 4 rfl) ?_
                                      refine lv_iload hx hb dX12_parts_198 (lv_at hl 1 rfl) ?_
                                      obtain ⟨f_43, ef_43⟩ : ∃ g : Nat → Int32, g = upd er1c (i : Int32).toNatClampNeg x_30 := ⟨_, rfl⟩
                                      refine va_iast hx hb hK hP hD hS 11 0 rfl rfl (v_in (by omega)) dX12_parts_200 (kWf (g := f_43) (F := fun f_43 => [(oM, .inr (12, [.ref mT, .int zt, .ref mS, .ref mX, .int zp, .int zf, .ref mL, .ref mB, .ref mD, .ref m1, .ref m2, .int zh, .ref mR, .int zr, .ref x1, .ref x2, .ref x3, .int zc, .ref mH, .int zy, .int za, .int zb, .int zs, .int zq, .int (-1), .int 0, .ref mY, .int zn_26, .ref mE, .int zm_26, .int zl_26, .ref mW, .int zk_26, .ref mO, .int zd_26, .ref y1, .ref y2, .ref y3, .ref y4, .ref mZ])), (mY, .inl (cI, 2600, .inl eY_26)), (mB, .inl (cS, 131072, .inl eB)), (mL, .inl (cI, 512, .inl eL)), (mE, .inl (cI, 2600, .inl eE_26)), (mW, .inl (cI, 300, .inl eW_26)), (mO, .inl (cI, 300, .inl eO_26)), (mS, .inl (cI, 21, .inl eS)), (mX, .inl (cI, 6300, .inl eX)), (m1, .inl (cI, 6, .inl e1)), (m2, .inl (cI, 6, .inl e2)), (y1, .inl (cI, 61, .inl f_43)), (y2, .inl (cI, 61, .inl er2c)), (y3, .inl (cI, 61, .inl er3c)), (y4, .inl (cI, 61, .inl er4c)), (x1, .inl (cI, 300, .inl ec1)), (x2, .inl (cI, 300, .inl ec2)), (x3, .inl (cI, 300, .inl ec3)), (mZ, .inl (cI, 600, .inl eZ))]) ef_43 rfl (fun H locs hPn hDn hSn => ?_))
                                      clear hP hD hS
                                      have hP := hPn
                                      have hD := hDn
                                      have hS := hSn
                                      clear hPn hDn hSn
                                      refine lv_aload_n hx hb dX12_parts_201 rfl (lv_at hl 6 rfl) ?_
                                      refine va_get (D := (dC, dI)) (ci := 12) (v := .ref y2) (C := RX12) (T := TX12) (N := 40) hx hb hts in_X12 hown hK hP 0 rfl rfl 36 (Nat.le_of_ble_eq_true rfl) (hts (.fieldLink RX12 73 "TextMenderModel" "restSpans" "[I") (List.mem_of_getElem? (i := 4) rfl)) (fun _ h9 => h9) rfl dX12_parts_202 ?_
                                      refine lv_iload_n hx hb dX12_parts_205 rfl (lv_at hl 4 rfl) ?_
                                      refine lv_iload hx hb dX12_parts_206 (lv_at hl 0 rfl) ?_
                                      obtain ⟨f_44, ef_44⟩ : ∃ g : Nat → Int32, g = upd er2c (i : Int32).toNatClampNeg 1 := ⟨_, rfl⟩
                                      refine va_iast hx hb hK hP hD hS 12 0 rfl rfl (v_in (by omega)) dX12_parts_208 (kWf (g := f_44) (F := fun f_44 => [(oM, .inr (12, [.ref mT, .int zt, .ref mS, .ref mX, .int zp, .int zf, .ref mL, .ref mB, .ref mD, .ref m1, .ref m2, .int zh, .ref mR, .int zr, .ref x1, .ref x2, .ref x3, .int zc, .ref mH, .int zy, .int za, .int zb, .int zs, .int zq, .int (-1), .int 0, .ref mY, .int zn_26, .ref mE, .int zm_26, .int zl_26, .ref mW, .int zk_26, .ref mO, .int zd_26, .ref y1, .ref y2, .ref y3, .ref y4, .ref mZ])), (mY, .inl (cI, 2600, .inl eY_26)), (mB, .inl (cS, 131072, .inl eB)), (mL, .inl (cI, 512, .inl eL)), (mE, .inl (cI, 2600, .inl eE_26)), (mW, .inl (cI, 300, .inl eW_26)), (mO, .inl (cI, 300, .inl eO_26)), (mS, .inl (cI, 21, .inl eS)), (mX, .inl (cI, 6300, .inl eX)), (m1, .inl (cI, 6, .inl e1)), (m2, .inl (cI, 6, .inl e2)), (y1, .inl (cI, 61, .inl f_43)), (y2, .inl (cI, 61, .inl f_44)), (y3, .inl (cI, 61, .inl er3c)), (y4, .inl (cI, 61, .inl er4c)), (x1, .inl (cI, 300, .inl ec1)), (x2, .inl (cI, 300, .inl ec2)), (x3, .inl (cI, 300, .inl ec3)), (mZ, .inl (cI, 600, .inl eZ))]) ef_44 rfl (fun H locs hPn hDn hSn => ?_))
                                      clear hP hD hS
                                      have hP := hPn
                                      have hD := hDn
                                      have hS := hSn
                                      clear hPn hDn hSn
                                      refine lv_aload_n hx hb dX12_parts_209 rfl (lv_at hl 6 rfl) ?_
                                      refine va_get (D := (dC, dI)) (ci := 12) (v := .ref y3) (C := RX12) (T := TX12) (N := 40) hx hb hts in_X12 hown hK hP 0 rfl rfl 37 (Nat.le_of_ble_eq_true rfl) (hts (.fieldLink RX12 76 "TextMenderModel" "restEnd" "[I") (List.mem_of_getElem? (i := 9) rfl)) (fun _ h9 => h9) rfl dX12_parts_210 ?_
                                      refine lv_iload_n hx hb dX12_parts_213 rfl (lv_at hl 4 rfl) ?_
                                      refine lv_iload hx hb dX12_parts_214 (lv_at hl 3 rfl) ?_
                                      obtain ⟨f_45, ef_45⟩ : ∃ g : Nat → Int32, g = upd er3c (i : Int32).toNatClampNeg j := ⟨_, rfl⟩
                                      refine va_iast hx hb hK hP hD hS 13 0 rfl rfl (v_in (by omega)) dX12_parts_216 (kWf (g := f_45) (F := fun f_45 => [(oM, .inr (12, [.ref mT, .int zt, .ref mS, .ref mX, .int zp, .int zf, .ref mL, .ref mB, .ref mD, .ref m1, .ref m2, .int zh, .ref mR, .int zr, .ref x1, .ref x2, .ref x3, .int zc, .ref mH, .int zy, .int za, .int zb, .int zs, .int zq, .int (-1), .int 0, .ref mY, .int zn_26, .ref mE, .int zm_26, .int zl_26, .ref mW, .int zk_26, .ref mO, .int zd_26, .ref y1, .ref y2, .ref y3, .ref y4, .ref mZ])), (mY, .inl (cI, 2600, .inl eY_26)), (mB, .inl (cS, 131072, .inl eB)), (mL, .inl (cI, 512, .inl eL)), (mE, .inl (cI, 2600, .inl eE_26)), (mW, .inl (cI, 300, .inl eW_26)), (mO, .inl (cI, 300, .inl eO_26)), (mS, .inl (cI, 21, .inl eS)), (mX, .inl (cI, 6300, .inl eX)), (m1, .inl (cI, 6, .inl e1)), (m2, .inl (cI, 6, .inl e2)), (y1, .inl (cI, 61, .inl f_43)), (y2, .inl (cI, 61, .inl f_44)), (y3, .inl (cI, 61, .inl f_45)), (y4, .inl (cI, 61, .inl er4c)), (x1, .inl (cI, 300, .inl ec1)), (x2, .inl (cI, 300, .inl ec2)), (x3, .inl (cI, 300, .inl ec3)), (mZ, .inl (cI, 600, .inl eZ))]) ef_45 rfl (fun H locs hPn hDn hSn => ?_))
                                      clear hP hD hS
                                      have hP := hPn
                                      have hD := hDn
                                      have hS := hSn
                                      clear hPn hDn hSn
                                      refine lv_aload_n hx hb dX12_parts_217 rfl (lv_at hl 6 rfl) ?_
                                      refine va_get (D := (dC, dI)) (ci := 12) (v := .ref y4) (C := RX12) (T := TX12) (N := 40) hx hb hts in_X12 hown hK hP 0 rfl rfl 38 (Nat.le_of_ble_eq_true rfl) (hts (.fieldLink RX12 79 "TextMenderModel" "restHarm" "[I") (List.mem_of_getElem? (i := 10) rfl)) (fun _ h9 => h9) rfl dX12_parts_218 ?_
                                      refine lv_iload_n hx hb dX12_parts_221 rfl (lv_at hl 4 rfl) ?_
                                      refine lv_iload hx hb dX12_parts_222 (lv_at hl 2 rfl) ?_
                                      obtain ⟨f_46, ef_46⟩ : ∃ g : Nat → Int32, g = upd er4c (i : Int32).toNatClampNeg h := ⟨_, rfl⟩
                                      refine va_iast hx hb hK hP hD hS 14 0 rfl rfl (v_in (by omega)) dX12_parts_224 (kWf (g := f_46) (F := fun f_46 => [(oM, .inr (12, [.ref mT, .int zt, .ref mS, .ref mX, .int zp, .int zf, .ref mL, .ref mB, .ref mD, .ref m1, .ref m2, .int zh, .ref mR, .int zr, .ref x1, .ref x2, .ref x3, .int zc, .ref mH, .int zy, .int za, .int zb, .int zs, .int zq, .int (-1), .int 0, .ref mY, .int zn_26, .ref mE, .int zm_26, .int zl_26, .ref mW, .int zk_26, .ref mO, .int zd_26, .ref y1, .ref y2, .ref y3, .ref y4, .ref mZ])), (mY, .inl (cI, 2600, .inl eY_26)), (mB, .inl (cS, 131072, .inl eB)), (mL, .inl (cI, 512, .inl eL)), (mE, .inl (cI, 2600, .inl eE_26)), (mW, .inl (cI, 300, .inl eW_26)), (mO, .inl (cI, 300, .inl eO_26)), (mS, .inl (cI, 21, .inl eS)), (mX, .inl (cI, 6300, .inl eX)), (m1, .inl (cI, 6, .inl e1)), (m2, .inl (cI, 6, .inl e2)), (y1, .inl (cI, 61, .inl f_43)), (y2, .inl (cI, 61, .inl f_44)), (y3, .inl (cI, 61, .inl f_45)), (y4, .inl (cI, 61, .inl f_46)), (x1, .inl (cI, 300, .inl ec1)), (x2, .inl (cI, 300, .inl ec2)), (x3, .inl (cI, 300, .inl ec3)), (mZ, .inl (cI, 600, .inl eZ))]) ef_46 rfl (fun H locs hPn hDn hSn => ?_))
                                      clear hP hD hS
                                      have hP := hPn
                                      have hD := hDn
                                      have hS := hSn
                                      clear hPn hDn hSn
                                      obtain ⟨x_47, ex_47⟩ : ∃ y : Int32, y = h + 1 := ⟨_, rfl⟩
                                      have tx_47 : x_47.toInt = h.toInt + 1 := v_add ex_47 (by show -2147483648 ≤ h.toInt + 1; omega) (by show h.toInt + 1 < 2147483648; omega)
                                      refine lv_iinc (v := x_47) (lv' := [(5, .int x_47), (7, .int 1), (6, .int x_30), (4, .int j), (3, .int i), (2, .int x_1), (0, .ref oM), (1, .int pe)]) hx hb dX12_parts_225 hl (k := 2) rfl (by rw [ex_47]; rfl) (by decide) rfl (fun ls hl => ?_)
                                      refine lv_goto (tgt := 68) hx hb dX12_parts_228 (by decide) ?_
                                      exact ih_68 x_47 zn_26 zd_26 zm_26 zl_26 zk_26 eY_26 eE_26 eW_26 eO_26 f_43 f_44 f_45 f_46 _ _ _ (ms_lt hm_68 (by show ((zh.toInt - x_47.toInt : Int)) < zh.toInt - h.toInt; omega) (by show (0 : Int) < zh.toInt - h.toInt; omega)) (by show -1 ≤ x_47.toInt ∧ x_47.toInt ≤ zh.toInt; omega) (hf26_0) (hf26_2) (hf26_4) (hf26_1) (hf26_3) (hf26_5) (hf26_6) (QOR_u hqc (by omega) (Or.inl ef_43) (Or.inl ef_44)) (only_t hoc (only_4 ef_43 ef_44 ef_45 ef_46)) (BFR_set hU hbc hs3 hx9 (fun j2 h2 => by show (j.toInt < (j2 : Int) ∨ ((j2 : Int) = j.toInt ∧ h2 < x_47.toInt)) ↔ ((j.toInt < (j2 : Int) ∨ ((j2 : Int) = j.toInt ∧ h2 < h.toInt)) ∨ (j2 = j.toNatClampNeg ∧ h2 = h.toInt)); omega) (cnd_of (i := i.toNatClampNeg) (j := j.toNatClampNeg) (h := h.toInt) (c := (x_30 : Int32).toInt) (sp := (1 : Int32).toInt) (co := 0) (x := r_28.toInt) (by omega) (by omega) (by omega) hsp9 (by rw [← hm9]; exact hf28_1) (by rw [if_neg (by omega)]; omega) (by rw [if_neg (by omega)]; omega)) (by omega) (by rw [← ex_39, ← ex_32]; omega) (by omega) ef_43 ef_44 ef_45 ef_46) hP hD hS (lv_sub hl [0, 3, 4, 5, 6, 7] rfl)
                                    · have tc_42 : x_30.toInt = x_39.toInt := v_eq c_42
                                      refine lv_iload hx hb dX12_parts_179 (lv_at hl 0 rfl) ?_
                                      refine lv_aload_n hx hb dX12_parts_181 rfl (lv_at hl 6 rfl) ?_
                                      refine va_get (D := (dC, dI)) (ci := 12) (v := .ref y2) (C := RX12) (T := TX12) (N := 40) hx hb hts in_X12 hown hK hP 0 rfl rfl 36 (Nat.le_of_ble_eq_true rfl) (hts (.fieldLink RX12 73 "TextMenderModel" "restSpans" "[I") (List.mem_of_getElem? (i := 4) rfl)) (fun _ h9 => h9) rfl dX12_parts_182 ?_
                                      refine lv_iload_n hx hb dX12_parts_185 rfl (lv_at hl 4 rfl) ?_
                                      refine va_iald hx hb hK hP 12 0 rfl rfl (v_in (by omega)) dX12_parts_186 ?_
                                      refine k_i (y := x_32) ex_32.symm ?_
                                      refine lv_icmp_lt (tgt := 193) hx hb dX12_parts_187 (by decide) (fun c_48 => ?_) (fun c_48 => ?_)
                                      · have tc_48 : 1 < x_32.toInt := v_lt c_48
                                        refine lv_aload_n hx hb dX12_parts_193 rfl (lv_at hl 6 rfl) ?_
                                        refine va_get (D := (dC, dI)) (ci := 12) (v := .ref y1) (C := RX12) (T := TX12) (N := 40) hx hb hts in_X12 hown hK hP 0 rfl rfl 35 (Nat.le_of_ble_eq_true rfl) (hts (.fieldLink RX12 70 "TextMenderModel" "restCost" "[I") (List.mem_of_getElem? (i := 8) rfl)) (fun _ h9 => h9) rfl dX12_parts_194 ?_
                                        refine lv_iload_n hx hb dX12_parts_197 rfl (lv_at hl 4 rfl) ?_
                                        refine lv_iload hx hb dX12_parts_198 (lv_at hl 1 rfl) ?_
                                        obtain ⟨f_49, ef_49⟩ : ∃ g : Nat → Int32, g = upd er1c (i : Int32).toNatClampNeg x_30 := ⟨_, rfl⟩
                                        refine va_iast hx hb hK hP hD hS 11 0 rfl rfl (v_in (by omega)) dX12_parts_200 (kWf (g := f_49) (F := fun f_49 => [(oM, .inr (12, [.ref mT, .int zt, .ref mS, .ref mX, .int zp, .int zf, .ref mL, .ref mB, .ref mD, .ref m1, .ref m2, .int zh, .ref mR, .int zr, .ref x1, .ref x2, .ref x3, .int zc, .ref mH, .int zy, .int za, .int zb, .int zs, .int zq, .int (-1), .int 0, .ref mY, .int zn_26, .ref mE, .int zm_26, .int zl_26, .ref mW, .int zk_26, .ref mO, .int zd_26, .ref y1, .ref y2, .ref y3, .ref y4, .ref mZ])), (mY, .inl (cI, 2600, .inl eY_26)), (mB, .inl (cS, 131072, .inl eB)), (mL, .inl (cI, 512, .inl eL)), (mE, .inl (cI, 2600, .inl eE_26)), (mW, .inl (cI, 300, .inl eW_26)), (mO, .inl (cI, 300, .inl eO_26)), (mS, .inl (cI, 21, .inl eS)), (mX, .inl (cI, 6300, .inl eX)), (m1, .inl (cI, 6, .inl e1)), (m2, .inl (cI, 6, .inl e2)), (y1, .inl (cI, 61, .inl f_49)), (y2, .inl (cI, 61, .inl er2c)), (y3, .inl (cI, 61, .inl er3c)), (y4, .inl (cI, 61, .inl er4c)), (x1, .inl (cI, 300, .inl ec1)), (x2, .inl (cI, 300, .inl ec2)), (x3, .inl (cI, 300, .inl ec3)), (mZ, .inl (cI, 600, .inl eZ))]) ef_49 rfl (fun H locs hPn hDn hSn => ?_))
                                        clear hP hD hS
                                        have hP := hPn
                                        have hD := hDn
                                        have hS := hSn
                                        clear hPn hDn hSn
                                        refine lv_aload_n hx hb dX12_parts_201 rfl (lv_at hl 6 rfl) ?_
                                        refine va_get (D := (dC, dI)) (ci := 12) (v := .ref y2) (C := RX12) (T := TX12) (N := 40) hx hb hts in_X12 hown hK hP 0 rfl rfl 36 (Nat.le_of_ble_eq_true rfl) (hts (.fieldLink RX12 73 "TextMenderModel" "restSpans" "[I") (List.mem_of_getElem? (i := 4) rfl)) (fun _ h9 => h9) rfl dX12_parts_202 ?_
                                        refine lv_iload_n hx hb dX12_parts_205 rfl (lv_at hl 4 rfl) ?_
                                        refine lv_iload hx hb dX12_parts_206 (lv_at hl 0 rfl) ?_
                                        obtain ⟨f_50, ef_50⟩ : ∃ g : Nat → Int32, g = upd er2c (i : Int32).toNatClampNeg 1 := ⟨_, rfl⟩
                                        refine va_iast hx hb hK hP hD hS 12 0 rfl rfl (v_in (by omega)) dX12_parts_208 (kWf (g := f_50) (F := fun f_50 => [(oM, .inr (12, [.ref mT, .int zt, .ref mS, .ref mX, .int zp, .int zf, .ref mL, .ref mB, .ref mD, .ref m1, .ref m2, .int zh, .ref mR, .int zr, .ref x1, .ref x2, .ref x3, .int zc, .ref mH, .int zy, .int za, .int zb, .int zs, .int zq, .int (-1), .int 0, .ref mY, .int zn_26, .ref mE, .int zm_26, .int zl_26, .ref mW, .int zk_26, .ref mO, .int zd_26, .ref y1, .ref y2, .ref y3, .ref y4, .ref mZ])), (mY, .inl (cI, 2600, .inl eY_26)), (mB, .inl (cS, 131072, .inl eB)), (mL, .inl (cI, 512, .inl eL)), (mE, .inl (cI, 2600, .inl eE_26)), (mW, .inl (cI, 300, .inl eW_26)), (mO, .inl (cI, 300, .inl eO_26)), (mS, .inl (cI, 21, .inl eS)), (mX, .inl (cI, 6300, .inl eX)), (m1, .inl (cI, 6, .inl e1)), (m2, .inl (cI, 6, .inl e2)), (y1, .inl (cI, 61, .inl f_49)), (y2, .inl (cI, 61, .inl f_50)), (y3, .inl (cI, 61, .inl er3c)), (y4, .inl (cI, 61, .inl er4c)), (x1, .inl (cI, 300, .inl ec1)), (x2, .inl (cI, 300, .inl ec2)), (x3, .inl (cI, 300, .inl ec3)), (mZ, .inl (cI, 600, .inl eZ))]) ef_50 rfl (fun H locs hPn hDn hSn => ?_))
                                        clear hP hD hS
                                        have hP := hPn
                                        have hD := hDn
                                        have hS := hSn
                                        clear hPn hDn hSn
                                        refine lv_aload_n hx hb dX12_parts_209 rfl (lv_at hl 6 rfl) ?_
                                        refine va_get (D := (dC, dI)) (ci := 12) (v := .ref y3) (C := RX12) (T := TX12) (N := 40) hx hb hts in_X12 hown hK hP 0 rfl rfl 37 (Nat.le_of_ble_eq_true rfl) (hts (.fieldLink RX12 76 "TextMenderModel" "restEnd" "[I") (List.mem_of_getElem? (i := 9) rfl)) (fun _ h9 => h9) rfl dX12_parts_210 ?_
                                        refine lv_iload_n hx hb dX12_parts_213 rfl (lv_at hl 4 rfl) ?_
                                        refine lv_iload hx hb dX12_parts_214 (lv_at hl 3 rfl) ?_
                                        obtain ⟨f_51, ef_51⟩ : ∃ g : Nat → Int32, g = upd er3c (i : Int32).toNatClampNeg j := ⟨_, rfl⟩
                                        refine va_iast hx hb hK hP hD hS 13 0 rfl rfl (v_in (by omega)) dX12_parts_216 (kWf (g := f_51) (F := fun f_51 => [(oM, .inr (12, [.ref mT, .int zt, .ref mS, .ref mX, .int zp, .int zf, .ref mL, .ref mB, .ref mD, .ref m1, .ref m2, .int zh, .ref mR, .int zr, .ref x1, .ref x2, .ref x3, .int zc, .ref mH, .int zy, .int za, .int zb, .int zs, .int zq, .int (-1), .int 0, .ref mY, .int zn_26, .ref mE, .int zm_26, .int zl_26, .ref mW, .int zk_26, .ref mO, .int zd_26, .ref y1, .ref y2, .ref y3, .ref y4, .ref mZ])), (mY, .inl (cI, 2600, .inl eY_26)), (mB, .inl (cS, 131072, .inl eB)), (mL, .inl (cI, 512, .inl eL)), (mE, .inl (cI, 2600, .inl eE_26)), (mW, .inl (cI, 300, .inl eW_26)), (mO, .inl (cI, 300, .inl eO_26)), (mS, .inl (cI, 21, .inl eS)), (mX, .inl (cI, 6300, .inl eX)), (m1, .inl (cI, 6, .inl e1)), (m2, .inl (cI, 6, .inl e2)), (y1, .inl (cI, 61, .inl f_49)), (y2, .inl (cI, 61, .inl f_50)), (y3, .inl (cI, 61, .inl f_51)), (y4, .inl (cI, 61, .inl er4c)), (x1, .inl (cI, 300, .inl ec1)), (x2, .inl (cI, 300, .inl ec2)), (x3, .inl (cI, 300, .inl ec3)), (mZ, .inl (cI, 600, .inl eZ))]) ef_51 rfl (fun H locs hPn hDn hSn => ?_))
                                        clear hP hD hS
                                        have hP := hPn
                                        have hD := hDn
                                        have hS := hSn
                                        clear hPn hDn hSn
                                        refine lv_aload_n hx hb dX12_parts_217 rfl (lv_at hl 6 rfl) ?_
                                        refine va_get (D := (dC, dI)) (ci := 12) (v := .ref y4) (C := RX12) (T := TX12) (N := 40) hx hb hts in_X12 hown hK hP 0 rfl rfl 38 (Nat.le_of_ble_eq_true rfl) (hts (.fieldLink RX12 79 "TextMenderModel" "restHarm" "[I") (List.mem_of_getElem? (i := 10) rfl)) (fun _ h9 => h9) rfl dX12_parts_218 ?_
                                        refine lv_iload_n hx hb dX12_parts_221 rfl (lv_at hl 4 rfl) ?_
                                        refine lv_iload hx hb dX12_parts_222 (lv_at hl 2 rfl) ?_
                                        obtain ⟨f_52, ef_52⟩ : ∃ g : Nat → Int32, g = upd er4c (i : Int32).toNatClampNeg h := ⟨_, rfl⟩
                                        refine va_iast hx hb hK hP hD hS 14 0 rfl rfl (v_in (by omega)) dX12_parts_224 (kWf (g := f_52) (F := fun f_52 => [(oM, .inr (12, [.ref mT, .int zt, .ref mS, .ref mX, .int zp, .int zf, .ref mL, .ref mB, .ref mD, .ref m1, .ref m2, .int zh, .ref mR, .int zr, .ref x1, .ref x2, .ref x3, .int zc, .ref mH, .int zy, .int za, .int zb, .int zs, .int zq, .int (-1), .int 0, .ref mY, .int zn_26, .ref mE, .int zm_26, .int zl_26, .ref mW, .int zk_26, .ref mO, .int zd_26, .ref y1, .ref y2, .ref y3, .ref y4, .ref mZ])), (mY, .inl (cI, 2600, .inl eY_26)), (mB, .inl (cS, 131072, .inl eB)), (mL, .inl (cI, 512, .inl eL)), (mE, .inl (cI, 2600, .inl eE_26)), (mW, .inl (cI, 300, .inl eW_26)), (mO, .inl (cI, 300, .inl eO_26)), (mS, .inl (cI, 21, .inl eS)), (mX, .inl (cI, 6300, .inl eX)), (m1, .inl (cI, 6, .inl e1)), (m2, .inl (cI, 6, .inl e2)), (y1, .inl (cI, 61, .inl f_49)), (y2, .inl (cI, 61, .inl f_50)), (y3, .inl (cI, 61, .inl f_51)), (y4, .inl (cI, 61, .inl f_52)), (x1, .inl (cI, 300, .inl ec1)), (x2, .inl (cI, 300, .inl ec2)), (x3, .inl (cI, 300, .inl ec3)), (mZ, .inl (cI, 600, .inl eZ))]) ef_52 rfl (fun H locs hPn hDn hSn => ?_))
                                        clear hP hD hS
                                        have hP := hPn
                                        have hD := hDn
                                        have hS := hSn
                                        clear hPn hDn hSn
                                        obtain ⟨x_53, ex_53⟩ : ∃ y : Int32, y = h + 1 := ⟨_, rfl⟩
                                        have tx_53 : x_53.toInt = h.toInt + 1 := v_add ex_53 (by show -2147483648 ≤ h.toInt + 1; omega) (by show h.toInt + 1 < 2147483648; omega)
                                        refine lv_iinc (v := x_53) (lv' := [(5, .int x_53), (7, .int 1), (6, .int x_30), (4, .int j), (3, .int i), (2, .int x_1), (0, .ref oM), (1, .int pe)]) hx hb dX12_parts_225 hl (k := 2) rfl (by rw [ex_53]; rfl) (by decide) rfl (fun ls hl => ?_)
                                        refine lv_goto (tgt := 68) hx hb dX12_parts_228 (by decide) ?_
                                        exact ih_68 x_53 zn_26 zd_26 zm_26 zl_26 zk_26 eY_26 eE_26 eW_26 eO_26 f_49 f_50 f_51 f_52 _ _ _ (ms_lt hm_68 (by show ((zh.toInt - x_53.toInt : Int)) < zh.toInt - h.toInt; omega) (by show (0 : Int) < zh.toInt - h.toInt; omega)) (by show -1 ≤ x_53.toInt ∧ x_53.toInt ≤ zh.toInt; omega) (hf26_0) (hf26_2) (hf26_4) (hf26_1) (hf26_3) (hf26_5) (hf26_6) (QOR_u hqc (by omega) (Or.inl ef_49) (Or.inl ef_50)) (only_t hoc (only_4 ef_49 ef_50 ef_51 ef_52)) (BFR_set hU hbc hs3 hx9 (fun j2 h2 => by show (j.toInt < (j2 : Int) ∨ ((j2 : Int) = j.toInt ∧ h2 < x_53.toInt)) ↔ ((j.toInt < (j2 : Int) ∨ ((j2 : Int) = j.toInt ∧ h2 < h.toInt)) ∨ (j2 = j.toNatClampNeg ∧ h2 = h.toInt)); omega) (cnd_of (i := i.toNatClampNeg) (j := j.toNatClampNeg) (h := h.toInt) (c := (x_30 : Int32).toInt) (sp := (1 : Int32).toInt) (co := 0) (x := r_28.toInt) (by omega) (by omega) (by omega) hsp9 (by rw [← hm9]; exact hf28_1) (by rw [if_neg (by omega)]; omega) (by rw [if_neg (by omega)]; omega)) (by omega) (by rw [← ex_39, ← ex_32]; omega) (by omega) ef_49 ef_50 ef_51 ef_52) hP hD hS (lv_sub hl [0, 3, 4, 5, 6, 7] rfl)
                                      · have tc_48 : x_32.toInt ≤ 1 := v_nlt c_48
                                        refine lv_goto (tgt := 225) hx hb dX12_parts_190 (by decide) ?_
                                        obtain ⟨x_54, ex_54⟩ : ∃ y : Int32, y = h + 1 := ⟨_, rfl⟩
                                        have tx_54 : x_54.toInt = h.toInt + 1 := v_add ex_54 (by show -2147483648 ≤ h.toInt + 1; omega) (by show h.toInt + 1 < 2147483648; omega)
                                        refine lv_iinc (v := x_54) (lv' := [(5, .int x_54), (7, .int 1), (6, .int x_30), (4, .int j), (3, .int i), (2, .int x_1), (0, .ref oM), (1, .int pe)]) hx hb dX12_parts_225 hl (k := 2) rfl (by rw [ex_54]; rfl) (by decide) rfl (fun ls hl => ?_)
                                        refine lv_goto (tgt := 68) hx hb dX12_parts_228 (by decide) ?_
                                        exact ih_68 x_54 zn_26 zd_26 zm_26 zl_26 zk_26 eY_26 eE_26 eW_26 eO_26 er1c er2c er3c er4c _ _ _ (ms_lt hm_68 (by show ((zh.toInt - x_54.toInt : Int)) < zh.toInt - h.toInt; omega) (by show (0 : Int) < zh.toInt - h.toInt; omega)) (by show -1 ≤ x_54.toInt ∧ x_54.toInt ≤ zh.toInt; omega) (hf26_0) (hf26_2) (hf26_4) (hf26_1) (hf26_3) (hf26_5) (hf26_6) (hqc) (hoc) (BFR_keep hU hbc hs3 hx9 (fun j2 h2 => by show (j.toInt < (j2 : Int) ∨ ((j2 : Int) = j.toInt ∧ h2 < x_54.toInt)) ↔ ((j.toInt < (j2 : Int) ∨ ((j2 : Int) = j.toInt ∧ h2 < h.toInt)) ∨ (j2 = j.toNatClampNeg ∧ h2 = h.toInt)); omega) (cnd_of (i := i.toNatClampNeg) (j := j.toNatClampNeg) (h := h.toInt) (c := (x_30 : Int32).toInt) (sp := (1 : Int32).toInt) (co := 0) (x := r_28.toInt) (by omega) (by omega) (by omega) hsp9 (by rw [← hm9]; exact hf28_1) (by rw [if_neg (by omega)]; omega) (by rw [if_neg (by omega)]; omega)) (by rw [← ex_32]; omega) (by rw [← ex_39, ← ex_32]; omega) (fun j2 h2 q9 => by have q8 : j.toInt < (j2 : Int) ∨ ((j2 : Int) = j.toInt ∧ h2 < h.toInt) := q9; omega)) hP hD hS (lv_sub hl [0, 3, 4, 5, 6, 7] rfl)
                              · have tc_29 : j.toInt < x_1.toInt := v_nle c_29
                                refine lv_iload_n hx hb dX12_parts_111 rfl (lv_at hl 5 rfl) ?_
                                refine lv_aload_n hx hb dX12_parts_112 rfl (lv_at hl 4 rfl) ?_
                                refine va_get (D := (dC, dI)) (ci := 12) (v := .ref y1) (C := RX12) (T := TX12) (N := 40) hx hb hts in_X12 hown hK hP 0 rfl rfl 35 (Nat.le_of_ble_eq_true rfl) (hts (.fieldLink RX12 70 "TextMenderModel" "restCost" "[I") (List.mem_of_getElem? (i := 8) rfl)) (fun _ h9 => h9) rfl dX12_parts_113 ?_
                                refine lv_iload hx hb dX12_parts_116 (lv_at hl 1 rfl) ?_
                                refine va_iald hx hb hK hP 11 0 rfl rfl (v_in (by omega)) dX12_parts_118 ?_
                                refine lv_topi (fun x_55 ex_55 => ?_)
                                have ho_x_55 : 0 ≤ x_55.toInt ∧ x_55.toInt ≤ 4200000 ∧ x_55.toInt ≤ 70000 * (((eS 0).toInt.toNat : Int) - j.toInt) := by have q9 := hqc j.toNatClampNeg (by omega) (by omega); rw [ex_55]; omega
                                refine lv_iadd hx hb dX12_parts_119 ?_
                                refine lv_topi (fun x_56 ex_56 => ?_)
                                have tx_56 : x_56.toInt = pe.toInt + x_55.toInt := v_add ex_56 (by show -2147483648 ≤ pe.toInt + x_55.toInt; omega) (by show pe.toInt + x_55.toInt < 2147483648; omega)
                                refine lv_goto (tgt := 124) hx hb dX12_parts_120 (by decide) ?_
                                refine lv_iadd hx hb dX12_parts_124 ?_
                                refine lv_topi (fun x_57 ex_57 => ?_)
                                have tx_57 : x_57.toInt = r_28.toInt + x_56.toInt := v_add ex_57 (by show -2147483648 ≤ r_28.toInt + x_56.toInt; omega) (by show r_28.toInt + x_56.toInt < 2147483648; omega)
                                refine lv_istore (lv' := [(6, .int x_57), (5, .int h), (4, .int j), (3, .int i), (2, .int x_1), (0, .ref oM), (1, .int pe)]) hx hb dX12_parts_125 hl (by decide) rfl (fun ls hl => ?_)
                                refine lv_iconst (v := 1) hx hb dX12_parts_127 (by decide) ?_
                                refine lv_iload hx hb dX12_parts_128 (lv_at hl 2 rfl) ?_
                                refine lv_iload_n hx hb dX12_parts_130 rfl (lv_at hl 4 rfl) ?_
                                refine lv_icmp_ge (tgt := 144) hx hb dX12_parts_131 (by decide) (fun c_58 => by exfalso; have tc_58 : x_1.toInt ≤ j.toInt := v_le c_58; omega) (fun c_58 => ?_)
                                have tc_58 : j.toInt < x_1.toInt := v_nle c_58
                                refine lv_aload_n hx hb dX12_parts_134 rfl (lv_at hl 5 rfl) ?_
                                refine va_get (D := (dC, dI)) (ci := 12) (v := .ref y2) (C := RX12) (T := TX12) (N := 40) hx hb hts in_X12 hown hK hP 0 rfl rfl 36 (Nat.le_of_ble_eq_true rfl) (hts (.fieldLink RX12 73 "TextMenderModel" "restSpans" "[I") (List.mem_of_getElem? (i := 4) rfl)) (fun _ h9 => h9) rfl dX12_parts_135 ?_
                                refine lv_iload hx hb dX12_parts_138 (lv_at hl 2 rfl) ?_
                                refine va_iald hx hb hK hP 12 0 rfl rfl (v_in (by omega)) dX12_parts_140 ?_
                                refine lv_topi (fun x_59 ex_59 => ?_)
                                have ho_x_59 : 0 ≤ x_59.toInt ∧ x_59.toInt ≤ 60 ∧ x_59.toInt ≤ 1 * (((eS 0).toInt.toNat : Int) - j.toInt) := by have q9 := hqc j.toNatClampNeg (by omega) (by omega); rw [ex_59]; omega
                                refine lv_goto (tgt := 145) hx hb dX12_parts_141 (by decide) ?_
                                refine lv_iadd hx hb dX12_parts_145 ?_
                                refine lv_topi (fun x_60 ex_60 => ?_)
                                have tx_60 : x_60.toInt = 1 + x_59.toInt := v_add ex_60 (by show -2147483648 ≤ 1 + x_59.toInt; omega) (by show 1 + x_59.toInt < 2147483648; omega)
                                refine lv_istore (lv' := [(7, .int x_60), (6, .int x_57), (5, .int h), (4, .int j), (3, .int i), (2, .int x_1), (0, .ref oM), (1, .int pe)]) hx hb dX12_parts_146 hl (by decide) rfl (fun ls hl => ?_)
                                refine lv_aload_n hx hb dX12_parts_148 rfl (lv_at hl 6 rfl) ?_
                                refine va_get (D := (dC, dI)) (ci := 12) (v := .ref y2) (C := RX12) (T := TX12) (N := 40) hx hb hts in_X12 hown hK hP 0 rfl rfl 36 (Nat.le_of_ble_eq_true rfl) (hts (.fieldLink RX12 73 "TextMenderModel" "restSpans" "[I") (List.mem_of_getElem? (i := 4) rfl)) (fun _ h9 => h9) rfl dX12_parts_149 ?_
                                refine lv_iload_n hx hb dX12_parts_152 rfl (lv_at hl 4 rfl) ?_
                                refine va_iald hx hb hK hP 12 0 rfl rfl (v_in (by omega)) dX12_parts_153 ?_
                                refine lv_topi (fun x_61 ex_61 => ?_)
                                refine lv_if_le (tgt := 193) hx hb dX12_parts_154 (by decide) (fun c_62 => ?_) (fun c_62 => ?_)
                                · have tc_62 : x_61.toInt ≤ 0 := v_le c_62
                                  refine lv_aload_n hx hb dX12_parts_193 rfl (lv_at hl 6 rfl) ?_
                                  refine va_get (D := (dC, dI)) (ci := 12) (v := .ref y1) (C := RX12) (T := TX12) (N := 40) hx hb hts in_X12 hown hK hP 0 rfl rfl 35 (Nat.le_of_ble_eq_true rfl) (hts (.fieldLink RX12 70 "TextMenderModel" "restCost" "[I") (List.mem_of_getElem? (i := 8) rfl)) (fun _ h9 => h9) rfl dX12_parts_194 ?_
                                  refine lv_iload_n hx hb dX12_parts_197 rfl (lv_at hl 4 rfl) ?_
                                  refine lv_iload hx hb dX12_parts_198 (lv_at hl 1 rfl) ?_
                                  obtain ⟨f_63, ef_63⟩ : ∃ g : Nat → Int32, g = upd er1c (i : Int32).toNatClampNeg x_57 := ⟨_, rfl⟩
                                  refine va_iast hx hb hK hP hD hS 11 0 rfl rfl (v_in (by omega)) dX12_parts_200 (kWf (g := f_63) (F := fun f_63 => [(oM, .inr (12, [.ref mT, .int zt, .ref mS, .ref mX, .int zp, .int zf, .ref mL, .ref mB, .ref mD, .ref m1, .ref m2, .int zh, .ref mR, .int zr, .ref x1, .ref x2, .ref x3, .int zc, .ref mH, .int zy, .int za, .int zb, .int zs, .int zq, .int (-1), .int 0, .ref mY, .int zn_26, .ref mE, .int zm_26, .int zl_26, .ref mW, .int zk_26, .ref mO, .int zd_26, .ref y1, .ref y2, .ref y3, .ref y4, .ref mZ])), (mY, .inl (cI, 2600, .inl eY_26)), (mB, .inl (cS, 131072, .inl eB)), (mL, .inl (cI, 512, .inl eL)), (mE, .inl (cI, 2600, .inl eE_26)), (mW, .inl (cI, 300, .inl eW_26)), (mO, .inl (cI, 300, .inl eO_26)), (mS, .inl (cI, 21, .inl eS)), (mX, .inl (cI, 6300, .inl eX)), (m1, .inl (cI, 6, .inl e1)), (m2, .inl (cI, 6, .inl e2)), (y1, .inl (cI, 61, .inl f_63)), (y2, .inl (cI, 61, .inl er2c)), (y3, .inl (cI, 61, .inl er3c)), (y4, .inl (cI, 61, .inl er4c)), (x1, .inl (cI, 300, .inl ec1)), (x2, .inl (cI, 300, .inl ec2)), (x3, .inl (cI, 300, .inl ec3)), (mZ, .inl (cI, 600, .inl eZ))]) ef_63 rfl (fun H locs hPn hDn hSn => ?_))
                                  clear hP hD hS
                                  have hP := hPn
                                  have hD := hDn
                                  have hS := hSn
                                  clear hPn hDn hSn
                                  refine lv_aload_n hx hb dX12_parts_201 rfl (lv_at hl 6 rfl) ?_
                                  refine va_get (D := (dC, dI)) (ci := 12) (v := .ref y2) (C := RX12) (T := TX12) (N := 40) hx hb hts in_X12 hown hK hP 0 rfl rfl 36 (Nat.le_of_ble_eq_true rfl) (hts (.fieldLink RX12 73 "TextMenderModel" "restSpans" "[I") (List.mem_of_getElem? (i := 4) rfl)) (fun _ h9 => h9) rfl dX12_parts_202 ?_
                                  refine lv_iload_n hx hb dX12_parts_205 rfl (lv_at hl 4 rfl) ?_
                                  refine lv_iload hx hb dX12_parts_206 (lv_at hl 0 rfl) ?_
                                  obtain ⟨f_64, ef_64⟩ : ∃ g : Nat → Int32, g = upd er2c (i : Int32).toNatClampNeg x_60 := ⟨_, rfl⟩
                                  refine va_iast hx hb hK hP hD hS 12 0 rfl rfl (v_in (by omega)) dX12_parts_208 (kWf (g := f_64) (F := fun f_64 => [(oM, .inr (12, [.ref mT, .int zt, .ref mS, .ref mX, .int zp, .int zf, .ref mL, .ref mB, .ref mD, .ref m1, .ref m2, .int zh, .ref mR, .int zr, .ref x1, .ref x2, .ref x3, .int zc, .ref mH, .int zy, .int za, .int zb, .int zs, .int zq, .int (-1), .int 0, .ref mY, .int zn_26, .ref mE, .int zm_26, .int zl_26, .ref mW, .int zk_26, .ref mO, .int zd_26, .ref y1, .ref y2, .ref y3, .ref y4, .ref mZ])), (mY, .inl (cI, 2600, .inl eY_26)), (mB, .inl (cS, 131072, .inl eB)), (mL, .inl (cI, 512, .inl eL)), (mE, .inl (cI, 2600, .inl eE_26)), (mW, .inl (cI, 300, .inl eW_26)), (mO, .inl (cI, 300, .inl eO_26)), (mS, .inl (cI, 21, .inl eS)), (mX, .inl (cI, 6300, .inl eX)), (m1, .inl (cI, 6, .inl e1)), (m2, .inl (cI, 6, .inl e2)), (y1, .inl (cI, 61, .inl f_63)), (y2, .inl (cI, 61, .inl f_64)), (y3, .inl (cI, 61, .inl er3c)), (y4, .inl (cI, 61, .inl er4c)), (x1, .inl (cI, 300, .inl ec1)), (x2, .inl (cI, 300, .inl ec2)), (x3, .inl (cI, 300, .inl ec3)), (mZ, .inl (cI, 600, .inl eZ))]) ef_64 rfl (fun H locs hPn hDn hSn => ?_))
                                  clear hP hD hS
                                  have hP := hPn
                                  have hD := hDn
                                  have hS := hSn
                                  clear hPn hDn hSn
                                  refine lv_aload_n hx hb dX12_parts_209 rfl (lv_at hl 6 rfl) ?_
                                  refine va_get (D := (dC, dI)) (ci := 12) (v := .ref y3) (C := RX12) (T := TX12) (N := 40) hx hb hts in_X12 hown hK hP 0 rfl rfl 37 (Nat.le_of_ble_eq_true rfl) (hts (.fieldLink RX12 76 "TextMenderModel" "restEnd" "[I") (List.mem_of_getElem? (i := 9) rfl)) (fun _ h9 => h9) rfl dX12_parts_210 ?_
                                  refine lv_iload_n hx hb dX12_parts_213 rfl (lv_at hl 4 rfl) ?_
                                  refine lv_iload hx hb dX12_parts_214 (lv_at hl 3 rfl) ?_
                                  obtain ⟨f_65, ef_65⟩ : ∃ g : Nat → Int32, g = upd er3c (i : Int32).toNatClampNeg j := ⟨_, rfl⟩
                                  refine va_iast hx hb hK hP hD hS 13 0 rfl rfl (v_in (by omega)) dX12_parts_216 (kWf (g := f_65) (F := fun f_65 => [(oM, .inr (12, [.ref mT, .int zt, .ref mS, .ref mX, .int zp, .int zf, .ref mL, .ref mB, .ref mD, .ref m1, .ref m2, .int zh, .ref mR, .int zr, .ref x1, .ref x2, .ref x3, .int zc, .ref mH, .int zy, .int za, .int zb, .int zs, .int zq, .int (-1), .int 0, .ref mY, .int zn_26, .ref mE, .int zm_26, .int zl_26, .ref mW, .int zk_26, .ref mO, .int zd_26, .ref y1, .ref y2, .ref y3, .ref y4, .ref mZ])), (mY, .inl (cI, 2600, .inl eY_26)), (mB, .inl (cS, 131072, .inl eB)), (mL, .inl (cI, 512, .inl eL)), (mE, .inl (cI, 2600, .inl eE_26)), (mW, .inl (cI, 300, .inl eW_26)), (mO, .inl (cI, 300, .inl eO_26)), (mS, .inl (cI, 21, .inl eS)), (mX, .inl (cI, 6300, .inl eX)), (m1, .inl (cI, 6, .inl e1)), (m2, .inl (cI, 6, .inl e2)), (y1, .inl (cI, 61, .inl f_63)), (y2, .inl (cI, 61, .inl f_64)), (y3, .inl (cI, 61, .inl f_65)), (y4, .inl (cI, 61, .inl er4c)), (x1, .inl (cI, 300, .inl ec1)), (x2, .inl (cI, 300, .inl ec2)), (x3, .inl (cI, 300, .inl ec3)), (mZ, .inl (cI, 600, .inl eZ))]) ef_65 rfl (fun H locs hPn hDn hSn => ?_))
                                  clear hP hD hS
                                  have hP := hPn
                                  have hD := hDn
                                  have hS := hSn
                                  clear hPn hDn hSn
                                  refine lv_aload_n hx hb dX12_parts_217 rfl (lv_at hl 6 rfl) ?_
                                  refine va_get (D := (dC, dI)) (ci := 12) (v := .ref y4) (C := RX12) (T := TX12) (N := 40) hx hb hts in_X12 hown hK hP 0 rfl rfl 38 (Nat.le_of_ble_eq_true rfl) (hts (.fieldLink RX12 79 "TextMenderModel" "restHarm" "[I") (List.mem_of_getElem? (i := 10) rfl)) (fun _ h9 => h9) rfl dX12_parts_218 ?_
                                  refine lv_iload_n hx hb dX12_parts_221 rfl (lv_at hl 4 rfl) ?_
                                  refine lv_iload hx hb dX12_parts_222 (lv_at hl 2 rfl) ?_
                                  obtain ⟨f_66, ef_66⟩ : ∃ g : Nat → Int32, g = upd er4c (i : Int32).toNatClampNeg h := ⟨_, rfl⟩
                                  refine va_iast hx hb hK hP hD hS 14 0 rfl rfl (v_in (by omega)) dX12_parts_224 (kWf (g := f_66) (F := fun f_66 => [(oM, .inr (12, [.ref mT, .int zt, .ref mS, .ref mX, .int zp, .int zf, .ref mL, .ref mB, .ref mD, .ref m1, .ref m2, .int zh, .ref mR, .int zr, .ref x1, .ref x2, .ref x3, .int zc, .ref mH, .int zy, .int za, .int zb, .int zs, .int zq, .int (-1), .int 0, .ref mY, .int zn_26, .ref mE, .int zm_26, .int zl_26, .ref mW, .int zk_26, .ref mO, .int zd_26, .ref y1, .ref y2, .ref y3, .ref y4, .ref mZ])), (mY, .inl (cI, 2600, .inl eY_26)), (mB, .inl (cS, 131072, .inl eB)), (mL, .inl (cI, 512, .inl eL)), (mE, .inl (cI, 2600, .inl eE_26)), (mW, .inl (cI, 300, .inl eW_26)), (mO, .inl (cI, 300, .inl eO_26)), (mS, .inl (cI, 21, .inl eS)), (mX, .inl (cI, 6300, .inl eX)), (m1, .inl (cI, 6, .inl e1)), (m2, .inl (cI, 6, .inl e2)), (y1, .inl (cI, 61, .inl f_63)), (y2, .inl (cI, 61, .inl f_64)), (y3, .inl (cI, 61, .inl f_65)), (y4, .inl (cI, 61, .inl f_66)), (x1, .inl (cI, 300, .inl ec1)), (x2, .inl (cI, 300, .inl ec2)), (x3, .inl (cI, 300, .inl ec3)), (mZ, .inl (cI, 600, .inl eZ))]) ef_66 rfl (fun H locs hPn hDn hSn => ?_))
                                  clear hP hD hS
                                  have hP := hPn
                                  have hD := hDn
                                  have hS := hSn
                                  clear hPn hDn hSn
                                  obtain ⟨x_67, ex_67⟩ : ∃ y : Int32, y = h + 1 := ⟨_, rfl⟩
                                  have tx_67 : x_67.toInt = h.toInt + 1 := v_add ex_67 (by show -2147483648 ≤ h.toInt + 1; omega) (by show h.toInt + 1 < 2147483648; omega)
                                  refine lv_iinc (v := x_67) (lv' := [(5, .int x_67), (7, .int x_60), (6, .int x_57), (4, .int j), (3, .int i), (2, .int x_1), (0, .ref oM), (1, .int pe)]) hx hb dX12_parts_225 hl (k := 2) rfl (by rw [ex_67]; rfl) (by decide) rfl (fun ls hl => ?_)
                                  refine lv_goto (tgt := 68) hx hb dX12_parts_228 (by decide) ?_
                                  exact ih_68 x_67 zn_26 zd_26 zm_26 zl_26 zk_26 eY_26 eE_26 eW_26 eO_26 f_63 f_64 f_65 f_66 _ _ _ (ms_lt hm_68 (by show ((zh.toInt - x_67.toInt : Int)) < zh.toInt - h.toInt; omega) (by show (0 : Int) < zh.toInt - h.toInt; omega)) (by show -1 ≤ x_67.toInt ∧ x_67.toInt ≤ zh.toInt; omega) (hf26_0) (hf26_2) (hf26_4) (hf26_1) (hf26_3) (hf26_5) (hf26_6) (QOR_u hqc (by omega) (Or.inl ef_63) (Or.inl ef_64)) (only_t hoc (only_4 ef_63 ef_64 ef_65 ef_66)) (BFR_set hU hbc hs3 hx9 (fun j2 h2 => by show (j.toInt < (j2 : Int) ∨ ((j2 : Int) = j.toInt ∧ h2 < x_67.toInt)) ↔ ((j.toInt < (j2 : Int) ∨ ((j2 : Int) = j.toInt ∧ h2 < h.toInt)) ∨ (j2 = j.toNatClampNeg ∧ h2 = h.toInt)); omega) (cnd_of (i := i.toNatClampNeg) (j := j.toNatClampNeg) (h := h.toInt) (c := (x_57 : Int32).toInt) (sp := (x_60 : Int32).toInt) (co := 0) (x := r_28.toInt) (by omega) (by omega) (by omega) hsp9 (by rw [← hm9]; exact hf28_1) (by rw [if_pos (by omega), ← ex_55]; omega) (by rw [if_pos (by omega), ← ex_59]; omega)) (by omega) (by rw [← ex_61]; omega) (by omega) ef_63 ef_64 ef_65 ef_66) hP hD hS (lv_sub hl [0, 3, 4, 5, 6, 7] rfl)
                                · have tc_62 : 0 < x_61.toInt := v_nle c_62
                                  refine lv_iload hx hb dX12_parts_157 (lv_at hl 1 rfl) ?_
                                  refine lv_aload_n hx hb dX12_parts_159 rfl (lv_at hl 6 rfl) ?_
                                  refine va_get (D := (dC, dI)) (ci := 12) (v := .ref y1) (C := RX12) (T := TX12) (N := 40) hx hb hts in_X12 hown hK hP 0 rfl rfl 35 (Nat.le_of_ble_eq_true rfl) (hts (.fieldLink RX12 70 "TextMenderModel" "restCost" "[I") (List.mem_of_getElem? (i := 8) rfl)) (fun _ h9 => h9) rfl dX12_parts_160 ?_
                                  refine lv_iload_n hx hb dX12_parts_163 rfl (lv_at hl 4 rfl) ?_
                                  refine va_iald hx hb hK hP 11 0 rfl rfl (v_in (by omega)) dX12_parts_164 ?_
                                  refine lv_topi (fun x_68 ex_68 => ?_)
                                  refine lv_icmp_gt (tgt := 225) hx hb dX12_parts_165 (by decide) (fun c_69 => ?_) (fun c_69 => ?_)
                                  · have tc_69 : x_68.toInt < x_57.toInt := v_lt c_69
                                    have rw69_1 := v_rng x_68
                                    obtain ⟨x_70, ex_70⟩ : ∃ y : Int32, y = h + 1 := ⟨_, rfl⟩
                                    have tx_70 : x_70.toInt = h.toInt + 1 := v_add ex_70 (by show -2147483648 ≤ h.toInt + 1; omega) (by show h.toInt + 1 < 2147483648; omega)
                                    refine lv_iinc (v := x_70) (lv' := [(5, .int x_70), (7, .int x_60), (6, .int x_57), (4, .int j), (3, .int i), (2, .int x_1), (0, .ref oM), (1, .int pe)]) hx hb dX12_parts_225 hl (k := 2) rfl (by rw [ex_70]; rfl) (by decide) rfl (fun ls hl => ?_)
                                    refine lv_goto (tgt := 68) hx hb dX12_parts_228 (by decide) ?_
                                    exact ih_68 x_70 zn_26 zd_26 zm_26 zl_26 zk_26 eY_26 eE_26 eW_26 eO_26 er1c er2c er3c er4c _ _ _ (ms_lt hm_68 (by show ((zh.toInt - x_70.toInt : Int)) < zh.toInt - h.toInt; omega) (by show (0 : Int) < zh.toInt - h.toInt; omega)) (by show -1 ≤ x_70.toInt ∧ x_70.toInt ≤ zh.toInt; omega) (hf26_0) (hf26_2) (hf26_4) (hf26_1) (hf26_3) (hf26_5) (hf26_6) (hqc) (hoc) (BFR_keep hU hbc hs3 hx9 (fun j2 h2 => by show (j.toInt < (j2 : Int) ∨ ((j2 : Int) = j.toInt ∧ h2 < x_70.toInt)) ↔ ((j.toInt < (j2 : Int) ∨ ((j2 : Int) = j.toInt ∧ h2 < h.toInt)) ∨ (j2 = j.toNatClampNeg ∧ h2 = h.toInt)); omega) (cnd_of (i := i.toNatClampNeg) (j := j.toNatClampNeg) (h := h.toInt) (c := (x_57 : Int32).toInt) (sp := (x_60 : Int32).toInt) (co := 0) (x := r_28.toInt) (by omega) (by omega) (by omega) hsp9 (by rw [← hm9]; exact hf28_1) (by rw [if_pos (by omega), ← ex_55]; omega) (by rw [if_pos (by omega), ← ex_59]; omega)) (by rw [← ex_61]; omega) (by rw [← ex_68, ← ex_61]; omega) (fun j2 h2 q9 => by have q8 : j.toInt < (j2 : Int) ∨ ((j2 : Int) = j.toInt ∧ h2 < h.toInt) := q9; omega)) hP hD hS (lv_sub hl [0, 3, 4, 5, 6, 7] rfl)
                                  · have tc_69 : x_57.toInt ≤ x_68.toInt := v_nlt c_69
                                    have rw69_1 := v_rng x_68
                                    refine lv_iload hx hb dX12_parts_168 (lv_at hl 1 rfl) ?_
                                    refine lv_aload_n hx hb dX12_parts_170 rfl (lv_at hl 6 rfl) ?_
                                    refine va_get (D := (dC, dI)) (ci := 12) (v := .ref y1) (C := RX12) (T := TX12) (N := 40) hx hb hts in_X12 hown hK hP 0 rfl rfl 35 (Nat.le_of_ble_eq_true rfl) (hts (.fieldLink RX12 70 "TextMenderModel" "restCost" "[I") (List.mem_of_getElem? (i := 8) rfl)) (fun _ h9 => h9) rfl dX12_parts_171 ?_
                                    refine lv_iload_n hx hb dX12_parts_174 rfl (lv_at hl 4 rfl) ?_
                                    refine va_iald hx hb hK hP 11 0 rfl rfl (v_in (by omega)) dX12_parts_175 ?_
                                    refine k_i (y := x_68) ex_68.symm ?_
                                    refine lv_icmp_ne (tgt := 193) hx hb dX12_parts_176 (by decide) (fun c_71 => ?_) (fun c_71 => ?_)
                                    · have tc_71 : ¬ x_57.toInt = x_68.toInt := v_ne c_71
                                      refine lv_aload_n hx hb dX12_parts_193 rfl (lv_at hl 6 rfl) ?_
                                      refine va_get (D := (dC, dI)) (ci := 12) (v := .ref y1) (C := RX12) (T := TX12) (N := 40) hx hb hts in_X12 hown hK hP 0 rfl rfl 35 (Nat.le_of_ble_eq_true rfl) (hts (.fieldLink RX12 70 "TextMenderModel" "restCost" "[I") (List.mem_of_getElem? (i := 8) rfl)) (fun _ h9 => h9) rfl dX12_parts_194 ?_
                                      refine lv_iload_n hx hb dX12_parts_197 rfl (lv_at hl 4 rfl) ?_
                                      refine lv_iload hx hb dX12_parts_198 (lv_at hl 1 rfl) ?_
                                      obtain ⟨f_72, ef_72⟩ : ∃ g : Nat → Int32, g = upd er1c (i : Int32).toNatClampNeg x_57 := ⟨_, rfl⟩
                                      refine va_iast hx hb hK hP hD hS 11 0 rfl rfl (v_in (by omega)) dX12_parts_200 (kWf (g := f_72) (F := fun f_72 => [(oM, .inr (12, [.ref mT, .int zt, .ref mS, .ref mX, .int zp, .int zf, .ref mL, .ref mB, .ref mD, .ref m1, .ref m2, .int zh, .ref mR, .int zr, .ref x1, .ref x2, .ref x3, .int zc, .ref mH, .int zy, .int za, .int zb, .int zs, .int zq, .int (-1), .int 0, .ref mY, .int zn_26, .ref mE, .int zm_26, .int zl_26, .ref mW, .int zk_26, .ref mO, .int zd_26, .ref y1, .ref y2, .ref y3, .ref y4, .ref mZ])), (mY, .inl (cI, 2600, .inl eY_26)), (mB, .inl (cS, 131072, .inl eB)), (mL, .inl (cI, 512, .inl eL)), (mE, .inl (cI, 2600, .inl eE_26)), (mW, .inl (cI, 300, .inl eW_26)), (mO, .inl (cI, 300, .inl eO_26)), (mS, .inl (cI, 21, .inl eS)), (mX, .inl (cI, 6300, .inl eX)), (m1, .inl (cI, 6, .inl e1)), (m2, .inl (cI, 6, .inl e2)), (y1, .inl (cI, 61, .inl f_72)), (y2, .inl (cI, 61, .inl er2c)), (y3, .inl (cI, 61, .inl er3c)), (y4, .inl (cI, 61, .inl er4c)), (x1, .inl (cI, 300, .inl ec1)), (x2, .inl (cI, 300, .inl ec2)), (x3, .inl (cI, 300, .inl ec3)), (mZ, .inl (cI, 600, .inl eZ))]) ef_72 rfl (fun H locs hPn hDn hSn => ?_))
                                      clear hP hD hS
                                      have hP := hPn
                                      have hD := hDn
                                      have hS := hSn
                                      clear hPn hDn hSn
                                      refine lv_aload_n hx hb dX12_parts_201 rfl (lv_at hl 6 rfl) ?_
                                      refine va_get (D := (dC, dI)) (ci := 12) (v := .ref y2) (C := RX12) (T := TX12) (N := 40) hx hb hts in_X12 hown hK hP 0 rfl rfl 36 (Nat.le_of_ble_eq_true rfl) (hts (.fieldLink RX12 73 "TextMenderModel" "restSpans" "[I") (List.mem_of_getElem? (i := 4) rfl)) (fun _ h9 => h9) rfl dX12_parts_202 ?_
                                      refine lv_iload_n hx hb dX12_parts_205 rfl (lv_at hl 4 rfl) ?_
                                      refine lv_iload hx hb dX12_parts_206 (lv_at hl 0 rfl) ?_
                                      obtain ⟨f_73, ef_73⟩ : ∃ g : Nat → Int32, g = upd er2c (i : Int32).toNatClampNeg x_60 := ⟨_, rfl⟩
                                      refine va_iast hx hb hK hP hD hS 12 0 rfl rfl (v_in (by omega)) dX12_parts_208 (kWf (g := f_73) (F := fun f_73 => [(oM, .inr (12, [.ref mT, .int zt, .ref mS, .ref mX, .int zp, .int zf, .ref mL, .ref mB, .ref mD, .ref m1, .ref m2, .int zh, .ref mR, .int zr, .ref x1, .ref x2, .ref x3, .int zc, .ref mH, .int zy, .int za, .int zb, .int zs, .int zq, .int (-1), .int 0, .ref mY, .int zn_26, .ref mE, .int zm_26, .int zl_26, .ref mW, .int zk_26, .ref mO, .int zd_26, .ref y1, .ref y2, .ref y3, .ref y4, .ref mZ])), (mY, .inl (cI, 2600, .inl eY_26)), (mB, .inl (cS, 131072, .inl eB)), (mL, .inl (cI, 512, .inl eL)), (mE, .inl (cI, 2600, .inl eE_26)), (mW, .inl (cI, 300, .inl eW_26)), (mO, .inl (cI, 300, .inl eO_26)), (mS, .inl (cI, 21, .inl eS)), (mX, .inl (cI, 6300, .inl eX)), (m1, .inl (cI, 6, .inl e1)), (m2, .inl (cI, 6, .inl e2)), (y1, .inl (cI, 61, .inl f_72)), (y2, .inl (cI, 61, .inl f_73)), (y3, .inl (cI, 61, .inl er3c)), (y4, .inl (cI, 61, .inl er4c)), (x1, .inl (cI, 300, .inl ec1)), (x2, .inl (cI, 300, .inl ec2)), (x3, .inl (cI, 300, .inl ec3)), (mZ, .inl (cI, 600, .inl eZ))]) ef_73 rfl (fun H locs hPn hDn hSn => ?_))
                                      clear hP hD hS
                                      have hP := hPn
                                      have hD := hDn
                                      have hS := hSn
                                      clear hPn hDn hSn
                                      refine lv_aload_n hx hb dX12_parts_209 rfl (lv_at hl 6 rfl) ?_
                                      refine va_get (D := (dC, dI)) (ci := 12) (v := .ref y3) (C := RX12) (T := TX12) (N := 40) hx hb hts in_X12 hown hK hP 0 rfl rfl 37 (Nat.le_of_ble_eq_true rfl) (hts (.fieldLink RX12 76 "TextMenderModel" "restEnd" "[I") (List.mem_of_getElem? (i := 9) rfl)) (fun _ h9 => h9) rfl dX12_parts_210 ?_
                                      refine lv_iload_n hx hb dX12_parts_213 rfl (lv_at hl 4 rfl) ?_
                                      refine lv_iload hx hb dX12_parts_214 (lv_at hl 3 rfl) ?_
                                      obtain ⟨f_74, ef_74⟩ : ∃ g : Nat → Int32, g = upd er3c (i : Int32).toNatClampNeg j := ⟨_, rfl⟩
                                      refine va_iast hx hb hK hP hD hS 13 0 rfl rfl (v_in (by omega)) dX12_parts_216 (kWf (g := f_74) (F := fun f_74 => [(oM, .inr (12, [.ref mT, .int zt, .ref mS, .ref mX, .int zp, .int zf, .ref mL, .ref mB, .ref mD, .ref m1, .ref m2, .int zh, .ref mR, .int zr, .ref x1, .ref x2, .ref x3, .int zc, .ref mH, .int zy, .int za, .int zb, .int zs, .int zq, .int (-1), .int 0, .ref mY, .int zn_26, .ref mE, .int zm_26, .int zl_26, .ref mW, .int zk_26, .ref mO, .int zd_26, .ref y1, .ref y2, .ref y3, .ref y4, .ref mZ])), (mY, .inl (cI, 2600, .inl eY_26)), (mB, .inl (cS, 131072, .inl eB)), (mL, .inl (cI, 512, .inl eL)), (mE, .inl (cI, 2600, .inl eE_26)), (mW, .inl (cI, 300, .inl eW_26)), (mO, .inl (cI, 300, .inl eO_26)), (mS, .inl (cI, 21, .inl eS)), (mX, .inl (cI, 6300, .inl eX)), (m1, .inl (cI, 6, .inl e1)), (m2, .inl (cI, 6, .inl e2)), (y1, .inl (cI, 61, .inl f_72)), (y2, .inl (cI, 61, .inl f_73)), (y3, .inl (cI, 61, .inl f_74)), (y4, .inl (cI, 61, .inl er4c)), (x1, .inl (cI, 300, .inl ec1)), (x2, .inl (cI, 300, .inl ec2)), (x3, .inl (cI, 300, .inl ec3)), (mZ, .inl (cI, 600, .inl eZ))]) ef_74 rfl (fun H locs hPn hDn hSn => ?_))
                                      clear hP hD hS
                                      have hP := hPn
                                      have hD := hDn
                                      have hS := hSn
                                      clear hPn hDn hSn
                                      refine lv_aload_n hx hb dX12_parts_217 rfl (lv_at hl 6 rfl) ?_
                                      refine va_get (D := (dC, dI)) (ci := 12) (v := .ref y4) (C := RX12) (T := TX12) (N := 40) hx hb hts in_X12 hown hK hP 0 rfl rfl 38 (Nat.le_of_ble_eq_true rfl) (hts (.fieldLink RX12 79 "TextMenderModel" "restHarm" "[I") (List.mem_of_getElem? (i := 10) rfl)) (fun _ h9 => h9) rfl dX12_parts_218 ?_
                                      refine lv_iload_n hx hb dX12_parts_221 rfl (lv_at hl 4 rfl) ?_
                                      refine lv_iload hx hb dX12_parts_222 (lv_at hl 2 rfl) ?_
                                      obtain ⟨f_75, ef_75⟩ : ∃ g : Nat → Int32, g = upd er4c (i : Int32).toNatClampNeg h := ⟨_, rfl⟩
                                      refine va_iast hx hb hK hP hD hS 14 0 rfl rfl (v_in (by omega)) dX12_parts_224 (kWf (g := f_75) (F := fun f_75 => [(oM, .inr (12, [.ref mT, .int zt, .ref mS, .ref mX, .int zp, .int zf, .ref mL, .ref mB, .ref mD, .ref m1, .ref m2, .int zh, .ref mR, .int zr, .ref x1, .ref x2, .ref x3, .int zc, .ref mH, .int zy, .int za, .int zb, .int zs, .int zq, .int (-1), .int 0, .ref mY, .int zn_26, .ref mE, .int zm_26, .int zl_26, .ref mW, .int zk_26, .ref mO, .int zd_26, .ref y1, .ref y2, .ref y3, .ref y4, .ref mZ])), (mY, .inl (cI, 2600, .inl eY_26)), (mB, .inl (cS, 131072, .inl eB)), (mL, .inl (cI, 512, .inl eL)), (mE, .inl (cI, 2600, .inl eE_26)), (mW, .inl (cI, 300, .inl eW_26)), (mO, .inl (cI, 300, .inl eO_26)), (mS, .inl (cI, 21, .inl eS)), (mX, .inl (cI, 6300, .inl eX)), (m1, .inl (cI, 6, .inl e1)), (m2, .inl (cI, 6, .inl e2)), (y1, .inl (cI, 61, .inl f_72)), (y2, .inl (cI, 61, .inl f_73)), (y3, .inl (cI, 61, .inl f_74)), (y4, .inl (cI, 61, .inl f_75)), (x1, .inl (cI, 300, .inl ec1)), (x2, .inl (cI, 300, .inl ec2)), (x3, .inl (cI, 300, .inl ec3)), (mZ, .inl (cI, 600, .inl eZ))]) ef_75 rfl (fun H locs hPn hDn hSn => ?_))
                                      clear hP hD hS
                                      have hP := hPn
                                      have hD := hDn
                                      have hS := hSn
                                      clear hPn hDn hSn
                                      obtain ⟨x_76, ex_76⟩ : ∃ y : Int32, y = h + 1 := ⟨_, rfl⟩
                                      have tx_76 : x_76.toInt = h.toInt + 1 := v_add ex_76 (by show -2147483648 ≤ h.toInt + 1; omega) (by show h.toInt + 1 < 2147483648; omega)
                                      refine lv_iinc (v := x_76) (lv' := [(5, .int x_76), (7, .int x_60), (6, .int x_57), (4, .int j), (3, .int i), (2, .int x_1), (0, .ref oM), (1, .int pe)]) hx hb dX12_parts_225 hl (k := 2) rfl (by rw [ex_76]; rfl) (by decide) rfl (fun ls hl => ?_)
                                      refine lv_goto (tgt := 68) hx hb dX12_parts_228 (by decide) ?_
                                      exact ih_68 x_76 zn_26 zd_26 zm_26 zl_26 zk_26 eY_26 eE_26 eW_26 eO_26 f_72 f_73 f_74 f_75 _ _ _ (ms_lt hm_68 (by show ((zh.toInt - x_76.toInt : Int)) < zh.toInt - h.toInt; omega) (by show (0 : Int) < zh.toInt - h.toInt; omega)) (by show -1 ≤ x_76.toInt ∧ x_76.toInt ≤ zh.toInt; omega) (hf26_0) (hf26_2) (hf26_4) (hf26_1) (hf26_3) (hf26_5) (hf26_6) (QOR_u hqc (by omega) (Or.inl ef_72) (Or.inl ef_73)) (only_t hoc (only_4 ef_72 ef_73 ef_74 ef_75)) (BFR_set hU hbc hs3 hx9 (fun j2 h2 => by show (j.toInt < (j2 : Int) ∨ ((j2 : Int) = j.toInt ∧ h2 < x_76.toInt)) ↔ ((j.toInt < (j2 : Int) ∨ ((j2 : Int) = j.toInt ∧ h2 < h.toInt)) ∨ (j2 = j.toNatClampNeg ∧ h2 = h.toInt)); omega) (cnd_of (i := i.toNatClampNeg) (j := j.toNatClampNeg) (h := h.toInt) (c := (x_57 : Int32).toInt) (sp := (x_60 : Int32).toInt) (co := 0) (x := r_28.toInt) (by omega) (by omega) (by omega) hsp9 (by rw [← hm9]; exact hf28_1) (by rw [if_pos (by omega), ← ex_55]; omega) (by rw [if_pos (by omega), ← ex_59]; omega)) (by omega) (by rw [← ex_68, ← ex_61]; omega) (by omega) ef_72 ef_73 ef_74 ef_75) hP hD hS (lv_sub hl [0, 3, 4, 5, 6, 7] rfl)
                                    · have tc_71 : x_57.toInt = x_68.toInt := v_eq c_71
                                      refine lv_iload hx hb dX12_parts_179 (lv_at hl 0 rfl) ?_
                                      refine lv_aload_n hx hb dX12_parts_181 rfl (lv_at hl 6 rfl) ?_
                                      refine va_get (D := (dC, dI)) (ci := 12) (v := .ref y2) (C := RX12) (T := TX12) (N := 40) hx hb hts in_X12 hown hK hP 0 rfl rfl 36 (Nat.le_of_ble_eq_true rfl) (hts (.fieldLink RX12 73 "TextMenderModel" "restSpans" "[I") (List.mem_of_getElem? (i := 4) rfl)) (fun _ h9 => h9) rfl dX12_parts_182 ?_
                                      refine lv_iload_n hx hb dX12_parts_185 rfl (lv_at hl 4 rfl) ?_
                                      refine va_iald hx hb hK hP 12 0 rfl rfl (v_in (by omega)) dX12_parts_186 ?_
                                      refine k_i (y := x_61) ex_61.symm ?_
                                      refine lv_icmp_lt (tgt := 193) hx hb dX12_parts_187 (by decide) (fun c_77 => ?_) (fun c_77 => ?_)
                                      · have tc_77 : x_60.toInt < x_61.toInt := v_lt c_77
                                        have rw77_1 := v_rng x_61
                                        refine lv_aload_n hx hb dX12_parts_193 rfl (lv_at hl 6 rfl) ?_
                                        refine va_get (D := (dC, dI)) (ci := 12) (v := .ref y1) (C := RX12) (T := TX12) (N := 40) hx hb hts in_X12 hown hK hP 0 rfl rfl 35 (Nat.le_of_ble_eq_true rfl) (hts (.fieldLink RX12 70 "TextMenderModel" "restCost" "[I") (List.mem_of_getElem? (i := 8) rfl)) (fun _ h9 => h9) rfl dX12_parts_194 ?_
                                        refine lv_iload_n hx hb dX12_parts_197 rfl (lv_at hl 4 rfl) ?_
                                        refine lv_iload hx hb dX12_parts_198 (lv_at hl 1 rfl) ?_
                                        obtain ⟨f_78, ef_78⟩ : ∃ g : Nat → Int32, g = upd er1c (i : Int32).toNatClampNeg x_57 := ⟨_, rfl⟩
                                        refine va_iast hx hb hK hP hD hS 11 0 rfl rfl (v_in (by omega)) dX12_parts_200 (kWf (g := f_78) (F := fun f_78 => [(oM, .inr (12, [.ref mT, .int zt, .ref mS, .ref mX, .int zp, .int zf, .ref mL, .ref mB, .ref mD, .ref m1, .ref m2, .int zh, .ref mR, .int zr, .ref x1, .ref x2, .ref x3, .int zc, .ref mH, .int zy, .int za, .int zb, .int zs, .int zq, .int (-1), .int 0, .ref mY, .int zn_26, .ref mE, .int zm_26, .int zl_26, .ref mW, .int zk_26, .ref mO, .int zd_26, .ref y1, .ref y2, .ref y3, .ref y4, .ref mZ])), (mY, .inl (cI, 2600, .inl eY_26)), (mB, .inl (cS, 131072, .inl eB)), (mL, .inl (cI, 512, .inl eL)), (mE, .inl (cI, 2600, .inl eE_26)), (mW, .inl (cI, 300, .inl eW_26)), (mO, .inl (cI, 300, .inl eO_26)), (mS, .inl (cI, 21, .inl eS)), (mX, .inl (cI, 6300, .inl eX)), (m1, .inl (cI, 6, .inl e1)), (m2, .inl (cI, 6, .inl e2)), (y1, .inl (cI, 61, .inl f_78)), (y2, .inl (cI, 61, .inl er2c)), (y3, .inl (cI, 61, .inl er3c)), (y4, .inl (cI, 61, .inl er4c)), (x1, .inl (cI, 300, .inl ec1)), (x2, .inl (cI, 300, .inl ec2)), (x3, .inl (cI, 300, .inl ec3)), (mZ, .inl (cI, 600, .inl eZ))]) ef_78 rfl (fun H locs hPn hDn hSn => ?_))
                                        clear hP hD hS
                                        have hP := hPn
                                        have hD := hDn
                                        have hS := hSn
                                        clear hPn hDn hSn
                                        refine lv_aload_n hx hb dX12_parts_201 rfl (lv_at hl 6 rfl) ?_
                                        refine va_get (D := (dC, dI)) (ci := 12) (v := .ref y2) (C := RX12) (T := TX12) (N := 40) hx hb hts in_X12 hown hK hP 0 rfl rfl 36 (Nat.le_of_ble_eq_true rfl) (hts (.fieldLink RX12 73 "TextMenderModel" "restSpans" "[I") (List.mem_of_getElem? (i := 4) rfl)) (fun _ h9 => h9) rfl dX12_parts_202 ?_
                                        refine lv_iload_n hx hb dX12_parts_205 rfl (lv_at hl 4 rfl) ?_
                                        refine lv_iload hx hb dX12_parts_206 (lv_at hl 0 rfl) ?_
                                        obtain ⟨f_79, ef_79⟩ : ∃ g : Nat → Int32, g = upd er2c (i : Int32).toNatClampNeg x_60 := ⟨_, rfl⟩
                                        refine va_iast hx hb hK hP hD hS 12 0 rfl rfl (v_in (by omega)) dX12_parts_208 (kWf (g := f_79) (F := fun f_79 => [(oM, .inr (12, [.ref mT, .int zt, .ref mS, .ref mX, .int zp, .int zf, .ref mL, .ref mB, .ref mD, .ref m1, .ref m2, .int zh, .ref mR, .int zr, .ref x1, .ref x2, .ref x3, .int zc, .ref mH, .int zy, .int za, .int zb, .int zs, .int zq, .int (-1), .int 0, .ref mY, .int zn_26, .ref mE, .int zm_26, .int zl_26, .ref mW, .int zk_26, .ref mO, .int zd_26, .ref y1, .ref y2, .ref y3, .ref y4, .ref mZ])), (mY, .inl (cI, 2600, .inl eY_26)), (mB, .inl (cS, 131072, .inl eB)), (mL, .inl (cI, 512, .inl eL)), (mE, .inl (cI, 2600, .inl eE_26)), (mW, .inl (cI, 300, .inl eW_26)), (mO, .inl (cI, 300, .inl eO_26)), (mS, .inl (cI, 21, .inl eS)), (mX, .inl (cI, 6300, .inl eX)), (m1, .inl (cI, 6, .inl e1)), (m2, .inl (cI, 6, .inl e2)), (y1, .inl (cI, 61, .inl f_78)), (y2, .inl (cI, 61, .inl f_79)), (y3, .inl (cI, 61, .inl er3c)), (y4, .inl (cI, 61, .inl er4c)), (x1, .inl (cI, 300, .inl ec1)), (x2, .inl (cI, 300, .inl ec2)), (x3, .inl (cI, 300, .inl ec3)), (mZ, .inl (cI, 600, .inl eZ))]) ef_79 rfl (fun H locs hPn hDn hSn => ?_))
                                        clear hP hD hS
                                        have hP := hPn
                                        have hD := hDn
                                        have hS := hSn
                                        clear hPn hDn hSn
                                        refine lv_aload_n hx hb dX12_parts_209 rfl (lv_at hl 6 rfl) ?_
                                        refine va_get (D := (dC, dI)) (ci := 12) (v := .ref y3) (C := RX12) (T := TX12) (N := 40) hx hb hts in_X12 hown hK hP 0 rfl rfl 37 (Nat.le_of_ble_eq_true rfl) (hts (.fieldLink RX12 76 "TextMenderModel" "restEnd" "[I") (List.mem_of_getElem? (i := 9) rfl)) (fun _ h9 => h9) rfl dX12_parts_210 ?_
                                        refine lv_iload_n hx hb dX12_parts_213 rfl (lv_at hl 4 rfl) ?_
                                        refine lv_iload hx hb dX12_parts_214 (lv_at hl 3 rfl) ?_
                                        obtain ⟨f_80, ef_80⟩ : ∃ g : Nat → Int32, g = upd er3c (i : Int32).toNatClampNeg j := ⟨_, rfl⟩
                                        refine va_iast hx hb hK hP hD hS 13 0 rfl rfl (v_in (by omega)) dX12_parts_216 (kWf (g := f_80) (F := fun f_80 => [(oM, .inr (12, [.ref mT, .int zt, .ref mS, .ref mX, .int zp, .int zf, .ref mL, .ref mB, .ref mD, .ref m1, .ref m2, .int zh, .ref mR, .int zr, .ref x1, .ref x2, .ref x3, .int zc, .ref mH, .int zy, .int za, .int zb, .int zs, .int zq, .int (-1), .int 0, .ref mY, .int zn_26, .ref mE, .int zm_26, .int zl_26, .ref mW, .int zk_26, .ref mO, .int zd_26, .ref y1, .ref y2, .ref y3, .ref y4, .ref mZ])), (mY, .inl (cI, 2600, .inl eY_26)), (mB, .inl (cS, 131072, .inl eB)), (mL, .inl (cI, 512, .inl eL)), (mE, .inl (cI, 2600, .inl eE_26)), (mW, .inl (cI, 300, .inl eW_26)), (mO, .inl (cI, 300, .inl eO_26)), (mS, .inl (cI, 21, .inl eS)), (mX, .inl (cI, 6300, .inl eX)), (m1, .inl (cI, 6, .inl e1)), (m2, .inl (cI, 6, .inl e2)), (y1, .inl (cI, 61, .inl f_78)), (y2, .inl (cI, 61, .inl f_79)), (y3, .inl (cI, 61, .inl f_80)), (y4, .inl (cI, 61, .inl er4c)), (x1, .inl (cI, 300, .inl ec1)), (x2, .inl (cI, 300, .inl ec2)), (x3, .inl (cI, 300, .inl ec3)), (mZ, .inl (cI, 600, .inl eZ))]) ef_80 rfl (fun H locs hPn hDn hSn => ?_))
                                        clear hP hD hS
                                        have hP := hPn
                                        have hD := hDn
                                        have hS := hSn
                                        clear hPn hDn hSn
                                        refine lv_aload_n hx hb dX12_parts_217 rfl (lv_at hl 6 rfl) ?_
                                        refine va_get (D := (dC, dI)) (ci := 12) (v := .ref y4) (C := RX12) (T := TX12) (N := 40) hx hb hts in_X12 hown hK hP 0 rfl rfl 38 (Nat.le_of_ble_eq_true rfl) (hts (.fieldLink RX12 79 "TextMenderModel" "restHarm" "[I") (List.mem_of_getElem? (i := 10) rfl)) (fun _ h9 => h9) rfl dX12_parts_218 ?_
                                        refine lv_iload_n hx hb dX12_parts_221 rfl (lv_at hl 4 rfl) ?_
                                        refine lv_iload hx hb dX12_parts_222 (lv_at hl 2 rfl) ?_
                                        obtain ⟨f_81, ef_81⟩ : ∃ g : Nat → Int32, g = upd er4c (i : Int32).toNatClampNeg h := ⟨_, rfl⟩
                                        refine va_iast hx hb hK hP hD hS 14 0 rfl rfl (v_in (by omega)) dX12_parts_224 (kWf (g := f_81) (F := fun f_81 => [(oM, .inr (12, [.ref mT, .int zt, .ref mS, .ref mX, .int zp, .int zf, .ref mL, .ref mB, .ref mD, .ref m1, .ref m2, .int zh, .ref mR, .int zr, .ref x1, .ref x2, .ref x3, .int zc, .ref mH, .int zy, .int za, .int zb, .int zs, .int zq, .int (-1), .int 0, .ref mY, .int zn_26, .ref mE, .int zm_26, .int zl_26, .ref mW, .int zk_26, .ref mO, .int zd_26, .ref y1, .ref y2, .ref y3, .ref y4, .ref mZ])), (mY, .inl (cI, 2600, .inl eY_26)), (mB, .inl (cS, 131072, .inl eB)), (mL, .inl (cI, 512, .inl eL)), (mE, .inl (cI, 2600, .inl eE_26)), (mW, .inl (cI, 300, .inl eW_26)), (mO, .inl (cI, 300, .inl eO_26)), (mS, .inl (cI, 21, .inl eS)), (mX, .inl (cI, 6300, .inl eX)), (m1, .inl (cI, 6, .inl e1)), (m2, .inl (cI, 6, .inl e2)), (y1, .inl (cI, 61, .inl f_78)), (y2, .inl (cI, 61, .inl f_79)), (y3, .inl (cI, 61, .inl f_80)), (y4, .inl (cI, 61, .inl f_81)), (x1, .inl (cI, 300, .inl ec1)), (x2, .inl (cI, 300, .inl ec2)), (x3, .inl (cI, 300, .inl ec3)), (mZ, .inl (cI, 600, .inl eZ))]) ef_81 rfl (fun H locs hPn hDn hSn => ?_))
                                        clear hP hD hS
                                        have hP := hPn
                                        have hD := hDn
                                        have hS := hSn
                                        clear hPn hDn hSn
                                        obtain ⟨x_82, ex_82⟩ : ∃ y : Int32, y = h + 1 := ⟨_, rfl⟩
                                        have tx_82 : x_82.toInt = h.toInt + 1 := v_add ex_82 (by show -2147483648 ≤ h.toInt + 1; omega) (by show h.toInt + 1 < 2147483648; omega)
                                        refine lv_iinc (v := x_82) (lv' := [(5, .int x_82), (7, .int x_60), (6, .int x_57), (4, .int j), (3, .int i), (2, .int x_1), (0, .ref oM), (1, .int pe)]) hx hb dX12_parts_225 hl (k := 2) rfl (by rw [ex_82]; rfl) (by decide) rfl (fun ls hl => ?_)
                                        refine lv_goto (tgt := 68) hx hb dX12_parts_228 (by decide) ?_
                                        exact ih_68 x_82 zn_26 zd_26 zm_26 zl_26 zk_26 eY_26 eE_26 eW_26 eO_26 f_78 f_79 f_80 f_81 _ _ _ (ms_lt hm_68 (by show ((zh.toInt - x_82.toInt : Int)) < zh.toInt - h.toInt; omega) (by show (0 : Int) < zh.toInt - h.toInt; omega)) (by show -1 ≤ x_82.toInt ∧ x_82.toInt ≤ zh.toInt; omega) (hf26_0) (hf26_2) (hf26_4) (hf26_1) (hf26_3) (hf26_5) (hf26_6) (QOR_u hqc (by omega) (Or.inl ef_78) (Or.inl ef_79)) (only_t hoc (only_4 ef_78 ef_79 ef_80 ef_81)) (BFR_set hU hbc hs3 hx9 (fun j2 h2 => by show (j.toInt < (j2 : Int) ∨ ((j2 : Int) = j.toInt ∧ h2 < x_82.toInt)) ↔ ((j.toInt < (j2 : Int) ∨ ((j2 : Int) = j.toInt ∧ h2 < h.toInt)) ∨ (j2 = j.toNatClampNeg ∧ h2 = h.toInt)); omega) (cnd_of (i := i.toNatClampNeg) (j := j.toNatClampNeg) (h := h.toInt) (c := (x_57 : Int32).toInt) (sp := (x_60 : Int32).toInt) (co := 0) (x := r_28.toInt) (by omega) (by omega) (by omega) hsp9 (by rw [← hm9]; exact hf28_1) (by rw [if_pos (by omega), ← ex_55]; omega) (by rw [if_pos (by omega), ← ex_59]; omega)) (by omega) (by rw [← ex_68, ← ex_61]; omega) (by omega) ef_78 ef_79 ef_80 ef_81) hP hD hS (lv_sub hl [0, 3, 4, 5, 6, 7] rfl)
                                      · have tc_77 : x_61.toInt ≤ x_60.toInt := v_nlt c_77
                                        have rw77_1 := v_rng x_61
                                        refine lv_goto (tgt := 225) hx hb dX12_parts_190 (by decide) ?_
                                        obtain ⟨x_83, ex_83⟩ : ∃ y : Int32, y = h + 1 := ⟨_, rfl⟩
                                        have tx_83 : x_83.toInt = h.toInt + 1 := v_add ex_83 (by show -2147483648 ≤ h.toInt + 1; omega) (by show h.toInt + 1 < 2147483648; omega)
                                        refine lv_iinc (v := x_83) (lv' := [(5, .int x_83), (7, .int x_60), (6, .int x_57), (4, .int j), (3, .int i), (2, .int x_1), (0, .ref oM), (1, .int pe)]) hx hb dX12_parts_225 hl (k := 2) rfl (by rw [ex_83]; rfl) (by decide) rfl (fun ls hl => ?_)
                                        refine lv_goto (tgt := 68) hx hb dX12_parts_228 (by decide) ?_
                                        exact ih_68 x_83 zn_26 zd_26 zm_26 zl_26 zk_26 eY_26 eE_26 eW_26 eO_26 er1c er2c er3c er4c _ _ _ (ms_lt hm_68 (by show ((zh.toInt - x_83.toInt : Int)) < zh.toInt - h.toInt; omega) (by show (0 : Int) < zh.toInt - h.toInt; omega)) (by show -1 ≤ x_83.toInt ∧ x_83.toInt ≤ zh.toInt; omega) (hf26_0) (hf26_2) (hf26_4) (hf26_1) (hf26_3) (hf26_5) (hf26_6) (hqc) (hoc) (BFR_keep hU hbc hs3 hx9 (fun j2 h2 => by show (j.toInt < (j2 : Int) ∨ ((j2 : Int) = j.toInt ∧ h2 < x_83.toInt)) ↔ ((j.toInt < (j2 : Int) ∨ ((j2 : Int) = j.toInt ∧ h2 < h.toInt)) ∨ (j2 = j.toNatClampNeg ∧ h2 = h.toInt)); omega) (cnd_of (i := i.toNatClampNeg) (j := j.toNatClampNeg) (h := h.toInt) (c := (x_57 : Int32).toInt) (sp := (x_60 : Int32).toInt) (co := 0) (x := r_28.toInt) (by omega) (by omega) (by omega) hsp9 (by rw [← hm9]; exact hf28_1) (by rw [if_pos (by omega), ← ex_55]; omega) (by rw [if_pos (by omega), ← ex_59]; omega)) (by rw [← ex_61]; omega) (by rw [← ex_68, ← ex_61]; omega) (fun j2 h2 q9 => by have q8 : j.toInt < (j2 : Int) ∨ ((j2 : Int) = j.toInt ∧ h2 < h.toInt) := q9; omega)) hP hD hS (lv_sub hl [0, 3, 4, 5, 6, 7] rfl)
                            · have tc_27 : r_26.toInt = 0 := v_eq c_27
                              refine lv_goto (tgt := 225) hx hb dX12_parts_89 (by decide) ?_
                              obtain ⟨x_84, ex_84⟩ : ∃ y : Int32, y = h + 1 := ⟨_, rfl⟩
                              have tx_84 : x_84.toInt = h.toInt + 1 := v_add ex_84 (by show -2147483648 ≤ h.toInt + 1; omega) (by show h.toInt + 1 < 2147483648; omega)
                              refine lv_iinc (v := x_84) (lv' := [(5, .int x_84), (4, .int j), (3, .int i), (2, .int x_1), (0, .ref oM), (1, .int pe)]) hx hb dX12_parts_225 hl (k := 0) rfl (by rw [ex_84]; rfl) (by decide) rfl (fun ls hl => ?_)
                              refine lv_goto (tgt := 68) hx hb dX12_parts_228 (by decide) ?_
                              exact ih_68 x_84 zn_26 zd_26 zm_26 zl_26 zk_26 eY_26 eE_26 eW_26 eO_26 er1c er2c er3c er4c _ _ _ (ms_lt hm_68 (by show ((zh.toInt - x_84.toInt : Int)) < zh.toInt - h.toInt; omega) (by show (0 : Int) < zh.toInt - h.toInt; omega)) (by show -1 ≤ x_84.toInt ∧ x_84.toInt ≤ zh.toInt; omega) (hf26_0) (hf26_2) (hf26_4) (hf26_1) (hf26_3) (hf26_5) (hf26_6) (hqc) (hoc) (BFR_no (j0 := j.toNatClampNeg) (h0 := h.toInt) hbc (fun j2 h2 => by show (j.toInt < (j2 : Int) ∨ ((j2 : Int) = j.toInt ∧ h2 < x_84.toInt)) ↔ ((j.toInt < (j2 : Int) ∨ ((j2 : Int) = j.toInt ∧ h2 < h.toInt)) ∨ (j2 = j.toNatClampNeg ∧ h2 = h.toInt)); omega) (ts_0 hf26_8 (by omega))) hP hD hS (lv_sub hl [0, 1, 2, 3, 4, 5] rfl)
                      exact LOOP_68 _ (-1) znb zdb zmb zlb zkb eYb eEb eWb eOb er1b er2b er3b er4b _ _ _ (ms_s _) (by show -1 ≤ ((-1) : Int) ∧ ((-1) : Int) ≤ zh.toInt; omega) (g_znb) (g_zmb) (g_zkb) (g_eYb) (g_eEb) (g_eWb) (g_eOb) (hqb) (hob) (BFR_A hbb (fun j2 h2 s sp c9 => by have c8 := c9.2.2.1; show (j.toInt < (j2 : Int) ∨ ((j2 : Int) = j.toInt ∧ h2 < (-1 : Int))) ↔ j.toInt < (j2 : Int); omega)) hP hD hS (lv_sub hl [0, 1, 2, 3, 4, 5] rfl)
                exact LOOP_59 _ x_1 zna zda zma zla zka eYa eEa eWa eOa er1a f_21 er3a er4a _ _ _ (ms_s _) (by show i.toInt ≤ x_1.toInt ∧ x_1.toInt ≤ x_1.toInt; omega) (g_zna) (g_zma) (g_zka) (g_eYa) (g_eEa) (g_eWa) (g_eOa) (QOR_u (a := 0) (by rw [ci9]; exact hqa) (by omega) (Or.inr rfl) (Or.inl ef_21)) (only_2 ef_21) (BFR_0 (by rw [ef_21, pk_us]; rfl) (fun j2 h2 q9 => by have q8 : x_1.toInt < (j2 : Int) := q9; omega)) hP hD hS (lv_sub hl [0, 1, 2, 3, 4] rfl)
          exact LOOP_45 _ x_6 zn zd zm zl zk eY eE eW eO er1 er2 er3 er4 _ _ _ (ms_s _) (by show -1 ≤ x_6.toInt ∧ x_6.toInt ≤ 59; omega) (g_zn) (g_zm) (g_zk) (g_eY) (g_eE) (g_eW) (g_eO) (by show x_6.toInt < x_1.toInt; omega) (fun j h1 h2 => absurd h2 (by omega)) (fun i h1 h2 => absurd h2 (by omega)) hP hD hS (lv_sub hl [0, 1, 2, 3] rfl)
        · have tc_5 : 1000 < pe.toInt := v_nle c_5
          refine lv_iconst (v := (-1)) hx hb dX12_parts_39 (by decide) ?_
          exact kl_i (v := (-1)) hQQ hx hb hr hlocks hS dX12_parts_40 (fun PZ9 kZ9 => kZ9 0 (-1) er1 er2 er3 er4 eZ zn eY zd zm zl eE zk eW eO zp zf zs eS eX (⟨hP, hD⟩) (g_eZ) (g_zn) (g_eY) (g_zm) (g_eE) (g_zk) (g_eW) (g_eO) (g_zp) (g_zf) (g_zs) (g_eS) (g_eX) (by show zs.toInt ≤ zs.toInt + 1 ∧ zs.toInt ≤ zs.toInt; omega) (by first | exact Or.inl (by omega) | exact Or.inr ⟨rfl, rfl, rfl⟩) (OR_n rfl (fun c fm v h => absurd h.1 (by omega))))

end

/-! 5f.chs -/
section
/-! choices: the book of the cheapest, step by step -/
def m200 (n : Nat) : Nat := if n < 200 then n else 200
/-- the entry e goes behind all that cost no more -/
def INSk (k0 k1 : Nat) (B : Nat → Nat → Int) (e : Nat → Int) (A : Nat → Nat → Int) : Prop := ∃ p, p ≤ k0 ∧ (∀ i, i < p → B i 2 ≤ e 2) ∧ (∀ i, p ≤ i → i < k0 → e 2 < B i 2) ∧ ∀ i, i < k1 → ∀ k, k < 4 → A i k = if i < p then B i k else if i = p then e k else B (i - 1) k
def STP (V : Nat → (Nat → Int) → Prop) (t n : Nat) (B : Nat → Nat → Int) (n' : Nat) (A : Nat → Nat → Int) : Prop := (∃ e, V t e ∧ n' = n + 1 ∧ INSk (m200 n) (m200 (n + 1)) B e A) ∨ ((∀ e, ¬ V t e) ∧ n' = n ∧ ∀ i, i < m200 n → ∀ k, k < 4 → A i k = B i k)
def FLD (V : Nat → (Nat → Int) → Prop) (s n0 : Nat) (B : Nat → Nat → Int) : Nat → Nat → (Nat → Nat → Int) → Prop
  | 0, n, A => n = n0 ∧ ∀ i, i < m200 n0 → ∀ k, k < 4 → A i k = B i k
  | j + 1, n, A => ∃ (n1 : Nat) (A1 : Nat → Nat → Int), FLD V s n0 B j n1 A1 ∧ STP V (s + j) n1 A1 n A
theorem m200_l (n : Nat) : m200 n ≤ 200 ∧ m200 n ≤ n := by
  unfold m200
  split <;> omega
theorem m200_s (n : Nat) : m200 n ≤ m200 (n + 1) ∧ m200 (n + 1) ≤ m200 n + 1 ∧ (m200 n < 200 → m200 (n + 1) = m200 n + 1) := by
  unfold m200
  split <;> split <;> omega
def srtA (k : Nat) (A : Nat → Nat → Int) : Prop := ∀ i j, i < j → j < k → A i 2 ≤ A j 2
theorem INS_s {k0 k1 : Nat} {B A : Nat → Nat → Int} {e : Nat → Int} (h : INSk k0 k1 B e A) (hs : srtA k0 B) (hk : k1 ≤ k0 + 1) : srtA k1 A := by
  obtain ⟨p, h1, h2, h3, h4⟩ := h
  intro i j hij hj
  rw [h4 i (by omega) 2 (by omega), h4 j hj 2 (by omega)]
  by_cases c1 : i < p
  · rw [if_pos c1]
    by_cases c2 : j < p
    · rw [if_pos c2]; exact hs i j hij (by omega)
    · rw [if_neg c2]
      by_cases c3 : j = p
      · rw [if_pos c3]; exact h2 i c1
      · rw [if_neg c3]
        by_cases c4 : i = j - 1
        · rw [c4]; exact Int.le_refl _
        · exact hs i (j - 1) (by omega) (by omega)
  · rw [if_neg c1, if_neg (show ¬ j < p by omega), if_neg (show ¬ j = p by omega)]
    by_cases c2 : i = p
    · rw [if_pos c2]
      have := h3 (j - 1) (by omega) (by omega)
      omega
    · rw [if_neg c2]; exact hs (i - 1) (j - 1) (by omega) (by omega)
theorem srtA_c {k : Nat} {A B : Nat → Nat → Int} (h : srtA k B) (e : ∀ i, i < k → ∀ q, q < 4 → A i q = B i q) : srtA k A := fun i j hij hj => by rw [e i (by omega) 2 (by omega), e j hj 2 (by omega)]; exact h i j hij hj
theorem STP_s {V : Nat → (Nat → Int) → Prop} {t n n' : Nat} {B A : Nat → Nat → Int} (h : STP V t n B n' A) (hs : srtA (m200 n) B) : srtA (m200 n') A := by
  rcases h with ⟨e, _, h1, h2⟩ | ⟨_, h1, h2⟩
  · subst h1
    exact INS_s h2 hs (m200_s n).2.1
  · subst h1
    exact srtA_c hs h2
theorem FLD_s {V : Nat → (Nat → Int) → Prop} {s n0 : Nat} {B : Nat → Nat → Int} (hs : srtA (m200 n0) B) : ∀ (j n : Nat) (A : Nat → Nat → Int), FLD V s n0 B j n A → srtA (m200 n) A
  | 0, n, A, h => by
    obtain ⟨h1, h2⟩ := h
    subst h1
    exact srtA_c hs h2
  | j + 1, n, A, ⟨n1, A1, h1, h2⟩ => STP_s h2 (FLD_s hs j _ _ h1)
theorem INS_u {k0 k1 : Nat} {B B' A A' : Nat → Nat → Int} {e e' : Nat → Int} (h : INSk k0 k1 B e A) (h' : INSk k0 k1 B' e' A') (hB : ∀ i, i < k0 → ∀ k, k < 4 → B i k = B' i k) (he : ∀ k, k < 4 → e k = e' k) (hk : k1 ≤ k0 + 1) : ∀ i, i < k1 → ∀ k, k < 4 → A i k = A' i k := by
  obtain ⟨p, h1, h2, h3, h4⟩ := h
  obtain ⟨p', h1', h2', h3', h4'⟩ := h'
  have e2 := he 2 (by omega)
  have ep : p = p' := by
    rcases Nat.lt_trichotomy p p' with w | w | w
    · have a := h3 p (Nat.le_refl _) (by omega)
      have b := h2' p w
      have c := hB p (by omega) 2 (by omega)
      omega
    · exact w
    · have a := h3' p' (Nat.le_refl _) (by omega)
      have b := h2 p' w
      have c := hB p' (by omega) 2 (by omega)
      omega
  subst ep
  intro i hi k hk4
  rw [h4 i hi k hk4, h4' i hi k hk4]
  by_cases c1 : i < p
  · rw [if_pos c1, if_pos c1]; exact hB i (by omega) k hk4
  · rw [if_neg c1, if_neg c1]
    by_cases c2 : i = p
    · rw [if_pos c2, if_pos c2]; exact he k hk4
    · rw [if_neg c2, if_neg c2]; exact hB (i - 1) (by omega) k hk4
def fnV (V : Nat → (Nat → Int) → Prop) : Prop := ∀ t e e', V t e → V t e' → ∀ k, k < 4 → e k = e' k
theorem FLD_u {V : Nat → (Nat → Int) → Prop} {s n0 : Nat} {B B' : Nat → Nat → Int} (hV : fnV V) (hB : ∀ i, i < m200 n0 → ∀ k, k < 4 → B i k = B' i k) : ∀ (j n n' : Nat) (A A' : Nat → Nat → Int), FLD V s n0 B j n A → FLD V s n0 B' j n' A' → n = n' ∧ ∀ i, i < m200 n → ∀ k, k < 4 → A i k = A' i k
  | 0, n, n', A, A', h, h' => by
    obtain ⟨h1, h2⟩ := h
    obtain ⟨h1', h2'⟩ := h'
    subst h1
    subst h1'
    exact ⟨rfl, fun i hi k hk => by rw [h2 i hi k hk, h2' i hi k hk]; exact hB i hi k hk⟩
  | j + 1, n, n', A, A', ⟨n1, A1, h1, h2⟩, ⟨n1', A1', h1', h2'⟩ => by
    obtain ⟨q1, q2⟩ := FLD_u hV hB j _ _ _ _ h1 h1'
    subst q1
    rcases h2 with ⟨e, a1, a2, a3⟩ | ⟨a1, a2, a3⟩ <;> rcases h2' with ⟨e', b1, b2, b3⟩ | ⟨b1, b2, b3⟩
    · subst a2
      subst b2
      exact ⟨rfl, INS_u a3 b3 q2 (hV _ _ _ a1 b1) (m200_s n1).2.1⟩
    · exact absurd a1 (b1 _)
    · exact absurd b1 (a1 _)
    · subst a2
      subst b2
      exact ⟨rfl, fun i hi k hk => by rw [a3 i hi k hk, b3 i hi k hk]; exact q2 i hi k hk⟩
theorem FLD_iff {V V' : Nat → (Nat → Int) → Prop} {s n0 : Nat} {B : Nat → Nat → Int} : ∀ (j n : Nat) (A : Nat → Nat → Int), (∀ q e, q < j → (V (s + q) e ↔ V' (s + q) e)) → FLD V s n0 B j n A → FLD V' s n0 B j n A
  | 0, _, _, _, h => h
  | j + 1, n, A, hV, ⟨n1, A1, h1, h2⟩ => by
    refine ⟨n1, A1, FLD_iff j _ _ (fun q e hq => hV q e (by omega)) h1, ?_⟩
    rcases h2 with ⟨e, a1, a2, a3⟩ | ⟨a1, a2, a3⟩
    · exact Or.inl ⟨e, (hV j e (by omega)).mp a1, a2, a3⟩
    · exact Or.inr ⟨fun e w => a1 e ((hV j e (by omega)).mpr w), a2, a3⟩
theorem STP_c {V : Nat → (Nat → Int) → Prop} {t n n' : Nat} {B B' A : Nat → Nat → Int} (hB : ∀ i, i < m200 n → ∀ k, k < 4 → B i k = B' i k) (h : STP V t n B n' A) : STP V t n B' n' A := by
  rcases h with ⟨e, a1, a2, p, h1, h2, h3, h4⟩ | ⟨a1, a2, a3⟩
  · refine Or.inl ⟨e, a1, a2, p, h1, fun i hi => by rw [← hB i (by omega) 2 (by omega)]; exact h2 i hi, fun i hi hj => by rw [← hB i hj 2 (by omega)]; exact h3 i hi hj, fun i hi k hk => ?_⟩
    rw [h4 i hi k hk]
    have := (m200_s n).2.1
    by_cases c1 : i < p
    · rw [if_pos c1, if_pos c1]; exact hB i (by omega) k hk
    · rw [if_neg c1, if_neg c1]
      by_cases c2 : i = p
      · rw [if_pos c2, if_pos c2]
      · rw [if_neg c2, if_neg c2]; exact hB (i - 1) (by omega) k hk
  · exact Or.inr ⟨a1, a2, fun i hi k hk => by rw [a3 i hi k hk]; exact hB i hi k hk⟩
/-- first these, then those -/
theorem FLD_t {V : Nat → (Nat → Int) → Prop} {s n0 n1 : Nat} {B B1 : Nat → Nat → Int} {j : Nat} (h : FLD V s n0 B j n1 B1) : ∀ (j' n : Nat) (A : Nat → Nat → Int), FLD V (s + j) n1 B1 j' n A → FLD V s n0 B (j + j') n A
  | 0, n, A, h' => by
    obtain ⟨h1, h2⟩ := h'
    subst h1
    cases j with
    | zero =>
      obtain ⟨a1, a2⟩ := h
      subst a1
      exact ⟨rfl, fun i hi k hk => by rw [h2 i hi k hk]; exact a2 i hi k hk⟩
    | succ j =>
      obtain ⟨n2, A2, b1, b2⟩ := h
      refine ⟨n2, A2, b1, ?_⟩
      rcases b2 with ⟨e, a1, a2, p, h1, h2', h3, h4⟩ | ⟨a1, a2, a3⟩
      · subst a2
        exact Or.inl ⟨e, a1, rfl, p, h1, h2', h3, fun i hi k hk => by rw [h2 i hi k hk]; exact h4 i hi k hk⟩
      · subst a2
        exact Or.inr ⟨a1, rfl, fun i hi k hk => by rw [h2 i hi k hk]; exact a3 i hi k hk⟩
  | j' + 1, n, A, ⟨n2, A2, b1, b2⟩ => ⟨n2, A2, FLD_t h j' _ _ b1, by show STP V (s + (j + j')) n2 A2 n A; rw [← Nat.add_assoc]; exact b2⟩
theorem FLD_no {V : Nat → (Nat → Int) → Prop} {s n0 : Nat} {B : Nat → Nat → Int} : ∀ j : Nat, (∀ q e, q < j → ¬ V (s + q) e) → FLD V s n0 B j n0 B
  | 0, _ => ⟨rfl, fun _ _ _ _ => rfl⟩
  | j + 1, h => ⟨n0, B, FLD_no j (fun q e hq => h q e (by omega)), Or.inr ⟨fun e => h j e (by omega), rfl, fun _ _ _ _ => rfl⟩⟩
/-- every entry came of somewhere -/
theorem FLD_mem {V : Nat → (Nat → Int) → Prop} {s : Nat} {B : Nat → Nat → Int} : ∀ (j n : Nat) (A : Nat → Nat → Int), FLD V s 0 B j n A → ∀ i, i < m200 n → ∃ t e, t < s + j ∧ V t e ∧ ∀ k, k < 4 → A i k = e k
  | 0, n, A, h, i, hi => by
    obtain ⟨h1, _⟩ := h
    subst h1
    have := (m200_l 0).2
    omega
  | j + 1, n, A, ⟨n1, A1, h1, h2⟩, i, hi => by
    have ih := FLD_mem j n1 A1 h1
    rcases h2 with ⟨e, a1, a2, p, c1, c2, c3, c4⟩ | ⟨a1, a2, a3⟩
    · subst a2
      have ms := m200_s n1
      by_cases w1 : i < p
      · obtain ⟨t, e', d1, d2, d3⟩ := ih i (by omega)
        exact ⟨t, e', by omega, d2, fun k hk => by rw [c4 i hi k hk, if_pos w1]; exact d3 k hk⟩
      · by_cases w2 : i = p
        · exact ⟨s + j, e, by omega, a1, fun k hk => by rw [c4 i hi k hk, if_neg w1, if_pos w2]⟩
        · obtain ⟨t, e', d1, d2, d3⟩ := ih (i - 1) (by omega)
          exact ⟨t, e', by omega, d2, fun k hk => by rw [c4 i hi k hk, if_neg w1, if_neg w2]; exact d3 k hk⟩
    · subst a2
      obtain ⟨t, e', d1, d2, d3⟩ := ih i hi
      exact ⟨t, e', by omega, d2, fun k hk => by rw [a3 i hi k hk]; exact d3 k hk⟩
/-! the text laid out with free bytes -/
def mkB (f : Nat → Int32) : Nat → Nat
  | 0 => 0
  | i + 1 => mkB f i + (if f i = 65533 then 1 else 0)
theorem mkB_y {f : Nat → Int32} {i : Nat} (h : f i = 65533) : mkB f (i + 1) = mkB f i + 1 := by rw [mkB, if_pos h]
theorem mkB_n {f : Nat → Int32} {i : Nat} (h : ¬ f i = 65533) : mkB f (i + 1) = mkB f i := by rw [mkB, if_neg h, Nat.add_zero]
theorem mkB_m (f : Nat → Int32) {i : Nat} : ∀ j, i ≤ j → mkB f i ≤ mkB f j
  | 0, h => by
    have e : i = 0 := by omega
    rw [e]; exact Nat.le_refl _
  | j + 1, h => by
    by_cases e : i = j + 1
    · rw [e]; exact Nat.le_refl _
    · have a := mkB_m f (i := i) j (by omega)
      by_cases w : f j = 65533
      · rw [mkB_y w]; omega
      · rw [mkB_n w]; exact a
theorem mkB_u {f : Nat → Int32} {i j : Nat} (hi : f i = 65533) (hj : f j = 65533) (h : mkB f i = mkB f j) : i = j := by
  rcases Nat.lt_trichotomy i j with w | w | w
  · have a := mkB_m f (i := i + 1) j (by omega)
    rw [mkB_y hi] at a
    omega
  · exact w
  · have a := mkB_m f (i := j + 1) i (by omega)
    rw [mkB_y hj] at a
    omega
def EV (b : Int32) (Bf : Int32 → Int32) (f : Nat → Int32) (v1 v2 : Int) (i : Nat) : List Int := if f i = 65533 then [if mkB f i = 0 then v1 else v2] else enc b (f i) (Bf (f i))
theorem EV_m {b : Int32} {Bf : Int32 → Int32} {f : Nat → Int32} {v1 v2 : Int} {i : Nat} (h : f i = 65533) : EV b Bf f v1 v2 i = [if mkB f i = 0 then v1 else v2] := if_pos h
theorem EV_n {b : Int32} {Bf : Int32 → Int32} {f : Nat → Int32} {v1 v2 : Int} {i : Nat} (h : ¬ f i = 65533) : EV b Bf f v1 v2 i = enc b (f i) (Bf (f i)) := if_neg h
theorem psE_len {E E' : Nat → List Int} : ∀ n, (∀ j, j < n → (E j).length = (E' j).length) → psE E n = psE E' n
  | 0, _ => rfl
  | n + 1, h => by rw [psE, psE, psE_len n (fun j hj => h j (by omega)), h n (by omega)]
theorem WR_upd {E E' : Nat → List Int} {n i0 : Nat} {l x : Int32} {g g' : Nat → Int32} (h : WR E n l g) (hi : i0 < n) (h1 : (E i0).length = 1) (e0 : E' i0 = [x.toInt]) (eo : ∀ j, j < n → j ≠ i0 → E' j = E j) (eg : g' = upd g (psE E i0) x) : WR E' n l g' ∧ ∀ i, i ≤ n → psE E' i = psE E i := by
  have ps : ∀ i, i ≤ n → psE E' i = psE E i := fun i hin => psE_len i (fun j hj => by
    by_cases w : j = i0
    · rw [w, e0, h1]; rfl
    · rw [eo j (by omega) w])
  refine ⟨⟨by rw [ps n (Nat.le_refl _)]; exact h.1, fun j hj => ?_⟩, ps⟩
  obtain ⟨a1, a2⟩ := h.2 j hj
  have s0 : psE E (i0 + 1) = psE E i0 + 1 := by rw [psE, h1]
  by_cases w : j = i0
  · subst w
    rw [e0, ps j (by omega)]
    refine ⟨List.cons_ne_nil _ _, fun k hk => ?_⟩
    have k0 : k = 0 := by
      have hk : k < 1 := hk
      omega
    subst k0
    rw [eg]
    show (upd g (psE E j) x (psE E j + 0)).toInt = x.toInt
    rw [Nat.add_zero, pk_us]
  · rw [eo j hj w, ps j (by omega)]
    refine ⟨a1, fun k hk => ?_⟩
    have q := a2 k hk
    have sj : psE E (j + 1) = psE E j + (E j).length := by rw [psE]
    rw [eg, pk_un]
    · exact q
    · rcases Nat.lt_or_gt_of_ne w with w2 | w2
      · have := psE_le E (i := j + 1) i0 (by omega)
        omega
      · have := psE_le E (i := i0 + 1) j (by omega)
        omega
/-! the rough reading gives the text again just if no free byte begins a letter -/
section CBK
variable {b m : Int32} {L4 L5 g f : Nat → Int32} {Bf : Int32 → Int32} {n : Nat} {v1 v2 : Int}
theorem sg_h {g : Nat → Int32} {p : Nat} {bs : List Int} (h : sg g p bs) (hn : 0 < bs.length) : (g p).toInt = nth bs 0 := by
  have q := h 0 hn
  rw [Nat.add_zero] at q
  exact q
theorem EV_pos {E : Nat → List Int} {i : Nat} (h : ¬ E i = []) : 0 < (E i).length := by
  cases e : E i with
  | nil => exact absurd e h
  | cons a t => exact Nat.succ_pos _
theorem psE_lt {E : Nat → List Int} (hw : WR E n m g) {i : Nat} (hi : i < n) : (psE E i : Int) < m.toInt ∧ psE E i < psE E (i + 1) ∧ (psE E (i + 1) : Int) ≤ m.toInt := by
  have a := EV_pos (hw.2 i hi).1
  have s : psE E (i + 1) = psE E i + (E i).length := by rw [psE]
  have l := psE_le E (i := i + 1) n (by omega)
  have e := hw.1
  omega
theorem tok_n (hw : WR (EV b Bf f v1 v2) n m g) (hl : ∀ i, i < n → isLz (f i)) (hB : okB Bf) (hL : LBk b L4 L5 Bf) {i : Nat} (hi : i < n) (hm : ¬ f i = 65533) : ¬ dl b L4 L5 g m.toInt (psE (EV b Bf f v1 v2) i) = 0 ∧ psE (EV b Bf f v1 v2) i + dl b L4 L5 g m.toInt (psE (EV b Bf f v1 v2) i) = psE (EV b Bf f v1 v2) (i + 1) ∧ dx b L4 L5 g m.toInt (psE (EV b Bf f v1 v2) i) = f i := by
  obtain ⟨a1, a2⟩ := hw.2 i hi
  have lt := psE_lt hw hi
  have s : psE (EV b Bf f v1 v2) (i + 1) = psE (EV b Bf f v1 v2) i + (EV b Bf f v1 v2 i).length := by rw [psE]
  have e := EV_n (b := b) (Bf := Bf) (v1 := v1) (v2 := v2) hm
  rw [e] at a1 a2 s
  have lz := hl i hi
  obtain ⟨d1, d2⟩ := dl_of (en_Dec a2 a1 (n := m.toInt) (by omega) lz (hB _ lz.1 lz.2.1) hL)
  rw [d1]
  exact ⟨by omega, by omega, d2⟩
theorem mk_len {i : Nat} (hm : f i = 65533) : (EV b Bf f v1 v2 i).length = 1 := by rw [EV_m hm]; rfl
theorem dn_b {g : Nat → Int32} {k : Int} {p : Nat} {l x : Int} (h : DNa g k p l x) : 5 ≤ l ∧ l ≤ 8 ∧ ∀ t : Nat, 1 ≤ t → (t : Int) < l → 35 ≤ bt g k (p + t) ∧ bt g k (p + t) ≤ 59 ∧ ¬ bt g k (p + t) = 38 := by
  unfold DNa DN at h
  refine ⟨by omega, by omega, fun t t1 t2 => ?_⟩
  have t8 : t = 1 ∨ t = 2 ∨ t = 3 ∨ t = 4 ∨ t = 5 ∨ t = 6 ∨ t = 7 := by omega
  rcases t8 with e | e | e | e | e | e | e <;> subst e <;> omega
theorem enc2_h {x B : Int32} (hb : b.toInt = 2) (h0 : 0 ≤ x.toInt) (h1 : x.toInt ≤ 65535) : nth (enc b x B) 0 < 128 ∨ 192 ≤ nth (enc b x B) 0 := by
  unfold enc
  rw [if_neg (by omega), if_neg (by omega), if_pos hb]
  split
  · exact Or.inl (by assumption)
  · split
    · exact Or.inr (by show 192 ≤ 192 + x.toInt / 64; omega)
    · exact Or.inr (by show 192 ≤ 224 + x.toInt / 4096; omega)
theorem enc3_h {x B : Int32} (hb : b.toInt = 3) : nth (enc b x B) 0 = 38 ∨ (enc b x B).length = 1 := by
  unfold enc
  rw [if_neg (by omega), if_neg (by omega), if_neg (by omega), if_pos hb]
  split
  · exact Or.inr rfl
  · unfold encN
    split
    · exact Or.inl rfl
    · split
      · exact Or.inl rfl
      · split
        · exact Or.inl rfl
        · split
          · exact Or.inl rfl
          · exact Or.inl rfl
theorem al3_r {v : Int32} (hb : b.toInt = 3) (h : alF b v L4 L5 = -1) (h0 : 0 ≤ v.toInt) : 128 ≤ v.toInt ∨ v.toInt = 38 := by
  unfold alF at h
  rw [if_neg (by omega), if_neg (by omega), if_pos hb] at h
  by_cases w : v.toInt < 128 ∧ ¬ v.toInt = 38
  · rw [if_pos w] at h
    exact absurd h (v_nn h0)
  · omega
/-- where a free byte begins a letter, it takes at least one more of the text's along -/
theorem swl (hw : WR (EV b Bf f v1 v2) n m g) (hb : prg m.toInt 0 255 g) (hl : ∀ i, i < n → isLz (f i)) (h2 : mkB f n ≤ 2) (hal : ∀ i, i < n → f i = 65533 → alF b (g (psE (EV b Bf f v1 v2) i)) L4 L5 = -1) {k : Nat} (hk : k < n) (hm : f k = 65533) (hD : ¬ dl b L4 L5 g m.toInt (psE (EV b Bf f v1 v2) k) = 0) : ∃ k', k + 2 ≤ k' ∧ k' ≤ n ∧ psE (EV b Bf f v1 v2) k + dl b L4 L5 g m.toInt (psE (EV b Bf f v1 v2) k) = psE (EV b Bf f v1 v2) k' := by
  have mx := dl_ex hD
  have hp := Dec_pos mx
  have e1 : ∀ i, i < n → f i = 65533 → psE (EV b Bf f v1 v2) (i + 1) = psE (EV b Bf f v1 v2) i + 1 := fun i hi he => by rw [psE, mk_len he]
  have en : (psE (EV b Bf f v1 v2) n : Int) = m.toInt := hw.1.symm
  have s1 := e1 k hk hm
  obtain ⟨h0, ⟨a1, a2, a3⟩ | ⟨a1, a2⟩ | ⟨a1, a2⟩⟩ := mx
  · exact absurd (a2.symm.trans (hal k hk hm)) a3
  · have nc : ∀ i, i < n → 128 ≤ bt g m.toInt (psE (EV b Bf f v1 v2) i) → bt g m.toInt (psE (EV b Bf f v1 v2) i) ≤ 191 → f i = 65533 := fun i hi q1 q2 => by
      refine Classical.byContradiction (fun w => ?_)
      obtain ⟨c1, c2⟩ := hw.2 i hi
      rw [EV_n w] at c1 c2
      have lz := hl i hi
      have hd := enc2_h (B := Bf (f i)) a1 lz.1 lz.2.1
      have ln : 0 < (enc b (f i) (Bf (f i))).length := by
        cases e : enc b (f i) (Bf (f i)) with
        | nil => exact absurd e c1
        | cons a t => exact Nat.succ_pos _
      rw [bt_in (psE_lt hw hi).1, sg_h c2 ln] at q1 q2
      omega
    unfold DMa DM at a2
    have b1 : 128 ≤ bt g m.toInt (psE (EV b Bf f v1 v2) k + 1) ∧ bt g m.toInt (psE (EV b Bf f v1 v2) k + 1) ≤ 191 := by omega
    have k1 : k + 1 < n := by
      have q := bt_lt (g := g) (n := m.toInt) (k := psE (EV b Bf f v1 v2) k + 1) (by omega)
      refine Classical.byContradiction (fun w => ?_)
      have e : k + 1 = n := by omega
      rw [← e, s1] at en
      omega
    rw [← s1] at b1
    have m1 := nc (k + 1) k1 b1.1 b1.2
    have s2 := e1 (k + 1) k1 m1
    have l2 : dl b L4 L5 g m.toInt (psE (EV b Bf f v1 v2) k) = 2 := by
      refine Classical.byContradiction (fun w => ?_)
      have b2 : 128 ≤ bt g m.toInt (psE (EV b Bf f v1 v2) k + 2) ∧ bt g m.toInt (psE (EV b Bf f v1 v2) k + 2) ≤ 191 := by omega
      have e2 : psE (EV b Bf f v1 v2) (k + 1 + 1) = psE (EV b Bf f v1 v2) k + 2 := by omega
      have k2 : k + 1 + 1 < n := by
        have q := bt_lt (g := g) (n := m.toInt) (k := psE (EV b Bf f v1 v2) k + 2) (by omega)
        refine Classical.byContradiction (fun w => ?_)
        have e : k + 1 + 1 = n := by omega
        rw [← e, e2] at en
        omega
      rw [← e2] at b2
      have m2 := nc (k + 1 + 1) k2 b2.1 b2.2
      have q0 := mkB_y hm
      have q1 := mkB_y m1
      have q2 := mkB_y m2
      have q3 := mkB_m f (i := k + 1 + 1 + 1) n (by omega)
      omega
    exact ⟨k + 1 + 1, by omega, by omega, by omega⟩
  · obtain ⟨l5, l8, bb⟩ := dn_b a2
    have st : ∀ t : Nat, 1 ≤ t → (t : Int) ≤ dl b L4 L5 g m.toInt (psE (EV b Bf f v1 v2) k) → k + t ≤ n ∧ psE (EV b Bf f v1 v2) (k + t) = psE (EV b Bf f v1 v2) k + t := by
      intro t
      induction t with
      | zero => intro h; omega
      | succ t ih =>
        intro _ t2
        by_cases t0 : t = 0
        · subst t0
          exact ⟨by omega, s1⟩
        · obtain ⟨i1, i2⟩ := ih (by omega) (by omega)
          obtain ⟨c1, c2, c3⟩ := bb t (by omega) (by omega)
          have q := bt_lt (g := g) (n := m.toInt) (k := psE (EV b Bf f v1 v2) k + t) (by omega)
          have kt : k + t < n := by
            refine Classical.byContradiction (fun w => ?_)
            have e : k + t = n := by omega
            rw [← e, i2] at en
            omega
          rw [← i2, bt_in (psE_lt hw kt).1] at c1 c2 c3
          have hx := hb (psE (EV b Bf f v1 v2) (k + t)) (psE_lt hw kt).1
          have ln : (EV b Bf f v1 v2 (k + t)).length = 1 := by
            by_cases w : f (k + t) = 65533
            · exact mk_len w
            · obtain ⟨d1, d2⟩ := hw.2 (k + t) kt
              rw [EV_n w] at d1 d2 ⊢
              have ln : 0 < (enc b (f (k + t)) (Bf (f (k + t)))).length := by
                cases e : enc b (f (k + t)) (Bf (f (k + t))) with
                | nil => exact absurd e d1
                | cons a t => exact Nat.succ_pos _
              rcases enc3_h (x := f (k + t)) (B := Bf (f (k + t))) a1 with w3 | w3
              · rw [sg_h d2 ln] at c3
                exact absurd w3 c3
              · exact w3
          refine ⟨by omega, ?_⟩
          show psE (EV b Bf f v1 v2) (k + t + 1) = _
          rw [psE, ln, i2]
          omega
    obtain ⟨j1, j2⟩ := st (dl b L4 L5 g m.toInt (psE (EV b Bf f v1 v2) k)) (by omega) (by omega)
    exact ⟨_, by omega, j1, j2.symm⟩
theorem dl_m {cd : Int32} {L4 L5 g : Nat → Int32} {k : Int} {p : Nat} (h : k ≤ p) : dl cd L4 L5 g k p = 0 := dl_no (Dec_end h)
/-- no free byte begins a letter in b -/
def BKB (b m : Int32) (L4 L5 g f : Nat → Int32) (E : Nat → List Int) (n : Nat) : Prop := ∀ i, i < n → f i = 65533 → dl b L4 L5 g m.toInt (psE E i) = 0
theorem rgh_y (hw : WR (EV b Bf f v1 v2) n m g) (hl : ∀ i, i < n → isLz (f i)) (hB : okB Bf) (hL : LBk b L4 L5 Bf) (hk : BKB b m L4 L5 g f (EV b Bf f v1 v2) n) : ∀ i, i ≤ n → psn (D1 (dl b L4 L5 g m.toInt)) i = psE (EV b Bf f v1 v2) i
  | 0, _ => rfl
  | i + 1, hi => by
    have ih := rgh_y hw hl hB hL hk i (by omega)
    rw [psn, ih]
    unfold D1
    by_cases w : f i = 65533
    · rw [if_pos (hk i (by omega) w), psE, mk_len w]
    · obtain ⟨t1, t2, _⟩ := tok_n hw hl hB hL (show i < n by omega) w
      rw [if_neg t1]
      exact t2
theorem rgh_x (hw : WR (EV b Bf f v1 v2) n m g) (hl : ∀ i, i < n → isLz (f i)) (hB : okB Bf) (hL : LBk b L4 L5 Bf) (hk : BKB b m L4 L5 g f (EV b Bf f v1 v2) n) {i : Nat} (hi : i < n) : X1 (dl b L4 L5 g m.toInt) (dx b L4 L5 g m.toInt) (psn (D1 (dl b L4 L5 g m.toInt)) i) = f i := by
  rw [rgh_y hw hl hB hL hk i (by omega)]
  unfold X1
  by_cases w : f i = 65533
  · rw [if_pos (hk i hi w), w]
  · obtain ⟨t1, _, t3⟩ := tok_n hw hl hB hL hi w
    rw [if_neg t1]
    exact t3
theorem rgh_n (hw : WR (EV b Bf f v1 v2) n m g) (hb : prg m.toInt 0 255 g) (hl : ∀ i, i < n → isLz (f i)) (hB : okB Bf) (hL : LBk b L4 L5 Bf) (h2 : mkB f n ≤ 2) (hal : ∀ i, i < n → f i = 65533 → alF b (g (psE (EV b Bf f v1 v2) i)) L4 L5 = -1) : ∀ k, k ≤ n → (m.toInt < (psn (D1 (dl b L4 L5 g m.toInt)) k : Int)) ∨ ∃ k', k ≤ k' ∧ k' ≤ n ∧ psn (D1 (dl b L4 L5 g m.toInt)) k = psE (EV b Bf f v1 v2) k' ∧ (k' = k → ∀ i, i < k → f i = 65533 → dl b L4 L5 g m.toInt (psE (EV b Bf f v1 v2) i) = 0)
  | 0, _ => Or.inr ⟨0, Nat.le_refl _, Nat.zero_le _, rfl, fun _ i hi => absurd hi (Nat.not_lt_zero i)⟩
  | k + 1, hk => by
    have en : (psE (EV b Bf f v1 v2) n : Int) = m.toInt := hw.1.symm
    rcases rgh_n hw hb hl hB hL h2 hal k (by omega) with ih | ⟨k', i1, i2, i3, i4⟩
    · left
      rw [psn]
      omega
    · by_cases kn : k' = n
      · left
        rw [psn, i3, kn]
        unfold D1
        rw [if_pos (dl_m (by omega))]
        omega
      · right
        rw [psn, i3]
        unfold D1
        by_cases w : f k' = 65533
        · by_cases z : dl b L4 L5 g m.toInt (psE (EV b Bf f v1 v2) k') = 0
          · rw [if_pos z]
            refine ⟨k' + 1, by omega, by omega, by rw [psE, mk_len w], fun e i hi hf => ?_⟩
            have ek : k' = k := by omega
            by_cases e2 : i = k
            · rw [e2, ← ek]; exact z
            · exact i4 ek i (by omega) hf
          · rw [if_neg z]
            obtain ⟨k2, q1, q2, q3⟩ := swl hw hb hl h2 hal (show k' < n by omega) w z
            exact ⟨k2, by omega, q2, q3, fun e => by omega⟩
        · obtain ⟨t1, t2, _⟩ := tok_n hw hl hB hL (show k' < n by omega) w
          rw [if_neg t1]
          refine ⟨k' + 1, by omega, by omega, t2, fun e i hi hf => ?_⟩
          have ek : k' = k := by omega
          by_cases e2 : i = k
          · rw [e2, ← ek] at hf; exact absurd hf w
          · exact i4 ek i (by omega) hf
/-- n letters come of it just if no free byte begins one -/
theorem rgh_iff (hw : WR (EV b Bf f v1 v2) n m g) (hb : prg m.toInt 0 255 g) (hl : ∀ i, i < n → isLz (f i)) (hB : okB Bf) (hL : LBk b L4 L5 Bf) (h2 : mkB f n ≤ 2) (hal : ∀ i, i < n → f i = 65533 → alF b (g (psE (EV b Bf f v1 v2) i)) L4 L5 = -1) : (psn (D1 (dl b L4 L5 g m.toInt)) n : Int) = m.toInt ↔ BKB b m L4 L5 g f (EV b Bf f v1 v2) n := by
  have en : (psE (EV b Bf f v1 v2) n : Int) = m.toInt := hw.1.symm
  constructor
  · intro h
    rcases rgh_n hw hb hl hB hL h2 hal n (Nat.le_refl _) with q | ⟨k', q1, q2, q3, q4⟩
    · omega
    · exact q4 (by omega)
  · intro h
    rw [rgh_y hw hl hB hL h n (Nat.le_refl _)]
    exact en
end CBK
/-! what comes behind the last mark -/
def RF (D : Nat → Nat) (m : Nat) : Nat → Nat → Prop
  | 0, p => p = m
  | c + 1, p => ¬ D p = 0 ∧ RF D m c (p + D p)
def hdF (X : Nat → Int32) (q : Nat) : Nat → Int32
  | 0 => 32
  | _ + 1 => X q
def tsF (T : Int32 → Int32 → Int32) (D : Nat → Nat) (X : Nat → Int32) : Nat → Nat → Int
  | 0, _ => 0
  | c + 1, p => cF (T (X p) (hdF X (p + D p) c)) (X p) (hdF X (p + D p) c) + tsF T D X c (p + D p)
theorem RF_u {D : Nat → Nat} {m : Nat} (hm : D m = 0) : ∀ (c c' p : Nat), RF D m c p → RF D m c' p → c = c'
  | 0, 0, _, _, _ => rfl
  | 0, c' + 1, p, h, h' => by
    have h : p = m := h
    rw [h] at h'
    exact absurd hm h'.1
  | c + 1, 0, p, h, h' => by
    have h' : p = m := h'
    rw [h'] at h
    exact absurd hm h.1
  | c + 1, c' + 1, p, h, h' => by rw [RF_u hm c c' _ h.2 h'.2]
theorem RF_cg {D D' : Nat → Nat} {X X' : Nat → Int32} {T : Int32 → Int32 → Int32} {m q : Nat} (h : ∀ p, q ≤ p → D p = D' p ∧ X p = X' p) : ∀ (c p : Nat), q ≤ p → (RF D m c p ↔ RF D' m c p) ∧ hdF X p c = hdF X' p c ∧ tsF T D X c p = tsF T D' X' c p
  | 0, p, _ => ⟨Iff.rfl, rfl, rfl⟩
  | c + 1, p, hp => by
    obtain ⟨e1, e2⟩ := h p hp
    obtain ⟨a1, a2, a3⟩ := RF_cg h c (p + D p) (by omega)
    refine ⟨?_, e2, ?_⟩
    · rw [RF, RF, ← e1]
      exact ⟨fun w => ⟨w.1, a1.mp w.2⟩, fun w => ⟨w.1, a1.mpr w.2⟩⟩
    · rw [tsF, tsF, ← e1, a2, a3, e2]
/-- a Reading, in whole numbers -/
def RN (T : Int32 → Int32 → Int32) (D : Nat → Nat) (X : Nat → Int32) (p c : Nat) (la : Int32) (su : Int) : Prop := p = psn D c ∧ gdD D c ∧ la = pv (fun i => X (psn D i)) c ∧ su = cs T (fun i => X (psn D i)) c
theorem RN_RF {T : Int32 → Int32 → Int32} {D : Nat → Nat} {X : Nat → Int32} {m : Nat} : ∀ (c' p c : Nat) (la : Int32) (su : Int), RN T D X p c la su → RF D m c' p → rdOk D m (c + c') ∧ cT T ((c + c' : Nat) : Int) (fun i => X (psn D i)) = su + cF (T la (hdF X p c')) la (hdF X p c') + tsF T D X c' p
  | 0, p, c, la, su, ⟨h1, h2, h3, h4⟩, h => by
    have h : p = m := h
    have e : ((c + 0 : Nat) : Int).toNat = c := by omega
    refine ⟨⟨by rw [Nat.add_zero, ← h1, h], h2⟩, ?_⟩
    unfold cT
    rw [e, ← h3, ← h4]
    show su + cF (T la 32) la 32 = su + cF (T la 32) la 32 + 0
    omega
  | c' + 1, p, c, la, su, ⟨h1, h2, h3, h4⟩, h => by
    obtain ⟨d1, d2⟩ := h
    have r : RN T D X (p + D p) (c + 1) (X p) (su + cF (T la (X p)) la (X p)) := by
      refine ⟨by rw [psn, ← h1], gdD_s h2 (by rw [← h1]; exact d1), by rw [pv, ← h1], ?_⟩
      rw [cs, ← h3, ← h4, ← h1]
    obtain ⟨a1, a2⟩ := RN_RF c' _ _ _ _ r d2
    have e : c + 1 + c' = c + (c' + 1) := by omega
    rw [e] at a1 a2
    refine ⟨a1, ?_⟩
    rw [a2, tsF]
    show _ = su + cF (T la (X p)) la (X p) + _
    omega
theorem rd_RF {D : Nat → Nat} {m c : Nat} (h : rdOk D m c) : ∀ d c1, c1 + d = c → RF D m d (psn D c1)
  | 0, c1, e => by
    have q := h.1
    rw [← e, Nat.add_zero] at q
    show psn D c1 = m
    omega
  | d + 1, c1, e => ⟨h.2 c1 (by omega), rd_RF h d (c1 + 1) (by omega)⟩
theorem RN_no {T : Int32 → Int32 → Int32} {D : Nat → Nat} {X : Nat → Int32} {m p c : Nat} {la : Int32} {su : Int} (h : RN T D X p c la su) (hp : p ≤ m) (hn : ∀ c', ¬ RF D m c' p) : ∀ c', ¬ rdOk D m c' := by
  intro c' hr
  by_cases w : c ≤ c'
  · have q := rd_RF hr (c' - c) c (by omega)
    rw [← h.1] at q
    exact hn _ q
  · have := psn_lt h.2.1 c (show c' < c by omega) (Nat.le_refl _)
    have e := hr.1
    have e2 := h.1
    omega
theorem RS_RN {T : Int32 → Int32 → Int32} {re la su le : Int32} {D : Nat → Nat} {X : Nat → Int32} (h : RS T re la su le D X) : RN T D X re.toNatClampNeg le.toInt.toNat la su.toInt := by
  obtain ⟨c, h1, h2, h3, h4, h5⟩ := h
  have e : le.toInt.toNat = c := by omega
  rw [e, ix_eq h1]
  exact ⟨rfl, h2, h4, h5⟩
/-- the tail from p on as the class keeps it -/
def TLK (T : Int32 → Int32 → Int32) (D : Nat → Nat) (X : Nat → Int32) (m : Nat) (W1 W2 W3 : Nat → Int32) (p : Nat) : Prop := (W3 p = -1 ∧ ∀ c, ¬ RF D m c p) ∨ ∃ c : Nat, (W3 p).toInt = c ∧ c ≤ 800 ∧ RF D m c p ∧ W1 p = hdF X p c ∧ 0 ≤ (W1 p).toInt ∧ (W1 p).toInt ≤ 65535 ∧ (W2 p).toInt = tsF T D X c p ∧ 0 ≤ (W2 p).toInt ∧ (W2 p).toInt ≤ 200 * c
theorem Dec_sf {cd : Int32} {L4 L5 g g' : Nat → Int32} {k : Int} {p l : Nat} {x : Int32} (h : ∀ j, p ≤ j → g j = g' j) (a : Dec cd L4 L5 g k p l x) : Dec cd L4 L5 g' k p l x := by
  have e : ∀ j, p ≤ j → bt g k j = bt g' k j := fun j hj => by
    unfold bt
    rw [h j hj]
  obtain ⟨h0, ⟨a1, a2, a3⟩ | ⟨a1, a2⟩ | ⟨a1, a2⟩⟩ := a
  · exact ⟨h0, Or.inl ⟨a1, by rw [← h p (Nat.le_refl _)]; exact a2, a3⟩⟩
  · unfold DMa at a2
    rw [e p (Nat.le_refl _), e (p + 1) (by omega), e (p + 2) (by omega)] at a2
    exact ⟨h0, Or.inr (Or.inl ⟨a1, a2⟩)⟩
  · unfold DNa at a2
    rw [e p (Nat.le_refl _), e (p + 1) (by omega), e (p + 2) (by omega), e (p + 3) (by omega), e (p + 4) (by omega), e (p + 5) (by omega), e (p + 6) (by omega), e (p + 7) (by omega)] at a2
    exact ⟨h0, Or.inr (Or.inr ⟨a1, a2⟩)⟩
theorem dl_sf {cd : Int32} {L4 L5 g g' : Nat → Int32} {k : Int} {p : Nat} (h : ∀ j, p ≤ j → g j = g' j) : dl cd L4 L5 g k p = dl cd L4 L5 g' k p ∧ dx cd L4 L5 g k p = dx cd L4 L5 g' k p := by
  by_cases w : dl cd L4 L5 g k p = 0
  · have no : ∀ l x, ¬ Dec cd L4 L5 g k p l x := fun l x a => by
      have q := (dl_of a).1
      have := Dec_pos a
      omega
    have no' : ∀ l x, ¬ Dec cd L4 L5 g' k p l x := fun l x a => no l x (Dec_sf (fun j hj => (h j hj).symm) a)
    rw [dl_no no, dl_no no']
    refine ⟨rfl, ?_⟩
    unfold dx
    rw [dif_neg (fun e => by obtain ⟨x, l, a⟩ := e; exact no l x a), dif_neg (fun e => by obtain ⟨x, l, a⟩ := e; exact no' l x a)]
  · obtain ⟨q1, q2⟩ := dl_of (Dec_sf h (dl_ex w))
    exact ⟨q1.symm, q2.symm⟩
theorem TLK_sf {T : Int32 → Int32 → Int32} {cd : Int32} {L4 L5 g g' W1 W2 W3 : Nat → Int32} {k : Int} {m p : Nat} (h : ∀ j, p ≤ j → g j = g' j) (a : TLK T (dl cd L4 L5 g k) (dx cd L4 L5 g k) m W1 W2 W3 p) : TLK T (dl cd L4 L5 g' k) (dx cd L4 L5 g' k) m W1 W2 W3 p := by
  have cg : ∀ q, p ≤ q → dl cd L4 L5 g k q = dl cd L4 L5 g' k q ∧ dx cd L4 L5 g k q = dx cd L4 L5 g' k q := fun q hq => dl_sf (fun j hj => h j (by omega))
  rcases a with ⟨a1, a2⟩ | ⟨c, a1, a2, a3, a4, a5, a6, a7, a8⟩
  · exact Or.inl ⟨a1, fun c w => a2 c ((RF_cg (T := T) cg c p (Nat.le_refl _)).1.mpr w)⟩
  · obtain ⟨q1, q2, q3⟩ := RF_cg (T := T) (m := m) cg c p (Nat.le_refl _)
    exact Or.inr ⟨c, a1, a2, q1.mp a3, a4.trans q2, a5, a6, a7.trans q3, a8⟩
/-! choices of the class -/
def CA (W4 W5 W6 W7 : Nat → Int32) (i k : Nat) : Int := (if k = 0 then W4 i else if k = 1 then W5 i else if k = 2 then W6 i else W7 i).toInt
def ent (a b s l : Int) (k : Nat) : Int := if k = 0 then (if a = -1 then b else a) else if k = 1 then (if a = -1 then -1 else b) else if k = 2 then s else l
theorem rk4 {k : Nat} (h : k < 4) : k = 0 ∨ k = 1 ∨ k = 2 ∨ k = 3 := by omega
/-- while the places move on: from pl on, up to hi, each stands one further -/
def KPL (W4 W5 W6 W7 G4 G5 G6 G7 : Nat → Int32) (pl hi : Int) : Prop := ∀ i : Nat, (∀ k, k < 4 → (i : Int) < pl → CA G4 G5 G6 G7 i k = CA W4 W5 W6 W7 i k) ∧ (∀ k, k < 4 → pl < i → (i : Int) ≤ hi → CA G4 G5 G6 G7 i k = CA W4 W5 W6 W7 (i - 1) k)
theorem KPL_0 {W4 W5 W6 W7 : Nat → Int32} {pl hi : Int} (h : pl = hi) : KPL W4 W5 W6 W7 W4 W5 W6 W7 pl hi := fun i => ⟨fun _ _ _ => rfl, fun _ _ h1 h2 => by omega⟩
theorem CA_4 {A B : Nat → Nat → Int} {i j : Nat} (h0 : A i 0 = B j 0) (h1 : A i 1 = B j 1) (h2 : A i 2 = B j 2) (h3 : A i 3 = B j 3) : ∀ k, k < 4 → A i k = B j k := fun k hk => by
  rcases rk4 hk with e | e | e | e <;> subst e <;> assumption
theorem CA_u {W4 W5 W6 W7 : Nat → Int32} {q i k : Nat} {x y z u : Int32} (h : i ≠ q) : CA (upd W4 q x) (upd W5 q y) (upd W6 q z) (upd W7 q u) i k = CA W4 W5 W6 W7 i k := by
  unfold CA
  rw [pk_un h, pk_un h, pk_un h, pk_un h]
theorem CA_s {W4 W5 W6 W7 : Nat → Int32} {q k : Nat} {x y z u : Int32} : CA (upd W4 q x) (upd W5 q y) (upd W6 q z) (upd W7 q u) q k = (if k = 0 then x else if k = 1 then y else if k = 2 then z else u).toInt := by
  unfold CA
  rw [pk_us, pk_us, pk_us, pk_us]
theorem KPL_s {W4 W5 W6 W7 G4 G5 G6 G7 H4 H5 H6 H7 : Nat → Int32} {pl pl' a x y z u : Int32} {hi : Int} (h : KPL W4 W5 W6 W7 G4 G5 G6 G7 pl.toInt hi) (h0 : 1 ≤ pl.toInt) (ha : a.toInt = pl.toInt - 1) (e4 : x = G4 a.toNatClampNeg) (e5 : y = G5 a.toNatClampNeg) (e6 : z = G6 a.toNatClampNeg) (e7 : u = G7 a.toNatClampNeg) (g4 : H4 = upd G4 pl.toNatClampNeg x) (g5 : H5 = upd G5 pl.toNatClampNeg y) (g6 : H6 = upd G6 pl.toNatClampNeg z) (g7 : H7 = upd G7 pl.toNatClampNeg u) (hp : pl'.toInt = pl.toInt - 1) : KPL W4 W5 W6 W7 H4 H5 H6 H7 pl'.toInt hi := by
  have c := v_clamp (x := pl) (by omega)
  have ca : a.toNatClampNeg = pl.toNatClampNeg - 1 := ix_eq (by omega)
  intro i
  rw [g4, g5, g6, g7]
  refine ⟨fun k hk hi1 => ?_, fun k hk h1 h2 => ?_⟩
  · rw [CA_u (by omega)]; exact (h i).1 k hk (by omega)
  · by_cases w : i = pl.toNatClampNeg
    · subst w
      have q := (h (pl.toNatClampNeg - 1)).1 k hk (by omega)
      rw [CA_s, ← q, e4, e5, e6, e7, ca]
      rfl
    · rw [CA_u w]; exact (h i).2 k hk (by omega) h2
/-- keep(): the entry stands where it belongs -/
theorem kp_end {W4 W5 W6 W7 G4 G5 G6 G7 H4 H5 H6 H7 : Nat → Int32} {pl x y z u : Int32} {k0 k1 : Nat} {hi : Int} {e : Nat → Int} (h : KPL W4 W5 W6 W7 G4 G5 G6 G7 pl.toInt hi) (hs : srtA k0 (CA W4 W5 W6 W7)) (h0 : 0 ≤ pl.toInt) (hk : pl.toInt ≤ k0) (hk1 : (k1 : Int) ≤ hi + 1) (g4 : H4 = upd G4 pl.toNatClampNeg x) (g5 : H5 = upd G5 pl.toNatClampNeg y) (g6 : H6 = upd G6 pl.toNatClampNeg z) (g7 : H7 = upd G7 pl.toNatClampNeg u) (ex : x.toInt = e 0) (ey : y.toInt = e 1) (ez : z.toInt = e 2) (eu : u.toInt = e 3) (hbig : ∀ i : Nat, pl.toInt ≤ i → i < k0 → e 2 < CA W4 W5 W6 W7 i 2) (hsm : pl.toInt = 0 ∨ ∃ a q : Int32, a.toInt = pl.toInt - 1 ∧ q = G6 a.toNatClampNeg ∧ q.toInt ≤ e 2) : INSk k0 k1 (CA W4 W5 W6 W7) e (CA H4 H5 H6 H7) := by
  have c := v_clamp h0
  refine ⟨pl.toNatClampNeg, by omega, fun i hi1 => ?_, fun i h1 h2 => hbig i (by omega) h2, fun i hi1 k hk4 => ?_⟩
  · rcases hsm with w | ⟨a, q, a1, a2, a3⟩
    · omega
    · have ca := v_clamp (x := a) (by omega)
      have e1 : CA W4 W5 W6 W7 a.toNatClampNeg 2 = q.toInt := by
        rw [← (h a.toNatClampNeg).1 2 (by omega) (by omega), a2]; rfl
      by_cases w : i = a.toNatClampNeg
      · rw [w, e1]; exact a3
      · have := hs i a.toNatClampNeg (by omega) (by omega)
        omega
  · rw [g4, g5, g6, g7]
    by_cases c1 : i < pl.toNatClampNeg
    · rw [if_pos c1, CA_u (by omega)]; exact (h i).1 k hk4 (by omega)
    · rw [if_neg c1]
      by_cases c2 : i = pl.toNatClampNeg
      · subst c2
        rw [if_pos rfl, CA_s]
        rcases rk4 hk4 with w | w | w | w <;> subst w
        · exact ex
        · exact ey
        · exact ez
        · exact eu
      · rw [if_neg c2, CA_u c2]; exact (h i).2 k hk4 (by omega) (by omega)
theorem kp_full {W4 W5 W6 W7 : Nat → Int32} {q : Int32} {e : Nat → Int} (hs : srtA 200 (CA W4 W5 W6 W7)) (hq : q = W6 (Int32.toNatClampNeg 199)) (h : q.toInt ≤ e 2) : INSk 200 200 (CA W4 W5 W6 W7) e (CA W4 W5 W6 W7) := by
  have e1 : CA W4 W5 W6 W7 199 2 = q.toInt := by rw [hq]; rfl
  refine ⟨200, Nat.le_refl _, fun i hi => ?_, fun i h1 h2 => by omega, fun i hi k hk => by rw [if_pos hi]⟩
  by_cases w : i = 199
  · rw [w, e1]; exact h
  · have := hs i 199 (by omega) (by omega)
    omega
/-- what a choice's bytes give, read in a -/
def RDV (a : Int32) (L4 L5 : Nat → Int32) (T : Int32 → Int32 → Int32) (g : Nat → Int32) (m x1 x2 : Int) (e : Nat → Int) : Prop := ∃ c : Nat, rdOk (dl a L4 L5 g m) m c ∧ c ≤ 300 ∧ ∀ k, k < 4 → e k = ent x1 x2 (cT T c (fun i => dx a L4 L5 g m (psn (dl a L4 L5 g m) i))) c k
/-- and come back in b -/
def BVG (a b : Int32) (L4 L5 : Nat → Int32) (T : Int32 → Int32 → Int32) (g : Nat → Int32) (m : Int) (fm lm : Int32) (x1 x2 : Int) (e : Nat → Int) : Prop := (dl b L4 L5 g m lm.toNatClampNeg = 0 ∧ (fm.toInt = -1 ∨ dl b L4 L5 g m fm.toNatClampNeg = 0)) ∧ RDV a L4 L5 T g m x1 x2 e
/-- tryWhole: the letters up to behind the last mark, and the tail -/
theorem tw_yes {a re la su le s sm tf ts tl ls : Int32} {L4 L5 g W1 W2 W3 : Nat → Int32} {T : Int32 → Int32 → Int32} {m : Nat} {mi x1 x2 : Int} (em : mi = m) (hr : RS T re la su le (dl a L4 L5 g mi) (dx a L4 L5 g mi)) (ht : TLK T (dl a L4 L5 g mi) (dx a L4 L5 g mi) m W1 W2 W3 re.toNatClampNeg) (e1 : tf = W1 re.toNatClampNeg) (e2 : ts = W2 re.toNatClampNeg) (e3 : tl = W3 re.toNatClampNeg) (h3 : ¬ tl = -1) (hs : s.toInt = su.toInt + cF (T la tf) la tf) (hsm : sm.toInt = s.toInt + ts.toInt) (hls : ls.toInt = le.toInt + tl.toInt) (h300 : ls.toInt ≤ 300) : ∃ e, RDV a L4 L5 T g mi x1 x2 e ∧ ∀ k, k < 4 → e k = ent x1 x2 sm.toInt ls.toInt k := by
  subst em
  have hb := RS_b hr
  rcases ht with ⟨t1, _⟩ | ⟨c', t1, t2, t3, t4, t5, t6, t7, t8, t9⟩
  · exact absurd (e3.trans t1) h3
  · obtain ⟨q1, q2⟩ := RN_RF c' _ _ _ _ (RS_RN hr) t3
    rw [← e3] at t1
    have ec : ((le.toInt.toNat + c' : Nat) : Int) = ls.toInt := by omega
    have es : cT T ((le.toInt.toNat + c' : Nat) : Int) (fun i => dx a L4 L5 g m (psn (dl a L4 L5 g m) i)) = sm.toInt := by
      rw [q2, ← t4, ← e1, ← t7, ← e2]
      omega
    refine ⟨ent x1 x2 sm.toInt ls.toInt, ⟨le.toInt.toNat + c', q1, by omega, fun k hk => ?_⟩, fun _ _ => rfl⟩
    rw [es, ec]
theorem RDV_u {a : Int32} {L4 L5 g : Nat → Int32} {T : Int32 → Int32 → Int32} {m x1 x2 : Int} {e e' : Nat → Int} (h : RDV a L4 L5 T g m x1 x2 e) (h' : RDV a L4 L5 T g m x1 x2 e') : ∀ k, k < 4 → e k = e' k := by
  obtain ⟨c, a1, _, a3⟩ := h
  obtain ⟨c', b1, _, b3⟩ := h'
  have q := rd_uniq a1 b1
  subst q
  exact fun k hk => (a3 k hk).trans (b3 k hk).symm
theorem tw_no {a re la su le tl : Int32} {L4 L5 g W1 W2 W3 : Nat → Int32} {T : Int32 → Int32 → Int32} {m : Nat} {mi x1 x2 : Int} (em : mi = m) (hr : RS T re la su le (dl a L4 L5 g mi) (dx a L4 L5 g mi)) (hre : re.toInt ≤ mi) (ht : TLK T (dl a L4 L5 g mi) (dx a L4 L5 g mi) m W1 W2 W3 re.toNatClampNeg) (e3 : tl = W3 re.toNatClampNeg) (h3 : tl = -1 ∨ 300 < le.toInt + tl.toInt) : ∀ e, ¬ RDV a L4 L5 T g mi x1 x2 e := by
  subst em
  have hb := RS_b hr
  have c0 := v_clamp (x := re) (by omega)
  rintro e ⟨c, r1, r2, _⟩
  rcases ht with ⟨t1, t2⟩ | ⟨c', t1, t2, t3, _⟩
  · exact RN_no (RS_RN hr) (by omega) t2 c r1
  · obtain ⟨q1, _⟩ := RN_RF c' _ _ _ _ (RS_RN hr) t3
    have q := rd_uniq r1 q1
    rw [← e3] at t1
    rcases h3 with h3 | h3
    · have : tl.toInt = -1 := by rw [h3]; rfl
      omega
    · omega
theorem tw_stop {a re la su le : Int32} {L4 L5 g : Nat → Int32} {T : Int32 → Int32 → Int32} {mi x1 x2 : Int} (hr : RS T re la su le (dl a L4 L5 g mi) (dx a L4 L5 g mi)) (hre : re.toInt < mi) (h0 : dl a L4 L5 g mi re.toNatClampNeg = 0) : ∀ e, ¬ RDV a L4 L5 T g mi x1 x2 e := by
  obtain ⟨c, r1, r2, r3, r4, r5⟩ := hr
  rw [ix_eq r1] at h0
  rintro e ⟨c', q1, _⟩
  exact rd_stop r2 h0 (by omega) c' q1
/-- one step of the book, from what keep() did -/
theorem stp_y {V : Nat → (Nat → Int) → Prop} {t n n' : Nat} {B A : Nat → Nat → Int} {e : Nat → Int} (hV : V t e) (hn : n' = n + 1) (h : INSk (m200 n) (m200 (n + 1)) B e A) : STP V t n B n' A := Or.inl ⟨e, hV, hn, h⟩
theorem stp_n {V : Nat → (Nat → Int) → Prop} {t n n' : Nat} {B : Nat → Nat → Int} (hV : ∀ e, ¬ V t e) (hn : n' = n) : STP V t n B n' B := Or.inr ⟨hV, hn, fun _ _ _ _ => rfl⟩
theorem INS_e {k0 k1 : Nat} {B A : Nat → Nat → Int} {e e' : Nat → Int} (h : INSk k0 k1 B e A) (he : ∀ k, k < 4 → e k = e' k) : INSk k0 k1 B e' A := by
  obtain ⟨p, h1, h2, h3, h4⟩ := h
  refine ⟨p, h1, fun i hi => by rw [← he 2 (by omega)]; exact h2 i hi, fun i a b => by rw [← he 2 (by omega)]; exact h3 i a b, fun i hi k hk => ?_⟩
  rw [h4 i hi k hk, he k hk]
theorem upd_2 {f : Nat → Int32} {p : Nat} {x y : Int32} : upd (upd f p x) p y = upd f p y := by
  funext j
  by_cases w : j = p
  · rw [w, pk_us, pk_us]
  · rw [pk_un w, pk_un w, pk_un w]
theorem upd_c {f : Nat → Int32} {p q : Nat} {x y : Int32} (h : p ≠ q) : upd (upd f p x) q y = upd (upd f q y) p x := by
  funext j
  by_cases w : j = p
  · subst w
    rw [pk_un h, pk_us, pk_us]
  · by_cases w2 : j = q
    · subst w2
      rw [pk_us, pk_un w, pk_us]
    · rw [pk_un w2, pk_un w, pk_un w, pk_un w2]
def F_set (l i v : Int32) (f f' : Nat → Int32) : Prop := (0 ≤ i.toInt ∧ i.toInt < l.toInt ∧ f' = upd f i.toNatClampNeg v) ∨ ((i.toInt < 0 ∨ l.toInt ≤ i.toInt) ∧ f' = f)
theorem F_set_f {l i v : Int32} {f f' : Nat → Int32} (h : F_set l i v f f') (h0 : 0 ≤ i.toInt) (h1 : i.toInt < l.toInt) : f' = upd f i.toNatClampNeg v := by
  rcases h with h | h
  · exact h.2.2
  · have := h.1
    omega
theorem prg_upd {m lo hi : Int} {f f' : Nat → Int32} {p : Nat} {x : Int32} (h : prg m lo hi f) (e : f' = upd f p x) (hx : lo ≤ x.toInt ∧ x.toInt ≤ hi) : prg m lo hi f' := fun j hj => by
  rw [e]
  by_cases w : j = p
  · rw [w, pk_us]; exact hx
  · rw [pk_un w]; exact h j hj
/-! layOut, findTails, comesBack of the class -/
def LOI (b : Int32) (Bf : Int32 → Int32) (f : Nat → Int32) (i : Nat) (l : Int32) (g : Nat → Int32) (fm lm : Int32) : Prop := WR (EV b Bf f 0 0) i l g ∧ ((mkB f i = 0 ∧ fm.toInt = -1 ∧ lm.toInt = -1) ∨ (mkB f i = 1 ∧ fm.toInt = -1 ∧ ∃ i1, i1 < i ∧ f i1 = 65533 ∧ mkB f i1 = 0 ∧ lm.toInt = psE (EV b Bf f 0 0) i1) ∨ (mkB f i = 2 ∧ ∃ i1 i2, i1 < i ∧ i2 < i ∧ f i1 = 65533 ∧ f i2 = 65533 ∧ mkB f i1 = 0 ∧ mkB f i2 = 1 ∧ fm.toInt = psE (EV b Bf f 0 0) i1 ∧ lm.toInt = psE (EV b Bf f 0 0) i2) ∨ 3 ≤ mkB f i)
def F_lo (r l fm lm : Int32) (g : Nat → Int32) (b : Int32) (Bf : Int32 → Int32) (f : Nat → Int32) (n : Int) : Prop := (r.toInt = -1 ∧ LOI b Bf f n.toNat l g fm lm) ∨ ∃ i : Nat, r.toInt = i ∧ (i : Int) < n ∧ EV b Bf f 0 0 i = [] ∧ ∀ j, j < i → ¬ EV b Bf f 0 0 j = []
theorem LO_0 {b l fm lm : Int32} {Bf : Int32 → Int32} {f g : Nat → Int32} {i : Nat} (hi : i = 0) (hl : l.toInt = 0) (h1 : fm.toInt = -1) (h2 : lm.toInt = -1) : LOI b Bf f i l g fm lm := by
  subst hi
  exact ⟨WR_0 hl, Or.inl ⟨rfl, h1, h2⟩⟩
theorem LO_m {b l l' fm lm fm' lm' r v : Int32} {Bf : Int32 → Int32} {f g g' : Nat → Int32} {i i' : Nat} (h : LOI b Bf f i l g fm lm) (hm : f i = 65533) (ha : F_add 800 l l' r g g' v) (hv : v.toInt = 0) (h0 : 0 ≤ l.toInt) (h8 : l.toInt < 800) (e1 : fm' = lm) (e2 : lm'.toInt = l.toInt) (ei : i' = i + 1) : LOI b Bf f i' l' g' fm' lm' := by
  subst ei
  obtain ⟨h1, h2⟩ := h
  have eE : EV b Bf f 0 0 i = [v.toInt] := by
    rw [EV_m hm, hv]
    split <;> rfl
  have ap : AP l l' g g' ([] ++ [v.toInt]) := AP_s AP_0 h0 ha h8
  have w : WR (EV b Bf f 0 0) (i + 1) l' g' := WR_s h1 (by rw [eE]; exact List.cons_ne_nil _ _) (by rw [eE]; exact ap)
  refine ⟨w, ?_⟩
  have el := h1.1
  rw [mkB_y hm]
  rcases h2 with ⟨q1, q2, q3⟩ | ⟨q1, q2, i1, q3, q4, q5, q6⟩ | ⟨q1, q2⟩ | q
  · exact Or.inr (Or.inl ⟨by omega, by rw [e1]; exact q3, i, by omega, hm, q1, by omega⟩)
  · exact Or.inr (Or.inr (Or.inl ⟨by omega, i1, i, by omega, by omega, q4, hm, q5, q1, by rw [e1]; exact q6, by omega⟩))
  · exact Or.inr (Or.inr (Or.inr (by omega)))
  · exact Or.inr (Or.inr (Or.inr (by omega)))
theorem LO_n {b l l' fm lm r x B : Int32} {Bf : Int32 → Int32} {f g g' : Nat → Int32} {i i' : Nat} (h : LOI b Bf f i l g fm lm) (hm : ¬ f i = 65533) (ex : x = f i) (eB : B = Bf (f i)) (hf : F_en r b x B l l' g g') (hr : ¬ r.toInt = 0) (ei : i' = i + 1) : LOI b Bf f i' l' g' fm lm := by
  subst ei
  subst eB
  subst ex
  obtain ⟨h1, h2⟩ := h
  obtain ⟨a1, a2⟩ := F_en_1 hf hr
  have eE := EV_n (b := b) (Bf := Bf) (v1 := 0) (v2 := 0) hm
  refine ⟨WR_s h1 (by rw [eE]; exact a1) (by rw [eE]; exact a2), ?_⟩
  rw [mkB_n hm]
  rcases h2 with q | ⟨q1, q2, i1, q3, q4⟩ | ⟨q1, i1, i2, q2, q3, q4⟩ | q
  · exact Or.inl q
  · exact Or.inr (Or.inl ⟨q1, q2, i1, by omega, q4⟩)
  · exact Or.inr (Or.inr (Or.inl ⟨q1, i1, i2, by omega, by omega, q4⟩))
  · exact Or.inr (Or.inr (Or.inr q))
theorem LO_f {b l fm lm r x B l9 fm9 lm9 q : Int32} {Bf : Int32 → Int32} {f g g' g9 : Nat → Int32} {i : Nat} {l' : Int32} {n : Int} (h : LOI b Bf f i l g fm lm) (hm : ¬ f i = 65533) (ex : x = f i) (eB : B = Bf (f i)) (hf : F_en r b x B l l' g g') (hr : r.toInt = 0) (hq : q.toInt = i) (hn : (i : Int) < n) : F_lo q l9 fm9 lm9 g9 b Bf f n := by
  subst eB
  subst ex
  refine Or.inr ⟨i, hq, hn, ?_, fun j hj => (h.1.2 j hj).1⟩
  rw [EV_n hm]
  exact F_en_0 hf hr
theorem tl_0 {T : Int32 → Int32 → Int32} {D : Nat → Nat} {X W1 W2 W3 W1' W2' W3' : Nat → Int32} {m p : Nat} (e1 : W1' = upd W1 m 32) (e2 : W2' = upd W2 m 0) (e3 : W3' = upd W3 m 0) (hp : p = m) : TLK T D X m W1' W2' W3' p := by
  subst hp
  have f1 : W1' p = 32 := by rw [e1, pk_us]
  have f2 : W2' p = 0 := by rw [e2, pk_us]
  have f3 : W3' p = 0 := by rw [e3, pk_us]
  refine Or.inr ⟨0, by rw [f3]; rfl, by omega, rfl, f1, ?_, ?_, by rw [f2]; rfl, ?_, ?_⟩
  · rw [f1]; decide
  · rw [f1]; decide
  · rw [f2]; decide
  · rw [f2]; decide
theorem tl_k {T : Int32 → Int32 → Int32} {D : Nat → Nat} {X W1 W2 W3 W1' W2' W3' : Nat → Int32} {m p q : Nat} {x y z : Int32} (h : TLK T D X m W1 W2 W3 p) (hq : p ≠ q) (e1 : W1' = upd W1 q x ∨ W1' = W1) (e2 : W2' = upd W2 q y ∨ W2' = W2) (e3 : W3' = upd W3 q z) : TLK T D X m W1' W2' W3' p := by
  have f1 : W1' p = W1 p := by rcases e1 with e | e <;> rw [e]; exact pk_un hq
  have f2 : W2' p = W2 p := by rcases e2 with e | e <;> rw [e]; exact pk_un hq
  have f3 : W3' p = W3 p := by rw [e3, pk_un hq]
  unfold TLK
  rw [f1, f2, f3]
  exact h
theorem tl_n {T : Int32 → Int32 → Int32} {D : Nat → Nat} {X W1 W2 W3 W3' : Nat → Int32} {m p : Nat} (e3 : W3' = upd W3 p (-1)) (hn : ∀ c, ¬ RF D m c p) : TLK T D X m W1 W2 W3' p := Or.inl ⟨by rw [e3, pk_us], hn⟩
theorem tl_no0 {D : Nat → Nat} {m p : Nat} (h0 : D p = 0) (hp : p < m) : ∀ c, ¬ RF D m c p := by
  intro c h
  cases c with
  | zero =>
    have h : p = m := h
    omega
  | succ c => exact h.1 h0
theorem tl_non {T : Int32 → Int32 → Int32} {D : Nat → Nat} {X W1 W2 W3 : Nat → Int32} {m p q : Nat} (ht : TLK T D X m W1 W2 W3 q) (hq : q = p + D p) (h3 : W3 q = -1) (hp : p < m) : ∀ c, ¬ RF D m c p := by
  intro c h
  cases c with
  | zero =>
    have h : p = m := h
    omega
  | succ c =>
    obtain ⟨_, h2⟩ := h
    rw [← hq] at h2
    rcases ht with ⟨_, t2⟩ | ⟨c', t1, _⟩
    · exact t2 _ h2
    · rw [h3] at t1
      have m1 : (-1 : Int32).toInt = -1 := rfl
      omega
theorem tl_y {T : Int32 → Int32 → Int32} {D : Nat → Nat} {X W1 W2 W3 W1' W2' W3' : Nat → Int32} {m p q : Nat} {x sn s l r ln fn : Int32} (ht : TLK T D X m W1 W2 W3 q) (hD : ¬ D p = 0) (hq : q = p + D p) (h3 : ¬ W3 q = -1) (ex : x = X p) (e1 : W1' = upd W1 p x) (e2 : W2' = upd W2 p s) (e3 : W3' = upd W3 p l) (esn : sn = W2 q) (efn : fn = W1 q) (eln : ln = W3 q) (hr : r.toInt = cF (T x fn) x fn) (hs : s.toInt = sn.toInt + r.toInt) (hl : l.toInt = ln.toInt + 1) (hr2 : 0 ≤ r.toInt ∧ r.toInt ≤ 200) (hx : 0 ≤ x.toInt ∧ x.toInt ≤ 65535) (h8 : l.toInt ≤ 800) : TLK T D X m W1' W2' W3' p := by
  rcases ht with ⟨t1, _⟩ | ⟨c, t1, t2, t3, t4, t5, t6, t7, t8, t9⟩
  · exact absurd t1 h3
  · have f1 : W1' p = x := by rw [e1, pk_us]
    have f2 : W2' p = s := by rw [e2, pk_us]
    have f3 : W3' p = l := by rw [e3, pk_us]
    subst hq
    refine Or.inr ⟨c + 1, by rw [f3, hl, eln, t1]; rfl, by rw [eln] at hl; omega, ⟨hD, t3⟩, by rw [f1, ex]; rfl, by rw [f1]; exact hx.1, by rw [f1]; exact hx.2, ?_, by rw [f2, hs, esn]; omega, by rw [f2, hs, esn]; omega⟩
    rw [f2, hs, esn, t7, hr, efn, t4, ex, tsF]
    omega

end

/-! 5g.a.rows -/
section
set_option maxRecDepth 100000 in
theorem dA317_cX5_set : kDec cX5_set [(0, .iload_n 1, 1), (1, .ifCond .lt 18, 3), (19, .return_, 1), (4, .iload_n 1, 1), (5, .aload_n 0, 1), (6, .getfield 21, 3), (9, .if_icmp .ge 10, 3), (12, .aload_n 0, 1), (13, .getfield 15, 3), (16, .iload_n 1, 1), (17, .iload_n 2, 1), (18, .iastore, 1)] = true := by decide +kernel
theorem dX5_set_0 : decode cX5_set 0 = .ok (.iload_n 1, 1) := kDec_at dA317_cX5_set 0 rfl
theorem dX5_set_1 : decode cX5_set 1 = .ok (.ifCond .lt 18, 3) := kDec_at dA317_cX5_set 1 rfl
theorem dX5_set_19 : decode cX5_set 19 = .ok (.return_, 1) := kDec_at dA317_cX5_set 2 rfl
theorem dX5_set_4 : decode cX5_set 4 = .ok (.iload_n 1, 1) := kDec_at dA317_cX5_set 3 rfl
theorem dX5_set_5 : decode cX5_set 5 = .ok (.aload_n 0, 1) := kDec_at dA317_cX5_set 4 rfl
theorem dX5_set_6 : decode cX5_set 6 = .ok (.getfield 21, 3) := kDec_at dA317_cX5_set 5 rfl
theorem dX5_set_9 : decode cX5_set 9 = .ok (.if_icmp .ge 10, 3) := kDec_at dA317_cX5_set 6 rfl
theorem dX5_set_12 : decode cX5_set 12 = .ok (.aload_n 0, 1) := kDec_at dA317_cX5_set 7 rfl
theorem dX5_set_13 : decode cX5_set 13 = .ok (.getfield 15, 3) := kDec_at dA317_cX5_set 8 rfl
theorem dX5_set_16 : decode cX5_set 16 = .ok (.iload_n 1, 1) := kDec_at dA317_cX5_set 9 rfl
theorem dX5_set_17 : decode cX5_set 17 = .ok (.iload_n 2, 1) := kDec_at dA317_cX5_set 10 rfl
theorem dX5_set_18 : decode cX5_set 18 = .ok (.iastore, 1) := kDec_at dA317_cX5_set 11 rfl
set_option maxRecDepth 100000 in
theorem dA318_cX1_layOut : kDec cX1_layOut [(0, .aload_n 0, 1), (1, .getfield 16, 3), (4, .iconst 0, 1), (5, .invokevirtual 88, 3), (8, .aload_n 0, 1), (9, .iconst (-1), 1), (10, .putfield 82, 3), (13, .aload_n 0, 1), (14, .iconst (-1), 1), (15, .putfield 85, 3), (18, .iconst 0, 1), (19, .istore_n 3, 1), (20, .iload_n 3, 1), (21, .aload_n 2, 1), (22, .invokevirtual 91, 3), (25, .if_icmp .ge 72, 3), (97, .iconst (-1), 1), (98, .ireturn, 1), (28, .aload_n 2, 1), (29, .iload_n 3, 1), (30, .invokevirtual 95, 3), (33, .ldc 99, 2), (35, .if_icmp .ne 34, 3), (69, .aload_n 0, 1)] = true := by decide +kernel
theorem dX1_layOut_0 : decode cX1_layOut 0 = .ok (.aload_n 0, 1) := kDec_at dA318_cX1_layOut 0 rfl
theorem dX1_layOut_1 : decode cX1_layOut 1 = .ok (.getfield 16, 3) := kDec_at dA318_cX1_layOut 1 rfl
theorem dX1_layOut_4 : decode cX1_layOut 4 = .ok (.iconst 0, 1) := kDec_at dA318_cX1_layOut 2 rfl
theorem dX1_layOut_5 : decode cX1_layOut 5 = .ok (.invokevirtual 88, 3) := kDec_at dA318_cX1_layOut 3 rfl
theorem dX1_layOut_8 : decode cX1_layOut 8 = .ok (.aload_n 0, 1) := kDec_at dA318_cX1_layOut 4 rfl
theorem dX1_layOut_9 : decode cX1_layOut 9 = .ok (.iconst (-1), 1) := kDec_at dA318_cX1_layOut 5 rfl
theorem dX1_layOut_10 : decode cX1_layOut 10 = .ok (.putfield 82, 3) := kDec_at dA318_cX1_layOut 6 rfl
theorem dX1_layOut_13 : decode cX1_layOut 13 = .ok (.aload_n 0, 1) := kDec_at dA318_cX1_layOut 7 rfl
theorem dX1_layOut_14 : decode cX1_layOut 14 = .ok (.iconst (-1), 1) := kDec_at dA318_cX1_layOut 8 rfl
theorem dX1_layOut_15 : decode cX1_layOut 15 = .ok (.putfield 85, 3) := kDec_at dA318_cX1_layOut 9 rfl
theorem dX1_layOut_18 : decode cX1_layOut 18 = .ok (.iconst 0, 1) := kDec_at dA318_cX1_layOut 10 rfl
theorem dX1_layOut_19 : decode cX1_layOut 19 = .ok (.istore_n 3, 1) := kDec_at dA318_cX1_layOut 11 rfl
theorem dX1_layOut_20 : decode cX1_layOut 20 = .ok (.iload_n 3, 1) := kDec_at dA318_cX1_layOut 12 rfl
theorem dX1_layOut_21 : decode cX1_layOut 21 = .ok (.aload_n 2, 1) := kDec_at dA318_cX1_layOut 13 rfl
theorem dX1_layOut_22 : decode cX1_layOut 22 = .ok (.invokevirtual 91, 3) := kDec_at dA318_cX1_layOut 14 rfl
theorem dX1_layOut_25 : decode cX1_layOut 25 = .ok (.if_icmp .ge 72, 3) := kDec_at dA318_cX1_layOut 15 rfl
theorem dX1_layOut_97 : decode cX1_layOut 97 = .ok (.iconst (-1), 1) := kDec_at dA318_cX1_layOut 16 rfl
theorem dX1_layOut_98 : decode cX1_layOut 98 = .ok (.ireturn, 1) := kDec_at dA318_cX1_layOut 17 rfl
theorem dX1_layOut_28 : decode cX1_layOut 28 = .ok (.aload_n 2, 1) := kDec_at dA318_cX1_layOut 18 rfl
theorem dX1_layOut_29 : decode cX1_layOut 29 = .ok (.iload_n 3, 1) := kDec_at dA318_cX1_layOut 19 rfl
theorem dX1_layOut_30 : decode cX1_layOut 30 = .ok (.invokevirtual 95, 3) := kDec_at dA318_cX1_layOut 20 rfl
theorem dX1_layOut_33 : decode cX1_layOut 33 = .ok (.ldc 99, 2) := kDec_at dA318_cX1_layOut 21 rfl
theorem dX1_layOut_35 : decode cX1_layOut 35 = .ok (.if_icmp .ne 34, 3) := kDec_at dA318_cX1_layOut 22 rfl
theorem dX1_layOut_69 : decode cX1_layOut 69 = .ok (.aload_n 0, 1) := kDec_at dA318_cX1_layOut 23 rfl
set_option maxRecDepth 20000 in
theorem ggX1_layOut_X5_cut : GoodIn wsX1_layOut wsX5_cut := goodIn_sub (fun _ h => List.mem_cons_of_mem _ (List.mem_append_left _ (List.mem_append_left _ (List.mem_append_left _ (List.mem_append_left _ (List.mem_append_right _ (h))))))) gX5_cut_all
set_option maxRecDepth 20000 in
theorem gX1_layOut_X5_cut : GoodIn wsX1_layOut (wsV RX1 88 RX5 yX5_cut wsX5_cut) := goodIn_app (goodIn_r _ [6, 7, 8, 9] rfl (by decide +kernel)) ggX1_layOut_X5_cut
set_option maxRecDepth 20000 in
theorem ggX1_layOut_X5_length : GoodIn wsX1_layOut wsX5_length := goodIn_sub (fun _ h => List.mem_cons_of_mem _ (List.mem_append_left _ (List.mem_append_left _ (List.mem_append_left _ (List.mem_append_right _ (h)))))) gX5_length_all
set_option maxRecDepth 20000 in
theorem gX1_layOut_X5_length : GoodIn wsX1_layOut (wsV RX1 91 RX5 yX5_length wsX5_length) := goodIn_app (goodIn_r _ [10, 11, 12, 9] rfl (by decide +kernel)) ggX1_layOut_X5_length
set_option maxRecDepth 20000 in
theorem ggX1_layOut_X5_get : GoodIn wsX1_layOut wsX5_get := goodIn_sub (fun _ h => List.mem_cons_of_mem _ (List.mem_append_left _ (List.mem_append_left _ (List.mem_append_right _ (h))))) gX5_get_all
set_option maxRecDepth 20000 in
theorem gX1_layOut_X5_get : GoodIn wsX1_layOut (wsV RX1 95 RX5 yX5_get wsX5_get) := goodIn_app (goodIn_r _ [13, 14, 15, 9] rfl (by decide +kernel)) ggX1_layOut_X5_get
set_option maxRecDepth 100000 in
theorem dA319_cX1_layOut : kDec cX1_layOut [(70, .getfield 42, 3), (73, .iload_n 1, 1), (74, .aload_n 2, 1), (75, .iload_n 3, 1), (76, .invokevirtual 95, 3), (79, .aload_n 0, 1), (80, .getfield 16, 3), (83, .invokevirtual 104, 3), (86, .ifCond .ne 5, 3), (91, .iinc 3 1, 3), (94, .goto (-74), 3), (89, .iload_n 3, 1), (90, .ireturn, 1), (38, .aload_n 0, 1), (39, .aload_n 0, 1), (40, .getfield 85, 3), (43, .putfield 82, 3), (46, .aload_n 0, 1), (47, .aload_n 0, 1), (48, .getfield 16, 3), (51, .invokevirtual 91, 3), (54, .putfield 85, 3), (57, .aload_n 0, 1), (58, .getfield 16, 3)] = true := by decide +kernel
theorem dX1_layOut_70 : decode cX1_layOut 70 = .ok (.getfield 42, 3) := kDec_at dA319_cX1_layOut 0 rfl
theorem dX1_layOut_73 : decode cX1_layOut 73 = .ok (.iload_n 1, 1) := kDec_at dA319_cX1_layOut 1 rfl
theorem dX1_layOut_74 : decode cX1_layOut 74 = .ok (.aload_n 2, 1) := kDec_at dA319_cX1_layOut 2 rfl
theorem dX1_layOut_75 : decode cX1_layOut 75 = .ok (.iload_n 3, 1) := kDec_at dA319_cX1_layOut 3 rfl
theorem dX1_layOut_76 : decode cX1_layOut 76 = .ok (.invokevirtual 95, 3) := kDec_at dA319_cX1_layOut 4 rfl
theorem dX1_layOut_79 : decode cX1_layOut 79 = .ok (.aload_n 0, 1) := kDec_at dA319_cX1_layOut 5 rfl
theorem dX1_layOut_80 : decode cX1_layOut 80 = .ok (.getfield 16, 3) := kDec_at dA319_cX1_layOut 6 rfl
theorem dX1_layOut_83 : decode cX1_layOut 83 = .ok (.invokevirtual 104, 3) := kDec_at dA319_cX1_layOut 7 rfl
theorem dX1_layOut_86 : decode cX1_layOut 86 = .ok (.ifCond .ne 5, 3) := kDec_at dA319_cX1_layOut 8 rfl
theorem dX1_layOut_91 : decode cX1_layOut 91 = .ok (.iinc 3 1, 3) := kDec_at dA319_cX1_layOut 9 rfl
theorem dX1_layOut_94 : decode cX1_layOut 94 = .ok (.goto (-74), 3) := kDec_at dA319_cX1_layOut 10 rfl
theorem dX1_layOut_89 : decode cX1_layOut 89 = .ok (.iload_n 3, 1) := kDec_at dA319_cX1_layOut 11 rfl
theorem dX1_layOut_90 : decode cX1_layOut 90 = .ok (.ireturn, 1) := kDec_at dA319_cX1_layOut 12 rfl
theorem dX1_layOut_38 : decode cX1_layOut 38 = .ok (.aload_n 0, 1) := kDec_at dA319_cX1_layOut 13 rfl
theorem dX1_layOut_39 : decode cX1_layOut 39 = .ok (.aload_n 0, 1) := kDec_at dA319_cX1_layOut 14 rfl
theorem dX1_layOut_40 : decode cX1_layOut 40 = .ok (.getfield 85, 3) := kDec_at dA319_cX1_layOut 15 rfl
theorem dX1_layOut_43 : decode cX1_layOut 43 = .ok (.putfield 82, 3) := kDec_at dA319_cX1_layOut 16 rfl
theorem dX1_layOut_46 : decode cX1_layOut 46 = .ok (.aload_n 0, 1) := kDec_at dA319_cX1_layOut 17 rfl
theorem dX1_layOut_47 : decode cX1_layOut 47 = .ok (.aload_n 0, 1) := kDec_at dA319_cX1_layOut 18 rfl
theorem dX1_layOut_48 : decode cX1_layOut 48 = .ok (.getfield 16, 3) := kDec_at dA319_cX1_layOut 19 rfl
theorem dX1_layOut_51 : decode cX1_layOut 51 = .ok (.invokevirtual 91, 3) := kDec_at dA319_cX1_layOut 20 rfl
theorem dX1_layOut_54 : decode cX1_layOut 54 = .ok (.putfield 85, 3) := kDec_at dA319_cX1_layOut 21 rfl
theorem dX1_layOut_57 : decode cX1_layOut 57 = .ok (.aload_n 0, 1) := kDec_at dA319_cX1_layOut 22 rfl
theorem dX1_layOut_58 : decode cX1_layOut 58 = .ok (.getfield 16, 3) := kDec_at dA319_cX1_layOut 23 rfl
set_option maxRecDepth 20000 in
theorem ggX1_layOut_X2_encode : GoodIn wsX1_layOut wsX2_encode := goodIn_sub (fun _ h => List.mem_cons_of_mem _ (List.mem_append_right _ (h))) gX2_encode_all
set_option maxRecDepth 20000 in
theorem gX1_layOut_X2_encode : GoodIn wsX1_layOut (wsV RX1 104 RX2 yX2_encode wsX2_encode) := goodIn_app (goodIn_r _ [19, 20, 21, 22] rfl (by decide +kernel)) ggX1_layOut_X2_encode
set_option maxRecDepth 100000 in
theorem dA320_cX1_layOut : kDec cX1_layOut [(61, .iconst 0, 1), (62, .invokevirtual 100, 3), (65, .pop, 1), (66, .goto 25, 3)] = true := by decide +kernel
theorem dX1_layOut_61 : decode cX1_layOut 61 = .ok (.iconst 0, 1) := kDec_at dA320_cX1_layOut 0 rfl
theorem dX1_layOut_62 : decode cX1_layOut 62 = .ok (.invokevirtual 100, 3) := kDec_at dA320_cX1_layOut 1 rfl
theorem dX1_layOut_65 : decode cX1_layOut 65 = .ok (.pop, 1) := kDec_at dA320_cX1_layOut 2 rfl
theorem dX1_layOut_66 : decode cX1_layOut 66 = .ok (.goto 25, 3) := kDec_at dA320_cX1_layOut 3 rfl
set_option maxRecDepth 20000 in
theorem ggX1_layOut_X5_add : GoodIn wsX1_layOut wsX5_add := goodIn_sub (fun _ h => List.mem_cons_of_mem _ (List.mem_append_left _ (List.mem_append_right _ (h)))) gX5_add_all
set_option maxRecDepth 20000 in
theorem gX1_layOut_X5_add : GoodIn wsX1_layOut (wsV RX1 100 RX5 yX5_add wsX5_add) := goodIn_app (goodIn_r _ [16, 17, 18, 9] rfl (by decide +kernel)) ggX1_layOut_X5_add
set_option maxRecDepth 100000 in
theorem dA321_cX1_findTails : kDec cX1_findTails [(0, .aload_n 0, 1), (1, .getfield 16, 3), (4, .invokevirtual 91, 3), (7, .sipush 800, 3), (10, .invokestatic 135, 3), (13, .istore_n 1, 1), (14, .aload_n 0, 1), (15, .getfield 20, 3), (18, .iload_n 1, 1), (19, .bipush 32, 2), (21, .iastore, 1), (22, .aload_n 0, 1), (23, .getfield 24, 3), (26, .iload_n 1, 1), (27, .iconst 0, 1), (28, .iastore, 1), (29, .aload_n 0, 1), (30, .getfield 27, 3), (33, .iload_n 1, 1), (34, .iconst 0, 1), (35, .iastore, 1), (36, .iload_n 1, 1), (37, .iconst 1, 1), (38, .isub, 1)] = true := by decide +kernel
theorem dX1_findTails_0 : decode cX1_findTails 0 = .ok (.aload_n 0, 1) := kDec_at dA321_cX1_findTails 0 rfl
theorem dX1_findTails_1 : decode cX1_findTails 1 = .ok (.getfield 16, 3) := kDec_at dA321_cX1_findTails 1 rfl
theorem dX1_findTails_4 : decode cX1_findTails 4 = .ok (.invokevirtual 91, 3) := kDec_at dA321_cX1_findTails 2 rfl
theorem dX1_findTails_7 : decode cX1_findTails 7 = .ok (.sipush 800, 3) := kDec_at dA321_cX1_findTails 3 rfl
theorem dX1_findTails_10 : decode cX1_findTails 10 = .ok (.invokestatic 135, 3) := kDec_at dA321_cX1_findTails 4 rfl
theorem dX1_findTails_13 : decode cX1_findTails 13 = .ok (.istore_n 1, 1) := kDec_at dA321_cX1_findTails 5 rfl
theorem dX1_findTails_14 : decode cX1_findTails 14 = .ok (.aload_n 0, 1) := kDec_at dA321_cX1_findTails 6 rfl
theorem dX1_findTails_15 : decode cX1_findTails 15 = .ok (.getfield 20, 3) := kDec_at dA321_cX1_findTails 7 rfl
theorem dX1_findTails_18 : decode cX1_findTails 18 = .ok (.iload_n 1, 1) := kDec_at dA321_cX1_findTails 8 rfl
theorem dX1_findTails_19 : decode cX1_findTails 19 = .ok (.bipush 32, 2) := kDec_at dA321_cX1_findTails 9 rfl
theorem dX1_findTails_21 : decode cX1_findTails 21 = .ok (.iastore, 1) := kDec_at dA321_cX1_findTails 10 rfl
theorem dX1_findTails_22 : decode cX1_findTails 22 = .ok (.aload_n 0, 1) := kDec_at dA321_cX1_findTails 11 rfl
theorem dX1_findTails_23 : decode cX1_findTails 23 = .ok (.getfield 24, 3) := kDec_at dA321_cX1_findTails 12 rfl
theorem dX1_findTails_26 : decode cX1_findTails 26 = .ok (.iload_n 1, 1) := kDec_at dA321_cX1_findTails 13 rfl
theorem dX1_findTails_27 : decode cX1_findTails 27 = .ok (.iconst 0, 1) := kDec_at dA321_cX1_findTails 14 rfl
theorem dX1_findTails_28 : decode cX1_findTails 28 = .ok (.iastore, 1) := kDec_at dA321_cX1_findTails 15 rfl
theorem dX1_findTails_29 : decode cX1_findTails 29 = .ok (.aload_n 0, 1) := kDec_at dA321_cX1_findTails 16 rfl
theorem dX1_findTails_30 : decode cX1_findTails 30 = .ok (.getfield 27, 3) := kDec_at dA321_cX1_findTails 17 rfl
theorem dX1_findTails_33 : decode cX1_findTails 33 = .ok (.iload_n 1, 1) := kDec_at dA321_cX1_findTails 18 rfl
theorem dX1_findTails_34 : decode cX1_findTails 34 = .ok (.iconst 0, 1) := kDec_at dA321_cX1_findTails 19 rfl
theorem dX1_findTails_35 : decode cX1_findTails 35 = .ok (.iastore, 1) := kDec_at dA321_cX1_findTails 20 rfl
theorem dX1_findTails_36 : decode cX1_findTails 36 = .ok (.iload_n 1, 1) := kDec_at dA321_cX1_findTails 21 rfl
theorem dX1_findTails_37 : decode cX1_findTails 37 = .ok (.iconst 1, 1) := kDec_at dA321_cX1_findTails 22 rfl
theorem dX1_findTails_38 : decode cX1_findTails 38 = .ok (.isub, 1) := kDec_at dA321_cX1_findTails 23 rfl
set_option maxRecDepth 20000 in
theorem ggX1_findTails_X5_length : GoodIn wsX1_findTails wsX5_length := goodIn_sub (fun _ h => List.mem_cons_of_mem _ (List.mem_append_left _ (List.mem_append_left _ (List.mem_append_left _ (List.mem_append_left _ (List.mem_append_right _ (h))))))) gX5_length_all
set_option maxRecDepth 20000 in
theorem gX1_findTails_X5_length : GoodIn wsX1_findTails (wsV RX1 91 RX5 yX5_length wsX5_length) := goodIn_app (goodIn_r _ [13, 14, 15, 16] rfl (by decide +kernel)) ggX1_findTails_X5_length
set_option maxRecDepth 100000 in
theorem dA322_cX1_findTails : kDec cX1_findTails [(39, .istore_n 2, 1), (40, .iload_n 2, 1), (41, .aload_n 0, 1), (42, .getfield 85, 3), (45, .if_icmp .le 140, 3), (185, .return_, 1), (48, .iload_n 2, 1), (49, .ifCond .lt 136, 3), (52, .aload_n 0, 1), (53, .getfield 42, 3), (56, .aload_n 0, 1), (57, .getfield 76, 3), (60, .aload_n 0, 1), (61, .getfield 16, 3), (64, .iload_n 2, 1), (65, .iload_n 1, 1), (66, .invokevirtual 140, 3), (69, .istore_n 3, 1), (70, .iload_n 3, 1), (71, .iconst (-1), 1), (72, .if_icmp .ne 7, 3), (79, .iload_n 2, 1), (80, .iload_n 3, 1), (81, .invokestatic 144, 3)] = true := by decide +kernel
theorem dX1_findTails_39 : decode cX1_findTails 39 = .ok (.istore_n 2, 1) := kDec_at dA322_cX1_findTails 0 rfl
theorem dX1_findTails_40 : decode cX1_findTails 40 = .ok (.iload_n 2, 1) := kDec_at dA322_cX1_findTails 1 rfl
theorem dX1_findTails_41 : decode cX1_findTails 41 = .ok (.aload_n 0, 1) := kDec_at dA322_cX1_findTails 2 rfl
theorem dX1_findTails_42 : decode cX1_findTails 42 = .ok (.getfield 85, 3) := kDec_at dA322_cX1_findTails 3 rfl
theorem dX1_findTails_45 : decode cX1_findTails 45 = .ok (.if_icmp .le 140, 3) := kDec_at dA322_cX1_findTails 4 rfl
theorem dX1_findTails_185 : decode cX1_findTails 185 = .ok (.return_, 1) := kDec_at dA322_cX1_findTails 5 rfl
theorem dX1_findTails_48 : decode cX1_findTails 48 = .ok (.iload_n 2, 1) := kDec_at dA322_cX1_findTails 6 rfl
theorem dX1_findTails_49 : decode cX1_findTails 49 = .ok (.ifCond .lt 136, 3) := kDec_at dA322_cX1_findTails 7 rfl
theorem dX1_findTails_52 : decode cX1_findTails 52 = .ok (.aload_n 0, 1) := kDec_at dA322_cX1_findTails 8 rfl
theorem dX1_findTails_53 : decode cX1_findTails 53 = .ok (.getfield 42, 3) := kDec_at dA322_cX1_findTails 9 rfl
theorem dX1_findTails_56 : decode cX1_findTails 56 = .ok (.aload_n 0, 1) := kDec_at dA322_cX1_findTails 10 rfl
theorem dX1_findTails_57 : decode cX1_findTails 57 = .ok (.getfield 76, 3) := kDec_at dA322_cX1_findTails 11 rfl
theorem dX1_findTails_60 : decode cX1_findTails 60 = .ok (.aload_n 0, 1) := kDec_at dA322_cX1_findTails 12 rfl
theorem dX1_findTails_61 : decode cX1_findTails 61 = .ok (.getfield 16, 3) := kDec_at dA322_cX1_findTails 13 rfl
theorem dX1_findTails_64 : decode cX1_findTails 64 = .ok (.iload_n 2, 1) := kDec_at dA322_cX1_findTails 14 rfl
theorem dX1_findTails_65 : decode cX1_findTails 65 = .ok (.iload_n 1, 1) := kDec_at dA322_cX1_findTails 15 rfl
theorem dX1_findTails_66 : decode cX1_findTails 66 = .ok (.invokevirtual 140, 3) := kDec_at dA322_cX1_findTails 16 rfl
theorem dX1_findTails_69 : decode cX1_findTails 69 = .ok (.istore_n 3, 1) := kDec_at dA322_cX1_findTails 17 rfl
theorem dX1_findTails_70 : decode cX1_findTails 70 = .ok (.iload_n 3, 1) := kDec_at dA322_cX1_findTails 18 rfl
theorem dX1_findTails_71 : decode cX1_findTails 71 = .ok (.iconst (-1), 1) := kDec_at dA322_cX1_findTails 19 rfl
theorem dX1_findTails_72 : decode cX1_findTails 72 = .ok (.if_icmp .ne 7, 3) := kDec_at dA322_cX1_findTails 20 rfl
theorem dX1_findTails_79 : decode cX1_findTails 79 = .ok (.iload_n 2, 1) := kDec_at dA322_cX1_findTails 21 rfl
theorem dX1_findTails_80 : decode cX1_findTails 80 = .ok (.iload_n 3, 1) := kDec_at dA322_cX1_findTails 22 rfl
theorem dX1_findTails_81 : decode cX1_findTails 81 = .ok (.invokestatic 144, 3) := kDec_at dA322_cX1_findTails 23 rfl
set_option maxRecDepth 20000 in
theorem ggX1_findTails_X2_decode : GoodIn wsX1_findTails wsX2_decode := goodIn_sub (fun _ h => List.mem_cons_of_mem _ (List.mem_append_left _ (List.mem_append_left _ (List.mem_append_left _ (List.mem_append_right _ (h)))))) gX2_decode_all
set_option maxRecDepth 20000 in
theorem gX1_findTails_X2_decode : GoodIn wsX1_findTails (wsV RX1 140 RX2 yX2_decode wsX2_decode) := goodIn_app (goodIn_r _ [17, 18, 19, 20] rfl (by decide +kernel)) ggX1_findTails_X2_decode
set_option maxRecDepth 20000 in
theorem ggX1_findTails_X2_bytesIn : GoodIn wsX1_findTails wsX2_bytesIn := goodIn_sub (fun _ h => List.mem_cons_of_mem _ (List.mem_append_left _ (List.mem_append_left _ (List.mem_append_right _ (h))))) gX2_bytesIn_all
set_option maxRecDepth 20000 in
theorem gX1_findTails_X2_bytesIn : GoodIn wsX1_findTails (va_wsS RX1 144 yX2_bytesIn wsX2_bytesIn) := goodIn_app (goodIn_r _ [21, 22, 20] rfl (by decide +kernel)) ggX1_findTails_X2_bytesIn
set_option maxRecDepth 100000 in
theorem dA323_cX1_findTails : kDec cX1_findTails [(84, .iadd, 1), (85, .istore 4, 2), (87, .iload 4, 2), (89, .iload_n 2, 1), (90, .if_icmp .le 20, 3), (93, .iload 4, 2), (95, .iload_n 1, 1), (96, .if_icmp .gt 14, 3), (99, .aload_n 0, 1), (100, .getfield 27, 3), (103, .iload 4, 2), (105, .iaload, 1), (106, .iconst (-1), 1), (107, .if_icmp .ne 13, 3), (120, .aload_n 0, 1), (121, .getfield 20, 3), (124, .iload_n 2, 1), (125, .iload_n 3, 1), (126, .invokestatic 147, 3), (129, .iastore, 1), (130, .aload_n 0, 1), (131, .getfield 24, 3), (134, .iload_n 2, 1), (135, .aload_n 0, 1)] = true := by decide +kernel
theorem dX1_findTails_84 : decode cX1_findTails 84 = .ok (.iadd, 1) := kDec_at dA323_cX1_findTails 0 rfl
theorem dX1_findTails_85 : decode cX1_findTails 85 = .ok (.istore 4, 2) := kDec_at dA323_cX1_findTails 1 rfl
theorem dX1_findTails_87 : decode cX1_findTails 87 = .ok (.iload 4, 2) := kDec_at dA323_cX1_findTails 2 rfl
theorem dX1_findTails_89 : decode cX1_findTails 89 = .ok (.iload_n 2, 1) := kDec_at dA323_cX1_findTails 3 rfl
theorem dX1_findTails_90 : decode cX1_findTails 90 = .ok (.if_icmp .le 20, 3) := kDec_at dA323_cX1_findTails 4 rfl
theorem dX1_findTails_93 : decode cX1_findTails 93 = .ok (.iload 4, 2) := kDec_at dA323_cX1_findTails 5 rfl
theorem dX1_findTails_95 : decode cX1_findTails 95 = .ok (.iload_n 1, 1) := kDec_at dA323_cX1_findTails 6 rfl
theorem dX1_findTails_96 : decode cX1_findTails 96 = .ok (.if_icmp .gt 14, 3) := kDec_at dA323_cX1_findTails 7 rfl
theorem dX1_findTails_99 : decode cX1_findTails 99 = .ok (.aload_n 0, 1) := kDec_at dA323_cX1_findTails 8 rfl
theorem dX1_findTails_100 : decode cX1_findTails 100 = .ok (.getfield 27, 3) := kDec_at dA323_cX1_findTails 9 rfl
theorem dX1_findTails_103 : decode cX1_findTails 103 = .ok (.iload 4, 2) := kDec_at dA323_cX1_findTails 10 rfl
theorem dX1_findTails_105 : decode cX1_findTails 105 = .ok (.iaload, 1) := kDec_at dA323_cX1_findTails 11 rfl
theorem dX1_findTails_106 : decode cX1_findTails 106 = .ok (.iconst (-1), 1) := kDec_at dA323_cX1_findTails 12 rfl
theorem dX1_findTails_107 : decode cX1_findTails 107 = .ok (.if_icmp .ne 13, 3) := kDec_at dA323_cX1_findTails 13 rfl
theorem dX1_findTails_120 : decode cX1_findTails 120 = .ok (.aload_n 0, 1) := kDec_at dA323_cX1_findTails 14 rfl
theorem dX1_findTails_121 : decode cX1_findTails 121 = .ok (.getfield 20, 3) := kDec_at dA323_cX1_findTails 15 rfl
theorem dX1_findTails_124 : decode cX1_findTails 124 = .ok (.iload_n 2, 1) := kDec_at dA323_cX1_findTails 16 rfl
theorem dX1_findTails_125 : decode cX1_findTails 125 = .ok (.iload_n 3, 1) := kDec_at dA323_cX1_findTails 17 rfl
theorem dX1_findTails_126 : decode cX1_findTails 126 = .ok (.invokestatic 147, 3) := kDec_at dA323_cX1_findTails 18 rfl
theorem dX1_findTails_129 : decode cX1_findTails 129 = .ok (.iastore, 1) := kDec_at dA323_cX1_findTails 19 rfl
theorem dX1_findTails_130 : decode cX1_findTails 130 = .ok (.aload_n 0, 1) := kDec_at dA323_cX1_findTails 20 rfl
theorem dX1_findTails_131 : decode cX1_findTails 131 = .ok (.getfield 24, 3) := kDec_at dA323_cX1_findTails 21 rfl
theorem dX1_findTails_134 : decode cX1_findTails 134 = .ok (.iload_n 2, 1) := kDec_at dA323_cX1_findTails 22 rfl
theorem dX1_findTails_135 : decode cX1_findTails 135 = .ok (.aload_n 0, 1) := kDec_at dA323_cX1_findTails 23 rfl
set_option maxRecDepth 20000 in
theorem ggX1_findTails_X2_letterIn : GoodIn wsX1_findTails wsX2_letterIn := goodIn_sub (fun _ h => List.mem_cons_of_mem _ (List.mem_append_left _ (List.mem_append_right _ (h)))) gX2_letterIn_all
set_option maxRecDepth 20000 in
theorem gX1_findTails_X2_letterIn : GoodIn wsX1_findTails (va_wsS RX1 147 yX2_letterIn wsX2_letterIn) := goodIn_app (goodIn_r _ [23, 24, 20] rfl (by decide +kernel)) ggX1_findTails_X2_letterIn
set_option maxRecDepth 100000 in
theorem dA324_cX1_findTails : kDec cX1_findTails [(136, .getfield 24, 3), (139, .iload 4, 2), (141, .iaload, 1), (142, .aload_n 0, 1), (143, .getfield 46, 3), (146, .aload_n 0, 1), (147, .getfield 20, 3), (150, .iload_n 2, 1), (151, .iaload, 1), (152, .aload_n 0, 1), (153, .getfield 20, 3), (156, .iload 4, 2), (158, .iaload, 1), (159, .invokevirtual 150, 3), (162, .iadd, 1), (163, .iastore, 1), (164, .aload_n 0, 1), (165, .getfield 27, 3), (168, .iload_n 2, 1), (169, .aload_n 0, 1), (170, .getfield 27, 3), (173, .iload 4, 2), (175, .iaload, 1), (176, .iconst 1, 1)] = true := by decide +kernel
theorem dX1_findTails_136 : decode cX1_findTails 136 = .ok (.getfield 24, 3) := kDec_at dA324_cX1_findTails 0 rfl
theorem dX1_findTails_139 : decode cX1_findTails 139 = .ok (.iload 4, 2) := kDec_at dA324_cX1_findTails 1 rfl
theorem dX1_findTails_141 : decode cX1_findTails 141 = .ok (.iaload, 1) := kDec_at dA324_cX1_findTails 2 rfl
theorem dX1_findTails_142 : decode cX1_findTails 142 = .ok (.aload_n 0, 1) := kDec_at dA324_cX1_findTails 3 rfl
theorem dX1_findTails_143 : decode cX1_findTails 143 = .ok (.getfield 46, 3) := kDec_at dA324_cX1_findTails 4 rfl
theorem dX1_findTails_146 : decode cX1_findTails 146 = .ok (.aload_n 0, 1) := kDec_at dA324_cX1_findTails 5 rfl
theorem dX1_findTails_147 : decode cX1_findTails 147 = .ok (.getfield 20, 3) := kDec_at dA324_cX1_findTails 6 rfl
theorem dX1_findTails_150 : decode cX1_findTails 150 = .ok (.iload_n 2, 1) := kDec_at dA324_cX1_findTails 7 rfl
theorem dX1_findTails_151 : decode cX1_findTails 151 = .ok (.iaload, 1) := kDec_at dA324_cX1_findTails 8 rfl
theorem dX1_findTails_152 : decode cX1_findTails 152 = .ok (.aload_n 0, 1) := kDec_at dA324_cX1_findTails 9 rfl
theorem dX1_findTails_153 : decode cX1_findTails 153 = .ok (.getfield 20, 3) := kDec_at dA324_cX1_findTails 10 rfl
theorem dX1_findTails_156 : decode cX1_findTails 156 = .ok (.iload 4, 2) := kDec_at dA324_cX1_findTails 11 rfl
theorem dX1_findTails_158 : decode cX1_findTails 158 = .ok (.iaload, 1) := kDec_at dA324_cX1_findTails 12 rfl
theorem dX1_findTails_159 : decode cX1_findTails 159 = .ok (.invokevirtual 150, 3) := kDec_at dA324_cX1_findTails 13 rfl
theorem dX1_findTails_162 : decode cX1_findTails 162 = .ok (.iadd, 1) := kDec_at dA324_cX1_findTails 14 rfl
theorem dX1_findTails_163 : decode cX1_findTails 163 = .ok (.iastore, 1) := kDec_at dA324_cX1_findTails 15 rfl
theorem dX1_findTails_164 : decode cX1_findTails 164 = .ok (.aload_n 0, 1) := kDec_at dA324_cX1_findTails 16 rfl
theorem dX1_findTails_165 : decode cX1_findTails 165 = .ok (.getfield 27, 3) := kDec_at dA324_cX1_findTails 17 rfl
theorem dX1_findTails_168 : decode cX1_findTails 168 = .ok (.iload_n 2, 1) := kDec_at dA324_cX1_findTails 18 rfl
theorem dX1_findTails_169 : decode cX1_findTails 169 = .ok (.aload_n 0, 1) := kDec_at dA324_cX1_findTails 19 rfl
theorem dX1_findTails_170 : decode cX1_findTails 170 = .ok (.getfield 27, 3) := kDec_at dA324_cX1_findTails 20 rfl
theorem dX1_findTails_173 : decode cX1_findTails 173 = .ok (.iload 4, 2) := kDec_at dA324_cX1_findTails 21 rfl
theorem dX1_findTails_175 : decode cX1_findTails 175 = .ok (.iaload, 1) := kDec_at dA324_cX1_findTails 22 rfl
theorem dX1_findTails_176 : decode cX1_findTails 176 = .ok (.iconst 1, 1) := kDec_at dA324_cX1_findTails 23 rfl
set_option maxRecDepth 20000 in
theorem ggX1_findTails_X3_of : GoodIn wsX1_findTails wsX3_of := goodIn_sub (fun _ h => List.mem_cons_of_mem _ (List.mem_append_right _ (h))) gX3_of_all
set_option maxRecDepth 20000 in
theorem gX1_findTails_X3_of : GoodIn wsX1_findTails (wsV RX1 150 RX3 yX3_of wsX3_of) := goodIn_app (goodIn_r _ [25, 26, 27, 28] rfl (by decide +kernel)) ggX1_findTails_X3_of
set_option maxRecDepth 100000 in
theorem dA325_cX1_findTails : kDec cX1_findTails [(177, .iadd, 1), (178, .iastore, 1), (179, .iinc 2 (-1), 3), (182, .goto (-142), 3), (110, .aload_n 0, 1), (111, .getfield 27, 3), (114, .iload_n 2, 1), (115, .iconst (-1), 1), (116, .iastore, 1), (117, .goto 62, 3), (75, .iconst (-1), 1), (76, .goto 9, 3)] = true := by decide +kernel
theorem dX1_findTails_177 : decode cX1_findTails 177 = .ok (.iadd, 1) := kDec_at dA325_cX1_findTails 0 rfl
theorem dX1_findTails_178 : decode cX1_findTails 178 = .ok (.iastore, 1) := kDec_at dA325_cX1_findTails 1 rfl
theorem dX1_findTails_179 : decode cX1_findTails 179 = .ok (.iinc 2 (-1), 3) := kDec_at dA325_cX1_findTails 2 rfl
theorem dX1_findTails_182 : decode cX1_findTails 182 = .ok (.goto (-142), 3) := kDec_at dA325_cX1_findTails 3 rfl
theorem dX1_findTails_110 : decode cX1_findTails 110 = .ok (.aload_n 0, 1) := kDec_at dA325_cX1_findTails 4 rfl
theorem dX1_findTails_111 : decode cX1_findTails 111 = .ok (.getfield 27, 3) := kDec_at dA325_cX1_findTails 5 rfl
theorem dX1_findTails_114 : decode cX1_findTails 114 = .ok (.iload_n 2, 1) := kDec_at dA325_cX1_findTails 6 rfl
theorem dX1_findTails_115 : decode cX1_findTails 115 = .ok (.iconst (-1), 1) := kDec_at dA325_cX1_findTails 7 rfl
theorem dX1_findTails_116 : decode cX1_findTails 116 = .ok (.iastore, 1) := kDec_at dA325_cX1_findTails 8 rfl
theorem dX1_findTails_117 : decode cX1_findTails 117 = .ok (.goto 62, 3) := kDec_at dA325_cX1_findTails 9 rfl
theorem dX1_findTails_75 : decode cX1_findTails 75 = .ok (.iconst (-1), 1) := kDec_at dA325_cX1_findTails 10 rfl
theorem dX1_findTails_76 : decode cX1_findTails 76 = .ok (.goto 9, 3) := kDec_at dA325_cX1_findTails 11 rfl
set_option maxRecDepth 100000 in
theorem dA326_cX1_comesBack : kDec cX1_comesBack [(0, .aload_n 0, 1), (1, .getfield 16, 3), (4, .invokevirtual 91, 3), (7, .istore_n 1, 1), (8, .aload_n 0, 1), (9, .getfield 42, 3), (12, .aload_n 0, 1), (13, .getfield 79, 3), (16, .aload_n 0, 1), (17, .getfield 16, 3), (20, .aload_n 0, 1), (21, .getfield 85, 3), (24, .iload_n 1, 1), (25, .invokevirtual 140, 3), (28, .iconst (-1), 1), (29, .if_icmp .ne 39, 3), (68, .iconst 0, 1), (69, .ireturn, 1), (32, .aload_n 0, 1), (33, .getfield 82, 3), (36, .iconst (-1), 1), (37, .if_icmp .eq 27, 3), (64, .iconst 1, 1), (65, .goto 4, 3)] = true := by decide +kernel
theorem dX1_comesBack_0 : decode cX1_comesBack 0 = .ok (.aload_n 0, 1) := kDec_at dA326_cX1_comesBack 0 rfl
theorem dX1_comesBack_1 : decode cX1_comesBack 1 = .ok (.getfield 16, 3) := kDec_at dA326_cX1_comesBack 1 rfl
theorem dX1_comesBack_4 : decode cX1_comesBack 4 = .ok (.invokevirtual 91, 3) := kDec_at dA326_cX1_comesBack 2 rfl
theorem dX1_comesBack_7 : decode cX1_comesBack 7 = .ok (.istore_n 1, 1) := kDec_at dA326_cX1_comesBack 3 rfl
theorem dX1_comesBack_8 : decode cX1_comesBack 8 = .ok (.aload_n 0, 1) := kDec_at dA326_cX1_comesBack 4 rfl
theorem dX1_comesBack_9 : decode cX1_comesBack 9 = .ok (.getfield 42, 3) := kDec_at dA326_cX1_comesBack 5 rfl
theorem dX1_comesBack_12 : decode cX1_comesBack 12 = .ok (.aload_n 0, 1) := kDec_at dA326_cX1_comesBack 6 rfl
theorem dX1_comesBack_13 : decode cX1_comesBack 13 = .ok (.getfield 79, 3) := kDec_at dA326_cX1_comesBack 7 rfl
theorem dX1_comesBack_16 : decode cX1_comesBack 16 = .ok (.aload_n 0, 1) := kDec_at dA326_cX1_comesBack 8 rfl
theorem dX1_comesBack_17 : decode cX1_comesBack 17 = .ok (.getfield 16, 3) := kDec_at dA326_cX1_comesBack 9 rfl
theorem dX1_comesBack_20 : decode cX1_comesBack 20 = .ok (.aload_n 0, 1) := kDec_at dA326_cX1_comesBack 10 rfl
theorem dX1_comesBack_21 : decode cX1_comesBack 21 = .ok (.getfield 85, 3) := kDec_at dA326_cX1_comesBack 11 rfl
theorem dX1_comesBack_24 : decode cX1_comesBack 24 = .ok (.iload_n 1, 1) := kDec_at dA326_cX1_comesBack 12 rfl
theorem dX1_comesBack_25 : decode cX1_comesBack 25 = .ok (.invokevirtual 140, 3) := kDec_at dA326_cX1_comesBack 13 rfl
theorem dX1_comesBack_28 : decode cX1_comesBack 28 = .ok (.iconst (-1), 1) := kDec_at dA326_cX1_comesBack 14 rfl
theorem dX1_comesBack_29 : decode cX1_comesBack 29 = .ok (.if_icmp .ne 39, 3) := kDec_at dA326_cX1_comesBack 15 rfl
theorem dX1_comesBack_68 : decode cX1_comesBack 68 = .ok (.iconst 0, 1) := kDec_at dA326_cX1_comesBack 16 rfl
theorem dX1_comesBack_69 : decode cX1_comesBack 69 = .ok (.ireturn, 1) := kDec_at dA326_cX1_comesBack 17 rfl
theorem dX1_comesBack_32 : decode cX1_comesBack 32 = .ok (.aload_n 0, 1) := kDec_at dA326_cX1_comesBack 18 rfl
theorem dX1_comesBack_33 : decode cX1_comesBack 33 = .ok (.getfield 82, 3) := kDec_at dA326_cX1_comesBack 19 rfl
theorem dX1_comesBack_36 : decode cX1_comesBack 36 = .ok (.iconst (-1), 1) := kDec_at dA326_cX1_comesBack 20 rfl
theorem dX1_comesBack_37 : decode cX1_comesBack 37 = .ok (.if_icmp .eq 27, 3) := kDec_at dA326_cX1_comesBack 21 rfl
theorem dX1_comesBack_64 : decode cX1_comesBack 64 = .ok (.iconst 1, 1) := kDec_at dA326_cX1_comesBack 22 rfl
theorem dX1_comesBack_65 : decode cX1_comesBack 65 = .ok (.goto 4, 3) := kDec_at dA326_cX1_comesBack 23 rfl
set_option maxRecDepth 20000 in
theorem ggX1_comesBack_X5_length : GoodIn wsX1_comesBack wsX5_length := goodIn_sub (fun _ h => List.mem_cons_of_mem _ (List.mem_append_left _ (List.mem_append_right _ (h)))) gX5_length_all
set_option maxRecDepth 20000 in
theorem gX1_comesBack_X5_length : GoodIn wsX1_comesBack (wsV RX1 91 RX5 yX5_length wsX5_length) := goodIn_app (goodIn_r _ [6, 7, 8, 9] rfl (by decide +kernel)) ggX1_comesBack_X5_length
set_option maxRecDepth 20000 in
theorem ggX1_comesBack_X2_decode : GoodIn wsX1_comesBack wsX2_decode := goodIn_sub (fun _ h => List.mem_cons_of_mem _ (List.mem_append_right _ (h))) gX2_decode_all
set_option maxRecDepth 20000 in
theorem gX1_comesBack_X2_decode : GoodIn wsX1_comesBack (wsV RX1 140 RX2 yX2_decode wsX2_decode) := goodIn_app (goodIn_r _ [10, 11, 12, 13] rfl (by decide +kernel)) ggX1_comesBack_X2_decode
set_option maxRecDepth 100000 in
theorem dA327_cX1_comesBack : kDec cX1_comesBack [(40, .aload_n 0, 1), (41, .getfield 42, 3), (44, .aload_n 0, 1), (45, .getfield 79, 3), (48, .aload_n 0, 1), (49, .getfield 16, 3), (52, .aload_n 0, 1), (53, .getfield 82, 3), (56, .iload_n 1, 1), (57, .invokevirtual 140, 3), (60, .iconst (-1), 1), (61, .if_icmp .ne 7, 3)] = true := by decide +kernel
theorem dX1_comesBack_40 : decode cX1_comesBack 40 = .ok (.aload_n 0, 1) := kDec_at dA327_cX1_comesBack 0 rfl
theorem dX1_comesBack_41 : decode cX1_comesBack 41 = .ok (.getfield 42, 3) := kDec_at dA327_cX1_comesBack 1 rfl
theorem dX1_comesBack_44 : decode cX1_comesBack 44 = .ok (.aload_n 0, 1) := kDec_at dA327_cX1_comesBack 2 rfl
theorem dX1_comesBack_45 : decode cX1_comesBack 45 = .ok (.getfield 79, 3) := kDec_at dA327_cX1_comesBack 3 rfl
theorem dX1_comesBack_48 : decode cX1_comesBack 48 = .ok (.aload_n 0, 1) := kDec_at dA327_cX1_comesBack 4 rfl
theorem dX1_comesBack_49 : decode cX1_comesBack 49 = .ok (.getfield 16, 3) := kDec_at dA327_cX1_comesBack 5 rfl
theorem dX1_comesBack_52 : decode cX1_comesBack 52 = .ok (.aload_n 0, 1) := kDec_at dA327_cX1_comesBack 6 rfl
theorem dX1_comesBack_53 : decode cX1_comesBack 53 = .ok (.getfield 82, 3) := kDec_at dA327_cX1_comesBack 7 rfl
theorem dX1_comesBack_56 : decode cX1_comesBack 56 = .ok (.iload_n 1, 1) := kDec_at dA327_cX1_comesBack 8 rfl
theorem dX1_comesBack_57 : decode cX1_comesBack 57 = .ok (.invokevirtual 140, 3) := kDec_at dA327_cX1_comesBack 9 rfl
theorem dX1_comesBack_60 : decode cX1_comesBack 60 = .ok (.iconst (-1), 1) := kDec_at dA327_cX1_comesBack 10 rfl
theorem dX1_comesBack_61 : decode cX1_comesBack 61 = .ok (.if_icmp .ne 7, 3) := kDec_at dA327_cX1_comesBack 11 rfl

end
