set_option maxHeartbeats 40000000 in
set_option maxRecDepth 100000 in
theorem f_X2_decode (l : Launch) (dC : Nat → ClassId) (dI : Nat → Nat → Nat) (cI cS : ClassId) (sz : Nat) (oC : Nat) (nu : Nat) (o4 : Nat) (o5 : Nat) (a41 : Nat) (a42 : Nat) (a43 : Nat) (a51 : Nat) (a52 : Nat) (a53 : Nat) (au : Nat) (cap : Nat) (l4 : Int32) (f41 : Nat → Int32) (l5 : Int32) (f51 : Nat → Int32) (lu : Int32) (fu : Nat → Int32) (cd : Int32) (fr : Int32) (en : Int32) (g_lu : 0 ≤ lu.toInt ∧ lu.toInt ≤ (cap : Int)) (hcap : cap ≤ 2400) (hen : en.toInt ≤ lu.toInt) (hfr : 0 ≤ fr.toInt) (hby : prg en.toInt 0 255 fu) (hL4 : prg 256 (-1) 65535 f41) (hL5 : prg 256 (-1) 65535 f51) : Met l yX2_decode wsX2_decode ({ frames := 2, cells := 0, slots := 0, locals := 48 } : Room) (va_Pc [.ref oC, .int cd, .ref nu, .int fr, .int en] (fun U => U.heap.size = sz ∧ va_P (dC, dI) vwCl [(oC, .inr (2, [.ref o4, .ref o5])), (o4, .inr (10, [.ref a41, .ref a42, .ref a43, .int l4])), (a41, .inl (cI, 256, .inl f41)), (o5, .inr (10, [.ref a51, .ref a52, .ref a53, .int l5])), (a51, .inl (cI, 256, .inl f51)), (nu, .inr (5, [.ref au, .int lu])), (au, .inl (cI, cap, .inl fu))] U.heap ∧ va_K (dC, dI) vwCl [(cI, .int), (cS, .short)] U ∧ va_D (fun _ => True) [(oC, .inr (2, [.ref o4, .ref o5])), (o4, .inr (10, [.ref a41, .ref a42, .ref a43, .int l4])), (a41, .inl (cI, 256, .inl f41)), (o5, .inr (10, [.ref a51, .ref a52, .ref a53, .int l5])), (a51, .inl (cI, 256, .inl f51)), (nu, .inr (5, [.ref au, .int lu])), (au, .inl (cI, cap, .inl fu))] ∧ va_Nw (.methodLinkNest RX2 52 yX11_isLetter "TextMender") U)) (va_Qi (fun (r : Int32) (u : Int32) => r = u) (fun (r : Int32) t => va_P (dC, dI) vwCl [(oC, .inr (2, [.ref o4, .ref o5])), (o4, .inr (10, [.ref a41, .ref a42, .ref a43, .int l4])), (a41, .inl (cI, 256, .inl f41)), (o5, .inr (10, [.ref a51, .ref a52, .ref a53, .int l5])), (a51, .inl (cI, 256, .inl f51)), (nu, .inr (5, [.ref au, .int lu])), (au, .inl (cI, cap, .inl fu))] t.heap ∧ va_D (va_A [(oC, .inr (2, [.ref o4, .ref o5])), (o4, .inr (10, [.ref a41, .ref a42, .ref a43, .int l4])), (a41, .inl (cI, 256, .inl f41)), (o5, .inr (10, [.ref a51, .ref a52, .ref a53, .int l5])), (a51, .inl (cI, 256, .inl f51)), (nu, .inr (5, [.ref au, .int lu])), (au, .inl (cI, cap, .inl fu))] sz) [(oC, .inr (2, [.ref o4, .ref o5])), (o4, .inr (10, [.ref a41, .ref a42, .ref a43, .int l4])), (a41, .inl (cI, 256, .inl f41)), (o5, .inr (10, [.ref a51, .ref a52, .ref a53, .int l5])), (a51, .inl (cI, 256, .inl f51)), (nu, .inr (5, [.ref au, .int lu])), (au, .inl (cI, cap, .inl fu))] ∧ (F_dc r cd f41 f51 fu en.toInt fr.toNatClampNeg)) (va_A [(oC, .inr (2, [.ref o4, .ref o5])), (o4, .inr (10, [.ref a41, .ref a42, .ref a43, .int l4])), (a41, .inl (cI, 256, .inl f41)), (o5, .inr (10, [.ref a51, .ref a52, .ref a53, .int l5])), (a51, .inl (cI, 256, .inl f51)), (nu, .inr (5, [.ref au, .int lu])), (au, .inl (cI, cap, .inl fu))] sz)) 0 0 (va_A [(oC, .inr (2, [.ref o4, .ref o5])), (o4, .inr (10, [.ref a41, .ref a42, .ref a43, .int l4])), (a41, .inl (cI, 256, .inl f41)), (o5, .inr (10, [.ref a51, .ref a52, .ref a53, .int l5])), (a51, .inl (cI, 256, .inl f51)), (nu, .inr (5, [.ref au, .int lu])), (au, .inl (cI, cap, .inl fu))] sz) := by
  refine Met.ofW (cc := cX2_decode) (maxL := 7) (ret := (some .int)) (by decide) rfl ?_
  intro p e s m args below meth c s₁ B hml hv
  obtain ⟨rfl, hsz, hP, hK, hD0, hN52⟩ := hv
  have hx := B.exec
  have hb := B.bytes
  have hr := B.returns
  have hts := atoms_spec (ws := wsX2_decode) B.pre
  have hown : s.vm.findClass RX2 = some m.cls := findClass_of_methodNamed B.named
  have hlocks := B.notSynchronized
  subst hsz
  have hD := hD0.self (sz := s.heap.size)
  generalize hAe : va_A [(oC, .inr (2, [.ref o4, .ref o5])), (o4, .inr (10, [.ref a41, .ref a42, .ref a43, .int l4])), (a41, .inl (cI, 256, .inl f41)), (o5, .inr (10, [.ref a51, .ref a52, .ref a53, .int l5])), (a51, .inl (cI, 256, .inl f51)), (nu, .inr (5, [.ref au, .int lu])), (au, .inl (cI, cap, .inl fu))] s.heap.size = A at hD ⊢
  have hA : ∀ q : Nat, s.heap.size ≤ q → A q := fun q h => by rw [← hAe]; exact Or.inr h
  have hS : va_S A s.heap s.heap [] := va_S.rf
  have hP : va_P (dC, dI) vwCl [(oC, .inr (2, [.ref o4, .ref o5])), (o4, .inr (10, [.ref a41, .ref a42, .ref a43, .int l4])), (a41, .inl (cI, 256, .inl f41)), (o5, .inr (10, [.ref a51, .ref a52, .ref a53, .int l5])), (a51, .inl (cI, 256, .inl f51)), (nu, .inr (5, [.ref au, .int lu])), (au, .inl (cI, cap, .inl fu))] s.heap := hP
  have hl := lv_entry ([.ref oC, .int cd, .ref nu, .int fr, .int en]) (n := 7) (Nat.le_of_ble_eq_true rfl)
  rw [lg_entry_eq]
  generalize (lg_sl ([.ref oC, .int cd, .ref nu, .int fr, .int en]) ++ List.replicate (7 - (lg_sl ([.ref oC, .int cd, .ref nu, .int fr, .int en])).length) Slot.unset).toArray = ls at hl ⊢
  have hl : lv_has ls 7 [(0, .ref oC), (1, .int cd), (2, .ref nu), (3, .int fr), (4, .int en)] := hl
  obtain ⟨QQ, hQQ⟩ : ∃ QQ : Array Value → State → Outcome → State → Prop, QQ = va_Qi (fun (r : Int32) (u : Int32) => r = u) (fun (r : Int32) t => va_P (dC, dI) vwCl [(oC, .inr (2, [.ref o4, .ref o5])), (o4, .inr (10, [.ref a41, .ref a42, .ref a43, .int l4])), (a41, .inl (cI, 256, .inl f41)), (o5, .inr (10, [.ref a51, .ref a52, .ref a53, .int l5])), (a51, .inl (cI, 256, .inl f51)), (nu, .inr (5, [.ref au, .int lu])), (au, .inl (cI, cap, .inl fu))] t.heap ∧ va_D A [(oC, .inr (2, [.ref o4, .ref o5])), (o4, .inr (10, [.ref a41, .ref a42, .ref a43, .int l4])), (a41, .inl (cI, 256, .inl f41)), (o5, .inr (10, [.ref a51, .ref a52, .ref a53, .int l5])), (a51, .inl (cI, 256, .inl f51)), (nu, .inr (5, [.ref au, .int lu])), (au, .inl (cI, cap, .inl fu))] ∧ (F_dc r cd f41 f51 fu en.toInt fr.toNatClampNeg)) A := ⟨_, rfl⟩
  rw [← hQQ]
  have c0 := v_clamp (x := fr) (by omega)
  have z0 : (0 : Int32).toInt = 0 := rfl
  have z1 : (1 : Int32).toInt = 1 := rfl
  have z2 : (2 : Int32).toInt = 2 := rfl
  have z3 : (3 : Int32).toInt = 3 := rfl
  refine lv_aload_n hx hb dX2_decode_0 rfl (lv_at hl 2 rfl) ?_
  refine lv_iload_n hx hb dX2_decode_1 rfl (lv_at hl 3 rfl) ?_
  have hPc := hP.sub (ws' := [(nu, .inr (5, [.ref au, .int lu])), (au, .inl (cI, cap, .inl fu))]) [5, 6] rfl
  have hDc := hD.sub (ws' := [(nu, .inr (5, [.ref au, .int lu])), (au, .inl (cI, cap, .inl fu))]) [5, 6] (by decide) rfl
  have hFc := va_free (wc := [(nu, .inr (5, [.ref au, .int lu])), (au, .inl (cI, cap, .inl fu))]) hD hS hA [5, 6] rfl
  refine va_calli (va_runV (As := [.int fr]) (rest := []) ⟨hx, hb, hml, hown, hts⟩ (m_X5_get l dC dI cI cS s.heap.size nu au cap lu fu fr (by omega) (by omega)) (cwV 1 hts gX2_decode_X5_get rfl rfl rfl (by decide +kernel) ⟨Nat.le_of_ble_eq_true rfl, Nat.le_of_ble_eq_true rfl⟩) ⟨fun a U g mk q => by obtain ⟨q0, q1, qP, qK, qD⟩ := q; exact ⟨q0, q1, qP, va_K.moved (u := U) (U := U.calling g mk a) (Vm.Alike.refl U.vm) qK, qD⟩, va_recv hK hPc (ci := 5) (q0 := 0) rfl rfl, fun U hU hW => ⟨rfl, by rw [hU], by rw [hU]; exact hPc, va_K.moved hW.alike hK, hDc.weaken (fun _ _ _ _ => trivial)⟩⟩ rfl rfl hl.1 rfl (lv_room (Nat.le_of_ble_eq_true rfl)) dX2_decode_2 ⟨Nat.le_of_ble_eq_true rfl, Nat.le_of_ble_eq_true rfl⟩) hS (fun q _ h => hFc q h) hFc (fun r_1 u t H1 locs ht hvm hw hB hz1 hk1 hS => ?_)
  subst hw
  obtain ⟨hP1, hD1, hf1_0⟩ := hB
  rw [ht] at hP1
  obtain ⟨hP, hD⟩ := va_join (wr := [(oC, .inr (2, [.ref o4, .ref o5])), (o4, .inr (10, [.ref a41, .ref a42, .ref a43, .int l4])), (a41, .inl (cI, 256, .inl f41)), (o5, .inr (10, [.ref a51, .ref a52, .ref a53, .int l5])), (a51, .inl (cI, 256, .inl f51))]) (w1 := [(nu, .inr (5, [.ref au, .int lu])), (au, .inl (cI, cap, .inl fu))]) hP hD [5, 6] [0, 1, 2, 3, 4] rfl rfl (by decide) (by decide) hk1 hFc hP1 hD1
  generalize H1 = H at hP hS ⊢
  have hP : va_P (dC, dI) vwCl [(oC, .inr (2, [.ref o4, .ref o5])), (o4, .inr (10, [.ref a41, .ref a42, .ref a43, .int l4])), (a41, .inl (cI, 256, .inl f41)), (o5, .inr (10, [.ref a51, .ref a52, .ref a53, .int l5])), (a51, .inl (cI, 256, .inl f51)), (nu, .inr (5, [.ref au, .int lu])), (au, .inl (cI, cap, .inl fu))] H := hP
  have hD : va_D A [(oC, .inr (2, [.ref o4, .ref o5])), (o4, .inr (10, [.ref a41, .ref a42, .ref a43, .int l4])), (a41, .inl (cI, 256, .inl f41)), (o5, .inr (10, [.ref a51, .ref a52, .ref a53, .int l5])), (a51, .inl (cI, 256, .inl f51)), (nu, .inr (5, [.ref au, .int lu])), (au, .inl (cI, cap, .inl fu))] := hD
  refine lv_istore (lv' := [(5, .int r_1), (0, .ref oC), (1, .int cd), (2, .ref nu), (3, .int fr), (4, .int en)]) hx hb dX2_decode_5 hl (by decide) rfl (fun ls hl => ?_)
  refine lv_iload hx hb dX2_decode_7 (lv_at hl 0 rfl) ?_
  refine lv_iconst (v := (-1)) hx hb dX2_decode_9 (by decide) ?_
  refine lv_icmp_eq (tgt := 19) hx hb dX2_decode_10 (by decide) (fun c_2 => ?_) (fun c_2 => ?_)
  · have tc_2 : r_1.toInt = (-1) := v_eq c_2
    refine lv_iconst (v := (-1)) hx hb dX2_decode_19 (by decide) ?_
    have hP9 := hP.sub (ws' := [(oC, .inr (2, [.ref o4, .ref o5])), (o4, .inr (10, [.ref a41, .ref a42, .ref a43, .int l4])), (a41, .inl (cI, 256, .inl f41)), (o5, .inr (10, [.ref a51, .ref a52, .ref a53, .int l5])), (a51, .inl (cI, 256, .inl f51)), (nu, .inr (5, [.ref au, .int lu])), (au, .inl (cI, cap, .inl fu))]) [0, 1, 2, 3, 4, 5, 6] rfl
    have hD9 := hD.sub (ws' := [(oC, .inr (2, [.ref o4, .ref o5])), (o4, .inr (10, [.ref a41, .ref a42, .ref a43, .int l4])), (a41, .inl (cI, 256, .inl f41)), (o5, .inr (10, [.ref a51, .ref a52, .ref a53, .int l5])), (a51, .inl (cI, 256, .inl f51)), (nu, .inr (5, [.ref au, .int lu])), (au, .inl (cI, cap, .inl fu))]) [0, 1, 2, 3, 4, 5, 6] (by decide) rfl
    rw [hQQ]
    exact W.iret (v := (-1)) hx hb hr (fun t ht hW => ⟨⟨(-1), (-1), rfl, rfl, ⟨by rw [ht]; exact hP9, hD9, Or.inr ⟨rfl, dc_first hf1_0 hfr hen hby (Or.inl c_2)⟩⟩⟩, hS.F ht⟩) hS.2.2 dX2_decode_20
  · have tc_2 : ¬ r_1.toInt = (-1) := v_ne c_2
    refine lv_iload_n hx hb dX2_decode_13 rfl (lv_at hl 4 rfl) ?_
    refine lv_iload hx hb dX2_decode_14 (lv_at hl 5 rfl) ?_
    refine lv_icmp_lt (tgt := 21) hx hb dX2_decode_16 (by decide) (fun c_3 => ?_) (fun c_3 => ?_)
    · have tc_3 : fr.toInt < en.toInt := v_lt c_3
      have rw3_0 := v_rng fr
      have hq1 : r_1 = fu fr.toNatClampNeg := F_get_f hf1_0 (by omega) (by omega)
      have hr1 : -1 ≤ r_1.toInt ∧ r_1.toInt ≤ 255 := by rw [get_bt (n := en.toInt) (k := fr.toNatClampNeg) hf1_0 (by omega) (by omega) hen]; exact bt_r hby _
      refine lv_aload_n hx hb dX2_decode_21 rfl (lv_at hl 1 rfl) ?_
      refine lv_iload_n hx hb dX2_decode_22 rfl (lv_at hl 2 rfl) ?_
      refine lv_iload hx hb dX2_decode_23 (lv_at hl 0 rfl) ?_
      have hPc := hP.sub (ws' := [(oC, .inr (2, [.ref o4, .ref o5])), (o4, .inr (10, [.ref a41, .ref a42, .ref a43, .int l4])), (a41, .inl (cI, 256, .inl f41)), (o5, .inr (10, [.ref a51, .ref a52, .ref a53, .int l5])), (a51, .inl (cI, 256, .inl f51))]) [0, 1, 2, 3, 4] rfl
      have hDc := hD.sub (ws' := [(oC, .inr (2, [.ref o4, .ref o5])), (o4, .inr (10, [.ref a41, .ref a42, .ref a43, .int l4])), (a41, .inl (cI, 256, .inl f41)), (o5, .inr (10, [.ref a51, .ref a52, .ref a53, .int l5])), (a51, .inl (cI, 256, .inl f51))]) [0, 1, 2, 3, 4] (by decide) rfl
      have hFc := va_free (wc := [(oC, .inr (2, [.ref o4, .ref o5])), (o4, .inr (10, [.ref a41, .ref a42, .ref a43, .int l4])), (a41, .inl (cI, 256, .inl f41)), (o5, .inr (10, [.ref a51, .ref a52, .ref a53, .int l5])), (a51, .inl (cI, 256, .inl f51))]) hD hS hA [0, 1, 2, 3, 4] rfl
      refine va_calli (va_runV (As := [.int cd, .int r_1]) (rest := []) ⟨hx, hb, hml, hown, hts⟩ (f_X2_letterAlone l dC dI cI cS H.size oC o4 o5 a41 a42 a43 a51 a52 a53 l4 f41 l5 f51 cd r_1 (by omega)) (cwV 2 hts gX2_decode_X2_letterAlone rfl rfl rfl (by decide +kernel) ⟨Nat.le_of_ble_eq_true rfl, Nat.le_of_ble_eq_true rfl⟩) ⟨fun a U g mk q => by obtain ⟨q0, q1, qP, qK, qD⟩ := q; exact ⟨q0, q1, qP, va_K.moved (u := U) (U := U.calling g mk a) (Vm.Alike.refl U.vm) qK, qD⟩, va_recv hK hPc (ci := 2) (q0 := 0) rfl rfl, fun U hU hW => ⟨rfl, by rw [hU], by rw [hU]; exact hPc, va_K.moved hW.alike hK, hDc.weaken (fun _ _ _ _ => trivial)⟩⟩ rfl rfl hl.1 rfl (lv_room (Nat.le_of_ble_eq_true rfl)) dX2_decode_25 ⟨Nat.le_of_ble_eq_true rfl, Nat.le_of_ble_eq_true rfl⟩) hS (fun q _ h => hFc q h) hFc (fun r_4 u t H1 locs ht hvm hw hB hz1 hk1 hS => ?_)
      subst hw
      obtain ⟨hP1, hD1, hf4_0⟩ := hB
      rw [ht] at hP1
      obtain ⟨hP, hD⟩ := va_join (wr := [(nu, .inr (5, [.ref au, .int lu])), (au, .inl (cI, cap, .inl fu))]) (w1 := [(oC, .inr (2, [.ref o4, .ref o5])), (o4, .inr (10, [.ref a41, .ref a42, .ref a43, .int l4])), (a41, .inl (cI, 256, .inl f41)), (o5, .inr (10, [.ref a51, .ref a52, .ref a53, .int l5])), (a51, .inl (cI, 256, .inl f51))]) hP hD [0, 1, 2, 3, 4] [5, 6] rfl rfl (by decide) (by decide) hk1 hFc hP1 hD1
      generalize H1 = H at hP hS ⊢
      have hP : va_P (dC, dI) vwCl [(nu, .inr (5, [.ref au, .int lu])), (au, .inl (cI, cap, .inl fu)), (oC, .inr (2, [.ref o4, .ref o5])), (o4, .inr (10, [.ref a41, .ref a42, .ref a43, .int l4])), (a41, .inl (cI, 256, .inl f41)), (o5, .inr (10, [.ref a51, .ref a52, .ref a53, .int l5])), (a51, .inl (cI, 256, .inl f51))] H := hP
      have hD : va_D A [(nu, .inr (5, [.ref au, .int lu])), (au, .inl (cI, cap, .inl fu)), (oC, .inr (2, [.ref o4, .ref o5])), (o4, .inr (10, [.ref a41, .ref a42, .ref a43, .int l4])), (a41, .inl (cI, 256, .inl f41)), (o5, .inr (10, [.ref a51, .ref a52, .ref a53, .int l5])), (a51, .inl (cI, 256, .inl f51))] := hD
      refine lv_istore (lv' := [(6, .int r_4), (5, .int r_1), (0, .ref oC), (1, .int cd), (2, .ref nu), (3, .int fr), (4, .int en)]) hx hb dX2_decode_28 hl (by decide) rfl (fun ls hl => ?_)
      refine lv_iload hx hb dX2_decode_30 (lv_at hl 0 rfl) ?_
      refine lv_iconst (v := (-1)) hx hb dX2_decode_32 (by decide) ?_
      refine lv_icmp_eq (tgt := 43) hx hb dX2_decode_33 (by decide) (fun c_5 => ?_) (fun c_5 => ?_)
      · have tc_5 : r_4.toInt = (-1) := v_eq c_5
        refine lv_iload_n hx hb dX2_decode_43 rfl (lv_at hl 3 rfl) ?_
        refine lv_iconst (v := 2) hx hb dX2_decode_44 (by decide) ?_
        refine lv_icmp_ne (tgt := 56) hx hb dX2_decode_45 (by decide) (fun c_6 => ?_) (fun c_6 => ?_)
        · have tc_6 : ¬ cd.toInt = 2 := v_ne c_6
          refine lv_iload_n hx hb dX2_decode_56 rfl (lv_at hl 3 rfl) ?_
          refine lv_iconst (v := 3) hx hb dX2_decode_57 (by decide) ?_
          refine lv_icmp_ne (tgt := 71) hx hb dX2_decode_58 (by decide) (fun c_7 => ?_) (fun c_7 => ?_)
          · have tc_7 : ¬ cd.toInt = 3 := v_ne c_7
            refine lv_iconst (v := (-1)) hx hb dX2_decode_71 (by decide) ?_
            have hP9 := hP.sub (ws' := [(oC, .inr (2, [.ref o4, .ref o5])), (o4, .inr (10, [.ref a41, .ref a42, .ref a43, .int l4])), (a41, .inl (cI, 256, .inl f41)), (o5, .inr (10, [.ref a51, .ref a52, .ref a53, .int l5])), (a51, .inl (cI, 256, .inl f51)), (nu, .inr (5, [.ref au, .int lu])), (au, .inl (cI, cap, .inl fu))]) [2, 3, 4, 5, 6, 0, 1] rfl
            have hD9 := hD.sub (ws' := [(oC, .inr (2, [.ref o4, .ref o5])), (o4, .inr (10, [.ref a41, .ref a42, .ref a43, .int l4])), (a41, .inl (cI, 256, .inl f41)), (o5, .inr (10, [.ref a51, .ref a52, .ref a53, .int l5])), (a51, .inl (cI, 256, .inl f51)), (nu, .inr (5, [.ref au, .int lu])), (au, .inl (cI, cap, .inl fu))]) [2, 3, 4, 5, 6, 0, 1] (by decide) rfl
            rw [hQQ]
            exact W.iret (v := (-1)) hx hb hr (fun t ht hW => ⟨⟨(-1), (-1), rfl, rfl, ⟨by rw [ht]; exact hP9, hD9, Or.inr ⟨rfl, Dec_no (by rw [← hq1]; exact hf4_0.symm.trans c_5) (fun e9 => by omega) (fun e9 => by omega)⟩⟩⟩, hS.F ht⟩) hS.2.2 dX2_decode_72
          · have tc_7 : cd.toInt = 3 := v_eq c_7
            refine lv_aload_n hx hb dX2_decode_61 rfl (lv_at hl 4 rfl) ?_
            refine lv_iload_n hx hb dX2_decode_62 rfl (lv_at hl 5 rfl) ?_
            refine lv_iload hx hb dX2_decode_63 (lv_at hl 6 rfl) ?_
            have hPc := hP.sub (ws' := [(nu, .inr (5, [.ref au, .int lu])), (au, .inl (cI, cap, .inl fu))]) [0, 1] rfl
            have hDc := hD.sub (ws' := [(nu, .inr (5, [.ref au, .int lu])), (au, .inl (cI, cap, .inl fu))]) [0, 1] (by decide) rfl
            have hFc := va_free (wc := [(nu, .inr (5, [.ref au, .int lu])), (au, .inl (cI, cap, .inl fu))]) hD hS hA [0, 1] rfl
            refine va_calli (va_runS (As := [.ref nu, .int fr, .int en]) (rest := []) ⟨hx, hb, hml, hown, hts⟩ (f_X2_decodeNumber l dC dI cI cS H.size nu au cap lu fu fr en (by omega) (by omega) (by omega) (by omega) (by omega)) (va_cwS 3 hts gX2_decode_X2_decodeNumber rfl rfl rfl (by decide +kernel) ⟨Nat.le_of_ble_eq_true rfl, Nat.le_of_ble_eq_true rfl⟩) ⟨fun a U g mk q => by obtain ⟨q0, q1, qP, qK, qD, qN0⟩ := q; exact ⟨q0, q1, qP, va_K.moved (u := U) (U := U.calling g mk a) (Vm.Alike.refl U.vm) qK, qD, va_Nw.same rfl rfl qN0⟩, fun U hU hW => ⟨rfl, by rw [hU], by rw [hU]; exact hPc, va_K.moved hW.alike hK, hDc.weaken (fun _ _ _ _ => trivial), va_Nw.warmM hW hN52⟩⟩ rfl rfl hl.1 rfl (lv_room (Nat.le_of_ble_eq_true rfl)) dX2_decode_65 ⟨Nat.le_of_ble_eq_true rfl, Nat.le_of_ble_eq_true rfl⟩) hS (fun q _ h => hFc q h) hFc (fun r_8 u t H1 locs ht hvm hw hB hz1 hk1 hS => ?_)
            subst hw
            obtain ⟨hP1, hD1, hf8_0⟩ := hB
            rw [ht] at hP1
            obtain ⟨hP, hD⟩ := va_join (wr := [(oC, .inr (2, [.ref o4, .ref o5])), (o4, .inr (10, [.ref a41, .ref a42, .ref a43, .int l4])), (a41, .inl (cI, 256, .inl f41)), (o5, .inr (10, [.ref a51, .ref a52, .ref a53, .int l5])), (a51, .inl (cI, 256, .inl f51))]) (w1 := [(nu, .inr (5, [.ref au, .int lu])), (au, .inl (cI, cap, .inl fu))]) hP hD [0, 1] [2, 3, 4, 5, 6] rfl rfl (by decide) (by decide) hk1 hFc hP1 hD1
            generalize H1 = H at hP hS ⊢
            have hP : va_P (dC, dI) vwCl [(oC, .inr (2, [.ref o4, .ref o5])), (o4, .inr (10, [.ref a41, .ref a42, .ref a43, .int l4])), (a41, .inl (cI, 256, .inl f41)), (o5, .inr (10, [.ref a51, .ref a52, .ref a53, .int l5])), (a51, .inl (cI, 256, .inl f51)), (nu, .inr (5, [.ref au, .int lu])), (au, .inl (cI, cap, .inl fu))] H := hP
            have hD : va_D A [(oC, .inr (2, [.ref o4, .ref o5])), (o4, .inr (10, [.ref a41, .ref a42, .ref a43, .int l4])), (a41, .inl (cI, 256, .inl f41)), (o5, .inr (10, [.ref a51, .ref a52, .ref a53, .int l5])), (a51, .inl (cI, 256, .inl f51)), (nu, .inr (5, [.ref au, .int lu])), (au, .inl (cI, cap, .inl fu))] := hD
            refine lv_goto (tgt := 72) hx hb dX2_decode_68 (by decide) ?_
            have hP9 := hP.sub (ws' := [(oC, .inr (2, [.ref o4, .ref o5])), (o4, .inr (10, [.ref a41, .ref a42, .ref a43, .int l4])), (a41, .inl (cI, 256, .inl f41)), (o5, .inr (10, [.ref a51, .ref a52, .ref a53, .int l5])), (a51, .inl (cI, 256, .inl f51)), (nu, .inr (5, [.ref au, .int lu])), (au, .inl (cI, cap, .inl fu))]) [0, 1, 2, 3, 4, 5, 6] rfl
            have hD9 := hD.sub (ws' := [(oC, .inr (2, [.ref o4, .ref o5])), (o4, .inr (10, [.ref a41, .ref a42, .ref a43, .int l4])), (a41, .inl (cI, 256, .inl f41)), (o5, .inr (10, [.ref a51, .ref a52, .ref a53, .int l5])), (a51, .inl (cI, 256, .inl f51)), (nu, .inr (5, [.ref au, .int lu])), (au, .inl (cI, cap, .inl fu))]) [0, 1, 2, 3, 4, 5, 6] (by decide) rfl
            rw [hQQ]
            exact W.iret (v := r_8) hx hb hr (fun t ht hW => ⟨⟨r_8, r_8, rfl, rfl, ⟨by rw [ht]; exact hP9, hD9, dc_num hf8_0 (by omega) (by omega) (by rw [← hq1]; exact hf4_0.symm.trans c_5)⟩⟩, hS.F ht⟩) hS.2.2 dX2_decode_72
        · have tc_6 : cd.toInt = 2 := v_eq c_6
          refine lv_aload_n hx hb dX2_decode_48 rfl (lv_at hl 4 rfl) ?_
          refine lv_iload_n hx hb dX2_decode_49 rfl (lv_at hl 5 rfl) ?_
          refine lv_iload hx hb dX2_decode_50 (lv_at hl 6 rfl) ?_
          have hPc := hP.sub (ws' := [(nu, .inr (5, [.ref au, .int lu])), (au, .inl (cI, cap, .inl fu))]) [0, 1] rfl
          have hDc := hD.sub (ws' := [(nu, .inr (5, [.ref au, .int lu])), (au, .inl (cI, cap, .inl fu))]) [0, 1] (by decide) rfl
          have hFc := va_free (wc := [(nu, .inr (5, [.ref au, .int lu])), (au, .inl (cI, cap, .inl fu))]) hD hS hA [0, 1] rfl
          refine va_calli (va_runS (As := [.ref nu, .int fr, .int en]) (rest := []) ⟨hx, hb, hml, hown, hts⟩ (f_X2_decodeMany l dC dI cI cS H.size nu au cap lu fu fr en (by omega) (by omega) (by omega) (by omega) (by omega)) (va_cwS 3 hts gX2_decode_X2_decodeMany rfl rfl rfl (by decide +kernel) ⟨Nat.le_of_ble_eq_true rfl, Nat.le_of_ble_eq_true rfl⟩) ⟨fun a U g mk q => by obtain ⟨q0, q1, qP, qK, qD, qN0⟩ := q; exact ⟨q0, q1, qP, va_K.moved (u := U) (U := U.calling g mk a) (Vm.Alike.refl U.vm) qK, qD, va_Nw.same rfl rfl qN0⟩, fun U hU hW => ⟨rfl, by rw [hU], by rw [hU]; exact hPc, va_K.moved hW.alike hK, hDc.weaken (fun _ _ _ _ => trivial), va_Nw.warmM hW hN52⟩⟩ rfl rfl hl.1 rfl (lv_room (Nat.le_of_ble_eq_true rfl)) dX2_decode_52 ⟨Nat.le_of_ble_eq_true rfl, Nat.le_of_ble_eq_true rfl⟩) hS (fun q _ h => hFc q h) hFc (fun r_9 u t H1 locs ht hvm hw hB hz1 hk1 hS => ?_)
          subst hw
          obtain ⟨hP1, hD1, hf9_0⟩ := hB
          rw [ht] at hP1
          obtain ⟨hP, hD⟩ := va_join (wr := [(oC, .inr (2, [.ref o4, .ref o5])), (o4, .inr (10, [.ref a41, .ref a42, .ref a43, .int l4])), (a41, .inl (cI, 256, .inl f41)), (o5, .inr (10, [.ref a51, .ref a52, .ref a53, .int l5])), (a51, .inl (cI, 256, .inl f51))]) (w1 := [(nu, .inr (5, [.ref au, .int lu])), (au, .inl (cI, cap, .inl fu))]) hP hD [0, 1] [2, 3, 4, 5, 6] rfl rfl (by decide) (by decide) hk1 hFc hP1 hD1
          generalize H1 = H at hP hS ⊢
          have hP : va_P (dC, dI) vwCl [(oC, .inr (2, [.ref o4, .ref o5])), (o4, .inr (10, [.ref a41, .ref a42, .ref a43, .int l4])), (a41, .inl (cI, 256, .inl f41)), (o5, .inr (10, [.ref a51, .ref a52, .ref a53, .int l5])), (a51, .inl (cI, 256, .inl f51)), (nu, .inr (5, [.ref au, .int lu])), (au, .inl (cI, cap, .inl fu))] H := hP
          have hD : va_D A [(oC, .inr (2, [.ref o4, .ref o5])), (o4, .inr (10, [.ref a41, .ref a42, .ref a43, .int l4])), (a41, .inl (cI, 256, .inl f41)), (o5, .inr (10, [.ref a51, .ref a52, .ref a53, .int l5])), (a51, .inl (cI, 256, .inl f51)), (nu, .inr (5, [.ref au, .int lu])), (au, .inl (cI, cap, .inl fu))] := hD
          have hP9 := hP.sub (ws' := [(oC, .inr (2, [.ref o4, .ref o5])), (o4, .inr (10, [.ref a41, .ref a42, .ref a43, .int l4])), (a41, .inl (cI, 256, .inl f41)), (o5, .inr (10, [.ref a51, .ref a52, .ref a53, .int l5])), (a51, .inl (cI, 256, .inl f51)), (nu, .inr (5, [.ref au, .int lu])), (au, .inl (cI, cap, .inl fu))]) [0, 1, 2, 3, 4, 5, 6] rfl
          have hD9 := hD.sub (ws' := [(oC, .inr (2, [.ref o4, .ref o5])), (o4, .inr (10, [.ref a41, .ref a42, .ref a43, .int l4])), (a41, .inl (cI, 256, .inl f41)), (o5, .inr (10, [.ref a51, .ref a52, .ref a53, .int l5])), (a51, .inl (cI, 256, .inl f51)), (nu, .inr (5, [.ref au, .int lu])), (au, .inl (cI, cap, .inl fu))]) [0, 1, 2, 3, 4, 5, 6] (by decide) rfl
          rw [hQQ]
          exact W.iret (v := r_9) hx hb hr (fun t ht hW => ⟨⟨r_9, r_9, rfl, rfl, ⟨by rw [ht]; exact hP9, hD9, dc_many hf9_0 (by omega) (by omega) (by rw [← hq1]; exact hf4_0.symm.trans c_5)⟩⟩, hS.F ht⟩) hS.2.2 dX2_decode_55
      · have tc_5 : ¬ r_4.toInt = (-1) := v_ne c_5
        have hr4 : -1 ≤ r_4.toInt ∧ r_4.toInt ≤ 65535 := by rw [hf4_0]; exact alF_r hL4 hL5 (by omega) (by omega)
        refine lv_iload hx hb dX2_decode_36 (lv_at hl 0 rfl) ?_
        refine lv_iconst (v := 1) hx hb dX2_decode_38 (by decide) ?_
        have hPc := hP.sub (ws' := []) [] rfl
        have hDc := hD.sub (ws' := []) [] (by decide) rfl
        have hFc := va_free (wc := []) hD hS hA [] rfl
        refine va_calli (va_runS (As := [.int r_4, .int 1]) (rest := []) ⟨hx, hb, hml, hown, hts⟩ (f_X2_found l dC dI cI cS H.size r_4 1 (by omega) (by decide)) (va_cwS 2 hts gX2_decode_X2_found rfl rfl rfl (by decide +kernel) ⟨Nat.le_of_ble_eq_true rfl, Nat.le_of_ble_eq_true rfl⟩) ⟨fun a U g mk q => by obtain ⟨q0, q1, qP, qK, qD⟩ := q; exact ⟨q0, q1, qP, va_K.moved (u := U) (U := U.calling g mk a) (Vm.Alike.refl U.vm) qK, qD⟩, fun U hU hW => ⟨rfl, by rw [hU], by rw [hU]; exact hPc, va_K.moved hW.alike hK, hDc.weaken (fun _ _ _ _ => trivial)⟩⟩ rfl rfl hl.1 rfl (lv_room (Nat.le_of_ble_eq_true rfl)) dX2_decode_39 ⟨Nat.le_of_ble_eq_true rfl, Nat.le_of_ble_eq_true rfl⟩) hS (fun q _ h => hFc q h) hFc (fun r_10 u t H1 locs ht hvm hw hB hz1 hk1 hS => ?_)
        subst hw
        obtain ⟨hP1, hD1, hf10_0⟩ := hB
        rw [ht] at hP1
        obtain ⟨hP, hD⟩ := va_join (wr := [(nu, .inr (5, [.ref au, .int lu])), (au, .inl (cI, cap, .inl fu)), (oC, .inr (2, [.ref o4, .ref o5])), (o4, .inr (10, [.ref a41, .ref a42, .ref a43, .int l4])), (a41, .inl (cI, 256, .inl f41)), (o5, .inr (10, [.ref a51, .ref a52, .ref a53, .int l5])), (a51, .inl (cI, 256, .inl f51))]) (w1 := []) hP hD [] [0, 1, 2, 3, 4, 5, 6] rfl rfl (by decide) (by decide) hk1 hFc hP1 hD1
        generalize H1 = H at hP hS ⊢
        have hP : va_P (dC, dI) vwCl [(nu, .inr (5, [.ref au, .int lu])), (au, .inl (cI, cap, .inl fu)), (oC, .inr (2, [.ref o4, .ref o5])), (o4, .inr (10, [.ref a41, .ref a42, .ref a43, .int l4])), (a41, .inl (cI, 256, .inl f41)), (o5, .inr (10, [.ref a51, .ref a52, .ref a53, .int l5])), (a51, .inl (cI, 256, .inl f51))] H := hP
        have hD : va_D A [(nu, .inr (5, [.ref au, .int lu])), (au, .inl (cI, cap, .inl fu)), (oC, .inr (2, [.ref o4, .ref o5])), (o4, .inr (10, [.ref a41, .ref a42, .ref a43, .int l4])), (a41, .inl (cI, 256, .inl f41)), (o5, .inr (10, [.ref a51, .ref a52, .ref a53, .int l5])), (a51, .inl (cI, 256, .inl f51))] := hD
        have hP9 := hP.sub (ws' := [(oC, .inr (2, [.ref o4, .ref o5])), (o4, .inr (10, [.ref a41, .ref a42, .ref a43, .int l4])), (a41, .inl (cI, 256, .inl f41)), (o5, .inr (10, [.ref a51, .ref a52, .ref a53, .int l5])), (a51, .inl (cI, 256, .inl f51)), (nu, .inr (5, [.ref au, .int lu])), (au, .inl (cI, cap, .inl fu))]) [2, 3, 4, 5, 6, 0, 1] rfl
        have hD9 := hD.sub (ws' := [(oC, .inr (2, [.ref o4, .ref o5])), (o4, .inr (10, [.ref a41, .ref a42, .ref a43, .int l4])), (a41, .inl (cI, 256, .inl f41)), (o5, .inr (10, [.ref a51, .ref a52, .ref a53, .int l5])), (a51, .inl (cI, 256, .inl f51)), (nu, .inr (5, [.ref au, .int lu])), (au, .inl (cI, cap, .inl fu))]) [2, 3, 4, 5, 6, 0, 1] (by decide) rfl
        rw [hQQ]
        exact W.iret (v := r_10) hx hb hr (fun t ht hW => ⟨⟨r_10, r_10, rfl, rfl, ⟨by rw [ht]; exact hP9, hD9, Or.inl ⟨1, r_4, ⟨by omega, Or.inl ⟨rfl, by rw [← hq1]; exact hf4_0.symm, c_5⟩⟩, by omega, by omega, by omega⟩⟩⟩, hS.F ht⟩) hS.2.2 dX2_decode_42
    · have tc_3 : en.toInt ≤ fr.toInt := v_nlt c_3
      have rw3_0 := v_rng fr
      refine lv_iconst (v := (-1)) hx hb dX2_decode_19 (by decide) ?_
      have hP9 := hP.sub (ws' := [(oC, .inr (2, [.ref o4, .ref o5])), (o4, .inr (10, [.ref a41, .ref a42, .ref a43, .int l4])), (a41, .inl (cI, 256, .inl f41)), (o5, .inr (10, [.ref a51, .ref a52, .ref a53, .int l5])), (a51, .inl (cI, 256, .inl f51)), (nu, .inr (5, [.ref au, .int lu])), (au, .inl (cI, cap, .inl fu))]) [0, 1, 2, 3, 4, 5, 6] rfl
      have hD9 := hD.sub (ws' := [(oC, .inr (2, [.ref o4, .ref o5])), (o4, .inr (10, [.ref a41, .ref a42, .ref a43, .int l4])), (a41, .inl (cI, 256, .inl f41)), (o5, .inr (10, [.ref a51, .ref a52, .ref a53, .int l5])), (a51, .inl (cI, 256, .inl f51)), (nu, .inr (5, [.ref au, .int lu])), (au, .inl (cI, cap, .inl fu))]) [0, 1, 2, 3, 4, 5, 6] (by decide) rfl
      rw [hQQ]
      exact W.iret (v := (-1)) hx hb hr (fun t ht hW => ⟨⟨(-1), (-1), rfl, rfl, ⟨by rw [ht]; exact hP9, hD9, Or.inr ⟨rfl, dc_first hf1_0 hfr hen hby (Or.inr (by omega))⟩⟩⟩, hS.F ht⟩) hS.2.2 dX2_decode_20

set_option maxHeartbeats 40000000 in
set_option maxRecDepth 100000 in
theorem f_X7_readExactly (l : Launch) (dC : Nat → ClassId) (dI : Nat → Nat → Nat) (cI cS : ClassId) (sz : Nat) (oP : Nat) (nz : Nat) (nd : Nat) (oC : Nat) (nB : Nat) (az : Nat) (ad : Nat) (o4 : Nat) (o5 : Nat) (a41 : Nat) (a42 : Nat) (a43 : Nat) (a51 : Nat) (a52 : Nat) (a53 : Nat) (cz : Nat) (ft : Int32) (lz : Int32) (fz : Nat → Int32) (ld : Int32) (fd : Nat → Int32) (l4 : Int32) (f41 : Nat → Int32) (l5 : Int32) (f51 : Nat → Int32) (cd : Int32) (g_lz : 0 ≤ lz.toInt ∧ lz.toInt ≤ (cz : Int)) (g_ld : 0 ≤ ld.toInt ∧ ld.toInt ≤ 300) (hcz : cz ≤ 2400) (hby : prg lz.toInt 0 255 fz) (hL4 : prg 256 (-1) 65535 f41) (hL5 : prg 256 (-1) 65535 f51) : Met l yX7_readExactly wsX7_readExactly ({ frames := 3, cells := 0, slots := 0, locals := 74 } : Room) (va_Pc [.ref oP, .int cd, .ref nz, .ref nd] (fun U => U.heap.size = sz ∧ va_P (dC, dI) vwCl [(oP, .inr (7, [.ref oC, .ref nB, .int ft])), (nz, .inr (5, [.ref az, .int lz])), (az, .inl (cI, cz, .inl fz)), (nd, .inr (5, [.ref ad, .int ld])), (ad, .inl (cI, 300, .inl fd)), (oC, .inr (2, [.ref o4, .ref o5])), (o4, .inr (10, [.ref a41, .ref a42, .ref a43, .int l4])), (a41, .inl (cI, 256, .inl f41)), (o5, .inr (10, [.ref a51, .ref a52, .ref a53, .int l5])), (a51, .inl (cI, 256, .inl f51))] U.heap ∧ va_K (dC, dI) vwCl [(cI, .int), (cS, .short)] U ∧ va_D (fun _ => True) [(oP, .inr (7, [.ref oC, .ref nB, .int ft])), (nz, .inr (5, [.ref az, .int lz])), (az, .inl (cI, cz, .inl fz)), (nd, .inr (5, [.ref ad, .int ld])), (ad, .inl (cI, 300, .inl fd)), (oC, .inr (2, [.ref o4, .ref o5])), (o4, .inr (10, [.ref a41, .ref a42, .ref a43, .int l4])), (a41, .inl (cI, 256, .inl f41)), (o5, .inr (10, [.ref a51, .ref a52, .ref a53, .int l5])), (a51, .inl (cI, 256, .inl f51))] ∧ va_Nw (.methodLinkNest RX2 52 yX11_isLetter "TextMender") U)) (va_Qi (fun (r : Int32) (u : Int32) => r = u) (fun (r : Int32) t => ∃ (ft' : Int32) (ld' : Int32) (fd' : Nat → Int32), va_P (dC, dI) vwCl [(oP, .inr (7, [.ref oC, .ref nB, .int ft'])), (nz, .inr (5, [.ref az, .int lz])), (az, .inl (cI, cz, .inl fz)), (nd, .inr (5, [.ref ad, .int ld'])), (ad, .inl (cI, 300, .inl fd')), (oC, .inr (2, [.ref o4, .ref o5])), (o4, .inr (10, [.ref a41, .ref a42, .ref a43, .int l4])), (a41, .inl (cI, 256, .inl f41)), (o5, .inr (10, [.ref a51, .ref a52, .ref a53, .int l5])), (a51, .inl (cI, 256, .inl f51))] t.heap ∧ va_D (va_A [(oP, .inr (7, [.ref oC, .ref nB, .int ft])), (nz, .inr (5, [.ref az, .int lz])), (az, .inl (cI, cz, .inl fz)), (nd, .inr (5, [.ref ad, .int ld])), (ad, .inl (cI, 300, .inl fd)), (oC, .inr (2, [.ref o4, .ref o5])), (o4, .inr (10, [.ref a41, .ref a42, .ref a43, .int l4])), (a41, .inl (cI, 256, .inl f41)), (o5, .inr (10, [.ref a51, .ref a52, .ref a53, .int l5])), (a51, .inl (cI, 256, .inl f51))] sz) [(oP, .inr (7, [.ref oC, .ref nB, .int ft'])), (nz, .inr (5, [.ref az, .int lz])), (az, .inl (cI, cz, .inl fz)), (nd, .inr (5, [.ref ad, .int ld'])), (ad, .inl (cI, 300, .inl fd')), (oC, .inr (2, [.ref o4, .ref o5])), (o4, .inr (10, [.ref a41, .ref a42, .ref a43, .int l4])), (a41, .inl (cI, 256, .inl f41)), (o5, .inr (10, [.ref a51, .ref a52, .ref a53, .int l5])), (a51, .inl (cI, 256, .inl f51))] ∧ (0 ≤ ld'.toInt ∧ ld'.toInt ≤ 300) ∧ (0 ≤ r.toInt ∧ r.toInt ≤ 1) ∧ (F_rx r ft' ld' fd' (dl cd f41 f51 fz lz.toInt) (dx cd f41 f51 fz lz.toInt) lz.toInt)) (va_A [(oP, .inr (7, [.ref oC, .ref nB, .int ft])), (nz, .inr (5, [.ref az, .int lz])), (az, .inl (cI, cz, .inl fz)), (nd, .inr (5, [.ref ad, .int ld])), (ad, .inl (cI, 300, .inl fd)), (oC, .inr (2, [.ref o4, .ref o5])), (o4, .inr (10, [.ref a41, .ref a42, .ref a43, .int l4])), (a41, .inl (cI, 256, .inl f41)), (o5, .inr (10, [.ref a51, .ref a52, .ref a53, .int l5])), (a51, .inl (cI, 256, .inl f51))] sz)) 0 0 (va_A [(oP, .inr (7, [.ref oC, .ref nB, .int ft])), (nz, .inr (5, [.ref az, .int lz])), (az, .inl (cI, cz, .inl fz)), (nd, .inr (5, [.ref ad, .int ld])), (ad, .inl (cI, 300, .inl fd)), (oC, .inr (2, [.ref o4, .ref o5])), (o4, .inr (10, [.ref a41, .ref a42, .ref a43, .int l4])), (a41, .inl (cI, 256, .inl f41)), (o5, .inr (10, [.ref a51, .ref a52, .ref a53, .int l5])), (a51, .inl (cI, 256, .inl f51))] sz) := by
  refine Met.ofW (cc := cX7_readExactly) (maxL := 7) (ret := (some .boolean)) (by decide) rfl ?_
  intro p e s m args below meth c s₁ B hml hv
  obtain ⟨rfl, hsz, hP, hK, hD0, hN52⟩ := hv
  have hx := B.exec
  have hb := B.bytes
  have hr := B.returns
  have hts := atoms_spec (ws := wsX7_readExactly) B.pre
  have hown : s.vm.findClass RX7 = some m.cls := findClass_of_methodNamed B.named
  have hlocks := B.notSynchronized
  have in_X7 : ∀ w ∈ wsX70, w ∈ wsX7_readExactly := fun _ h => List.mem_cons_of_mem _ (List.mem_append_left _ (List.mem_append_left _ (List.mem_append_left _ (List.mem_append_right _ (h)))))
  subst hsz
  have hD := hD0.self (sz := s.heap.size)
  generalize hAe : va_A [(oP, .inr (7, [.ref oC, .ref nB, .int ft])), (nz, .inr (5, [.ref az, .int lz])), (az, .inl (cI, cz, .inl fz)), (nd, .inr (5, [.ref ad, .int ld])), (ad, .inl (cI, 300, .inl fd)), (oC, .inr (2, [.ref o4, .ref o5])), (o4, .inr (10, [.ref a41, .ref a42, .ref a43, .int l4])), (a41, .inl (cI, 256, .inl f41)), (o5, .inr (10, [.ref a51, .ref a52, .ref a53, .int l5])), (a51, .inl (cI, 256, .inl f51))] s.heap.size = A at hD ⊢
  have hA : ∀ q : Nat, s.heap.size ≤ q → A q := fun q h => by rw [← hAe]; exact Or.inr h
  have hS : va_S A s.heap s.heap [] := va_S.rf
  have hP : va_P (dC, dI) vwCl [(oP, .inr (7, [.ref oC, .ref nB, .int ft])), (nz, .inr (5, [.ref az, .int lz])), (az, .inl (cI, cz, .inl fz)), (nd, .inr (5, [.ref ad, .int ld])), (ad, .inl (cI, 300, .inl fd)), (oC, .inr (2, [.ref o4, .ref o5])), (o4, .inr (10, [.ref a41, .ref a42, .ref a43, .int l4])), (a41, .inl (cI, 256, .inl f41)), (o5, .inr (10, [.ref a51, .ref a52, .ref a53, .int l5])), (a51, .inl (cI, 256, .inl f51))] s.heap := hP
  have hl := lv_entry ([.ref oP, .int cd, .ref nz, .ref nd]) (n := 7) (Nat.le_of_ble_eq_true rfl)
  rw [lg_entry_eq]
  generalize (lg_sl ([.ref oP, .int cd, .ref nz, .ref nd]) ++ List.replicate (7 - (lg_sl ([.ref oP, .int cd, .ref nz, .ref nd])).length) Slot.unset).toArray = ls at hl ⊢
  have hl : lv_has ls 7 [(0, .ref oP), (1, .int cd), (2, .ref nz), (3, .ref nd)] := hl
  obtain ⟨QQ, hQQ⟩ : ∃ QQ : Array Value → State → Outcome → State → Prop, QQ = va_Qi (fun (r : Int32) (u : Int32) => r = u) (fun (r : Int32) t => ∃ (ft' : Int32) (ld' : Int32) (fd' : Nat → Int32), va_P (dC, dI) vwCl [(oP, .inr (7, [.ref oC, .ref nB, .int ft'])), (nz, .inr (5, [.ref az, .int lz])), (az, .inl (cI, cz, .inl fz)), (nd, .inr (5, [.ref ad, .int ld'])), (ad, .inl (cI, 300, .inl fd')), (oC, .inr (2, [.ref o4, .ref o5])), (o4, .inr (10, [.ref a41, .ref a42, .ref a43, .int l4])), (a41, .inl (cI, 256, .inl f41)), (o5, .inr (10, [.ref a51, .ref a52, .ref a53, .int l5])), (a51, .inl (cI, 256, .inl f51))] t.heap ∧ va_D A [(oP, .inr (7, [.ref oC, .ref nB, .int ft'])), (nz, .inr (5, [.ref az, .int lz])), (az, .inl (cI, cz, .inl fz)), (nd, .inr (5, [.ref ad, .int ld'])), (ad, .inl (cI, 300, .inl fd')), (oC, .inr (2, [.ref o4, .ref o5])), (o4, .inr (10, [.ref a41, .ref a42, .ref a43, .int l4])), (a41, .inl (cI, 256, .inl f41)), (o5, .inr (10, [.ref a51, .ref a52, .ref a53, .int l5])), (a51, .inl (cI, 256, .inl f51))] ∧ (0 ≤ ld'.toInt ∧ ld'.toInt ≤ 300) ∧ (0 ≤ r.toInt ∧ r.toInt ≤ 1) ∧ (F_rx r ft' ld' fd' (dl cd f41 f51 fz lz.toInt) (dx cd f41 f51 fz lz.toInt) lz.toInt)) A := ⟨_, rfl⟩
  rw [← hQQ]
  refine lv_aload_n hx hb dX7_readExactly_0 rfl (lv_at hl 0 rfl) ?_
  refine lv_iconst (v := (-1)) hx hb dX7_readExactly_1 (by decide) ?_
  refine va_put (D := (dC, dI)) (ci := 7) (v := .int (-1)) (ty := .int) (C := RX7) (T := TX7) (N := 3) hx hb hts in_X7 tyX7 tyX7_ok nmX7 hown hK hP hD hS 0 rfl rfl 2 (by decide) (hts (.fieldLink RX7 24 "TextMender$Passage" "fault" "I") (List.mem_of_getElem? (i := 1) rfl)) (fun _ h9 => h9) rfl (by decide +kernel) rfl rfl (Nat.le_of_ble_eq_true rfl) dX7_readExactly_2 (fun H locs hP hD hS => ?_)
  have hP : va_P (dC, dI) vwCl [(oP, .inr (7, [.ref oC, .ref nB, .int (-1)])), (nz, .inr (5, [.ref az, .int lz])), (az, .inl (cI, cz, .inl fz)), (nd, .inr (5, [.ref ad, .int ld])), (ad, .inl (cI, 300, .inl fd)), (oC, .inr (2, [.ref o4, .ref o5])), (o4, .inr (10, [.ref a41, .ref a42, .ref a43, .int l4])), (a41, .inl (cI, 256, .inl f41)), (o5, .inr (10, [.ref a51, .ref a52, .ref a53, .int l5])), (a51, .inl (cI, 256, .inl f51))] H := hP
  have hD : va_D A [(oP, .inr (7, [.ref oC, .ref nB, .int (-1)])), (nz, .inr (5, [.ref az, .int lz])), (az, .inl (cI, cz, .inl fz)), (nd, .inr (5, [.ref ad, .int ld])), (ad, .inl (cI, 300, .inl fd)), (oC, .inr (2, [.ref o4, .ref o5])), (o4, .inr (10, [.ref a41, .ref a42, .ref a43, .int l4])), (a41, .inl (cI, 256, .inl f41)), (o5, .inr (10, [.ref a51, .ref a52, .ref a53, .int l5])), (a51, .inl (cI, 256, .inl f51))] := hD
  refine lv_aload_n hx hb dX7_readExactly_5 rfl (lv_at hl 3 rfl) ?_
  refine lv_iconst (v := 0) hx hb dX7_readExactly_6 (by decide) ?_
  have hPc := hP.sub (ws' := [(nd, .inr (5, [.ref ad, .int ld]))]) [3] rfl
  have hDc := hD.sub (ws' := [(nd, .inr (5, [.ref ad, .int ld]))]) [3] (by decide) rfl
  have hFc := va_free (wc := [(nd, .inr (5, [.ref ad, .int ld]))]) hD hS hA [3] rfl
  refine va_callv (va_runV (As := [.int 0]) (rest := []) ⟨hx, hb, hml, hown, hts⟩ (m_X5_cut l dC dI cI cS H.size nd ad ld 0 (by omega)) (cwV 1 hts gX7_readExactly_X5_cut rfl rfl rfl (by decide +kernel) ⟨Nat.le_of_ble_eq_true rfl, Nat.le_of_ble_eq_true rfl⟩) ⟨fun a U g mk q => by obtain ⟨q0, q1, qP, qK, qD⟩ := q; exact ⟨q0, q1, qP, va_K.moved (u := U) (U := U.calling g mk a) (Vm.Alike.refl U.vm) qK, qD⟩, va_recv hK hPc (ci := 5) (q0 := 0) rfl rfl, fun U hU hW => ⟨rfl, by rw [hU], by rw [hU]; exact hPc, va_K.moved hW.alike hK, hDc.weaken (fun _ _ _ _ => trivial)⟩⟩ rfl rfl hl.1 rfl (lv_room (Nat.le_of_ble_eq_true rfl)) dX7_readExactly_7 ⟨Nat.le_of_ble_eq_true rfl, Nat.le_of_ble_eq_true rfl⟩) hS (fun q _ h => hFc q h) hFc (fun u t H1 locs ht hvm hw hB hz1 hk1 hS => ?_)
  obtain ⟨lu_1, hP1, hD1, hf1_0, hf1_1, hf1_2⟩ := hB
  rw [ht] at hP1
  obtain ⟨hP, hD⟩ := va_join (wr := [(oP, .inr (7, [.ref oC, .ref nB, .int (-1)])), (nz, .inr (5, [.ref az, .int lz])), (az, .inl (cI, cz, .inl fz)), (ad, .inl (cI, 300, .inl fd)), (oC, .inr (2, [.ref o4, .ref o5])), (o4, .inr (10, [.ref a41, .ref a42, .ref a43, .int l4])), (a41, .inl (cI, 256, .inl f41)), (o5, .inr (10, [.ref a51, .ref a52, .ref a53, .int l5])), (a51, .inl (cI, 256, .inl f51))]) (w1 := [(nd, .inr (5, [.ref ad, .int lu_1]))]) hP hD [3] [0, 1, 2, 4, 5, 6, 7, 8, 9] rfl rfl (by decide) (by decide) hk1 hFc hP1 hD1
  generalize H1 = H at hP hS ⊢
  have hP : va_P (dC, dI) vwCl [(oP, .inr (7, [.ref oC, .ref nB, .int (-1)])), (nz, .inr (5, [.ref az, .int lz])), (az, .inl (cI, cz, .inl fz)), (ad, .inl (cI, 300, .inl fd)), (oC, .inr (2, [.ref o4, .ref o5])), (o4, .inr (10, [.ref a41, .ref a42, .ref a43, .int l4])), (a41, .inl (cI, 256, .inl f41)), (o5, .inr (10, [.ref a51, .ref a52, .ref a53, .int l5])), (a51, .inl (cI, 256, .inl f51)), (nd, .inr (5, [.ref ad, .int lu_1]))] H := hP
  have hD : va_D A [(oP, .inr (7, [.ref oC, .ref nB, .int (-1)])), (nz, .inr (5, [.ref az, .int lz])), (az, .inl (cI, cz, .inl fz)), (ad, .inl (cI, 300, .inl fd)), (oC, .inr (2, [.ref o4, .ref o5])), (o4, .inr (10, [.ref a41, .ref a42, .ref a43, .int l4])), (a41, .inl (cI, 256, .inl f41)), (o5, .inr (10, [.ref a51, .ref a52, .ref a53, .int l5])), (a51, .inl (cI, 256, .inl f51)), (nd, .inr (5, [.ref ad, .int lu_1]))] := hD
  have ha1 : lu_1.toInt = 0 := F_cut_l hf1_2 (by first | decide | omega) (by first | omega | (show (0 : Int) ≤ _; omega))
  refine lv_iconst (v := 1) hx hb dX7_readExactly_10 (by decide) ?_
  refine lv_istore (lv' := [(4, .int 1), (0, .ref oP), (1, .int cd), (2, .ref nz), (3, .ref nd)]) hx hb dX7_readExactly_11 hl (by decide) rfl (fun ls hl => ?_)
  refine lv_iconst (v := 0) hx hb dX7_readExactly_13 (by decide) ?_
  refine lv_istore (lv' := [(5, .int 0), (4, .int 1), (0, .ref oP), (1, .int cd), (2, .ref nz), (3, .ref nd)]) hx hb dX7_readExactly_14 hl (by decide) rfl (fun ls hl => ?_)
  have LOOP_16 : ∀ (k_16 : Nat) (fi : Int32) (p_ : Int32) (l2 : Int32) (f2 : Nat → Int32) (H : Heap) (locs : List Loc) (ls : Array Slot), (lz.toInt - p_.toInt : Int).toNat < k_16 → (0 ≤ fi.toInt ∧ fi.toInt ≤ 1) → (0 ≤ p_.toInt ∧ p_.toInt ≤ lz.toInt) → (0 ≤ l2.toInt ∧ l2.toInt ≤ 300) → (RX p_ fi l2 f2 (dl cd f41 f51 fz lz.toInt) (dx cd f41 f51 fz lz.toInt)) → va_P (dC, dI) vwCl [(oP, .inr (7, [.ref oC, .ref nB, .int (-1)])), (nz, .inr (5, [.ref az, .int lz])), (az, .inl (cI, cz, .inl fz)), (ad, .inl (cI, 300, .inl f2)), (oC, .inr (2, [.ref o4, .ref o5])), (o4, .inr (10, [.ref a41, .ref a42, .ref a43, .int l4])), (a41, .inl (cI, 256, .inl f41)), (o5, .inr (10, [.ref a51, .ref a52, .ref a53, .int l5])), (a51, .inl (cI, 256, .inl f51)), (nd, .inr (5, [.ref ad, .int l2]))] H → va_D A [(oP, .inr (7, [.ref oC, .ref nB, .int (-1)])), (nz, .inr (5, [.ref az, .int lz])), (az, .inl (cI, cz, .inl fz)), (ad, .inl (cI, 300, .inl f2)), (oC, .inr (2, [.ref o4, .ref o5])), (o4, .inr (10, [.ref a41, .ref a42, .ref a43, .int l4])), (a41, .inl (cI, 256, .inl f41)), (o5, .inr (10, [.ref a51, .ref a52, .ref a53, .int l5])), (a51, .inl (cI, 256, .inl f51)), (nd, .inr (5, [.ref ad, .int l2]))] → va_S A s.heap H locs → lv_has ls 7 [(5, .int p_), (4, .int fi), (0, .ref oP), (1, .int cd), (2, .ref nz), (3, .ref nd)] → W p l e (headSpec wsX7_readExactly ({ frames := 3, cells := 0, slots := 0, locals := 74 } : Room)).room s m ([.ref oP, .int cd, .ref nz, .ref nd] : List Value).toArray below meth c H locs 0 0 (MQ below QQ ([.ref oP, .int cd, .ref nz, .ref nd] : List Value).toArray s 0 0 A) (F0 m 16 ls []) := by
    intro k_16
    induction k_16 with
    | zero =>
      intro fi p_ l2 f2 H locs ls hm_16 g_fi g_p_ g_l2 hrx hP hD hS hl
      exact absurd hm_16 (Nat.not_lt_zero _)
    | succ k_16 ih_16 =>
      intro fi p_ l2 f2 H locs ls hm_16 g_fi g_p_ g_l2 hrx hP hD hS hl
      refine lv_iload hx hb dX7_readExactly_16 (lv_at hl 0 rfl) ?_
      refine lv_aload_n hx hb dX7_readExactly_18 rfl (lv_at hl 4 rfl) ?_
      have hPc := hP.sub (ws' := [(nz, .inr (5, [.ref az, .int lz]))]) [1] rfl
      have hDc := hD.sub (ws' := [(nz, .inr (5, [.ref az, .int lz]))]) [1] (by decide) rfl
      have hFc := va_free (wc := [(nz, .inr (5, [.ref az, .int lz]))]) hD hS hA [1] rfl
      refine va_calli (va_runV (As := []) (rest := [.int p_]) ⟨hx, hb, hml, hown, hts⟩ (m_X5_length l dC dI cI cS H.size nz az lz ) (cwV 0 hts gX7_readExactly_X5_length rfl rfl rfl (by decide +kernel) ⟨Nat.le_of_ble_eq_true rfl, Nat.le_of_ble_eq_true rfl⟩) ⟨fun a U g mk q => by obtain ⟨q0, q1, qP, qK, qD⟩ := q; exact ⟨q0, q1, qP, va_K.moved (u := U) (U := U.calling g mk a) (Vm.Alike.refl U.vm) qK, qD⟩, va_recv hK hPc (ci := 5) (q0 := 0) rfl rfl, fun U hU hW => ⟨rfl, by rw [hU], by rw [hU]; exact hPc, va_K.moved hW.alike hK, hDc.weaken (fun _ _ _ _ => trivial)⟩⟩ rfl rfl hl.1 rfl (lv_room (Nat.le_of_ble_eq_true rfl)) dX7_readExactly_19 ⟨Nat.le_of_ble_eq_true rfl, Nat.le_of_ble_eq_true rfl⟩) hS (fun q _ h => hFc q h) hFc (fun r_2 u t H1 locs ht hvm hw hB hz1 hk1 hS => ?_)
      subst hw
      obtain ⟨hP1, hD1, hf2_0⟩ := hB
      rw [ht] at hP1
      obtain ⟨hP, hD⟩ := va_join (wr := [(oP, .inr (7, [.ref oC, .ref nB, .int (-1)])), (az, .inl (cI, cz, .inl fz)), (ad, .inl (cI, 300, .inl f2)), (oC, .inr (2, [.ref o4, .ref o5])), (o4, .inr (10, [.ref a41, .ref a42, .ref a43, .int l4])), (a41, .inl (cI, 256, .inl f41)), (o5, .inr (10, [.ref a51, .ref a52, .ref a53, .int l5])), (a51, .inl (cI, 256, .inl f51)), (nd, .inr (5, [.ref ad, .int l2]))]) (w1 := [(nz, .inr (5, [.ref az, .int lz]))]) hP hD [1] [0, 2, 3, 4, 5, 6, 7, 8, 9] rfl rfl (by decide) (by decide) hk1 hFc hP1 hD1
      generalize H1 = H at hP hS ⊢
      have hP : va_P (dC, dI) vwCl [(oP, .inr (7, [.ref oC, .ref nB, .int (-1)])), (az, .inl (cI, cz, .inl fz)), (ad, .inl (cI, 300, .inl f2)), (oC, .inr (2, [.ref o4, .ref o5])), (o4, .inr (10, [.ref a41, .ref a42, .ref a43, .int l4])), (a41, .inl (cI, 256, .inl f41)), (o5, .inr (10, [.ref a51, .ref a52, .ref a53, .int l5])), (a51, .inl (cI, 256, .inl f51)), (nd, .inr (5, [.ref ad, .int l2])), (nz, .inr (5, [.ref az, .int lz]))] H := hP
      have hD : va_D A [(oP, .inr (7, [.ref oC, .ref nB, .int (-1)])), (az, .inl (cI, cz, .inl fz)), (ad, .inl (cI, 300, .inl f2)), (oC, .inr (2, [.ref o4, .ref o5])), (o4, .inr (10, [.ref a41, .ref a42, .ref a43, .int l4])), (a41, .inl (cI, 256, .inl f41)), (o5, .inr (10, [.ref a51, .ref a52, .ref a53, .int l5])), (a51, .inl (cI, 256, .inl f51)), (nd, .inr (5, [.ref ad, .int l2])), (nz, .inr (5, [.ref az, .int lz]))] := hD
      rw [hf2_0]
      refine lv_icmp_ge (tgt := 97) hx hb dX7_readExactly_22 (by decide) (fun c_3 => ?_) (fun c_3 => ?_)
      · have tc_3 : lz.toInt ≤ p_.toInt := v_le c_3
        refine lv_iload hx hb dX7_readExactly_97 (lv_at hl 1 rfl) ?_
        have hP9 := hP.sub (ws' := [(oP, .inr (7, [.ref oC, .ref nB, .int (-1)])), (nz, .inr (5, [.ref az, .int lz])), (az, .inl (cI, cz, .inl fz)), (nd, .inr (5, [.ref ad, .int l2])), (ad, .inl (cI, 300, .inl f2)), (oC, .inr (2, [.ref o4, .ref o5])), (o4, .inr (10, [.ref a41, .ref a42, .ref a43, .int l4])), (a41, .inl (cI, 256, .inl f41)), (o5, .inr (10, [.ref a51, .ref a52, .ref a53, .int l5])), (a51, .inl (cI, 256, .inl f51))]) [0, 9, 1, 8, 2, 3, 4, 5, 6, 7] rfl
        have hD9 := hD.sub (ws' := [(oP, .inr (7, [.ref oC, .ref nB, .int (-1)])), (nz, .inr (5, [.ref az, .int lz])), (az, .inl (cI, cz, .inl fz)), (nd, .inr (5, [.ref ad, .int l2])), (ad, .inl (cI, 300, .inl f2)), (oC, .inr (2, [.ref o4, .ref o5])), (o4, .inr (10, [.ref a41, .ref a42, .ref a43, .int l4])), (a41, .inl (cI, 256, .inl f41)), (o5, .inr (10, [.ref a51, .ref a52, .ref a53, .int l5])), (a51, .inl (cI, 256, .inl f51))]) [0, 9, 1, 8, 2, 3, 4, 5, 6, 7] (by decide) rfl
        rw [hQQ]
        exact W.zret (v := fi) (ty := .boolean) hx hb hr (v_bool (by omega)) (fun t ht hW => ⟨⟨fi, fi, rfl, rfl, ⟨(-1), l2, f2, by rw [ht]; exact hP9, hD9, by omega, by omega, RX_end hrx (by omega)⟩⟩, hS.F ht⟩) hS.2.2 dX7_readExactly_99
      · have tc_3 : p_.toInt < lz.toInt := v_nle c_3
        refine lv_aload_n hx hb dX7_readExactly_25 rfl (lv_at hl 2 rfl) ?_
        refine va_get (D := (dC, dI)) (ci := 7) (v := .ref oC) (C := RX7) (T := TX7) (N := 3) hx hb hts in_X7 hown hK hP 0 rfl rfl 0 (by decide) (hts (.fieldLink RX7 20 "TextMender$Passage" "codes" "LTextMender$Codes;") (List.mem_of_getElem? (i := 2) rfl)) (fun _ h9 => h9) rfl dX7_readExactly_26 ?_
        refine lv_iload_n hx hb dX7_readExactly_29 rfl (lv_at hl 3 rfl) ?_
        refine lv_aload_n hx hb dX7_readExactly_30 rfl (lv_at hl 4 rfl) ?_
        refine lv_iload hx hb dX7_readExactly_31 (lv_at hl 0 rfl) ?_
        refine lv_aload_n hx hb dX7_readExactly_33 rfl (lv_at hl 4 rfl) ?_
        have hPc := hP.sub (ws' := [(nz, .inr (5, [.ref az, .int lz]))]) [9] rfl
        have hDc := hD.sub (ws' := [(nz, .inr (5, [.ref az, .int lz]))]) [9] (by decide) rfl
        have hFc := va_free (wc := [(nz, .inr (5, [.ref az, .int lz]))]) hD hS hA [9] rfl
        refine va_calli (va_runV (As := []) (rest := [.int p_, .ref nz, .int cd, .ref oC]) ⟨hx, hb, hml, hown, hts⟩ (m_X5_length l dC dI cI cS H.size nz az lz ) (cwV 0 hts gX7_readExactly_X5_length rfl rfl rfl (by decide +kernel) ⟨Nat.le_of_ble_eq_true rfl, Nat.le_of_ble_eq_true rfl⟩) ⟨fun a U g mk q => by obtain ⟨q0, q1, qP, qK, qD⟩ := q; exact ⟨q0, q1, qP, va_K.moved (u := U) (U := U.calling g mk a) (Vm.Alike.refl U.vm) qK, qD⟩, va_recv hK hPc (ci := 5) (q0 := 0) rfl rfl, fun U hU hW => ⟨rfl, by rw [hU], by rw [hU]; exact hPc, va_K.moved hW.alike hK, hDc.weaken (fun _ _ _ _ => trivial)⟩⟩ rfl rfl hl.1 rfl (lv_room (Nat.le_of_ble_eq_true rfl)) dX7_readExactly_34 ⟨Nat.le_of_ble_eq_true rfl, Nat.le_of_ble_eq_true rfl⟩) hS (fun q _ h => hFc q h) hFc (fun r_4 u t H1 locs ht hvm hw hB hz1 hk1 hS => ?_)
        subst hw
        obtain ⟨hP1, hD1, hf4_0⟩ := hB
        rw [ht] at hP1
        obtain ⟨hP, hD⟩ := va_join (wr := [(oP, .inr (7, [.ref oC, .ref nB, .int (-1)])), (az, .inl (cI, cz, .inl fz)), (ad, .inl (cI, 300, .inl f2)), (oC, .inr (2, [.ref o4, .ref o5])), (o4, .inr (10, [.ref a41, .ref a42, .ref a43, .int l4])), (a41, .inl (cI, 256, .inl f41)), (o5, .inr (10, [.ref a51, .ref a52, .ref a53, .int l5])), (a51, .inl (cI, 256, .inl f51)), (nd, .inr (5, [.ref ad, .int l2]))]) (w1 := [(nz, .inr (5, [.ref az, .int lz]))]) hP hD [9] [0, 1, 2, 3, 4, 5, 6, 7, 8] rfl rfl (by decide) (by decide) hk1 hFc hP1 hD1
        generalize H1 = H at hP hS ⊢
        have hP : va_P (dC, dI) vwCl [(oP, .inr (7, [.ref oC, .ref nB, .int (-1)])), (az, .inl (cI, cz, .inl fz)), (ad, .inl (cI, 300, .inl f2)), (oC, .inr (2, [.ref o4, .ref o5])), (o4, .inr (10, [.ref a41, .ref a42, .ref a43, .int l4])), (a41, .inl (cI, 256, .inl f41)), (o5, .inr (10, [.ref a51, .ref a52, .ref a53, .int l5])), (a51, .inl (cI, 256, .inl f51)), (nd, .inr (5, [.ref ad, .int l2])), (nz, .inr (5, [.ref az, .int lz]))] H := hP
        have hD : va_D A [(oP, .inr (7, [.ref oC, .ref nB, .int (-1)])), (az, .inl (cI, cz, .inl fz)), (ad, .inl (cI, 300, .inl f2)), (oC, .inr (2, [.ref o4, .ref o5])), (o4, .inr (10, [.ref a41, .ref a42, .ref a43, .int l4])), (a41, .inl (cI, 256, .inl f41)), (o5, .inr (10, [.ref a51, .ref a52, .ref a53, .int l5])), (a51, .inl (cI, 256, .inl f51)), (nd, .inr (5, [.ref ad, .int l2])), (nz, .inr (5, [.ref az, .int lz]))] := hD
        rw [hf4_0]
        have hPc := hP.sub (ws' := [(oC, .inr (2, [.ref o4, .ref o5])), (o4, .inr (10, [.ref a41, .ref a42, .ref a43, .int l4])), (a41, .inl (cI, 256, .inl f41)), (o5, .inr (10, [.ref a51, .ref a52, .ref a53, .int l5])), (a51, .inl (cI, 256, .inl f51)), (nz, .inr (5, [.ref az, .int lz])), (az, .inl (cI, cz, .inl fz))]) [3, 4, 5, 6, 7, 9, 1] rfl
        have hDc := hD.sub (ws' := [(oC, .inr (2, [.ref o4, .ref o5])), (o4, .inr (10, [.ref a41, .ref a42, .ref a43, .int l4])), (a41, .inl (cI, 256, .inl f41)), (o5, .inr (10, [.ref a51, .ref a52, .ref a53, .int l5])), (a51, .inl (cI, 256, .inl f51)), (nz, .inr (5, [.ref az, .int lz])), (az, .inl (cI, cz, .inl fz))]) [3, 4, 5, 6, 7, 9, 1] (by decide) rfl
        have hFc := va_free (wc := [(oC, .inr (2, [.ref o4, .ref o5])), (o4, .inr (10, [.ref a41, .ref a42, .ref a43, .int l4])), (a41, .inl (cI, 256, .inl f41)), (o5, .inr (10, [.ref a51, .ref a52, .ref a53, .int l5])), (a51, .inl (cI, 256, .inl f51)), (nz, .inr (5, [.ref az, .int lz])), (az, .inl (cI, cz, .inl fz))]) hD hS hA [3, 4, 5, 6, 7, 9, 1] rfl
        refine va_calli (va_runV (As := [.int cd, .ref nz, .int p_, .int lz]) (rest := []) ⟨hx, hb, hml, hown, hts⟩ (f_X2_decode l dC dI cI cS H.size oC nz o4 o5 a41 a42 a43 a51 a52 a53 az cz l4 f41 l5 f51 lz fz cd p_ lz (by omega) (by omega) (by omega) (by omega) (hby) (hL4) (hL5)) (cwV 4 hts gX7_readExactly_X2_decode rfl rfl rfl (by decide +kernel) ⟨Nat.le_of_ble_eq_true rfl, Nat.le_of_ble_eq_true rfl⟩) ⟨fun a U g mk q => by obtain ⟨q0, q1, qP, qK, qD, qN0⟩ := q; exact ⟨q0, q1, qP, va_K.moved (u := U) (U := U.calling g mk a) (Vm.Alike.refl U.vm) qK, qD, va_Nw.same rfl rfl qN0⟩, va_recv hK hPc (ci := 2) (q0 := 0) rfl rfl, fun U hU hW => ⟨rfl, by rw [hU], by rw [hU]; exact hPc, va_K.moved hW.alike hK, hDc.weaken (fun _ _ _ _ => trivial), va_Nw.warmM hW hN52⟩⟩ rfl rfl hl.1 rfl (lv_room (Nat.le_of_ble_eq_true rfl)) dX7_readExactly_37 ⟨Nat.le_of_ble_eq_true rfl, Nat.le_of_ble_eq_true rfl⟩) hS (fun q _ h => hFc q h) hFc (fun r_5 u t H1 locs ht hvm hw hB hz1 hk1 hS => ?_)
        subst hw
        obtain ⟨hP1, hD1, hf5_0⟩ := hB
        rw [ht] at hP1
        obtain ⟨hP, hD⟩ := va_join (wr := [(oP, .inr (7, [.ref oC, .ref nB, .int (-1)])), (ad, .inl (cI, 300, .inl f2)), (nd, .inr (5, [.ref ad, .int l2]))]) (w1 := [(oC, .inr (2, [.ref o4, .ref o5])), (o4, .inr (10, [.ref a41, .ref a42, .ref a43, .int l4])), (a41, .inl (cI, 256, .inl f41)), (o5, .inr (10, [.ref a51, .ref a52, .ref a53, .int l5])), (a51, .inl (cI, 256, .inl f51)), (nz, .inr (5, [.ref az, .int lz])), (az, .inl (cI, cz, .inl fz))]) hP hD [3, 4, 5, 6, 7, 9, 1] [0, 2, 8] rfl rfl (by decide) (by decide) hk1 hFc hP1 hD1
        generalize H1 = H at hP hS ⊢
        have hP : va_P (dC, dI) vwCl [(oP, .inr (7, [.ref oC, .ref nB, .int (-1)])), (ad, .inl (cI, 300, .inl f2)), (nd, .inr (5, [.ref ad, .int l2])), (oC, .inr (2, [.ref o4, .ref o5])), (o4, .inr (10, [.ref a41, .ref a42, .ref a43, .int l4])), (a41, .inl (cI, 256, .inl f41)), (o5, .inr (10, [.ref a51, .ref a52, .ref a53, .int l5])), (a51, .inl (cI, 256, .inl f51)), (nz, .inr (5, [.ref az, .int lz])), (az, .inl (cI, cz, .inl fz))] H := hP
        have hD : va_D A [(oP, .inr (7, [.ref oC, .ref nB, .int (-1)])), (ad, .inl (cI, 300, .inl f2)), (nd, .inr (5, [.ref ad, .int l2])), (oC, .inr (2, [.ref o4, .ref o5])), (o4, .inr (10, [.ref a41, .ref a42, .ref a43, .int l4])), (a41, .inl (cI, 256, .inl f41)), (o5, .inr (10, [.ref a51, .ref a52, .ref a53, .int l5])), (a51, .inl (cI, 256, .inl f51)), (nz, .inr (5, [.ref az, .int lz])), (az, .inl (cI, cz, .inl fz))] := hD
        refine lv_istore (lv' := [(6, .int r_5), (5, .int p_), (4, .int fi), (0, .ref oP), (1, .int cd), (2, .ref nz), (3, .ref nd)]) hx hb dX7_readExactly_40 hl (by decide) rfl (fun ls hl => ?_)
        refine lv_iload hx hb dX7_readExactly_42 (lv_at hl 0 rfl) ?_
        refine lv_iconst (v := (-1)) hx hb dX7_readExactly_44 (by decide) ?_
        refine lv_icmp_ne (tgt := 56) hx hb dX7_readExactly_45 (by decide) (fun c_6 => ?_) (fun c_6 => ?_)
        · have tc_6 : ¬ r_5.toInt = (-1) := v_ne c_6
          obtain ⟨l9, x9, hD9, hr9, hx9, hy9⟩ := F_dc_1 hf5_0 c_6
          have cp9 := v_clamp (x := p_) (by omega)
          have hp9 := Dec_pos hD9
          have hd9 := dl_of hD9
          refine lv_aload_n hx hb dX7_readExactly_56 rfl (lv_at hl 6 rfl) ?_
          refine lv_iload hx hb dX7_readExactly_57 (lv_at hl 0 rfl) ?_
          have hPc := hP.sub (ws' := []) [] rfl
          have hDc := hD.sub (ws' := []) [] (by decide) rfl
          have hFc := va_free (wc := []) hD hS hA [] rfl
          refine va_calli (va_runS (As := [.int r_5]) (rest := [.ref nd]) ⟨hx, hb, hml, hown, hts⟩ (f_X2_letterIn l dC dI cI cS H.size r_5 ) (va_cwS 1 hts gX7_readExactly_X2_letterIn rfl rfl rfl (by decide +kernel) ⟨Nat.le_of_ble_eq_true rfl, Nat.le_of_ble_eq_true rfl⟩) ⟨fun a U g mk q => by obtain ⟨q0, q1, qP, qK, qD⟩ := q; exact ⟨q0, q1, qP, va_K.moved (u := U) (U := U.calling g mk a) (Vm.Alike.refl U.vm) qK, qD⟩, fun U hU hW => ⟨rfl, by rw [hU], by rw [hU]; exact hPc, va_K.moved hW.alike hK, hDc.weaken (fun _ _ _ _ => trivial)⟩⟩ rfl rfl hl.1 rfl (lv_room (Nat.le_of_ble_eq_true rfl)) dX7_readExactly_59 ⟨Nat.le_of_ble_eq_true rfl, Nat.le_of_ble_eq_true rfl⟩) hS (fun q _ h => hFc q h) hFc (fun r_7 u t H1 locs ht hvm hw hB hz1 hk1 hS => ?_)
          subst hw
          obtain ⟨hP1, hD1, hf7_0⟩ := hB
          rw [ht] at hP1
          obtain ⟨hP, hD⟩ := va_join (wr := [(oP, .inr (7, [.ref oC, .ref nB, .int (-1)])), (ad, .inl (cI, 300, .inl f2)), (nd, .inr (5, [.ref ad, .int l2])), (oC, .inr (2, [.ref o4, .ref o5])), (o4, .inr (10, [.ref a41, .ref a42, .ref a43, .int l4])), (a41, .inl (cI, 256, .inl f41)), (o5, .inr (10, [.ref a51, .ref a52, .ref a53, .int l5])), (a51, .inl (cI, 256, .inl f51)), (nz, .inr (5, [.ref az, .int lz])), (az, .inl (cI, cz, .inl fz))]) (w1 := []) hP hD [] [0, 1, 2, 3, 4, 5, 6, 7, 8, 9] rfl rfl (by decide) (by decide) hk1 hFc hP1 hD1
          generalize H1 = H at hP hS ⊢
          have hP : va_P (dC, dI) vwCl [(oP, .inr (7, [.ref oC, .ref nB, .int (-1)])), (ad, .inl (cI, 300, .inl f2)), (nd, .inr (5, [.ref ad, .int l2])), (oC, .inr (2, [.ref o4, .ref o5])), (o4, .inr (10, [.ref a41, .ref a42, .ref a43, .int l4])), (a41, .inl (cI, 256, .inl f41)), (o5, .inr (10, [.ref a51, .ref a52, .ref a53, .int l5])), (a51, .inl (cI, 256, .inl f51)), (nz, .inr (5, [.ref az, .int lz])), (az, .inl (cI, cz, .inl fz))] H := hP
          have hD : va_D A [(oP, .inr (7, [.ref oC, .ref nB, .int (-1)])), (ad, .inl (cI, 300, .inl f2)), (nd, .inr (5, [.ref ad, .int l2])), (oC, .inr (2, [.ref o4, .ref o5])), (o4, .inr (10, [.ref a41, .ref a42, .ref a43, .int l4])), (a41, .inl (cI, 256, .inl f41)), (o5, .inr (10, [.ref a51, .ref a52, .ref a53, .int l5])), (a51, .inl (cI, 256, .inl f51)), (nz, .inr (5, [.ref az, .int lz])), (az, .inl (cI, cz, .inl fz))] := hD
          have hPc := hP.sub (ws' := [(nd, .inr (5, [.ref ad, .int l2])), (ad, .inl (cI, 300, .inl f2))]) [2, 1] rfl
          have hDc := hD.sub (ws' := [(nd, .inr (5, [.ref ad, .int l2])), (ad, .inl (cI, 300, .inl f2))]) [2, 1] (by decide) rfl
          have hFc := va_free (wc := [(nd, .inr (5, [.ref ad, .int l2])), (ad, .inl (cI, 300, .inl f2))]) hD hS hA [2, 1] rfl
          refine va_calli (va_runV (As := [.int r_7]) (rest := []) ⟨hx, hb, hml, hown, hts⟩ (m_X5_add l dC dI cI cS H.size nd ad 300 l2 f2 r_7 (by omega) (by omega)) (cwV 1 hts gX7_readExactly_X5_add rfl rfl rfl (by decide +kernel) ⟨Nat.le_of_ble_eq_true rfl, Nat.le_of_ble_eq_true rfl⟩) ⟨fun a U g mk q => by obtain ⟨q0, q1, qP, qK, qD⟩ := q; exact ⟨q0, q1, qP, va_K.moved (u := U) (U := U.calling g mk a) (Vm.Alike.refl U.vm) qK, qD⟩, va_recv hK hPc (ci := 5) (q0 := 0) rfl rfl, fun U hU hW => ⟨rfl, by rw [hU], by rw [hU]; exact hPc, va_K.moved hW.alike hK, hDc.weaken (fun _ _ _ _ => trivial)⟩⟩ rfl rfl hl.1 rfl (lv_room (Nat.le_of_ble_eq_true rfl)) dX7_readExactly_62 ⟨Nat.le_of_ble_eq_true rfl, Nat.le_of_ble_eq_true rfl⟩) hS (fun q _ h => hFc q h) hFc (fun r_8 u t H1 locs ht hvm hw hB hz1 hk1 hS => ?_)
          subst hw
          obtain ⟨lu_8, fu_8, hP1, hD1, hf8_0, hf8_1, hf8_2⟩ := hB
          rw [ht] at hP1
          obtain ⟨hP, hD⟩ := va_join (wr := [(oP, .inr (7, [.ref oC, .ref nB, .int (-1)])), (oC, .inr (2, [.ref o4, .ref o5])), (o4, .inr (10, [.ref a41, .ref a42, .ref a43, .int l4])), (a41, .inl (cI, 256, .inl f41)), (o5, .inr (10, [.ref a51, .ref a52, .ref a53, .int l5])), (a51, .inl (cI, 256, .inl f51)), (nz, .inr (5, [.ref az, .int lz])), (az, .inl (cI, cz, .inl fz))]) (w1 := [(nd, .inr (5, [.ref ad, .int lu_8])), (ad, .inl (cI, 300, .inl fu_8))]) hP hD [2, 1] [0, 3, 4, 5, 6, 7, 8, 9] rfl rfl (by decide) (by decide) hk1 hFc hP1 hD1
          generalize H1 = H at hP hS ⊢
          have hP : va_P (dC, dI) vwCl [(oP, .inr (7, [.ref oC, .ref nB, .int (-1)])), (oC, .inr (2, [.ref o4, .ref o5])), (o4, .inr (10, [.ref a41, .ref a42, .ref a43, .int l4])), (a41, .inl (cI, 256, .inl f41)), (o5, .inr (10, [.ref a51, .ref a52, .ref a53, .int l5])), (a51, .inl (cI, 256, .inl f51)), (nz, .inr (5, [.ref az, .int lz])), (az, .inl (cI, cz, .inl fz)), (nd, .inr (5, [.ref ad, .int lu_8])), (ad, .inl (cI, 300, .inl fu_8))] H := hP
          have hD : va_D A [(oP, .inr (7, [.ref oC, .ref nB, .int (-1)])), (oC, .inr (2, [.ref o4, .ref o5])), (o4, .inr (10, [.ref a41, .ref a42, .ref a43, .int l4])), (a41, .inl (cI, 256, .inl f41)), (o5, .inr (10, [.ref a51, .ref a52, .ref a53, .int l5])), (a51, .inl (cI, 256, .inl f51)), (nz, .inr (5, [.ref az, .int lz])), (az, .inl (cI, cz, .inl fz)), (nd, .inr (5, [.ref ad, .int lu_8])), (ad, .inl (cI, 300, .inl fu_8))] := hD
          refine lv_if_eq (tgt := 77) hx hb dX7_readExactly_65 (by decide) (fun c_9 => ?_) (fun c_9 => ?_)
          · have tc_9 : r_8.toInt = 0 := v_eq c_9
            refine lv_iconst (v := 0) hx hb dX7_readExactly_77 (by decide) ?_
            refine lv_istore (lv' := [(4, .int 0), (6, .int r_5), (5, .int p_), (0, .ref oP), (1, .int cd), (2, .ref nz), (3, .ref nd)]) hx hb dX7_readExactly_78 hl (by decide) rfl (fun ls hl => ?_)
            refine lv_iload hx hb dX7_readExactly_80 (lv_at hl 2 rfl) ?_
            refine lv_iconst (v := 1) hx hb dX7_readExactly_82 (by decide) ?_
            refine lv_iload hx hb dX7_readExactly_83 (lv_at hl 1 rfl) ?_
            have hPc := hP.sub (ws' := []) [] rfl
            have hDc := hD.sub (ws' := []) [] (by decide) rfl
            have hFc := va_free (wc := []) hD hS hA [] rfl
            refine va_calli (va_runS (As := [.int r_5]) (rest := [.int 1, .int p_]) ⟨hx, hb, hml, hown, hts⟩ (f_X2_bytesIn l dC dI cI cS H.size r_5 (by omega)) (va_cwS 1 hts gX7_readExactly_X2_bytesIn rfl rfl rfl (by decide +kernel) ⟨Nat.le_of_ble_eq_true rfl, Nat.le_of_ble_eq_true rfl⟩) ⟨fun a U g mk q => by obtain ⟨q0, q1, qP, qK, qD⟩ := q; exact ⟨q0, q1, qP, va_K.moved (u := U) (U := U.calling g mk a) (Vm.Alike.refl U.vm) qK, qD⟩, fun U hU hW => ⟨rfl, by rw [hU], by rw [hU]; exact hPc, va_K.moved hW.alike hK, hDc.weaken (fun _ _ _ _ => trivial)⟩⟩ rfl rfl hl.1 rfl (lv_room (Nat.le_of_ble_eq_true rfl)) dX7_readExactly_85 ⟨Nat.le_of_ble_eq_true rfl, Nat.le_of_ble_eq_true rfl⟩) hS (fun q _ h => hFc q h) hFc (fun r_10 u t H1 locs ht hvm hw hB hz1 hk1 hS => ?_)
            subst hw
            obtain ⟨hP1, hD1, hf10_0, hf10_1⟩ := hB
            rw [ht] at hP1
            obtain ⟨hP, hD⟩ := va_join (wr := [(oP, .inr (7, [.ref oC, .ref nB, .int (-1)])), (oC, .inr (2, [.ref o4, .ref o5])), (o4, .inr (10, [.ref a41, .ref a42, .ref a43, .int l4])), (a41, .inl (cI, 256, .inl f41)), (o5, .inr (10, [.ref a51, .ref a52, .ref a53, .int l5])), (a51, .inl (cI, 256, .inl f51)), (nz, .inr (5, [.ref az, .int lz])), (az, .inl (cI, cz, .inl fz)), (nd, .inr (5, [.ref ad, .int lu_8])), (ad, .inl (cI, 300, .inl fu_8))]) (w1 := []) hP hD [] [0, 1, 2, 3, 4, 5, 6, 7, 8, 9] rfl rfl (by decide) (by decide) hk1 hFc hP1 hD1
            generalize H1 = H at hP hS ⊢
            have hP : va_P (dC, dI) vwCl [(oP, .inr (7, [.ref oC, .ref nB, .int (-1)])), (oC, .inr (2, [.ref o4, .ref o5])), (o4, .inr (10, [.ref a41, .ref a42, .ref a43, .int l4])), (a41, .inl (cI, 256, .inl f41)), (o5, .inr (10, [.ref a51, .ref a52, .ref a53, .int l5])), (a51, .inl (cI, 256, .inl f51)), (nz, .inr (5, [.ref az, .int lz])), (az, .inl (cI, cz, .inl fz)), (nd, .inr (5, [.ref ad, .int lu_8])), (ad, .inl (cI, 300, .inl fu_8))] H := hP
            have hD : va_D A [(oP, .inr (7, [.ref oC, .ref nB, .int (-1)])), (oC, .inr (2, [.ref o4, .ref o5])), (o4, .inr (10, [.ref a41, .ref a42, .ref a43, .int l4])), (a41, .inl (cI, 256, .inl f41)), (o5, .inr (10, [.ref a51, .ref a52, .ref a53, .int l5])), (a51, .inl (cI, 256, .inl f51)), (nz, .inr (5, [.ref az, .int lz])), (az, .inl (cI, cz, .inl fz)), (nd, .inr (5, [.ref ad, .int lu_8])), (ad, .inl (cI, 300, .inl fu_8))] := hD
            refine va_mmax hx hb (by rw [hml]; exact hl.1.symm) hown (hts (.methodLink RX7 59 Lib.Math.max.name) (List.mem_of_getElem? (i := 3) rfl)) (hts (.static Lib.Math.max.name) (List.mem_of_getElem? (i := 4) rfl)) (hts (.initialized "java/lang/Math") (List.mem_of_getElem? (i := 5) rfl)) (hts (.code Lib.Math.max.name Lib.Math.max.code 2 (some .int)) (List.mem_of_getElem? (i := 6) rfl)) (Nat.le_of_ble_eq_true rfl) (Nat.le_of_ble_eq_true rfl) (Nat.zero_le _) (Nat.zero_le _) dX7_readExactly_88 ?_
            refine lv_topi (fun x_11 ex_11 => ?_)
            have tx_11 : 1 ≤ x_11.toInt ∧ r_10.toInt ≤ x_11.toInt ∧ (x_11.toInt = 1 ∨ x_11.toInt = r_10.toInt) := v_max ex_11
            refine lv_iadd hx hb dX7_readExactly_91 ?_
            refine lv_topi (fun x_12 ex_12 => ?_)
            have tx_12 : x_12.toInt = p_.toInt + x_11.toInt := v_add ex_12 (by show -2147483648 ≤ p_.toInt + x_11.toInt; omega) (by show p_.toInt + x_11.toInt < 2147483648; omega)
            refine lv_istore (lv' := [(5, .int x_12), (4, .int 0), (6, .int r_5), (0, .ref oP), (1, .int cd), (2, .ref nz), (3, .ref nd)]) hx hb dX7_readExactly_92 hl (by decide) rfl (fun ls hl => ?_)
            refine lv_goto (tgt := 16) hx hb dX7_readExactly_94 (by decide) ?_
            exact ih_16 0 x_12 lu_8 fu_8 _ _ _ (by have hm9 := hm_16; show ((lz.toInt - x_12.toInt : Int)).toNat < k_16; omega) (by decide) (by show 0 ≤ x_12.toInt ∧ x_12.toInt ≤ lz.toInt; omega) (by show 0 ≤ lu_8.toInt ∧ lu_8.toInt ≤ 300; omega) (RX_s hrx (by omega) hd9.1 (by rw [hd9.2]; exact v_inj (by omega)) (by omega) hf8_2 (by have e0 : (0 : Int32).toInt = 0 := rfl; have e1 : (1 : Int32).toInt = 1 := rfl; omega) (by omega)) (hP.sub [0, 6, 7, 9, 1, 2, 3, 4, 5, 8] rfl) (hD.sub [0, 6, 7, 9, 1, 2, 3, 4, 5, 8] (by decide) rfl) hS (lv_sub hl [0, 1, 3, 4, 5, 6] rfl)
          · have tc_9 : ¬ r_8.toInt = 0 := v_ne c_9
            refine lv_iload hx hb dX7_readExactly_68 (lv_at hl 2 rfl) ?_
            refine lv_if_eq (tgt := 77) hx hb dX7_readExactly_70 (by decide) (fun c_13 => ?_) (fun c_13 => ?_)
            · have tc_13 : fi.toInt = 0 := v_eq c_13
              refine lv_iconst (v := 0) hx hb dX7_readExactly_77 (by decide) ?_
              refine lv_istore (lv' := [(4, .int 0), (6, .int r_5), (5, .int p_), (0, .ref oP), (1, .int cd), (2, .ref nz), (3, .ref nd)]) hx hb dX7_readExactly_78 hl (by decide) rfl (fun ls hl => ?_)
              refine lv_iload hx hb dX7_readExactly_80 (lv_at hl 2 rfl) ?_
              refine lv_iconst (v := 1) hx hb dX7_readExactly_82 (by decide) ?_
              refine lv_iload hx hb dX7_readExactly_83 (lv_at hl 1 rfl) ?_
              have hPc := hP.sub (ws' := []) [] rfl
              have hDc := hD.sub (ws' := []) [] (by decide) rfl
              have hFc := va_free (wc := []) hD hS hA [] rfl
              refine va_calli (va_runS (As := [.int r_5]) (rest := [.int 1, .int p_]) ⟨hx, hb, hml, hown, hts⟩ (f_X2_bytesIn l dC dI cI cS H.size r_5 (by omega)) (va_cwS 1 hts gX7_readExactly_X2_bytesIn rfl rfl rfl (by decide +kernel) ⟨Nat.le_of_ble_eq_true rfl, Nat.le_of_ble_eq_true rfl⟩) ⟨fun a U g mk q => by obtain ⟨q0, q1, qP, qK, qD⟩ := q; exact ⟨q0, q1, qP, va_K.moved (u := U) (U := U.calling g mk a) (Vm.Alike.refl U.vm) qK, qD⟩, fun U hU hW => ⟨rfl, by rw [hU], by rw [hU]; exact hPc, va_K.moved hW.alike hK, hDc.weaken (fun _ _ _ _ => trivial)⟩⟩ rfl rfl hl.1 rfl (lv_room (Nat.le_of_ble_eq_true rfl)) dX7_readExactly_85 ⟨Nat.le_of_ble_eq_true rfl, Nat.le_of_ble_eq_true rfl⟩) hS (fun q _ h => hFc q h) hFc (fun r_14 u t H1 locs ht hvm hw hB hz1 hk1 hS => ?_)
              subst hw
              obtain ⟨hP1, hD1, hf14_0, hf14_1⟩ := hB
              rw [ht] at hP1
              obtain ⟨hP, hD⟩ := va_join (wr := [(oP, .inr (7, [.ref oC, .ref nB, .int (-1)])), (oC, .inr (2, [.ref o4, .ref o5])), (o4, .inr (10, [.ref a41, .ref a42, .ref a43, .int l4])), (a41, .inl (cI, 256, .inl f41)), (o5, .inr (10, [.ref a51, .ref a52, .ref a53, .int l5])), (a51, .inl (cI, 256, .inl f51)), (nz, .inr (5, [.ref az, .int lz])), (az, .inl (cI, cz, .inl fz)), (nd, .inr (5, [.ref ad, .int lu_8])), (ad, .inl (cI, 300, .inl fu_8))]) (w1 := []) hP hD [] [0, 1, 2, 3, 4, 5, 6, 7, 8, 9] rfl rfl (by decide) (by decide) hk1 hFc hP1 hD1
              generalize H1 = H at hP hS ⊢
              have hP : va_P (dC, dI) vwCl [(oP, .inr (7, [.ref oC, .ref nB, .int (-1)])), (oC, .inr (2, [.ref o4, .ref o5])), (o4, .inr (10, [.ref a41, .ref a42, .ref a43, .int l4])), (a41, .inl (cI, 256, .inl f41)), (o5, .inr (10, [.ref a51, .ref a52, .ref a53, .int l5])), (a51, .inl (cI, 256, .inl f51)), (nz, .inr (5, [.ref az, .int lz])), (az, .inl (cI, cz, .inl fz)), (nd, .inr (5, [.ref ad, .int lu_8])), (ad, .inl (cI, 300, .inl fu_8))] H := hP
              have hD : va_D A [(oP, .inr (7, [.ref oC, .ref nB, .int (-1)])), (oC, .inr (2, [.ref o4, .ref o5])), (o4, .inr (10, [.ref a41, .ref a42, .ref a43, .int l4])), (a41, .inl (cI, 256, .inl f41)), (o5, .inr (10, [.ref a51, .ref a52, .ref a53, .int l5])), (a51, .inl (cI, 256, .inl f51)), (nz, .inr (5, [.ref az, .int lz])), (az, .inl (cI, cz, .inl fz)), (nd, .inr (5, [.ref ad, .int lu_8])), (ad, .inl (cI, 300, .inl fu_8))] := hD
              refine va_mmax hx hb (by rw [hml]; exact hl.1.symm) hown (hts (.methodLink RX7 59 Lib.Math.max.name) (List.mem_of_getElem? (i := 3) rfl)) (hts (.static Lib.Math.max.name) (List.mem_of_getElem? (i := 4) rfl)) (hts (.initialized "java/lang/Math") (List.mem_of_getElem? (i := 5) rfl)) (hts (.code Lib.Math.max.name Lib.Math.max.code 2 (some .int)) (List.mem_of_getElem? (i := 6) rfl)) (Nat.le_of_ble_eq_true rfl) (Nat.le_of_ble_eq_true rfl) (Nat.zero_le _) (Nat.zero_le _) dX7_readExactly_88 ?_
              refine lv_topi (fun x_15 ex_15 => ?_)
              have tx_15 : 1 ≤ x_15.toInt ∧ r_14.toInt ≤ x_15.toInt ∧ (x_15.toInt = 1 ∨ x_15.toInt = r_14.toInt) := v_max ex_15
              refine lv_iadd hx hb dX7_readExactly_91 ?_
              refine lv_topi (fun x_16 ex_16 => ?_)
              have tx_16 : x_16.toInt = p_.toInt + x_15.toInt := v_add ex_16 (by show -2147483648 ≤ p_.toInt + x_15.toInt; omega) (by show p_.toInt + x_15.toInt < 2147483648; omega)
              refine lv_istore (lv' := [(5, .int x_16), (4, .int 0), (6, .int r_5), (0, .ref oP), (1, .int cd), (2, .ref nz), (3, .ref nd)]) hx hb dX7_readExactly_92 hl (by decide) rfl (fun ls hl => ?_)
              refine lv_goto (tgt := 16) hx hb dX7_readExactly_94 (by decide) ?_
              exact ih_16 0 x_16 lu_8 fu_8 _ _ _ (by have hm9 := hm_16; show ((lz.toInt - x_16.toInt : Int)).toNat < k_16; omega) (by decide) (by show 0 ≤ x_16.toInt ∧ x_16.toInt ≤ lz.toInt; omega) (by show 0 ≤ lu_8.toInt ∧ lu_8.toInt ≤ 300; omega) (RX_s hrx (by omega) hd9.1 (by rw [hd9.2]; exact v_inj (by omega)) (by omega) hf8_2 (by have e0 : (0 : Int32).toInt = 0 := rfl; have e1 : (1 : Int32).toInt = 1 := rfl; omega) (by omega)) (hP.sub [0, 6, 7, 9, 1, 2, 3, 4, 5, 8] rfl) (hD.sub [0, 6, 7, 9, 1, 2, 3, 4, 5, 8] (by decide) rfl) hS (lv_sub hl [0, 1, 3, 4, 5, 6] rfl)
            · have tc_13 : ¬ fi.toInt = 0 := v_ne c_13
              refine lv_iconst (v := 1) hx hb dX7_readExactly_73 (by decide) ?_
              refine lv_goto (tgt := 78) hx hb dX7_readExactly_74 (by decide) ?_
              refine lv_istore (lv' := [(4, .int 1), (6, .int r_5), (5, .int p_), (0, .ref oP), (1, .int cd), (2, .ref nz), (3, .ref nd)]) hx hb dX7_readExactly_78 hl (by decide) rfl (fun ls hl => ?_)
              refine lv_iload hx hb dX7_readExactly_80 (lv_at hl 2 rfl) ?_
              refine lv_iconst (v := 1) hx hb dX7_readExactly_82 (by decide) ?_
              refine lv_iload hx hb dX7_readExactly_83 (lv_at hl 1 rfl) ?_
              have hPc := hP.sub (ws' := []) [] rfl
              have hDc := hD.sub (ws' := []) [] (by decide) rfl
              have hFc := va_free (wc := []) hD hS hA [] rfl
              refine va_calli (va_runS (As := [.int r_5]) (rest := [.int 1, .int p_]) ⟨hx, hb, hml, hown, hts⟩ (f_X2_bytesIn l dC dI cI cS H.size r_5 (by omega)) (va_cwS 1 hts gX7_readExactly_X2_bytesIn rfl rfl rfl (by decide +kernel) ⟨Nat.le_of_ble_eq_true rfl, Nat.le_of_ble_eq_true rfl⟩) ⟨fun a U g mk q => by obtain ⟨q0, q1, qP, qK, qD⟩ := q; exact ⟨q0, q1, qP, va_K.moved (u := U) (U := U.calling g mk a) (Vm.Alike.refl U.vm) qK, qD⟩, fun U hU hW => ⟨rfl, by rw [hU], by rw [hU]; exact hPc, va_K.moved hW.alike hK, hDc.weaken (fun _ _ _ _ => trivial)⟩⟩ rfl rfl hl.1 rfl (lv_room (Nat.le_of_ble_eq_true rfl)) dX7_readExactly_85 ⟨Nat.le_of_ble_eq_true rfl, Nat.le_of_ble_eq_true rfl⟩) hS (fun q _ h => hFc q h) hFc (fun r_17 u t H1 locs ht hvm hw hB hz1 hk1 hS => ?_)
              subst hw
              obtain ⟨hP1, hD1, hf17_0, hf17_1⟩ := hB
              rw [ht] at hP1
              obtain ⟨hP, hD⟩ := va_join (wr := [(oP, .inr (7, [.ref oC, .ref nB, .int (-1)])), (oC, .inr (2, [.ref o4, .ref o5])), (o4, .inr (10, [.ref a41, .ref a42, .ref a43, .int l4])), (a41, .inl (cI, 256, .inl f41)), (o5, .inr (10, [.ref a51, .ref a52, .ref a53, .int l5])), (a51, .inl (cI, 256, .inl f51)), (nz, .inr (5, [.ref az, .int lz])), (az, .inl (cI, cz, .inl fz)), (nd, .inr (5, [.ref ad, .int lu_8])), (ad, .inl (cI, 300, .inl fu_8))]) (w1 := []) hP hD [] [0, 1, 2, 3, 4, 5, 6, 7, 8, 9] rfl rfl (by decide) (by decide) hk1 hFc hP1 hD1
              generalize H1 = H at hP hS ⊢
              have hP : va_P (dC, dI) vwCl [(oP, .inr (7, [.ref oC, .ref nB, .int (-1)])), (oC, .inr (2, [.ref o4, .ref o5])), (o4, .inr (10, [.ref a41, .ref a42, .ref a43, .int l4])), (a41, .inl (cI, 256, .inl f41)), (o5, .inr (10, [.ref a51, .ref a52, .ref a53, .int l5])), (a51, .inl (cI, 256, .inl f51)), (nz, .inr (5, [.ref az, .int lz])), (az, .inl (cI, cz, .inl fz)), (nd, .inr (5, [.ref ad, .int lu_8])), (ad, .inl (cI, 300, .inl fu_8))] H := hP
              have hD : va_D A [(oP, .inr (7, [.ref oC, .ref nB, .int (-1)])), (oC, .inr (2, [.ref o4, .ref o5])), (o4, .inr (10, [.ref a41, .ref a42, .ref a43, .int l4])), (a41, .inl (cI, 256, .inl f41)), (o5, .inr (10, [.ref a51, .ref a52, .ref a53, .int l5])), (a51, .inl (cI, 256, .inl f51)), (nz, .inr (5, [.ref az, .int lz])), (az, .inl (cI, cz, .inl fz)), (nd, .inr (5, [.ref ad, .int lu_8])), (ad, .inl (cI, 300, .inl fu_8))] := hD
              refine va_mmax hx hb (by rw [hml]; exact hl.1.symm) hown (hts (.methodLink RX7 59 Lib.Math.max.name) (List.mem_of_getElem? (i := 3) rfl)) (hts (.static Lib.Math.max.name) (List.mem_of_getElem? (i := 4) rfl)) (hts (.initialized "java/lang/Math") (List.mem_of_getElem? (i := 5) rfl)) (hts (.code Lib.Math.max.name Lib.Math.max.code 2 (some .int)) (List.mem_of_getElem? (i := 6) rfl)) (Nat.le_of_ble_eq_true rfl) (Nat.le_of_ble_eq_true rfl) (Nat.zero_le _) (Nat.zero_le _) dX7_readExactly_88 ?_
              refine lv_topi (fun x_18 ex_18 => ?_)
              have tx_18 : 1 ≤ x_18.toInt ∧ r_17.toInt ≤ x_18.toInt ∧ (x_18.toInt = 1 ∨ x_18.toInt = r_17.toInt) := v_max ex_18
              refine lv_iadd hx hb dX7_readExactly_91 ?_
              refine lv_topi (fun x_19 ex_19 => ?_)
              have tx_19 : x_19.toInt = p_.toInt + x_18.toInt := v_add ex_19 (by show -2147483648 ≤ p_.toInt + x_18.toInt; omega) (by show p_.toInt + x_18.toInt < 2147483648; omega)
              refine lv_istore (lv' := [(5, .int x_19), (4, .int 1), (6, .int r_5), (0, .ref oP), (1, .int cd), (2, .ref nz), (3, .ref nd)]) hx hb dX7_readExactly_92 hl (by decide) rfl (fun ls hl => ?_)
              refine lv_goto (tgt := 16) hx hb dX7_readExactly_94 (by decide) ?_
              exact ih_16 1 x_19 lu_8 fu_8 _ _ _ (by have hm9 := hm_16; show ((lz.toInt - x_19.toInt : Int)).toNat < k_16; omega) (by decide) (by show 0 ≤ x_19.toInt ∧ x_19.toInt ≤ lz.toInt; omega) (by show 0 ≤ lu_8.toInt ∧ lu_8.toInt ≤ 300; omega) (RX_s hrx (by omega) hd9.1 (by rw [hd9.2]; exact v_inj (by omega)) (by omega) hf8_2 (by have e0 : (0 : Int32).toInt = 0 := rfl; have e1 : (1 : Int32).toInt = 1 := rfl; omega) (by omega)) (hP.sub [0, 6, 7, 9, 1, 2, 3, 4, 5, 8] rfl) (hD.sub [0, 6, 7, 9, 1, 2, 3, 4, 5, 8] (by decide) rfl) hS (lv_sub hl [0, 1, 3, 4, 5, 6] rfl)
        · have tc_6 : r_5.toInt = (-1) := v_eq c_6
          refine lv_aload_n hx hb dX7_readExactly_48 rfl (lv_at hl 3 rfl) ?_
          refine lv_iload hx hb dX7_readExactly_49 (lv_at hl 1 rfl) ?_
          refine va_put (D := (dC, dI)) (ci := 7) (v := .int p_) (ty := .int) (C := RX7) (T := TX7) (N := 3) hx hb hts in_X7 tyX7 tyX7_ok nmX7 hown hK hP hD hS 0 rfl rfl 2 (by decide) (hts (.fieldLink RX7 24 "TextMender$Passage" "fault" "I") (List.mem_of_getElem? (i := 1) rfl)) (fun _ h9 => h9) rfl (by decide +kernel) rfl rfl (Nat.le_of_ble_eq_true rfl) dX7_readExactly_51 (fun H locs hP hD hS => ?_)
          have hP : va_P (dC, dI) vwCl [(oP, .inr (7, [.ref oC, .ref nB, .int p_])), (ad, .inl (cI, 300, .inl f2)), (nd, .inr (5, [.ref ad, .int l2])), (oC, .inr (2, [.ref o4, .ref o5])), (o4, .inr (10, [.ref a41, .ref a42, .ref a43, .int l4])), (a41, .inl (cI, 256, .inl f41)), (o5, .inr (10, [.ref a51, .ref a52, .ref a53, .int l5])), (a51, .inl (cI, 256, .inl f51)), (nz, .inr (5, [.ref az, .int lz])), (az, .inl (cI, cz, .inl fz))] H := hP
          have hD : va_D A [(oP, .inr (7, [.ref oC, .ref nB, .int p_])), (ad, .inl (cI, 300, .inl f2)), (nd, .inr (5, [.ref ad, .int l2])), (oC, .inr (2, [.ref o4, .ref o5])), (o4, .inr (10, [.ref a41, .ref a42, .ref a43, .int l4])), (a41, .inl (cI, 256, .inl f41)), (o5, .inr (10, [.ref a51, .ref a52, .ref a53, .int l5])), (a51, .inl (cI, 256, .inl f51)), (nz, .inr (5, [.ref az, .int lz])), (az, .inl (cI, cz, .inl fz))] := hD
          refine lv_iconst (v := 0) hx hb dX7_readExactly_54 (by decide) ?_
          have hP9 := hP.sub (ws' := [(oP, .inr (7, [.ref oC, .ref nB, .int p_])), (nz, .inr (5, [.ref az, .int lz])), (az, .inl (cI, cz, .inl fz)), (nd, .inr (5, [.ref ad, .int l2])), (ad, .inl (cI, 300, .inl f2)), (oC, .inr (2, [.ref o4, .ref o5])), (o4, .inr (10, [.ref a41, .ref a42, .ref a43, .int l4])), (a41, .inl (cI, 256, .inl f41)), (o5, .inr (10, [.ref a51, .ref a52, .ref a53, .int l5])), (a51, .inl (cI, 256, .inl f51))]) [0, 8, 9, 2, 1, 3, 4, 5, 6, 7] rfl
          have hD9 := hD.sub (ws' := [(oP, .inr (7, [.ref oC, .ref nB, .int p_])), (nz, .inr (5, [.ref az, .int lz])), (az, .inl (cI, cz, .inl fz)), (nd, .inr (5, [.ref ad, .int l2])), (ad, .inl (cI, 300, .inl f2)), (oC, .inr (2, [.ref o4, .ref o5])), (o4, .inr (10, [.ref a41, .ref a42, .ref a43, .int l4])), (a41, .inl (cI, 256, .inl f41)), (o5, .inr (10, [.ref a51, .ref a52, .ref a53, .int l5])), (a51, .inl (cI, 256, .inl f51))]) [0, 8, 9, 2, 1, 3, 4, 5, 6, 7] (by decide) rfl
          rw [hQQ]
          exact W.zret (v := 0) (ty := .boolean) hx hb hr (rfl) (fun t ht hW => ⟨⟨0, 0, rfl, rfl, ⟨p_, l2, f2, by rw [ht]; exact hP9, hD9, by omega, by decide, RX_bad hrx (by omega) (F_dc_0 hf5_0 c_6)⟩⟩, hS.F ht⟩) hS.2.2 dX7_readExactly_55
  exact LOOP_16 _ 1 0 lu_1 fd _ _ _ (Nat.lt_succ_self _) (by decide) (by show 0 ≤ (0 : Int) ∧ (0 : Int) ≤ lz.toInt; omega) (by show 0 ≤ lu_1.toInt ∧ lu_1.toInt ≤ 300; omega) (RX_0 rfl rfl (by omega)) hP hD hS (lv_sub hl [0, 1, 2, 3, 4, 5] rfl)
